section M12
variable {G : Gp} {I : Im} {L : Nat → Nat → Int64} {t : Nat}
def CrBm (k : Nat) (v : Cr) : Prop := ∃ m, m ≤ k ∧ v.1 = nI m ∧ (1 ≤ m → ∃ a b, a ≤ b ∧ b ≤ k ∧ v.2.1 = nI a ∧ v.2.2.1 = nI b)
theorem crBm {f : Nat → Int32} {F E : Int32} : ∀ k, k < 2 ^ 30 → CrBm k (mcN f (0, F, E, 0, 0) k) := by
  intro k
  induction k with
  | zero => intro _; rw [mcN_0]; exact ⟨0, Nat.le_refl 0, rfl, fun h => absurd h (by decide)⟩
  | succ k ih =>
    intro hk
    obtain ⟨m, hm, e1, h1⟩ := ih (by omega)
    rw [mcN_s]
    split
    · refine ⟨m + 1, by omega, ?_, fun _ => ?_⟩
      · show (mcN f (0, F, E, 0, 0) k).1 + 1 = nI (m + 1)
        rw [e1, nI_1]
      · by_cases c : (mcN f (0, F, E, 0, 0) k).1 = 0
        · refine ⟨k + 1, k + 1, Nat.le_refl _, Nat.le_refl _, ?_, rfl⟩
          show (if (mcN f (0, F, E, 0, 0) k).1 = 0 then nI (k + 1) else _) = nI (k + 1)
          rw [if_pos c]
        · have hm1 : 1 ≤ m := Nat.pos_of_ne_zero (fun z => c (by rw [e1, z]; rfl))
          obtain ⟨a, b, hab, hb, ea, eb⟩ := h1 hm1
          refine ⟨a, k + 1, by omega, Nat.le_refl _, ?_, rfl⟩
          show (if (mcN f (0, F, E, 0, 0) k).1 = 0 then nI (k + 1) else (mcN f (0, F, E, 0, 0) k).2.1) = nI a
          rw [if_neg c, ea]
    · exact ⟨m, by omega, e1, fun h => by
        obtain ⟨a, b, hab, hb, ea, eb⟩ := h1 h
        exact ⟨a, b, hab, by omega, ea, eb⟩⟩
def CrGm (I : Im) : Prop := 2 ≤ I 200 27 → ∃ o u, o < 2 ^ 30 ∧ 1 ≤ u ∧ u < 2 ^ 30 ∧ I 200 29 - I 200 28 = nI o ∧ I 200 27 - 1 = nI u
theorem crGm {f : Nat → Int32} {F E : Int32} {k : Nat} (hk : k < 2 ^ 30) : CrGm (crM I (mcN f (0, F, E, 0, 0) k)) := by
  intro h
  obtain ⟨m, hm, e1, h1⟩ := crBm (f := f) (F := F) (E := E) k hk
  have h' : (2 : Int32) ≤ (mcN f (0, F, E, 0, 0) k).1 := h
  rw [e1] at h'
  have h2 : 2 ≤ m := (nI_leI (a := 2) (by decide) (by omega)).mp h'
  obtain ⟨a, b, hab, hb, ea, eb⟩ := h1 (by omega)
  refine ⟨b - a, m - 1, by omega, by omega, by omega, ?_, ?_⟩
  · show (mcN f (0, F, E, 0, 0) k).2.2.1 - (mcN f (0, F, E, 0, 0) k).2.1 = nI (b - a)
    rw [ea, eb, nI_sub hab (by omega)]
  · show (mcN f (0, F, E, 0, 0) k).1 - 1 = nI (m - 1)
    rw [e1]
    obtain ⟨j, rfl⟩ : ∃ j, m = j + 1 := ⟨m - 1, by omega⟩
    exact nI_pred j
def frM (L : Nat → Nat → Int64) (o u : Nat) : Nat → Nat → Int64 := up2 (up2 L 200 3 (nI (o / gcdS 64 o u)).toInt64) 200 4 (nI (u / gcdS 64 o u)).toInt64
set_option maxRecDepth 100000 in
set_option maxHeartbeats 4000000 in
theorem lm_gcd {P : Option Value → Mem → Prop} {o u : Nat} {w : Int32} : ∀ y x, x < 2 ^ 31 → y < 2 ^ 31 → Ex G mdX12_fraction 42 [some (.ref 200), some (.long (lN o)), none, some (.long (lN u)), none, some (.int w), some (.long (lN (Nat.gcd x y))), none, some (.long (lN 0)), none, none, none] [] (mk I L t) 0 0 P → Ex G mdX12_fraction 17 [some (.ref 200), some (.long (lN o)), none, some (.long (lN u)), none, some (.int w), some (.long (lN x)), none, some (.long (lN y)), none, none, none] [] (mk I L t) 0 0 P := by
  intro y
  induction y using Nat.strongRecOn with
  | ind y ih =>
    intro x hx hy kont
    refine ex_lload dX12_fraction_17 rfl ?_
    refine ex_lconst (v := 0) dX12_fraction_19 (by decide) ?_
    refine ex_lcmp dX12_fraction_20 ?_
    refine ex_if_eq 42 dX12_fraction_21 (by decide) (fun h21 => ?_) (fun h21 => ?_)
    · have hy0 : y = 0 := (lN_eq (b := 0) hy (by decide)).mp ((lg_cmp_eq _ _).mp h21)
      subst hy0
      rw [Nat.gcd_zero_right] at kont
      exact kont
    · have hy0 : ¬ y = 0 := fun z => h21 ((lg_cmp_eq _ _).mpr (by rw [z]; rfl))
      refine ex_lload dX12_fraction_24 rfl ?_
      refine ex_lload dX12_fraction_26 rfl ?_
      refine ex_lrem dX12_fraction_28 (fun z => hy0 ((lN_eq (b := 0) hy (by decide)).mp z)) ?_
      refine st_l10 dX12_fraction_29 (by first | exact rfl | exact trivial) ?_
      refine ex_lload dX12_fraction_31 rfl ?_
      refine st_l6 dX12_fraction_33 (by first | exact rfl | exact trivial) ?_
      refine ex_lload dX12_fraction_35 rfl ?_
      refine st_l8 dX12_fraction_37 (by first | exact rfl | exact trivial) ?_
      refine ex_goto 17 dX12_fraction_39 (by decide) ?_
      refine fg10 ?_
      rw [pk_lRem (by omega) (by omega) (by omega)]
      exact ih (x % y) (Nat.mod_lt _ (by omega)) y hy (Nat.lt_trans (Nat.mod_lt _ (by omega)) hy) (by rw [Nat.gcd_comm y, ← Nat.gcd_rec, Nat.gcd_comm]; exact kont)
set_option maxRecDepth 100000 in
set_option maxHeartbeats 4000000 in
theorem s_X12_fraction {o u : Nat} {w : Int32} (ho : o < 2 ^ 30) (hu1 : 1 ≤ u) (hu : u < 2 ^ 30) : Ca G mdX12_fraction [.ref 200, .long (nI o).toInt64, .long (nI u).toInt64, .int w] (mk I L t) (Rs (.int w) (mk I (frM L o u) t)) := by
  refine Ca.intro [some (.ref 200), some (.long (nI o).toInt64), none, some (.long (nI u).toInt64), none, some (.int w), none, none, none, none, none, none] (by decide) (Nat.le_of_ble_eq_true rfl) rfl rfl ?_
  rw [nI_l (show o < 2 ^ 31 by omega), nI_l (show u < 2 ^ 31 by omega)]
  refine ex_lload_n dX12_fraction_0 rfl ?_
  refine ex_lconst (v := 0) dX12_fraction_1 (by decide) ?_
  refine ex_lcmp dX12_fraction_2 ?_
  refine ex_if_ge 11 dX12_fraction_3 (by decide) (fun h3 => ?_) (fun h3 => ?_)
  · skip
    refine ex_lload_n dX12_fraction_11 rfl ?_
    refine st_l6 dX12_fraction_12 (by first | exact rfl | exact trivial) ?_
    refine ex_lload_n dX12_fraction_14 rfl ?_
    refine st_l8 dX12_fraction_15 (by first | exact rfl | exact trivial) ?_
    refine lm_gcd u o (by omega) (by omega) ?_
    have hg0 : 0 < Nat.gcd o u := Nat.gcd_pos_of_pos_right o (by omega)
    have hg1 : Nat.gcd o u ≤ u := Nat.le_of_dvd (by omega) (Nat.gcd_dvd_right o u)
    refine ex_aload_n dX12_fraction_42 rfl ?_
    refine ex_lload_n dX12_fraction_43 rfl ?_
    refine ex_lload dX12_fraction_44 rfl ?_
    refine ex_ldiv dX12_fraction_46 (fun z => absurd ((lN_eq (b := 0) (by omega) (by decide)).mp z) (by omega)) ?_
    rw [pk_lDiv (by omega) (by omega) (by omega)]
    refine p_12_3 dX12_fraction_47 rfl wf_X12_93 (by first | assumption | rfl) ?_
    refine ex_aload_n dX12_fraction_50 rfl ?_
    refine ex_lload_n dX12_fraction_51 rfl ?_
    refine ex_lload dX12_fraction_52 rfl ?_
    refine ex_ldiv dX12_fraction_54 (fun z => absurd ((lN_eq (b := 0) (by omega) (by decide)).mp z) (by omega)) ?_
    rw [pk_lDiv (by omega) (by omega) (by omega)]
    refine p_12_4 dX12_fraction_55 rfl wf_X12_78 (by first | assumption | rfl) ?_
    refine ex_iload dX12_fraction_58 rfl ?_
    refine ex_iret dX12_fraction_60 rfl rfl ⟨rfl, Nat.le_refl _⟩ ?_
    refine ⟨rfl, ?_⟩
    unfold frM
    rw [gcdS_64 hu, nI_l (Nat.lt_of_le_of_lt (Nat.div_le_self _ _) (by omega)), nI_l (Nat.lt_of_le_of_lt (Nat.div_le_self _ _) (by omega))]
  · exact absurd ((lg_cmp_ge _ _).mpr ((lN_le (a := 0) (by decide) (by omega)).mpr (by omega))) h3
theorem s_frG {x y w : Int32} (h : ∃ o u, o < 2 ^ 30 ∧ 1 ≤ u ∧ u < 2 ^ 30 ∧ x = nI o ∧ y = nI u) : Ca G mdX12_fraction [.ref 200, .long x.toInt64, .long y.toInt64, .int w] (mk I L t) (Rs (.int w) (mk I (frM L x.toNatClampNeg y.toNatClampNeg) t)) := by
  obtain ⟨o, u, ho, h1, hu, rfl, rfl⟩ := h
  rw [nI_clamp (by omega), nI_clamp (by omega)]
  exact s_X12_fraction ho h1 hu
set_option maxRecDepth 100000 in
set_option maxHeartbeats 4000000 in
theorem s_X12_isBeat  : Ca G mdX12_isBeat [.ref 200] (mk I L t) (Rs (.int (b2i (2 ≤ I 200 27))) (mk I L t)) := by
  refine Ca.intro [some (.ref 200)] (by decide) (Nat.le_of_ble_eq_true rfl) rfl rfl ?_
  refine ex_aload_n dX12_isBeat_0 rfl ?_
  refine g_12_27 dX12_isBeat_1 rfl wf_X12_232 (by first | assumption | rfl) ?_
  refine ex_iconst (v := 2) dX12_isBeat_4 (by decide) ?_
  refine ex_icmp_lt 12 dX12_isBeat_5 (by decide) (fun h5 => ?_) (fun h5 => ?_)
  · skip
    refine ex_iconst (v := 0) dX12_isBeat_12 (by decide) ?_
    refine ex_iret dX12_isBeat_13 rfl rfl ⟨rfl, Nat.le_refl _⟩ ?_
    exact ⟨by first | exact b2i_t (Int32.not_lt.mp h5) | exact b2i_f (Int32.not_le.mpr h5), rfl⟩
  · skip
    refine ex_iconst (v := 1) dX12_isBeat_8 (by decide) ?_
    refine ex_goto 13 dX12_isBeat_9 (by decide) ?_
    refine ex_iret dX12_isBeat_13 rfl rfl ⟨rfl, Nat.le_refl _⟩ ?_
    exact ⟨by first | exact b2i_t (Int32.not_lt.mp h5) | exact b2i_f (Int32.not_le.mpr h5), rfl⟩
theorem cg_ne (hG : CrGm I) (h : 2 ≤ I 200 27) : ¬ I 200 27 - 1 = 0 := by
  obtain ⟨o, u, ho, h1, hu, e1, e2⟩ := hG h
  rw [e2]
  exact nI_ne0 h1 (by omega)
set_option maxRecDepth 100000 in
set_option maxHeartbeats 4000000 in
theorem s_X12_beatCut (hG : CrGm I) (h : 2 ≤ I 200 27) : Ca G mdX12_beatCut [.ref 200] (mk I L t) (Rs (.int ((I 200 29 - I 200 28) / (I 200 27 - 1))) (mk I L t)) := by
  refine Ca.intro [some (.ref 200)] (by decide) (Nat.le_of_ble_eq_true rfl) rfl rfl ?_
  refine ex_aload_n dX12_beatCut_0 rfl ?_
  refine g_12_29 dX12_beatCut_1 rfl wf_X12_244 (by first | assumption | rfl) ?_
  refine ex_aload_n dX12_beatCut_4 rfl ?_
  refine g_12_28 dX12_beatCut_5 rfl wf_X12_247 (by first | assumption | rfl) ?_
  refine ex_isub dX12_beatCut_8 ?_
  refine ex_aload_n dX12_beatCut_9 rfl ?_
  refine g_12_27 dX12_beatCut_10 rfl wf_X12_232 (by first | assumption | rfl) ?_
  refine ex_iconst (v := 1) dX12_beatCut_13 (by decide) ?_
  refine ex_isub dX12_beatCut_14 ?_
  refine ex_idiv dX12_beatCut_15 (cg_ne hG h) ?_
  refine ex_iret dX12_beatCut_16 rfl rfl ⟨rfl, Nat.le_refl _⟩ ?_
  exact ⟨rfl, rfl⟩
def f_X12_tellsBeat (I : Im) (L : Nat → Nat → Int64) : Int32 × Im × (Nat → Nat → Int64) :=
  if (b2i (2 ≤ I 200 27)) = 0 then
    let I1 : Im := meI I 4
    ((-3), I1, L)
  else
    let L2 : Nat → Nat → Int64 := frM L ((I 200 29) - (I 200 28)).toNatClampNeg ((I 200 27) - 1).toNatClampNeg
    ((I 200 27), I, L2)
set_option maxRecDepth 100000 in
set_option maxHeartbeats 4000000 in
theorem s_X12_tellsBeat  (hG : CrGm I) : Ca G mdX12_tellsBeat [.ref 200] (mk I L t) (Rs (.int (f_X12_tellsBeat I L).1) (mk ((f_X12_tellsBeat I L).2.1) ((f_X12_tellsBeat I L).2.2) t)) := by
  refine Ca.intro [some (.ref 200)] (by decide) (Nat.le_of_ble_eq_true rfl) rfl rfl ?_
  refine ex_aload_n dX12_tellsBeat_0 rfl ?_
  refine rx_cV (kd := 12) dX12_tellsBeat_1 rfl lk_X12_250 rfl (by decide) (by first | assumption | rfl) ⟨⟨rfl, rfl⟩, by decide, by decide⟩ rfl (Nat.le_of_ble_eq_true rfl) rfl s_X12_isBeat (Rs.k ?_)
  refine ex_if_eq 35 dX12_tellsBeat_4 (by decide) (fun h4 => ?_) (fun h4 => ?_)
  · skip
    refine ex_aload_n dX12_tellsBeat_35 rfl ?_
    refine ex_iconst (v := 4) dX12_tellsBeat_36 (by decide) ?_
    refine rx_cV (kd := 12) dX12_tellsBeat_37 rfl lk_X12_100 rfl (by decide) (by first | assumption | rfl) ⟨⟨rfl, rfl⟩, by decide, by decide⟩ rfl (Nat.le_of_ble_eq_true rfl) rfl (s_X12_meets (by unfold vp_in; decide)) (Rs.k ?_)
    refine ex_iret dX12_tellsBeat_40 rfl rfl ⟨rfl, Nat.le_refl _⟩ ?_
    exact ⟨(by simp only [f_X12_tellsBeat, ↓eq_true h4, if_true, if_false, not_true_eq_false, not_false_eq_true]), (by simp only [f_X12_tellsBeat, ↓eq_true h4, if_true, if_false, not_true_eq_false, not_false_eq_true])⟩
  · skip
    refine ex_aload_n dX12_tellsBeat_7 rfl ?_
    refine ex_aload_n dX12_tellsBeat_8 rfl ?_
    refine g_12_29 dX12_tellsBeat_9 rfl wf_X12_244 (by first | assumption | rfl) ?_
    refine ex_aload_n dX12_tellsBeat_12 rfl ?_
    refine g_12_28 dX12_tellsBeat_13 rfl wf_X12_247 (by first | assumption | rfl) ?_
    refine ex_isub dX12_tellsBeat_16 ?_
    refine ex_i2l dX12_tellsBeat_17 ?_
    refine ex_aload_n dX12_tellsBeat_18 rfl ?_
    refine g_12_27 dX12_tellsBeat_19 rfl wf_X12_232 (by first | assumption | rfl) ?_
    refine ex_iconst (v := 1) dX12_tellsBeat_22 (by decide) ?_
    refine ex_isub dX12_tellsBeat_23 ?_
    refine ex_i2l dX12_tellsBeat_24 ?_
    refine ex_aload_n dX12_tellsBeat_25 rfl ?_
    refine g_12_27 dX12_tellsBeat_26 rfl wf_X12_232 (by first | assumption | rfl) ?_
    refine rx_cV (kd := 12) dX12_tellsBeat_29 rfl lk_X12_254 rfl (by decide) (by first | assumption | rfl) ⟨⟨rfl, rfl⟩, by decide, by decide⟩ rfl (Nat.le_of_ble_eq_true rfl) rfl (s_frG (hG (b2i_n0.mp h4))) (Rs.k ?_)
    refine ex_goto 40 dX12_tellsBeat_32 (by decide) ?_
    refine ex_iret dX12_tellsBeat_40 rfl rfl ⟨rfl, Nat.le_refl _⟩ ?_
    exact ⟨(by simp only [f_X12_tellsBeat, ↓eq_false h4, if_true, if_false, not_true_eq_false, not_false_eq_true]), (by simp only [f_X12_tellsBeat, ↓eq_false h4, if_true, if_false, not_true_eq_false, not_false_eq_true])⟩
set_option maxRecDepth 100000 in
set_option maxHeartbeats 4000000 in
theorem lm_nh {P : Option Value → Mem → Prop} {r : Int32} {m : Nat} (vr : vp_in r 6) (hm : m ≤ 60) (h26 : I 200 26 = nI m) (kont : Ex G mdX12_needHeard 62 [some (.ref 200), some (.int r), some (.int (nI m))] [] (mk (flw I 218 0 m (fun e => I 203 (60 * r.toNatClampNeg + e))) L t) 0 0 P) : Ex G mdX12_needHeard 36 [some (.ref 200), some (.int r), some (.int (nI 0))] [] (mk (flw I 218 0 0 (fun e => I 203 (60 * r.toNatClampNeg + e))) L t) 0 0 P := by
  refine loop_up (G := G) (d := mdX12_needHeard) (pc := 36) (st := []) (uc := 0) (us := 0) (P := P) m (fun k => mk (flw I 218 0 k (fun e => I 203 (60 * r.toNatClampNeg + e))) L t) (fun k => [some (.ref 200), some (.int r), some (.int (nI k))]) ?_ ?_ 0 (Nat.zero_le _)
  · intro k hk ih
    refine ex_iload_n dX12_needHeard_36 rfl ?_
    refine ex_aload_n dX12_needHeard_37 rfl ?_
    refine g_12_26 dX12_needHeard_38 rfl wf_X12_241 (by first | assumption | rfl) ?_
    rw [flw_off (by decide), h26]
    refine ex_icmp_ge 62 dX12_needHeard_41 (by decide) (fun h41 => ?_) (fun h41 => ?_)
    · exact absurd h41 (nI_ge hk (by omega))
    · skip
      refine ex_aload_n dX12_needHeard_44 rfl ?_
      refine g_12_25 dX12_needHeard_45 rfl wf_X12_63 (by first | assumption | rfl) (show Rt _ 200 25 = some 218 from rfl) ?_
      refine ex_iload_n dX12_needHeard_48 rfl ?_
      refine ex_aload_n dX12_needHeard_49 rfl ?_
      refine ex_iload_n dX12_needHeard_50 rfl ?_
      refine ex_iload_n dX12_needHeard_51 rfl ?_
      refine rx_cV (kd := 12) dX12_needHeard_52 rfl lk_X12_104 rfl (by decide) (by first | assumption | rfl) ⟨⟨rfl, rfl⟩, by decide, by decide⟩ rfl (Nat.le_of_ble_eq_true rfl) rfl (s_X12_rowAt vr (vp_in_nI (by omega) (by decide))) (Rs.k ?_)
      rw [flw_off (by decide), (ixm (c := 60) (C := 60) (R := 6) rfl vr (vp_in_nI (show k < 60 by omega) (by decide)) (by decide)).2, nI_clamp (by omega)]
      refine rx_iast dX12_needHeard_55 (by first | assumption | rfl) (vp_in_nI (by omega) (by decide)) ?_
      refine inc2 (v := _ + 1) dX12_needHeard_56 (by rfl) (by first | exact rfl | exact trivial) ?_
      refine ex_goto 36 dX12_needHeard_59 (by decide) ?_
      rw [nI_clamp (by omega), nI_1]
      rw [← flw_s, Nat.zero_add] at ih
      exact ih
  · skip
    refine ex_iload_n dX12_needHeard_36 rfl ?_
    refine ex_aload_n dX12_needHeard_37 rfl ?_
    refine g_12_26 dX12_needHeard_38 rfl wf_X12_241 (by first | assumption | rfl) ?_
    rw [flw_off (by decide), h26]
    refine ex_icmp_ge 62 dX12_needHeard_41 (by decide) (fun h41 => ?_) (fun h41 => ?_)
    · skip
      exact kont
    · exact absurd (Int32.le_refl _) h41
theorem lm_nh0 {P : Option Value → Mem → Prop} {r : Int32} (vr : vp_in r 6) (h26 : ∃ m, m ≤ 60 ∧ I 200 26 = nI m) (kont : Ex G mdX12_needHeard 62 [some (.ref 200), some (.int r), none] [] (mk (flw I 218 0 (I 200 26).toNatClampNeg (fun e => I 203 (60 * r.toNatClampNeg + e))) L t) 0 0 P) : Ex G mdX12_needHeard 36 [some (.ref 200), some (.int r), some (.int 0)] [] (mk I L t) 0 0 P := by
  obtain ⟨m, hm, e⟩ := h26
  rw [e, nI_clamp (by omega)] at kont
  have h := lm_nh (G := G) (I := I) (L := L) vr hm e (P := P) (fg2 kont)
  rw [flw_0] at h
  exact h
theorem s_crG (h26 : ∃ m, m ≤ 400 ∧ I 200 26 = nI m) : Ca G mdX12_crosses [.ref 200] (mk I L t) (Rv (mk (crM I (mcN (I 218) (0, I 200 28, I 200 29, 0, 0) ((I 200 26).toNatClampNeg - 1))) L t)) := by
  obtain ⟨m, hm, e⟩ := h26
  rw [e, nI_clamp (by omega)]
  exact s_X12_crosses hm e
def f_X12_needHeard (I : Im) (r : Int32) : Int32 × Im :=
  if (b2i (0 ≤ r ∧ r ≤ 5)) = 0 then
    ((-1), I)
  else
    if 0 ≤ (I 202 r.toNatClampNeg) then
      let I1 : Im := up2 I 200 26 (I 202 r.toNatClampNeg)
      let I2 : Im := flw I1 218 0 (I1 200 26).toNatClampNeg (fun e => I1 203 (60 * r.toNatClampNeg + e))
      let I3 : Im := crM I2 (mcN (I2 218) (0, I2 200 28, I2 200 29, 0, 0) ((I2 200 26).toNatClampNeg - 1))
      (0, I3)
    else
      let I4 : Im := meI I 1
      ((-3), I4)
set_option maxRecDepth 100000 in
set_option maxHeartbeats 4000000 in
theorem s_X12_needHeard  {r : Int32} (hSz : SzS I) : Ca G mdX12_needHeard [.ref 200, .int r] (mk I L t) (Rs (.int (f_X12_needHeard I r).1) (mk ((f_X12_needHeard I r).2) L t)) := by
  refine Ca.intro [some (.ref 200), some (.int r), none] (by decide) (Nat.le_of_ble_eq_true rfl) rfl rfl ?_
  refine ex_iload_n dX12_needHeard_0 rfl ?_
  refine rx_cS dX12_needHeard_1 rfl lk_X12_96 ⟨⟨rfl, rfl⟩, by decide, by decide⟩ rfl (Nat.le_of_ble_eq_true rfl) rfl s_X12_isRow (Rs.k ?_)
  refine ex_if_ne 9 dX12_needHeard_4 (by decide) (fun h4 => ?_) (fun h4 => ?_)
  · have qr := (cl_lt (N := 6) (by decide) h4).1
    have vr := (cl_lt (N := 6) (by decide) h4).2
    refine ex_aload_n dX12_needHeard_9 rfl ?_
    refine g_12_5 dX12_needHeard_10 rfl wf_X12_13 (by first | assumption | rfl) (show Rt _ 200 5 = some 202 from rfl) ?_
    refine ex_iload_n dX12_needHeard_13 rfl ?_
    refine rx_iald dX12_needHeard_14 (by first | assumption | rfl) (by first | assumption | (unfold vp_in; decide)) ?_
    refine ex_if_ge 24 dX12_needHeard_15 (by decide) (fun h15 => ?_) (fun h15 => ?_)
    · have hm : ∃ m, m ≤ 60 ∧ up2 I 200 26 (I 202 r.toNatClampNeg) 200 26 = nI m := by
        rw [u2_s]
        exact szn (hSz _ qr) h15
      refine ex_aload_n dX12_needHeard_24 rfl ?_
      refine ex_aload_n dX12_needHeard_25 rfl ?_
      refine g_12_5 dX12_needHeard_26 rfl wf_X12_13 (by first | assumption | rfl) (show Rt _ 200 5 = some 202 from rfl) ?_
      refine ex_iload_n dX12_needHeard_29 rfl ?_
      refine rx_iald dX12_needHeard_30 (by first | assumption | rfl) (by first | assumption | (unfold vp_in; decide)) ?_
      refine p_12_26 dX12_needHeard_31 rfl wf_X12_241 (by first | assumption | rfl) ?_
      refine ex_iconst (v := 0) dX12_needHeard_34 (by decide) ?_
      refine st_i2 dX12_needHeard_35 (by first | exact rfl | exact trivial) ?_
      refine (lm_nh0 vr hm) ?_
      refine ex_aload_n dX12_needHeard_62 rfl ?_
      refine rx_cV (kd := 12) dX12_needHeard_63 rfl lk_X12_258 rfl (by decide) (by first | assumption | rfl) ⟨⟨rfl, rfl⟩, by decide, by decide⟩ rfl (Nat.le_of_ble_eq_true rfl) rfl (s_crG (by obtain ⟨m, h1, h2⟩ := hm; exact ⟨m, by omega, by rw [flw_off (by decide)]; exact h2⟩)) (Rv.k ?_)
      refine ex_iconst (v := 0) dX12_needHeard_66 (by decide) ?_
      refine ex_iret dX12_needHeard_67 rfl rfl ⟨rfl, Nat.le_refl _⟩ ?_
      exact ⟨(by simp only [f_X12_needHeard, ↓eq_false h4, ↓h15, if_true, if_false, not_true_eq_false, not_false_eq_true]), (by simp only [f_X12_needHeard, ↓eq_false h4, ↓h15, if_true, if_false, not_true_eq_false, not_false_eq_true])⟩
    · skip
      refine ex_aload_n dX12_needHeard_18 rfl ?_
      refine ex_iconst (v := 1) dX12_needHeard_19 (by decide) ?_
      refine rx_cV (kd := 12) dX12_needHeard_20 rfl lk_X12_100 rfl (by decide) (by first | assumption | rfl) ⟨⟨rfl, rfl⟩, by decide, by decide⟩ rfl (Nat.le_of_ble_eq_true rfl) rfl (s_X12_meets (by unfold vp_in; decide)) (Rs.k ?_)
      refine ex_iret dX12_needHeard_23 rfl rfl ⟨rfl, Nat.le_refl _⟩ ?_
      exact ⟨(by simp only [f_X12_needHeard, ↓eq_false h4, ↓h15, if_true, if_false, not_true_eq_false, not_false_eq_true]), (by simp only [f_X12_needHeard, ↓eq_false h4, ↓h15, if_true, if_false, not_true_eq_false, not_false_eq_true])⟩
  · skip
    refine ex_iconst (v := (-1)) dX12_needHeard_7 (by decide) ?_
    refine ex_iret dX12_needHeard_8 rfl rfl ⟨rfl, Nat.le_refl _⟩ ?_
    exact ⟨(by simp only [f_X12_needHeard, ↓eq_true h4, if_true, if_false, not_true_eq_false, not_false_eq_true]), (by simp only [f_X12_needHeard, ↓eq_true h4, if_true, if_false, not_true_eq_false, not_false_eq_true])⟩
theorem nh_G {r : Int32} (hSz : SzS I) (h : 0 ≤ (f_X12_needHeard I r).1) : CrGm (f_X12_needHeard I r).2 := by
  revert h
  unfold f_X12_needHeard
  by_cases c1 : b2i (0 ≤ r ∧ r ≤ 5) = 0
  · rw [if_pos c1]
    exact fun h => absurd (show (0 : Int32) ≤ -1 from h) (by decide)
  rw [if_neg c1]
  by_cases c2 : 0 ≤ I 202 r.toNatClampNeg
  · rw [if_pos c2]
    intro _
    obtain ⟨m, hm, e⟩ := szn (hSz _ (cl_lt (N := 6) (by decide) c1).1) c2
    refine crGm ?_
    rw [flw_off (by decide), u2_s, e, nI_clamp (by omega)]
    omega
  · rw [if_neg c2]
    exact fun h => absurd (show (0 : Int32) ≤ -3 from h) (by decide)
def f_X12_beat (I : Im) (L : Nat → Nat → Int64) (r : Int32) : Int32 × Im × (Nat → Nat → Int64) :=
  let I1 : Im := (f_X12_needHeard I r).2
  if 0 ≤ ((f_X12_needHeard I r).1) then
    let I2 : Im := (f_X12_tellsBeat I1 L).2.1
    let L3 : Nat → Nat → Int64 := (f_X12_tellsBeat I1 L).2.2
    ((f_X12_tellsBeat I1 L).1, I2, L3)
  else
    ((f_X12_needHeard I r).1, I1, L)
set_option maxRecDepth 100000 in
set_option maxHeartbeats 4000000 in
theorem s_X12_beat  {r : Int32} (hSz : SzS I) : Ca G mdX12_beat [.ref 200, .int r] (mk I L t) (Rs (.int (f_X12_beat I L r).1) (mk ((f_X12_beat I L r).2.1) ((f_X12_beat I L r).2.2) t)) := by
  refine Ca.intro [some (.ref 200), some (.int r), none] (by decide) (Nat.le_of_ble_eq_true rfl) rfl rfl ?_
  refine ex_aload_n dX12_beat_0 rfl ?_
  refine ex_iload_n dX12_beat_1 rfl ?_
  refine rx_cV (kd := 12) dX12_beat_2 rfl lk_X12_261 rfl (by decide) (by first | assumption | rfl) ⟨⟨rfl, rfl⟩, by decide, by decide⟩ rfl (Nat.le_of_ble_eq_true rfl) rfl (s_X12_needHeard hSz) (Rs.k ?_)
  refine st_i2 dX12_beat_5 (by first | exact rfl | exact trivial) ?_
  refine ex_iload_n dX12_beat_6 rfl ?_
  refine ex_if_ge 14 dX12_beat_7 (by decide) (fun h7 => ?_) (fun h7 => ?_)
  · skip
    refine ex_aload_n dX12_beat_14 rfl ?_
    refine rx_cV (kd := 12) dX12_beat_15 rfl lk_X12_264 rfl (by decide) (by first | assumption | rfl) ⟨⟨rfl, rfl⟩, by decide, by decide⟩ rfl (Nat.le_of_ble_eq_true rfl) rfl (s_X12_tellsBeat (nh_G hSz h7)) (Rs.k ?_)
    refine ex_iret dX12_beat_18 rfl rfl ⟨rfl, Nat.le_refl _⟩ ?_
    exact ⟨(by simp only [f_X12_beat, ↓h7, if_true, if_false, not_true_eq_false, not_false_eq_true]), (by simp only [f_X12_beat, ↓h7, if_true, if_false, not_true_eq_false, not_false_eq_true])⟩
  · skip
    refine ex_iload_n dX12_beat_10 rfl ?_
    refine ex_goto 18 dX12_beat_11 (by decide) ?_
    refine ex_iret dX12_beat_18 rfl rfl ⟨rfl, Nat.le_refl _⟩ ?_
    exact ⟨(by simp only [f_X12_beat, ↓h7, if_true, if_false, not_true_eq_false, not_false_eq_true]), (by simp only [f_X12_beat, ↓h7, if_true, if_false, not_true_eq_false, not_false_eq_true])⟩
def f_X12_span (I : Im) (r : Int32) : Int32 × Im :=
  let I1 : Im := (f_X12_needHeard I r).2
  if 0 ≤ ((f_X12_needHeard I r).1) then
    if (b2i (2 ≤ I1 200 27)) = 0 then
      let I2 : Im := meI I1 4
      ((-3), I2)
    else
      let I3 : Im := up2 I1 200 2 (I1 200 31)
      ((I1 200 30), I3)
  else
    ((f_X12_needHeard I r).1, I1)
set_option maxRecDepth 100000 in
set_option maxHeartbeats 4000000 in
theorem s_X12_span  {r : Int32} (hSz : SzS I) : Ca G mdX12_span [.ref 200, .int r] (mk I L t) (Rs (.int (f_X12_span I r).1) (mk ((f_X12_span I r).2) L t)) := by
  refine Ca.intro [some (.ref 200), some (.int r), none] (by decide) (Nat.le_of_ble_eq_true rfl) rfl rfl ?_
  refine ex_aload_n dX12_span_0 rfl ?_
  refine ex_iload_n dX12_span_1 rfl ?_
  refine rx_cV (kd := 12) dX12_span_2 rfl lk_X12_261 rfl (by decide) (by first | assumption | rfl) ⟨⟨rfl, rfl⟩, by decide, by decide⟩ rfl (Nat.le_of_ble_eq_true rfl) rfl (s_X12_needHeard hSz) (Rs.k ?_)
  refine st_i2 dX12_span_5 (by first | exact rfl | exact trivial) ?_
  refine ex_iload_n dX12_span_6 rfl ?_
  refine ex_if_ge 12 dX12_span_7 (by decide) (fun h7 => ?_) (fun h7 => ?_)
  · skip
    refine ex_aload_n dX12_span_12 rfl ?_
    refine rx_cV (kd := 12) dX12_span_13 rfl lk_X12_250 rfl (by decide) (by first | assumption | rfl) ⟨⟨rfl, rfl⟩, by decide, by decide⟩ rfl (Nat.le_of_ble_eq_true rfl) rfl s_X12_isBeat (Rs.k ?_)
    refine ex_if_eq 34 dX12_span_16 (by decide) (fun h16 => ?_) (fun h16 => ?_)
    · skip
      refine ex_aload_n dX12_span_34 rfl ?_
      refine ex_iconst (v := 4) dX12_span_35 (by decide) ?_
      refine rx_cV (kd := 12) dX12_span_36 rfl lk_X12_100 rfl (by decide) (by first | assumption | rfl) ⟨⟨rfl, rfl⟩, by decide, by decide⟩ rfl (Nat.le_of_ble_eq_true rfl) rfl (s_X12_meets (by unfold vp_in; decide)) (Rs.k ?_)
      refine ex_iret dX12_span_39 rfl rfl ⟨rfl, Nat.le_refl _⟩ ?_
      exact ⟨(by simp only [f_X12_span, ↓h7, ↓eq_true h16, if_true, if_false, not_true_eq_false, not_false_eq_true]), (by simp only [f_X12_span, ↓h7, ↓eq_true h16, if_true, if_false, not_true_eq_false, not_false_eq_true])⟩
    · skip
      refine ex_aload_n dX12_span_19 rfl ?_
      refine ex_aload_n dX12_span_20 rfl ?_
      refine g_12_31 dX12_span_21 rfl wf_X12_238 (by first | assumption | rfl) ?_
      refine ex_aload_n dX12_span_24 rfl ?_
      refine g_12_30 dX12_span_25 rfl wf_X12_235 (by first | assumption | rfl) ?_
      refine rx_cV (kd := 12) dX12_span_28 rfl lk_X12_108 rfl (by decide) (by first | assumption | rfl) ⟨⟨rfl, rfl⟩, by decide, by decide⟩ rfl (Nat.le_of_ble_eq_true rfl) rfl s_X12_tells (Rs.k ?_)
      refine ex_goto 39 dX12_span_31 (by decide) ?_
      refine ex_iret dX12_span_39 rfl rfl ⟨rfl, Nat.le_refl _⟩ ?_
      exact ⟨(by simp only [f_X12_span, ↓h7, ↓eq_false h16, if_true, if_false, not_true_eq_false, not_false_eq_true]), (by simp only [f_X12_span, ↓h7, ↓eq_false h16, if_true, if_false, not_true_eq_false, not_false_eq_true])⟩
  · skip
    refine ex_iload_n dX12_span_10 rfl ?_
    refine ex_iret dX12_span_11 rfl rfl ⟨rfl, Nat.le_refl _⟩ ?_
    exact ⟨(by simp only [f_X12_span, ↓h7, if_true, if_false, not_true_eq_false, not_false_eq_true]), (by simp only [f_X12_span, ↓h7, if_true, if_false, not_true_eq_false, not_false_eq_true])⟩
end M12
