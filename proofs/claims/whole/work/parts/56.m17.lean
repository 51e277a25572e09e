section M17
variable {G : Gp} {I : Im} {L : Nat → Nat → Int64} {t : Nat}
def moN (I : Im) (s q : Nat) (c g : Int32) (k : Nat) : Nat × Nat × Im :=
  match k with
  | 0 => (0, 0, I)
  | k + 1 => if (moN I s q c g k).2.2 209 k = 0 then moN I s q c g k else ((moN I s q c g k).1 + 1, (moN I s q c g k).2.1 + (if (plI (moN I s q c g k).2.2 s q k c g) 200 33 = -9 then 0 else 1), (plI (moN I s q c g k).2.2 s q k c g))
termination_by k
theorem moN_0 {s q : Nat} {c g : Int32} : moN I s q c g 0 = (0, 0, I) := by rw [moN]
theorem moN_s {s q k : Nat} {c g : Int32} : moN I s q c g (k + 1) = if (moN I s q c g k).2.2 209 k = 0 then moN I s q c g k else ((moN I s q c g k).1 + 1, (moN I s q c g k).2.1 + (if (plI (moN I s q c g k).2.2 s q k c g) 200 33 = -9 then 0 else 1), (plI (moN I s q c g k).2.2 s q k c g)) := by rw [moN]
theorem moN_off {s q e : Nat} {c g : Int32} (h : e ≠ 217) (h2 : e ≠ 200) : ∀ k, (moN I s q c g k).2.2 e = I e := by
  intro k
  induction k with
  | zero => rw [moN_0]
  | succ k ih =>
    rw [moN_s]
    split
    · exact ih
    · exact (plI_off h h2).trans ih
theorem moN_1 {s q : Nat} {c g : Int32} : ∀ k, (moN I s q c g k).1 = cntN (I 209) k ∧ (moN I s q c g k).2.1 ≤ k := by
  intro k
  induction k with
  | zero => rw [moN_0, cntN_0]; exact ⟨rfl, Nat.le_refl 0⟩
  | succ k ih =>
    rw [moN_s, cntN_s, moN_off (by decide) (by decide) k]
    split
    · exact ⟨ih.1, by omega⟩
    · refine ⟨by rw [← ih.1], ?_⟩
      dsimp only
      split <;> omega
theorem mo_ok {s q : Nat} {c g : Int32} (h : ¬ f_X12_isAnySea I = 0) : ∃ o u, o < 2 ^ 30 ∧ 1 ≤ u ∧ u < 2 ^ 30 ∧ nI (moN I s q c g 4).2.1 = nI o ∧ nI (moN I s q c g 4).1 = nI u := by
  have h1 := moN_1 (I := I) (s := s) (q := q) (c := c) (g := g) 4
  have h2 := cntN_le (f := I 209) 4
  have h3 : 1 ≤ cntN (I 209) 4 := by
    unfold f_X12_isAnySea at h
    by_cases c0 : I 209 0 = 0
    · by_cases c1 : I 209 1 = 0
      · by_cases c2 : I 209 2 = 0
        · by_cases c3 : I 209 3 = 0
          · rw [if_pos (show I 209 (0 : Int32).toNatClampNeg = 0 from c0), if_pos (show I 209 (0 + 1 : Int32).toNatClampNeg = 0 from c1), if_pos (show I 209 (0 + 1 + 1 : Int32).toNatClampNeg = 0 from c2), if_pos (show I 209 (0 + 1 + 1 + 1 : Int32).toNatClampNeg = 0 from c3)] at h
            exact absurd rfl h
          · exact cntN_mono (f := I 209) (k := 3) c3 0
        · exact cntN_mono (f := I 209) (k := 2) c2 1
      · exact cntN_mono (f := I 209) (k := 1) c1 2
    · exact cntN_mono (f := I 209) (k := 0) c0 3
  exact ⟨(moN I s q c g 4).2.1, (moN I s q c g 4).1, by omega, by omega, by omega, rfl, rfl⟩
set_option maxRecDepth 100000 in
set_option maxHeartbeats 4000000 in
theorem lm_odd {P : Option Value → Mem → Prop} {x y : Int32} (vs : vp_in x 3) (vk : vp_in y 4) (hH : HmS I) (hS : SbS I) (hP : SpS I) (hh : ¬ I 207 y.toNatClampNeg = 0) (hp : ¬ I 214 x.toNatClampNeg = 0) (kont : Ex G mdX12_odds 154 [some (.ref 200), some (.int x), some (.int y), some (.int (nI (moN I x.toNatClampNeg y.toNatClampNeg (I 215 (5 * x).toNatClampNeg) (I 215 (5 * x + 2).toNatClampNeg) 4).1)), some (.int (nI (moN I x.toNatClampNeg y.toNatClampNeg (I 215 (5 * x).toNatClampNeg) (I 215 (5 * x + 2).toNatClampNeg) 4).2.1)), some (.int (nI 4))] [] (mk (moN I x.toNatClampNeg y.toNatClampNeg (I 215 (5 * x).toNatClampNeg) (I 215 (5 * x + 2).toNatClampNeg) 4).2.2 L t) 0 0 P) : Ex G mdX12_odds 84 [some (.ref 200), some (.int x), some (.int y), some (.int (nI (moN I x.toNatClampNeg y.toNatClampNeg (I 215 (5 * x).toNatClampNeg) (I 215 (5 * x + 2).toNatClampNeg) 0).1)), some (.int (nI (moN I x.toNatClampNeg y.toNatClampNeg (I 215 (5 * x).toNatClampNeg) (I 215 (5 * x + 2).toNatClampNeg) 0).2.1)), some (.int (nI 0))] [] (mk (moN I x.toNatClampNeg y.toNatClampNeg (I 215 (5 * x).toNatClampNeg) (I 215 (5 * x + 2).toNatClampNeg) 0).2.2 L t) 0 0 P := by
  refine loop_up (G := G) (d := mdX12_odds) (pc := 84) (st := []) (uc := 0) (us := 0) (P := P) 4 (fun k => mk (moN I x.toNatClampNeg y.toNatClampNeg (I 215 (5 * x).toNatClampNeg) (I 215 (5 * x + 2).toNatClampNeg) k).2.2 L t) (fun k => [some (.ref 200), some (.int x), some (.int y), some (.int (nI (moN I x.toNatClampNeg y.toNatClampNeg (I 215 (5 * x).toNatClampNeg) (I 215 (5 * x + 2).toNatClampNeg) k).1)), some (.int (nI (moN I x.toNatClampNeg y.toNatClampNeg (I 215 (5 * x).toNatClampNeg) (I 215 (5 * x + 2).toNatClampNeg) k).2.1)), some (.int (nI k))]) ?_ ?_ 0 (Nat.zero_le _)
  · intro k hk ih
    have hHk : HmS (moN I x.toNatClampNeg y.toNatClampNeg (I 215 (5 * x).toNatClampNeg) (I 215 (5 * x + 2).toNatClampNeg) k).2.2 := HmS_of (moN_off (by decide) (by decide) k) (moN_off (by decide) (by decide) k) hH
    have hSk : SbS (moN I x.toNatClampNeg y.toNatClampNeg (I 215 (5 * x).toNatClampNeg) (I 215 (5 * x + 2).toNatClampNeg) k).2.2 := SbS_of (moN_off (by decide) (by decide) k) (moN_off (by decide) (by decide) k) hS
    have hPk : SpS (moN I x.toNatClampNeg y.toNatClampNeg (I 215 (5 * x).toNatClampNeg) (I 215 (5 * x + 2).toNatClampNeg) k).2.2 := SpS_of (moN_off (by decide) (by decide) k) (moN_off (by decide) (by decide) k) hP
    have gk : ¬ (moN I x.toNatClampNeg y.toNatClampNeg (I 215 (5 * x).toNatClampNeg) (I 215 (5 * x + 2).toNatClampNeg) k).2.2 207 y.toNatClampNeg = 0 := by rw [moN_off (by decide) (by decide) k]; exact hh
    have pk : ¬ (moN I x.toNatClampNeg y.toNatClampNeg (I 215 (5 * x).toNatClampNeg) (I 215 (5 * x + 2).toNatClampNeg) k).2.2 214 x.toNatClampNeg = 0 := by rw [moN_off (by decide) (by decide) k]; exact hp
    refine ex_iload dX12_odds_84 rfl ?_
    refine ex_iconst (v := 4) dX12_odds_86 (by decide) ?_
    refine ex_icmp_ge 154 dX12_odds_87 (by decide) (fun h87 => ?_) (fun h87 => ?_)
    · exact absurd h87 (nI_ge hk (by decide))
    · skip
      refine ex_aload_n dX12_odds_90 rfl ?_
      refine g_12_12 dX12_odds_91 rfl wf_X12_36 (by first | assumption | rfl) (show Rt _ 200 12 = some 209 from rfl) ?_
      refine ex_iload dX12_odds_94 rfl ?_
      refine rx_zald dX12_odds_96 (by first | assumption | rfl) (vp_in_nI hk (by decide)) ?_
      rw [nI_clamp (by omega)]
      refine ex_if_eq 148 dX12_odds_97 (by decide) (fun h97 => ?_) (fun h97 => ?_)
      · have hc : moN I x.toNatClampNeg y.toNatClampNeg (I 215 (5 * x).toNatClampNeg) (I 215 (5 * x + 2).toNatClampNeg) (k + 1) = (moN I x.toNatClampNeg y.toNatClampNeg (I 215 (5 * x).toNatClampNeg) (I 215 (5 * x + 2).toNatClampNeg) k) := moN_s.trans (if_pos h97)
        refine inc5 (v := _ + 1) dX12_odds_148 (by rfl) (by first | exact rfl | exact trivial) ?_
        refine ex_goto 84 dX12_odds_151 (by decide) ?_
        simp only [Int32.add_zero, nI_1]
        rw [hc] at ih
        exact ih
      · skip
        refine ex_aload_n dX12_odds_100 rfl ?_
        refine ex_iload_n dX12_odds_101 rfl ?_
        refine ex_iload_n dX12_odds_102 rfl ?_
        refine ex_iload dX12_odds_103 rfl ?_
        refine ex_aload_n dX12_odds_105 rfl ?_
        refine g_12_21 dX12_odds_106 rfl wf_X12_54 (by first | assumption | rfl) (show Rt _ 200 21 = some 215 from rfl) ?_
        refine ex_iconst (v := 5) dX12_odds_109 (by decide) ?_
        refine ex_iload_n dX12_odds_110 rfl ?_
        refine ex_imul dX12_odds_111 ?_
        refine rx_iald dX12_odds_112 (by first | assumption | rfl) (ixz (C := 5) (R := 3) rfl (by decide) vs (by decide)).1 ?_
        rw [moN_off (by decide) (by decide) k]
        refine ex_aload_n dX12_odds_113 rfl ?_
        refine g_12_21 dX12_odds_114 rfl wf_X12_54 (by first | assumption | rfl) (show Rt _ 200 21 = some 215 from rfl) ?_
        refine ex_iconst (v := 5) dX12_odds_117 (by decide) ?_
        refine ex_iload_n dX12_odds_118 rfl ?_
        refine ex_imul dX12_odds_119 ?_
        refine ex_iconst (v := 2) dX12_odds_120 (by decide) ?_
        refine ex_iadd dX12_odds_121 ?_
        refine rx_iald dX12_odds_122 (by first | assumption | rfl) (ixm (c := 5) (C := 5) (R := 3) rfl vs (i := 2) (by unfold vp_in; decide) (by decide)).1 ?_
        rw [moN_off (by decide) (by decide) k]
        refine rx_cV (kd := 12) dX12_odds_123 rfl lk_X12_327 rfl (by decide) (by first | assumption | rfl) ⟨⟨rfl, rfl⟩, by decide, by decide⟩ rfl (Nat.le_of_ble_eq_true rfl) rfl (s_plG vs vk (vp_in_nI hk (by decide)) (sp_c vs hP hp) hHk gk hSk hPk pk) (Rv.k ?_)
        rw [nI_clamp (show k < 2 ^ 31 by omega)]
        refine inc3 (v := _ + 1) dX12_odds_126 (by rfl) (by first | exact rfl | exact trivial) ?_
        refine ex_iload dX12_odds_129 rfl ?_
        refine ex_aload_n dX12_odds_131 rfl ?_
        refine g_12_33 dX12_odds_132 rfl wf_X12_320 (by first | assumption | rfl) ?_
        refine ex_bipush (v := (-9)) dX12_odds_135 (by decide) ?_
        refine ex_icmp_eq 144 dX12_odds_137 (by decide) (fun h137 => ?_) (fun h137 => ?_)
        · have hc : moN I x.toNatClampNeg y.toNatClampNeg (I 215 (5 * x).toNatClampNeg) (I 215 (5 * x + 2).toNatClampNeg) (k + 1) = ((moN I x.toNatClampNeg y.toNatClampNeg (I 215 (5 * x).toNatClampNeg) (I 215 (5 * x + 2).toNatClampNeg) k).1 + 1, (moN I x.toNatClampNeg y.toNatClampNeg (I 215 (5 * x).toNatClampNeg) (I 215 (5 * x + 2).toNatClampNeg) k).2.1 + 0, (plI (moN I x.toNatClampNeg y.toNatClampNeg (I 215 (5 * x).toNatClampNeg) (I 215 (5 * x + 2).toNatClampNeg) k).2.2 x.toNatClampNeg y.toNatClampNeg k (I 215 (5 * x).toNatClampNeg) (I 215 (5 * x + 2).toNatClampNeg))) := by rw [moN_s, if_neg h97, if_pos h137]
          refine ex_iconst (v := 0) dX12_odds_144 (by decide) ?_
          refine ex_iadd dX12_odds_145 ?_
          refine st_i4 dX12_odds_146 (by first | exact rfl | exact trivial) ?_
          refine inc5 (v := _ + 1) dX12_odds_148 (by rfl) (by first | exact rfl | exact trivial) ?_
          refine ex_goto 84 dX12_odds_151 (by decide) ?_
          simp only [Int32.add_zero, nI_1]
          rw [hc] at ih
          exact ih
        · have hc : moN I x.toNatClampNeg y.toNatClampNeg (I 215 (5 * x).toNatClampNeg) (I 215 (5 * x + 2).toNatClampNeg) (k + 1) = ((moN I x.toNatClampNeg y.toNatClampNeg (I 215 (5 * x).toNatClampNeg) (I 215 (5 * x + 2).toNatClampNeg) k).1 + 1, (moN I x.toNatClampNeg y.toNatClampNeg (I 215 (5 * x).toNatClampNeg) (I 215 (5 * x + 2).toNatClampNeg) k).2.1 + 1, (plI (moN I x.toNatClampNeg y.toNatClampNeg (I 215 (5 * x).toNatClampNeg) (I 215 (5 * x + 2).toNatClampNeg) k).2.2 x.toNatClampNeg y.toNatClampNeg k (I 215 (5 * x).toNatClampNeg) (I 215 (5 * x + 2).toNatClampNeg))) := by rw [moN_s, if_neg h97, if_neg h137]
          refine ex_iconst (v := 1) dX12_odds_140 (by decide) ?_
          refine ex_goto 145 dX12_odds_141 (by decide) ?_
          refine ex_iadd dX12_odds_145 ?_
          refine st_i4 dX12_odds_146 (by first | exact rfl | exact trivial) ?_
          refine inc5 (v := _ + 1) dX12_odds_148 (by rfl) (by first | exact rfl | exact trivial) ?_
          refine ex_goto 84 dX12_odds_151 (by decide) ?_
          simp only [Int32.add_zero, nI_1]
          rw [hc] at ih
          exact ih
  · skip
    refine ex_iload dX12_odds_84 rfl ?_
    refine ex_iconst (v := 4) dX12_odds_86 (by decide) ?_
    refine ex_icmp_ge 154 dX12_odds_87 (by decide) (fun h87 => ?_) (fun h87 => ?_)
    · skip
      exact kont
    · exact absurd (by decide : nI 4 ≤ nI 4) h87
theorem lm_odd0 {P : Option Value → Mem → Prop} {x y : Int32} (vs : vp_in x 3) (vk : vp_in y 4) (hH : HmS I) (hS : SbS I) (hP : SpS I) (hh : ¬ I 207 y.toNatClampNeg = 0) (hp : ¬ I 214 x.toNatClampNeg = 0) (kont : Ex G mdX12_odds 154 [some (.ref 200), some (.int x), some (.int y), some (.int (nI (moN I x.toNatClampNeg y.toNatClampNeg (I 215 (5 * x).toNatClampNeg) (I 215 (5 * x + 2).toNatClampNeg) 4).1)), some (.int (nI (moN I x.toNatClampNeg y.toNatClampNeg (I 215 (5 * x).toNatClampNeg) (I 215 (5 * x + 2).toNatClampNeg) 4).2.1)), none] [] (mk (moN I x.toNatClampNeg y.toNatClampNeg (I 215 (5 * x).toNatClampNeg) (I 215 (5 * x + 2).toNatClampNeg) 4).2.2 L t) 0 0 P) : Ex G mdX12_odds 84 [some (.ref 200), some (.int x), some (.int y), some (.int 0), some (.int 0), some (.int 0)] [] (mk I L t) 0 0 P := by
  have h := lm_odd (G := G) (I := I) (L := L) vs vk hH hS hP hh hp (P := P) (fg5 kont)
  rw [moN_0] at h
  exact h
def f_X12_odds (I : Im) (L : Nat → Nat → Int64) (s : Int32) (k : Int32) : Int32 × Im × (Nat → Nat → Int64) :=
  if (b2i (0 ≤ s ∧ s ≤ 2)) = 0 then
    ((-1), I, L)
  else
    if (b2i (0 ≤ k ∧ k ≤ 3)) = 0 then
      ((-1), I, L)
    else
      if (I 214 s.toNatClampNeg) = 0 then
        ((-4), I, L)
      else
        if (I 207 k.toNatClampNeg) = 0 then
          let I1 : Im := meI I 1
          ((-3), I1, L)
        else
          if ((f_X12_isAnySea I)) = 0 then
            let I5 : Im := meI I 1
            ((-3), I5, L)
          else
            if (I 215 (5 * s).toNatClampNeg) < (I 208 (21 * k).toNatClampNeg) then
              let I2 : Im := (moN I s.toNatClampNeg k.toNatClampNeg (I 215 (5 * s).toNatClampNeg) (I 215 (5 * s + 2).toNatClampNeg) 4).2.2
              let L3 : Nat → Nat → Int64 := frM L (nI (moN I s.toNatClampNeg k.toNatClampNeg (I 215 (5 * s).toNatClampNeg) (I 215 (5 * s + 2).toNatClampNeg) 4).2.1).toNatClampNeg (nI (moN I s.toNatClampNeg k.toNatClampNeg (I 215 (5 * s).toNatClampNeg) (I 215 (5 * s + 2).toNatClampNeg) 4).1).toNatClampNeg
              ((nI (moN I s.toNatClampNeg k.toNatClampNeg (I 215 (5 * s).toNatClampNeg) (I 215 (5 * s + 2).toNatClampNeg) 4).2.1), I2, L3)
            else
              let I4 : Im := meI I 2
              ((-3), I4, L)
set_option maxRecDepth 100000 in
set_option maxHeartbeats 4000000 in
theorem s_X12_odds  {s : Int32} {k : Int32} (hH : HmS I) (hS : SbS I) (hP : SpS I) : Ca G mdX12_odds [.ref 200, .int s, .int k] (mk I L t) (Rs (.int (f_X12_odds I L s k).1) (mk ((f_X12_odds I L s k).2.1) ((f_X12_odds I L s k).2.2) t)) := by
  refine Ca.intro [some (.ref 200), some (.int s), some (.int k), none, none, none] (by decide) (Nat.le_of_ble_eq_true rfl) rfl rfl ?_
  refine ex_iload_n dX12_odds_0 rfl ?_
  refine rx_cS dX12_odds_1 rfl lk_X12_154 ⟨⟨rfl, rfl⟩, by decide, by decide⟩ rfl (Nat.le_of_ble_eq_true rfl) rfl s_X12_isShipTold (Rs.k ?_)
  refine ex_if_eq 14 dX12_odds_4 (by decide) (fun h4 => ?_) (fun h4 => ?_)
  · skip
    refine ex_iconst (v := (-1)) dX12_odds_14 (by decide) ?_
    refine ex_iret dX12_odds_15 rfl rfl ⟨rfl, Nat.le_refl _⟩ ?_
    exact ⟨(by simp only [f_X12_odds, ↓eq_true h4, if_true, if_false, not_true_eq_false, not_false_eq_true]), (by simp only [f_X12_odds, ↓eq_true h4, if_true, if_false, not_true_eq_false, not_false_eq_true])⟩
  · have qs := (cl_lt (N := 3) (by decide) h4).1
    have vs := (cl_lt (N := 3) (by decide) h4).2
    refine ex_iload_n dX12_odds_7 rfl ?_
    refine rx_cS dX12_odds_8 rfl lk_X12_151 ⟨⟨rfl, rfl⟩, by decide, by decide⟩ rfl (Nat.le_of_ble_eq_true rfl) rfl s_X12_isPlace (Rs.k ?_)
    refine ex_if_ne 16 dX12_odds_11 (by decide) (fun h11 => ?_) (fun h11 => ?_)
    · have qk := (cl_lt (N := 4) (by decide) h11).1
      have vk := (cl_lt (N := 4) (by decide) h11).2
      refine ex_aload_n dX12_odds_16 rfl ?_
      refine g_12_20 dX12_odds_17 rfl wf_X12_51 (by first | assumption | rfl) (show Rt _ 200 20 = some 214 from rfl) ?_
      refine ex_iload_n dX12_odds_20 rfl ?_
      refine rx_zald dX12_odds_21 (by first | assumption | rfl) (by first | assumption | (unfold vp_in; decide)) ?_
      refine ex_if_ne 28 dX12_odds_22 (by decide) (fun h22 => ?_) (fun h22 => ?_)
      · skip
        refine ex_aload_n dX12_odds_28 rfl ?_
        refine g_12_10 dX12_odds_29 rfl wf_X12_29 (by first | assumption | rfl) (show Rt _ 200 10 = some 207 from rfl) ?_
        refine ex_iload_n dX12_odds_32 rfl ?_
        refine rx_zald dX12_odds_33 (by first | assumption | rfl) (by first | assumption | (unfold vp_in; decide)) ?_
        refine ex_if_eq 44 dX12_odds_34 (by decide) (fun h34 => ?_) (fun h34 => ?_)
        · skip
          refine ex_aload_n dX12_odds_44 rfl ?_
          refine ex_iconst (v := 1) dX12_odds_45 (by decide) ?_
          refine rx_cV (kd := 12) dX12_odds_46 rfl lk_X12_100 rfl (by decide) (by first | assumption | rfl) ⟨⟨rfl, rfl⟩, by decide, by decide⟩ rfl (Nat.le_of_ble_eq_true rfl) rfl (s_X12_meets (by unfold vp_in; decide)) (Rs.k ?_)
          refine ex_iret dX12_odds_49 rfl rfl ⟨rfl, Nat.le_refl _⟩ ?_
          exact ⟨(by simp only [f_X12_odds, ↓eq_false h4, ↓eq_false h11, ↓eq_false h22, ↓eq_true h34, if_true, if_false, not_true_eq_false, not_false_eq_true]), (by simp only [f_X12_odds, ↓eq_false h4, ↓eq_false h11, ↓eq_false h22, ↓eq_true h34, if_true, if_false, not_true_eq_false, not_false_eq_true])⟩
        · skip
          refine ex_aload_n dX12_odds_37 rfl ?_
          refine rx_cV (kd := 12) dX12_odds_38 rfl lk_X12_314 rfl (by decide) (by first | assumption | rfl) ⟨⟨rfl, rfl⟩, by decide, by decide⟩ rfl (Nat.le_of_ble_eq_true rfl) rfl s_X12_isAnySea (Rs.k ?_)
          refine ex_if_ne 50 dX12_odds_41 (by decide) (fun h41 => ?_) (fun h41 => ?_)
          · skip
            refine ex_aload_n dX12_odds_50 rfl ?_
            refine g_12_21 dX12_odds_51 rfl wf_X12_54 (by first | assumption | rfl) (show Rt _ 200 21 = some 215 from rfl) ?_
            refine ex_iconst (v := 5) dX12_odds_54 (by decide) ?_
            refine ex_iload_n dX12_odds_55 rfl ?_
            refine ex_imul dX12_odds_56 ?_
            refine rx_iald dX12_odds_57 (by first | assumption | rfl) (ixz (C := 5) (R := 3) rfl (by decide) vs (by decide)).1 ?_
            refine ex_aload_n dX12_odds_58 rfl ?_
            refine g_12_11 dX12_odds_59 rfl wf_X12_33 (by first | assumption | rfl) (show Rt _ 200 11 = some 208 from rfl) ?_
            refine ex_bipush (v := 21) dX12_odds_62 (by decide) ?_
            refine ex_iload_n dX12_odds_64 rfl ?_
            refine ex_imul dX12_odds_65 ?_
            refine rx_iald dX12_odds_66 (by first | assumption | rfl) (ixz (C := 21) (R := 4) rfl (by decide) vk (by decide)).1 ?_
            refine ex_icmp_lt 76 dX12_odds_67 (by decide) (fun h67 => ?_) (fun h67 => ?_)
            · skip
              refine ex_iconst (v := 0) dX12_odds_76 (by decide) ?_
              refine st_i3 dX12_odds_77 (by first | exact rfl | exact trivial) ?_
              refine ex_iconst (v := 0) dX12_odds_78 (by decide) ?_
              refine st_i4 dX12_odds_79 (by first | exact rfl | exact trivial) ?_
              refine ex_iconst (v := 0) dX12_odds_81 (by decide) ?_
              refine st_i5 dX12_odds_82 (by first | exact rfl | exact trivial) ?_
              refine (lm_odd0 vs vk hH hS hP h34 h22) ?_
              refine ex_aload_n dX12_odds_154 rfl ?_
              refine ex_iload dX12_odds_155 rfl ?_
              refine ex_i2l dX12_odds_157 ?_
              refine ex_iload_n dX12_odds_158 rfl ?_
              refine ex_i2l dX12_odds_159 ?_
              refine ex_iload dX12_odds_160 rfl ?_
              refine rx_cV (kd := 12) dX12_odds_162 rfl lk_X12_254 rfl (by decide) (by first | assumption | rfl) ⟨⟨rfl, rfl⟩, by decide, by decide⟩ rfl (Nat.le_of_ble_eq_true rfl) rfl (s_frG (mo_ok h41)) (Rs.k ?_)
              refine ex_iret dX12_odds_165 rfl rfl ⟨rfl, Nat.le_refl _⟩ ?_
              exact ⟨(by simp only [f_X12_odds, ↓eq_false h4, ↓eq_false h11, ↓eq_false h22, ↓eq_false h34, ↓eq_false h41, ↓h67, if_true, if_false, not_true_eq_false, not_false_eq_true]), (by simp only [f_X12_odds, ↓eq_false h4, ↓eq_false h11, ↓eq_false h22, ↓eq_false h34, ↓eq_false h41, ↓h67, if_true, if_false, not_true_eq_false, not_false_eq_true])⟩
            · skip
              refine ex_aload_n dX12_odds_70 rfl ?_
              refine ex_iconst (v := 2) dX12_odds_71 (by decide) ?_
              refine rx_cV (kd := 12) dX12_odds_72 rfl lk_X12_100 rfl (by decide) (by first | assumption | rfl) ⟨⟨rfl, rfl⟩, by decide, by decide⟩ rfl (Nat.le_of_ble_eq_true rfl) rfl (s_X12_meets (by unfold vp_in; decide)) (Rs.k ?_)
              refine ex_iret dX12_odds_75 rfl rfl ⟨rfl, Nat.le_refl _⟩ ?_
              exact ⟨(by simp only [f_X12_odds, ↓eq_false h4, ↓eq_false h11, ↓eq_false h22, ↓eq_false h34, ↓eq_false h41, ↓h67, if_true, if_false, not_true_eq_false, not_false_eq_true]), (by simp only [f_X12_odds, ↓eq_false h4, ↓eq_false h11, ↓eq_false h22, ↓eq_false h34, ↓eq_false h41, ↓h67, if_true, if_false, not_true_eq_false, not_false_eq_true])⟩
          · skip
            refine ex_aload_n dX12_odds_44 rfl ?_
            refine ex_iconst (v := 1) dX12_odds_45 (by decide) ?_
            refine rx_cV (kd := 12) dX12_odds_46 rfl lk_X12_100 rfl (by decide) (by first | assumption | rfl) ⟨⟨rfl, rfl⟩, by decide, by decide⟩ rfl (Nat.le_of_ble_eq_true rfl) rfl (s_X12_meets (by unfold vp_in; decide)) (Rs.k ?_)
            refine ex_iret dX12_odds_49 rfl rfl ⟨rfl, Nat.le_refl _⟩ ?_
            exact ⟨(by simp only [f_X12_odds, ↓eq_false h4, ↓eq_false h11, ↓eq_false h22, ↓eq_false h34, ↓eq_true h41, if_true, if_false, not_true_eq_false, not_false_eq_true]), (by simp only [f_X12_odds, ↓eq_false h4, ↓eq_false h11, ↓eq_false h22, ↓eq_false h34, ↓eq_true h41, if_true, if_false, not_true_eq_false, not_false_eq_true])⟩
      · skip
        refine ex_bipush (v := (-4)) dX12_odds_25 (by decide) ?_
        refine ex_iret dX12_odds_27 rfl rfl ⟨rfl, Nat.le_refl _⟩ ?_
        exact ⟨(by simp only [f_X12_odds, ↓eq_false h4, ↓eq_false h11, ↓eq_true h22, if_true, if_false, not_true_eq_false, not_false_eq_true]), (by simp only [f_X12_odds, ↓eq_false h4, ↓eq_false h11, ↓eq_true h22, if_true, if_false, not_true_eq_false, not_false_eq_true])⟩
    · skip
      refine ex_iconst (v := (-1)) dX12_odds_14 (by decide) ?_
      refine ex_iret dX12_odds_15 rfl rfl ⟨rfl, Nat.le_refl _⟩ ?_
      exact ⟨(by simp only [f_X12_odds, ↓eq_false h4, ↓eq_true h11, if_true, if_false, not_true_eq_false, not_false_eq_true]), (by simp only [f_X12_odds, ↓eq_false h4, ↓eq_true h11, if_true, if_false, not_true_eq_false, not_false_eq_true])⟩
def aiN (I : Im) (s : Nat) (b : Int32) (o : Nat) : Int32 :=
  match o with
  | 0 => if b = 0 then 0 else if I 214 s = 0 then (if I 221 s = 0 then 1 else 0) else 1
  | o + 1 => if aiN I s b o = 0 then 0 else if I 214 s = 0 then 1 else if I 214 o = 0 then 1 else if I 221 s = I 221 o then 0 else 1
termination_by o
theorem aiN_0 {s : Nat} {b : Int32} : aiN I s b 0 = if b = 0 then 0 else if I 214 s = 0 then (if I 221 s = 0 then 1 else 0) else 1 := by rw [aiN]
theorem aiN_s {s o : Nat} {b : Int32} : aiN I s b (o + 1) = if aiN I s b o = 0 then 0 else if I 214 s = 0 then 1 else if I 214 o = 0 then 1 else if I 221 s = I 221 o then 0 else 1 := by rw [aiN]
def apN (I : Im) (s : Nat) : Int32 :=
  match s with
  | 0 => 1
  | s + 1 => aiN I s (apN I s) s
termination_by s
theorem apN_0 : apN I 0 = 1 := by rw [apN]
theorem apN_s {s : Nat} : apN I (s + 1) = aiN I s (apN I s) s := by rw [apN]
theorem aiN_z {s : Nat} {b : Int32} : ∀ o, narrow FieldType.boolean (Value.int (aiN I s b o)) = Value.int (aiN I s b o) := by
  intro o
  cases o with
  | zero => rw [aiN_0]; repeat' split
            all_goals rfl
  | succ o => rw [aiN_s]; repeat' split
              all_goals rfl
theorem apN_z : ∀ s, narrow FieldType.boolean (Value.int (apN I s)) = Value.int (apN I s) := by
  intro s
  cases s with
  | zero => rw [apN_0]; rfl
  | succ s => rw [apN_s]; exact aiN_z s
set_option maxRecDepth 100000 in
set_option maxHeartbeats 4000000 in
theorem lm_api {P : Option Value → Mem → Prop} {s : Nat} (hs : s < 3) (kont : Ex G mdX12_areApart 93 [some (.ref 200), some (.int (aiN I s (apN I s) s)), some (.int (nI s)), some (.int (nI s))] [] (mk I L t) 0 0 P) : Ex G mdX12_areApart 39 [some (.ref 200), some (.int (aiN I s (apN I s) 0)), some (.int (nI s)), some (.int (nI 0))] [] (mk I L t) 0 0 P := by
  refine loop_up (G := G) (d := mdX12_areApart) (pc := 39) (st := []) (uc := 0) (us := 0) (P := P) s (fun k => mk I L t) (fun k => [some (.ref 200), some (.int (aiN I s (apN I s) k)), some (.int (nI s)), some (.int (nI k))]) ?_ ?_ 0 (Nat.zero_le _)
  · intro k hk ih
    refine ex_iload_n dX12_areApart_39 rfl ?_
    refine ex_iload_n dX12_areApart_40 rfl ?_
    refine ex_icmp_ge 93 dX12_areApart_41 (by decide) (fun h41 => ?_) (fun h41 => ?_)
    · exact absurd h41 (nI_ge hk (by omega))
    · skip
      refine ex_iload_n dX12_areApart_44 rfl ?_
      refine ex_if_eq 85 dX12_areApart_45 (by decide) (fun h45 => ?_) (fun h45 => ?_)
      · have hc : aiN I s (apN I s) (k + 1) = 0 := by rw [aiN_s, if_pos h45]
        refine ex_iconst (v := 0) dX12_areApart_85 (by decide) ?_
        refine st_i1 dX12_areApart_86 (by first | exact rfl | exact trivial) ?_
        refine inc3 (v := _ + 1) dX12_areApart_87 (by rfl) (by first | exact rfl | exact trivial) ?_
        refine ex_goto 39 dX12_areApart_90 (by decide) ?_
        rw [nI_1]
        rw [hc] at ih
        exact ih
      · skip
        refine ex_aload_n dX12_areApart_48 rfl ?_
        refine g_12_20 dX12_areApart_49 rfl wf_X12_51 (by first | assumption | rfl) (show Rt _ 200 20 = some 214 from rfl) ?_
        refine ex_iload_n dX12_areApart_52 rfl ?_
        refine rx_zald dX12_areApart_53 (by first | assumption | rfl) (vp_in_nI hs (by decide)) ?_
        rw [nI_clamp (by omega)]
        refine ex_if_eq 81 dX12_areApart_54 (by decide) (fun h54 => ?_) (fun h54 => ?_)
        · have hc : aiN I s (apN I s) (k + 1) = 1 := by rw [aiN_s, if_neg h45, if_pos h54]
          refine ex_iconst (v := 1) dX12_areApart_81 (by decide) ?_
          refine ex_goto 86 dX12_areApart_82 (by decide) ?_
          refine st_i1 dX12_areApart_86 (by first | exact rfl | exact trivial) ?_
          refine inc3 (v := _ + 1) dX12_areApart_87 (by rfl) (by first | exact rfl | exact trivial) ?_
          refine ex_goto 39 dX12_areApart_90 (by decide) ?_
          rw [nI_1]
          rw [hc] at ih
          exact ih
        · skip
          refine ex_aload_n dX12_areApart_57 rfl ?_
          refine g_12_20 dX12_areApart_58 rfl wf_X12_51 (by first | assumption | rfl) (show Rt _ 200 20 = some 214 from rfl) ?_
          refine ex_iload_n dX12_areApart_61 rfl ?_
          refine rx_zald dX12_areApart_62 (by first | assumption | rfl) (vp_in_nI (by omega) (by decide)) ?_
          rw [nI_clamp (by omega)]
          refine ex_if_eq 81 dX12_areApart_63 (by decide) (fun h63 => ?_) (fun h63 => ?_)
          · have hc : aiN I s (apN I s) (k + 1) = 1 := by rw [aiN_s, if_neg h45, if_neg h54, if_pos h63]
            refine ex_iconst (v := 1) dX12_areApart_81 (by decide) ?_
            refine ex_goto 86 dX12_areApart_82 (by decide) ?_
            refine st_i1 dX12_areApart_86 (by first | exact rfl | exact trivial) ?_
            refine inc3 (v := _ + 1) dX12_areApart_87 (by rfl) (by first | exact rfl | exact trivial) ?_
            refine ex_goto 39 dX12_areApart_90 (by decide) ?_
            rw [nI_1]
            rw [hc] at ih
            exact ih
          · skip
            refine ex_aload_n dX12_areApart_66 rfl ?_
            refine g_12_36 dX12_areApart_67 rfl wf_X12_72 (by first | assumption | rfl) (show Rt _ 200 36 = some 221 from rfl) ?_
            refine ex_iload_n dX12_areApart_70 rfl ?_
            refine rx_iald dX12_areApart_71 (by first | assumption | rfl) (vp_in_nI hs (by decide)) ?_
            rw [nI_clamp (by omega)]
            refine ex_aload_n dX12_areApart_72 rfl ?_
            refine g_12_36 dX12_areApart_73 rfl wf_X12_72 (by first | assumption | rfl) (show Rt _ 200 36 = some 221 from rfl) ?_
            refine ex_iload_n dX12_areApart_76 rfl ?_
            refine rx_iald dX12_areApart_77 (by first | assumption | rfl) (vp_in_nI (by omega) (by decide)) ?_
            rw [nI_clamp (by omega)]
            refine ex_icmp_eq 85 dX12_areApart_78 (by decide) (fun h78 => ?_) (fun h78 => ?_)
            · have hc : aiN I s (apN I s) (k + 1) = 0 := by rw [aiN_s, if_neg h45, if_neg h54, if_neg h63, if_pos h78]
              refine ex_iconst (v := 0) dX12_areApart_85 (by decide) ?_
              refine st_i1 dX12_areApart_86 (by first | exact rfl | exact trivial) ?_
              refine inc3 (v := _ + 1) dX12_areApart_87 (by rfl) (by first | exact rfl | exact trivial) ?_
              refine ex_goto 39 dX12_areApart_90 (by decide) ?_
              rw [nI_1]
              rw [hc] at ih
              exact ih
            · have hc : aiN I s (apN I s) (k + 1) = 1 := by rw [aiN_s, if_neg h45, if_neg h54, if_neg h63, if_neg h78]
              refine ex_iconst (v := 1) dX12_areApart_81 (by decide) ?_
              refine ex_goto 86 dX12_areApart_82 (by decide) ?_
              refine st_i1 dX12_areApart_86 (by first | exact rfl | exact trivial) ?_
              refine inc3 (v := _ + 1) dX12_areApart_87 (by rfl) (by first | exact rfl | exact trivial) ?_
              refine ex_goto 39 dX12_areApart_90 (by decide) ?_
              rw [nI_1]
              rw [hc] at ih
              exact ih
  · skip
    refine ex_iload_n dX12_areApart_39 rfl ?_
    refine ex_iload_n dX12_areApart_40 rfl ?_
    refine ex_icmp_ge 93 dX12_areApart_41 (by decide) (fun h41 => ?_) (fun h41 => ?_)
    · skip
      exact kont
    · exact absurd (Int32.le_refl _) h41
theorem lm_api0 {P : Option Value → Mem → Prop} {s : Nat} {b : Int32} (hs : s < 3) (hb : aiN I s (apN I s) 0 = b) (kont : Ex G mdX12_areApart 93 [some (.ref 200), some (.int (apN I (s + 1))), some (.int (nI s)), none] [] (mk I L t) 0 0 P) : Ex G mdX12_areApart 39 [some (.ref 200), some (.int b), some (.int (nI s)), some (.int 0)] [] (mk I L t) 0 0 P := by
  rw [apN_s] at kont
  subst hb
  exact lm_api (G := G) (I := I) (L := L) hs (P := P) (fg3 kont)
set_option maxRecDepth 100000 in
set_option maxHeartbeats 4000000 in
theorem s_X12_areApart  : Ca G mdX12_areApart [.ref 200] (mk I L t) (Rs (.int (apN I 3)) (mk I L t)) := by
  refine Ca.intro [some (.ref 200), none, none, none] (by decide) (Nat.le_of_ble_eq_true rfl) rfl rfl ?_
  refine ex_iconst (v := 1) dX12_areApart_0 (by decide) ?_
  refine st_i1 dX12_areApart_1 (by first | exact rfl | exact trivial) ?_
  refine ex_iconst (v := 0) dX12_areApart_2 (by decide) ?_
  refine st_i2 dX12_areApart_3 (by first | exact rfl | exact trivial) ?_
  have key := loop_up (G := G) (d := mdX12_areApart) (pc := 4) (st := []) (uc := 0) (us := 0) (P := Rs (.int (apN I 3)) (mk I L t)) 3 (fun k => mk I L t) (fun k => [some (.ref 200), some (.int (apN I k)), some (.int (nI k)), none]) ?_ ?_ 0 (Nat.zero_le _)
  · rw [apN_0] at key
    exact key
  · intro k hk ih
    refine ex_iload_n dX12_areApart_4 rfl ?_
    refine ex_iconst (v := 3) dX12_areApart_5 (by decide) ?_
    refine ex_icmp_ge 99 dX12_areApart_6 (by decide) (fun h6 => ?_) (fun h6 => ?_)
    · exact absurd h6 (nI_ge hk (by decide))
    · skip
      refine ex_iload_n dX12_areApart_9 rfl ?_
      refine ex_if_eq 35 dX12_areApart_10 (by decide) (fun h10 => ?_) (fun h10 => ?_)
      · have hc : aiN I k (apN I k) 0 = 0 := by rw [aiN_0, if_pos h10]
        refine ex_iconst (v := 0) dX12_areApart_35 (by decide) ?_
        refine st_i1 dX12_areApart_36 (by first | exact rfl | exact trivial) ?_
        refine ex_iconst (v := 0) dX12_areApart_37 (by decide) ?_
        refine st_i3 dX12_areApart_38 (by first | exact rfl | exact trivial) ?_
        refine lm_api0 hk hc ?_
        refine inc2 (v := _ + 1) dX12_areApart_93 (by rfl) (by first | exact rfl | exact trivial) ?_
        refine ex_goto 4 dX12_areApart_96 (by decide) ?_
        rw [nI_1]
        exact ih
      · skip
        refine ex_aload_n dX12_areApart_13 rfl ?_
        refine g_12_20 dX12_areApart_14 rfl wf_X12_51 (by first | assumption | rfl) (show Rt _ 200 20 = some 214 from rfl) ?_
        refine ex_iload_n dX12_areApart_17 rfl ?_
        refine rx_zald dX12_areApart_18 (by first | assumption | rfl) (vp_in_nI hk (by decide)) ?_
        rw [nI_clamp (by omega)]
        refine ex_if_ne 31 dX12_areApart_19 (by decide) (fun h19 => ?_) (fun h19 => ?_)
        · have hc : aiN I k (apN I k) 0 = 1 := by rw [aiN_0, if_neg h10, if_neg h19]
          refine ex_iconst (v := 1) dX12_areApart_31 (by decide) ?_
          refine ex_goto 36 dX12_areApart_32 (by decide) ?_
          refine st_i1 dX12_areApart_36 (by first | exact rfl | exact trivial) ?_
          refine ex_iconst (v := 0) dX12_areApart_37 (by decide) ?_
          refine st_i3 dX12_areApart_38 (by first | exact rfl | exact trivial) ?_
          refine lm_api0 hk hc ?_
          refine inc2 (v := _ + 1) dX12_areApart_93 (by rfl) (by first | exact rfl | exact trivial) ?_
          refine ex_goto 4 dX12_areApart_96 (by decide) ?_
          rw [nI_1]
          exact ih
        · skip
          refine ex_aload_n dX12_areApart_22 rfl ?_
          refine g_12_36 dX12_areApart_23 rfl wf_X12_72 (by first | assumption | rfl) (show Rt _ 200 36 = some 221 from rfl) ?_
          refine ex_iload_n dX12_areApart_26 rfl ?_
          refine rx_iald dX12_areApart_27 (by first | assumption | rfl) (vp_in_nI hk (by decide)) ?_
          rw [nI_clamp (by omega)]
          refine ex_if_ne 35 dX12_areApart_28 (by decide) (fun h28 => ?_) (fun h28 => ?_)
          · have hc : aiN I k (apN I k) 0 = 0 := by rw [aiN_0, if_neg h10, if_pos h19, if_neg h28]
            refine ex_iconst (v := 0) dX12_areApart_35 (by decide) ?_
            refine st_i1 dX12_areApart_36 (by first | exact rfl | exact trivial) ?_
            refine ex_iconst (v := 0) dX12_areApart_37 (by decide) ?_
            refine st_i3 dX12_areApart_38 (by first | exact rfl | exact trivial) ?_
            refine lm_api0 hk hc ?_
            refine inc2 (v := _ + 1) dX12_areApart_93 (by rfl) (by first | exact rfl | exact trivial) ?_
            refine ex_goto 4 dX12_areApart_96 (by decide) ?_
            rw [nI_1]
            exact ih
          · have hc : aiN I k (apN I k) 0 = 1 := by rw [aiN_0, if_neg h10, if_pos h19, if_pos h28]
            refine ex_iconst (v := 1) dX12_areApart_31 (by decide) ?_
            refine ex_goto 36 dX12_areApart_32 (by decide) ?_
            refine st_i1 dX12_areApart_36 (by first | exact rfl | exact trivial) ?_
            refine ex_iconst (v := 0) dX12_areApart_37 (by decide) ?_
            refine st_i3 dX12_areApart_38 (by first | exact rfl | exact trivial) ?_
            refine lm_api0 hk hc ?_
            refine inc2 (v := _ + 1) dX12_areApart_93 (by rfl) (by first | exact rfl | exact trivial) ?_
            refine ex_goto 4 dX12_areApart_96 (by decide) ?_
            rw [nI_1]
            exact ih
  · skip
    refine ex_iload_n dX12_areApart_4 rfl ?_
    refine ex_iconst (v := 3) dX12_areApart_5 (by decide) ?_
    refine ex_icmp_ge 99 dX12_areApart_6 (by decide) (fun h6 => ?_) (fun h6 => ?_)
    · skip
      refine ex_iload_n dX12_areApart_99 rfl ?_
      refine ex_iret dX12_areApart_100 rfl (apN_z 3) ⟨rfl, Nat.le_refl _⟩ ?_
      exact ⟨rfl, rfl⟩
    · exact absurd (by decide : nI 3 ≤ nI 3) h6
end M17
