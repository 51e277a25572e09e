section M14
variable {G : Gp} {I : Im} {L : Nat → Nat → Int64} {t : Nat}
def Kp (a i : Int32) (x : Int32 × Im) : Prop := (x.1 = 2 ∨ x.1 = 4 → vp_in a 4 ∧ vp_in i 4) ∧ (0 ≤ x.1 → ¬ x.1 = 2 → CrGm x.2 ∧ 2 ≤ x.2 200 27)
theorem kpN {a i r : Int32} {J : Im} (hr : r = -1 ∨ r = -3 ∨ r = -4) : Kp a i (r, J) := by
  rcases hr with rfl | rfl | rfl
  · exact ⟨fun z => absurd (show ((-1 : Int32) = 2 ∨ (-1 : Int32) = 4) from z) (by decide), fun z => absurd (show (0 : Int32) ≤ -1 from z) (by decide)⟩
  · exact ⟨fun z => absurd (show ((-3 : Int32) = 2 ∨ (-3 : Int32) = 4) from z) (by decide), fun z => absurd (show (0 : Int32) ≤ -3 from z) (by decide)⟩
  · exact ⟨fun z => absurd (show ((-4 : Int32) = 2 ∨ (-4 : Int32) = 4) from z) (by decide), fun z => absurd (show (0 : Int32) ≤ -4 from z) (by decide)⟩
theorem kpB {a i r : Int32} {J : Im} (hr : r = 1 ∨ r = 3 ∨ r = 5) (hG : CrGm J) (h : ¬ b2i (2 ≤ J 200 27) = 0) : Kp a i (r, J) := by
  refine ⟨fun z => ?_, fun _ _ => ⟨hG, b2i_n0.mp h⟩⟩
  rcases hr with rfl | rfl | rfl
  · exact absurd (show ((1 : Int32) = 2 ∨ (1 : Int32) = 4) from z) (by decide)
  · exact absurd (show ((3 : Int32) = 2 ∨ (3 : Int32) = 4) from z) (by decide)
  · exact absurd (show ((5 : Int32) = 2 ∨ (5 : Int32) = 4) from z) (by decide)
theorem kp_ring {k c : Int32} : Kp k c (f_X12_kindOfRing I k c) := by
  unfold f_X12_kindOfRing
  split
  · exact kpN (Or.inl rfl)
  split
  · exact kpN (Or.inl rfl)
  split
  · exact kpN (Or.inr (Or.inl rfl))
  split
  · by_cases c2 : b2i (2 ≤ lrI I k.toNatClampNeg c.toNatClampNeg 200 27) = 0
    · rw [if_pos c2]
      exact kpN (Or.inr (Or.inl rfl))
    · rw [if_neg c2]
      split
      · exact kpB (Or.inl rfl) lr_G c2
      · exact kpB (Or.inr (Or.inr rfl)) lr_G c2
  · exact kpN (Or.inr (Or.inl rfl))
theorem kp_roll {a i : Int32} : Kp a i (f_X12_kindOfRoll I a) := by
  unfold f_X12_kindOfRoll
  split
  · exact kpN (Or.inl rfl)
  split
  · exact kpN (Or.inr (Or.inr rfl))
  by_cases c2 : b2i (2 ≤ loI I a.toNatClampNeg 200 27) = 0
  · rw [if_pos c2]
    exact kpN (Or.inr (Or.inl rfl))
  · rw [if_neg c2]
    exact kpB (Or.inr (Or.inl rfl)) lo_G c2
theorem kp24 {p : Prop} [Decidable p] {a i : Int32} {J : Im} (hv : vp_in a 4 ∧ vp_in i 4) (hG : CrGm J ∧ 2 ≤ J 200 27) : Kp a i (if p then (2, J) else (4, J)) := by
  split
  · exact ⟨fun _ => hv, fun _ h => absurd rfl h⟩
  · exact ⟨fun _ => hv, fun _ _ => hG⟩
theorem kp_set {z i k : Int32} (hSm : SmS I) : Kp z i (f_X12_kindOfSet I z i k) := by
  unfold f_X12_kindOfSet
  by_cases c1 : b2i (0 ≤ z ∧ z ≤ 3) = 0
  · rw [if_pos c1]
    exact kpN (Or.inl rfl)
  rw [if_neg c1]
  split
  · exact kpN (Or.inl rfl)
  split
  · exact kpN (Or.inr (Or.inl rfl))
  split
  · exact kpN (Or.inr (Or.inl rfl))
  by_cases c5 : b2i (0 ≤ i ∧ i ≤ I 210 z.toNatClampNeg - 1) = 0
  · rw [if_pos c5]
    exact kpN (Or.inr (Or.inl rfl))
  rw [if_neg c5]
  have hv : vp_in z 4 ∧ vp_in i 4 := ⟨(cl_lt (N := 4) (by decide) c1).2, in_s (N := 4) (by decide) (Or.inr (hSm _ (cl_lt (N := 4) (by decide) c1).1)) c5⟩
  by_cases c6 : b2i (2 ≤ lrI I k.toNatClampNeg (I 208 (21 * k + 1).toNatClampNeg).toNatClampNeg 200 27) = 0
  · rw [if_pos c6]
    exact ⟨fun _ => hv, fun _ h => absurd rfl h⟩
  rw [if_neg c6]
  exact kp24 hv ⟨lr_G, b2i_n0.mp c6⟩
theorem kof {w a i c : Int32} (hSm : SmS I) : Kp a i (f_X12_kindOf I w a i c) := by
  unfold f_X12_kindOf
  split
  · exact kp_ring
  split
  · exact kp_set hSm
  split
  · exact kp_roll
  · exact kpN (Or.inl rfl)
def f_X12_mark1 (I : Im) (w : Int32) (a : Int32) (i : Int32) (c : Int32) : Int32 × Im :=
  if (b2i (1 ≤ ((1 : Int32)) ∧ ((1 : Int32)) ≤ 5)) = 0 then
    ((-1), I)
  else
    let I1 : Im := (f_X12_kindOf I w a i c).2
    if 0 ≤ ((f_X12_kindOf I w a i c).1) then
      if ((f_X12_kindOf I w a i c).1) = ((1 : Int32)) then
        ((I1 200 29 - I1 200 28) / (I1 200 27 - 1), I1)
      else
        if ((f_X12_kindOf I w a i c).1) = 5 then
          ((I1 200 29 - I1 200 28) / (I1 200 27 - 1), I1)
        else
          let I2 : Im := meI I1 3
          ((-3), I2)
    else
      ((f_X12_kindOf I w a i c).1, I1)
set_option maxRecDepth 100000 in
set_option maxHeartbeats 4000000 in
theorem s_X12_mark1  {w : Int32} {a : Int32} {i : Int32} {c : Int32} (hH : HmS I) (hSm : SmS I) (hS : SpS I) : Ca G mdX12_mark [.ref 200, .int w, .int a, .int i, .int c, .int ((1 : Int32))] (mk I L t) (Rs (.int (f_X12_mark1 I w a i c).1) (mk ((f_X12_mark1 I w a i c).2) L t)) := by
  refine Ca.intro [some (.ref 200), some (.int w), some (.int a), some (.int i), some (.int c), some (.int ((1 : Int32))), none] (by decide) (Nat.le_of_ble_eq_true rfl) rfl rfl ?_
  refine ex_iload dX12_mark_0 rfl ?_
  refine ex_iconst (v := 1) dX12_mark_2 (by decide) ?_
  refine ex_iconst (v := 5) dX12_mark_3 (by decide) ?_
  refine rx_cS dX12_mark_4 rfl lk_X12_86 ⟨⟨rfl, rfl⟩, by decide, by decide⟩ rfl (Nat.le_of_ble_eq_true rfl) rfl s_X12_in (Rs.k ?_)
  refine ex_if_ne 12 dX12_mark_7 (by decide) (fun h7 => ?_) (fun h7 => ?_)
  · have kp := kof (I := I) (w := w) (a := a) (i := i) (c := c) hSm
    refine ex_aload_n dX12_mark_12 rfl ?_
    refine ex_iload_n dX12_mark_13 rfl ?_
    refine ex_iload_n dX12_mark_14 rfl ?_
    refine ex_iload_n dX12_mark_15 rfl ?_
    refine ex_iload dX12_mark_16 rfl ?_
    refine rx_cV (kd := 12) dX12_mark_18 rfl lk_X12_295 rfl (by decide) (by first | assumption | rfl) ⟨⟨rfl, rfl⟩, by decide, by decide⟩ rfl (Nat.le_of_ble_eq_true rfl) rfl (s_X12_kindOf hH hSm hS) (Rs.k ?_)
    refine st_i6 dX12_mark_21 (by first | exact rfl | exact trivial) ?_
    refine ex_iload dX12_mark_23 rfl ?_
    refine ex_if_ge 31 dX12_mark_25 (by decide) (fun h25 => ?_) (fun h25 => ?_)
    · skip
      refine ex_iload dX12_mark_31 rfl ?_
      refine ex_iload dX12_mark_33 rfl ?_
      refine ex_icmp_eq 68 dX12_mark_35 (by decide) (fun h35 => ?_) (fun h35 => ?_)
      · have kg := kp.2 h25 (fun z => absurd (h35.symm.trans z) (by decide))
        refine ex_iload dX12_mark_68 rfl ?_
        refine ex_tsw 2 3 [100, 140, 114, 135] 140 dX12_mark_70 (by decide) (by decide) (by decide) (by decide) (by decide) (fun i hi hs => ?_) (fun hs => ?_)
        · rcases (by omega : i = 0 ∨ i = 1 ∨ i = 2 ∨ i = 3) with rfl | rfl | rfl | rfl
          · exact absurd hs (by decide)
          · exact absurd hs (by decide)
          · exact absurd hs (by decide)
          · exact absurd hs (by decide)
        · skip
          refine ex_aload_n dX12_mark_140 rfl ?_
          refine rx_cV (kd := 12) dX12_mark_141 rfl lk_X12_280 rfl (by decide) (by first | assumption | rfl) ⟨⟨rfl, rfl⟩, by decide, by decide⟩ rfl (Nat.le_of_ble_eq_true rfl) rfl (s_X12_beatCut kg.1 kg.2) (Rs.k ?_)
          refine ex_iret dX12_mark_144 rfl rfl ⟨rfl, Nat.le_refl _⟩ ?_
          exact ⟨(by simp only [f_X12_mark1, ↓eq_false h7, ↓h25, ↓eq_true h35, if_true, if_false, not_true_eq_false, not_false_eq_true]), (by simp only [f_X12_mark1, ↓eq_false h7, ↓h25, ↓eq_true h35, if_true, if_false, not_true_eq_false, not_false_eq_true])⟩
      · skip
        refine ex_iload dX12_mark_38 rfl ?_
        refine ex_iconst (v := 1) dX12_mark_40 (by decide) ?_
        refine ex_icmp_ne 50 dX12_mark_41 (by decide) (fun h41 => ?_) (fun h41 => ?_)
        · exact absurd h41 (by decide)
        · skip
          refine ex_iload dX12_mark_44 rfl ?_
          refine ex_iconst (v := 5) dX12_mark_46 (by decide) ?_
          refine ex_icmp_eq 68 dX12_mark_47 (by decide) (fun h47 => ?_) (fun h47 => ?_)
          · have kg := kp.2 h25 (fun z => absurd (h47.symm.trans z) (by decide))
            refine ex_iload dX12_mark_68 rfl ?_
            refine ex_tsw 2 3 [100, 140, 114, 135] 140 dX12_mark_70 (by decide) (by decide) (by decide) (by decide) (by decide) (fun i hi hs => ?_) (fun hs => ?_)
            · rcases (by omega : i = 0 ∨ i = 1 ∨ i = 2 ∨ i = 3) with rfl | rfl | rfl | rfl
              · exact absurd hs (by decide)
              · exact absurd hs (by decide)
              · exact absurd hs (by decide)
              · exact absurd hs (by decide)
            · skip
              refine ex_aload_n dX12_mark_140 rfl ?_
              refine rx_cV (kd := 12) dX12_mark_141 rfl lk_X12_280 rfl (by decide) (by first | assumption | rfl) ⟨⟨rfl, rfl⟩, by decide, by decide⟩ rfl (Nat.le_of_ble_eq_true rfl) rfl (s_X12_beatCut kg.1 kg.2) (Rs.k ?_)
              refine ex_iret dX12_mark_144 rfl rfl ⟨rfl, Nat.le_refl _⟩ ?_
              exact ⟨(by simp only [f_X12_mark1, ↓eq_false h7, ↓h25, ↓eq_false h35, ↓eq_true h47, if_true, if_false, not_true_eq_false, not_false_eq_true]), (by simp only [f_X12_mark1, ↓eq_false h7, ↓h25, ↓eq_false h35, ↓eq_true h47, if_true, if_false, not_true_eq_false, not_false_eq_true])⟩
          · skip
            refine ex_iload dX12_mark_50 rfl ?_
            refine ex_iconst (v := 2) dX12_mark_52 (by decide) ?_
            refine ex_icmp_ne 62 dX12_mark_53 (by decide) (fun h53 => ?_) (fun h53 => ?_)
            · skip
              refine ex_aload_n dX12_mark_62 rfl ?_
              refine ex_iconst (v := 3) dX12_mark_63 (by decide) ?_
              refine rx_cV (kd := 12) dX12_mark_64 rfl lk_X12_100 rfl (by decide) (by first | assumption | rfl) ⟨⟨rfl, rfl⟩, by decide, by decide⟩ rfl (Nat.le_of_ble_eq_true rfl) rfl (s_X12_meets (by unfold vp_in; decide)) (Rs.k ?_)
              refine ex_iret dX12_mark_67 rfl rfl ⟨rfl, Nat.le_refl _⟩ ?_
              exact ⟨(by simp only [f_X12_mark1, ↓eq_false h7, ↓h25, ↓eq_false h35, ↓eq_false h47, if_true, if_false, not_true_eq_false, not_false_eq_true]), (by simp only [f_X12_mark1, ↓eq_false h7, ↓h25, ↓eq_false h35, ↓eq_false h47, if_true, if_false, not_true_eq_false, not_false_eq_true])⟩
            · exact absurd h53 (by decide)
    · skip
      refine ex_iload dX12_mark_28 rfl ?_
      refine ex_iret dX12_mark_30 rfl rfl ⟨rfl, Nat.le_refl _⟩ ?_
      exact ⟨(by simp only [f_X12_mark1, ↓eq_false h7, ↓h25, if_true, if_false, not_true_eq_false, not_false_eq_true]), (by simp only [f_X12_mark1, ↓eq_false h7, ↓h25, if_true, if_false, not_true_eq_false, not_false_eq_true])⟩
  · skip
    refine ex_iconst (v := (-1)) dX12_mark_10 (by decide) ?_
    refine ex_iret dX12_mark_11 rfl rfl ⟨rfl, Nat.le_refl _⟩ ?_
    exact ⟨(by simp only [f_X12_mark1, ↓eq_true h7, if_true, if_false, not_true_eq_false, not_false_eq_true]), (by simp only [f_X12_mark1, ↓eq_true h7, if_true, if_false, not_true_eq_false, not_false_eq_true])⟩
def f_X12_mark2 (I : Im) (w : Int32) (a : Int32) (i : Int32) (c : Int32) : Int32 × Im :=
  if (b2i (1 ≤ ((2 : Int32)) ∧ ((2 : Int32)) ≤ 5)) = 0 then
    ((-1), I)
  else
    let I1 : Im := (f_X12_kindOf I w a i c).2
    if 0 ≤ ((f_X12_kindOf I w a i c).1) then
      if ((f_X12_kindOf I w a i c).1) = ((2 : Int32)) then
        (I1 211 ((8 * a) + (2 * i)).toNatClampNeg, I1)
      else
        if ((f_X12_kindOf I w a i c).1) = 4 then
          (I1 211 ((8 * a) + (2 * i)).toNatClampNeg, I1)
        else
          let I2 : Im := meI I1 3
          ((-3), I2)
    else
      ((f_X12_kindOf I w a i c).1, I1)
set_option maxRecDepth 100000 in
set_option maxHeartbeats 4000000 in
theorem s_X12_mark2  {w : Int32} {a : Int32} {i : Int32} {c : Int32} (hH : HmS I) (hSm : SmS I) (hS : SpS I) : Ca G mdX12_mark [.ref 200, .int w, .int a, .int i, .int c, .int ((2 : Int32))] (mk I L t) (Rs (.int (f_X12_mark2 I w a i c).1) (mk ((f_X12_mark2 I w a i c).2) L t)) := by
  refine Ca.intro [some (.ref 200), some (.int w), some (.int a), some (.int i), some (.int c), some (.int ((2 : Int32))), none] (by decide) (Nat.le_of_ble_eq_true rfl) rfl rfl ?_
  refine ex_iload dX12_mark_0 rfl ?_
  refine ex_iconst (v := 1) dX12_mark_2 (by decide) ?_
  refine ex_iconst (v := 5) dX12_mark_3 (by decide) ?_
  refine rx_cS dX12_mark_4 rfl lk_X12_86 ⟨⟨rfl, rfl⟩, by decide, by decide⟩ rfl (Nat.le_of_ble_eq_true rfl) rfl s_X12_in (Rs.k ?_)
  refine ex_if_ne 12 dX12_mark_7 (by decide) (fun h7 => ?_) (fun h7 => ?_)
  · have kp := kof (I := I) (w := w) (a := a) (i := i) (c := c) hSm
    refine ex_aload_n dX12_mark_12 rfl ?_
    refine ex_iload_n dX12_mark_13 rfl ?_
    refine ex_iload_n dX12_mark_14 rfl ?_
    refine ex_iload_n dX12_mark_15 rfl ?_
    refine ex_iload dX12_mark_16 rfl ?_
    refine rx_cV (kd := 12) dX12_mark_18 rfl lk_X12_295 rfl (by decide) (by first | assumption | rfl) ⟨⟨rfl, rfl⟩, by decide, by decide⟩ rfl (Nat.le_of_ble_eq_true rfl) rfl (s_X12_kindOf hH hSm hS) (Rs.k ?_)
    refine st_i6 dX12_mark_21 (by first | exact rfl | exact trivial) ?_
    refine ex_iload dX12_mark_23 rfl ?_
    refine ex_if_ge 31 dX12_mark_25 (by decide) (fun h25 => ?_) (fun h25 => ?_)
    · skip
      refine ex_iload dX12_mark_31 rfl ?_
      refine ex_iload dX12_mark_33 rfl ?_
      refine ex_icmp_eq 68 dX12_mark_35 (by decide) (fun h35 => ?_) (fun h35 => ?_)
      · have kv := kp.1 (Or.inl h35)
        refine ex_iload dX12_mark_68 rfl ?_
        refine ex_tsw 2 3 [100, 140, 114, 135] 140 dX12_mark_70 (by decide) (by decide) (by decide) (by decide) (by decide) (fun i hi hs => ?_) (fun hs => ?_)
        · rcases (by omega : i = 0 ∨ i = 1 ∨ i = 2 ∨ i = 3) with rfl | rfl | rfl | rfl
          · show Ex G _ 100 _ _ _ _ _ _
            refine ex_aload_n dX12_mark_100 rfl ?_
            refine g_12_14 dX12_mark_101 rfl wf_X12_42 (by first | assumption | rfl) (show Rt _ 200 14 = some 211 from rfl) ?_
            refine ex_bipush (v := 8) dX12_mark_104 (by decide) ?_
            refine ex_iload_n dX12_mark_106 rfl ?_
            refine ex_imul dX12_mark_107 ?_
            refine ex_iconst (v := 2) dX12_mark_108 (by decide) ?_
            refine ex_iload_n dX12_mark_109 rfl ?_
            refine ex_imul dX12_mark_110 ?_
            refine ex_iadd dX12_mark_111 ?_
            refine rx_iald dX12_mark_112 (by first | assumption | rfl) (ix8 kv.1 kv.2).1 ?_
            refine ex_iret dX12_mark_113 rfl rfl ⟨rfl, Nat.le_refl _⟩ ?_
            exact ⟨(by simp only [f_X12_mark2, ↓eq_false h7, ↓h25, ↓eq_true h35, if_true, if_false, not_true_eq_false, not_false_eq_true]), (by simp only [f_X12_mark2, ↓eq_false h7, ↓h25, ↓eq_true h35, if_true, if_false, not_true_eq_false, not_false_eq_true])⟩
          · exact absurd hs (by decide)
          · exact absurd hs (by decide)
          · exact absurd hs (by decide)
        · exact absurd (by decide) (hs 0 (by decide))
      · skip
        refine ex_iload dX12_mark_38 rfl ?_
        refine ex_iconst (v := 1) dX12_mark_40 (by decide) ?_
        refine ex_icmp_ne 50 dX12_mark_41 (by decide) (fun h41 => ?_) (fun h41 => ?_)
        · skip
          refine ex_iload dX12_mark_50 rfl ?_
          refine ex_iconst (v := 2) dX12_mark_52 (by decide) ?_
          refine ex_icmp_ne 62 dX12_mark_53 (by decide) (fun h53 => ?_) (fun h53 => ?_)
          · exact absurd h53 (by decide)
          · skip
            refine ex_iload dX12_mark_56 rfl ?_
            refine ex_iconst (v := 4) dX12_mark_58 (by decide) ?_
            refine ex_icmp_eq 68 dX12_mark_59 (by decide) (fun h59 => ?_) (fun h59 => ?_)
            · have kv := kp.1 (Or.inr h59)
              refine ex_iload dX12_mark_68 rfl ?_
              refine ex_tsw 2 3 [100, 140, 114, 135] 140 dX12_mark_70 (by decide) (by decide) (by decide) (by decide) (by decide) (fun i hi hs => ?_) (fun hs => ?_)
              · rcases (by omega : i = 0 ∨ i = 1 ∨ i = 2 ∨ i = 3) with rfl | rfl | rfl | rfl
                · show Ex G _ 100 _ _ _ _ _ _
                  refine ex_aload_n dX12_mark_100 rfl ?_
                  refine g_12_14 dX12_mark_101 rfl wf_X12_42 (by first | assumption | rfl) (show Rt _ 200 14 = some 211 from rfl) ?_
                  refine ex_bipush (v := 8) dX12_mark_104 (by decide) ?_
                  refine ex_iload_n dX12_mark_106 rfl ?_
                  refine ex_imul dX12_mark_107 ?_
                  refine ex_iconst (v := 2) dX12_mark_108 (by decide) ?_
                  refine ex_iload_n dX12_mark_109 rfl ?_
                  refine ex_imul dX12_mark_110 ?_
                  refine ex_iadd dX12_mark_111 ?_
                  refine rx_iald dX12_mark_112 (by first | assumption | rfl) (ix8 kv.1 kv.2).1 ?_
                  refine ex_iret dX12_mark_113 rfl rfl ⟨rfl, Nat.le_refl _⟩ ?_
                  exact ⟨(by simp only [f_X12_mark2, ↓eq_false h7, ↓h25, ↓eq_false h35, ↓eq_true h59, if_true, if_false, not_true_eq_false, not_false_eq_true]), (by simp only [f_X12_mark2, ↓eq_false h7, ↓h25, ↓eq_false h35, ↓eq_true h59, if_true, if_false, not_true_eq_false, not_false_eq_true])⟩
                · exact absurd hs (by decide)
                · exact absurd hs (by decide)
                · exact absurd hs (by decide)
              · exact absurd (by decide) (hs 0 (by decide))
            · skip
              refine ex_aload_n dX12_mark_62 rfl ?_
              refine ex_iconst (v := 3) dX12_mark_63 (by decide) ?_
              refine rx_cV (kd := 12) dX12_mark_64 rfl lk_X12_100 rfl (by decide) (by first | assumption | rfl) ⟨⟨rfl, rfl⟩, by decide, by decide⟩ rfl (Nat.le_of_ble_eq_true rfl) rfl (s_X12_meets (by unfold vp_in; decide)) (Rs.k ?_)
              refine ex_iret dX12_mark_67 rfl rfl ⟨rfl, Nat.le_refl _⟩ ?_
              exact ⟨(by simp only [f_X12_mark2, ↓eq_false h7, ↓h25, ↓eq_false h35, ↓eq_false h59, if_true, if_false, not_true_eq_false, not_false_eq_true]), (by simp only [f_X12_mark2, ↓eq_false h7, ↓h25, ↓eq_false h35, ↓eq_false h59, if_true, if_false, not_true_eq_false, not_false_eq_true])⟩
        · exact absurd h41 (by decide)
    · skip
      refine ex_iload dX12_mark_28 rfl ?_
      refine ex_iret dX12_mark_30 rfl rfl ⟨rfl, Nat.le_refl _⟩ ?_
      exact ⟨(by simp only [f_X12_mark2, ↓eq_false h7, ↓h25, if_true, if_false, not_true_eq_false, not_false_eq_true]), (by simp only [f_X12_mark2, ↓eq_false h7, ↓h25, if_true, if_false, not_true_eq_false, not_false_eq_true])⟩
  · skip
    refine ex_iconst (v := (-1)) dX12_mark_10 (by decide) ?_
    refine ex_iret dX12_mark_11 rfl rfl ⟨rfl, Nat.le_refl _⟩ ?_
    exact ⟨(by simp only [f_X12_mark2, ↓eq_true h7, if_true, if_false, not_true_eq_false, not_false_eq_true]), (by simp only [f_X12_mark2, ↓eq_true h7, if_true, if_false, not_true_eq_false, not_false_eq_true])⟩
def f_X12_mark3 (I : Im) (w : Int32) (a : Int32) (i : Int32) (c : Int32) : Int32 × Im :=
  if (b2i (1 ≤ ((3 : Int32)) ∧ ((3 : Int32)) ≤ 5)) = 0 then
    ((-1), I)
  else
    let I1 : Im := (f_X12_kindOf I w a i c).2
    if 0 ≤ ((f_X12_kindOf I w a i c).1) then
      if ((f_X12_kindOf I w a i c).1) = ((3 : Int32)) then
        ((I1 200 29 - I1 200 28) / (I1 200 27 - 1), I1)
      else
        let I2 : Im := meI I1 3
        ((-3), I2)
    else
      ((f_X12_kindOf I w a i c).1, I1)
set_option maxRecDepth 100000 in
set_option maxHeartbeats 4000000 in
theorem s_X12_mark3  {w : Int32} {a : Int32} {i : Int32} {c : Int32} (hH : HmS I) (hSm : SmS I) (hS : SpS I) : Ca G mdX12_mark [.ref 200, .int w, .int a, .int i, .int c, .int ((3 : Int32))] (mk I L t) (Rs (.int (f_X12_mark3 I w a i c).1) (mk ((f_X12_mark3 I w a i c).2) L t)) := by
  refine Ca.intro [some (.ref 200), some (.int w), some (.int a), some (.int i), some (.int c), some (.int ((3 : Int32))), none] (by decide) (Nat.le_of_ble_eq_true rfl) rfl rfl ?_
  refine ex_iload dX12_mark_0 rfl ?_
  refine ex_iconst (v := 1) dX12_mark_2 (by decide) ?_
  refine ex_iconst (v := 5) dX12_mark_3 (by decide) ?_
  refine rx_cS dX12_mark_4 rfl lk_X12_86 ⟨⟨rfl, rfl⟩, by decide, by decide⟩ rfl (Nat.le_of_ble_eq_true rfl) rfl s_X12_in (Rs.k ?_)
  refine ex_if_ne 12 dX12_mark_7 (by decide) (fun h7 => ?_) (fun h7 => ?_)
  · have kp := kof (I := I) (w := w) (a := a) (i := i) (c := c) hSm
    refine ex_aload_n dX12_mark_12 rfl ?_
    refine ex_iload_n dX12_mark_13 rfl ?_
    refine ex_iload_n dX12_mark_14 rfl ?_
    refine ex_iload_n dX12_mark_15 rfl ?_
    refine ex_iload dX12_mark_16 rfl ?_
    refine rx_cV (kd := 12) dX12_mark_18 rfl lk_X12_295 rfl (by decide) (by first | assumption | rfl) ⟨⟨rfl, rfl⟩, by decide, by decide⟩ rfl (Nat.le_of_ble_eq_true rfl) rfl (s_X12_kindOf hH hSm hS) (Rs.k ?_)
    refine st_i6 dX12_mark_21 (by first | exact rfl | exact trivial) ?_
    refine ex_iload dX12_mark_23 rfl ?_
    refine ex_if_ge 31 dX12_mark_25 (by decide) (fun h25 => ?_) (fun h25 => ?_)
    · skip
      refine ex_iload dX12_mark_31 rfl ?_
      refine ex_iload dX12_mark_33 rfl ?_
      refine ex_icmp_eq 68 dX12_mark_35 (by decide) (fun h35 => ?_) (fun h35 => ?_)
      · have kg := kp.2 h25 (fun z => absurd (h35.symm.trans z) (by decide))
        refine ex_iload dX12_mark_68 rfl ?_
        refine ex_tsw 2 3 [100, 140, 114, 135] 140 dX12_mark_70 (by decide) (by decide) (by decide) (by decide) (by decide) (fun i hi hs => ?_) (fun hs => ?_)
        · rcases (by omega : i = 0 ∨ i = 1 ∨ i = 2 ∨ i = 3) with rfl | rfl | rfl | rfl
          · exact absurd hs (by decide)
          · show Ex G _ 140 _ _ _ _ _ _
            refine ex_aload_n dX12_mark_140 rfl ?_
            refine rx_cV (kd := 12) dX12_mark_141 rfl lk_X12_280 rfl (by decide) (by first | assumption | rfl) ⟨⟨rfl, rfl⟩, by decide, by decide⟩ rfl (Nat.le_of_ble_eq_true rfl) rfl (s_X12_beatCut kg.1 kg.2) (Rs.k ?_)
            refine ex_iret dX12_mark_144 rfl rfl ⟨rfl, Nat.le_refl _⟩ ?_
            exact ⟨(by simp only [f_X12_mark3, ↓eq_false h7, ↓h25, ↓eq_true h35, if_true, if_false, not_true_eq_false, not_false_eq_true]), (by simp only [f_X12_mark3, ↓eq_false h7, ↓h25, ↓eq_true h35, if_true, if_false, not_true_eq_false, not_false_eq_true])⟩
          · exact absurd hs (by decide)
          · exact absurd hs (by decide)
        · exact absurd (by decide) (hs 1 (by decide))
      · skip
        refine ex_iload dX12_mark_38 rfl ?_
        refine ex_iconst (v := 1) dX12_mark_40 (by decide) ?_
        refine ex_icmp_ne 50 dX12_mark_41 (by decide) (fun h41 => ?_) (fun h41 => ?_)
        · skip
          refine ex_iload dX12_mark_50 rfl ?_
          refine ex_iconst (v := 2) dX12_mark_52 (by decide) ?_
          refine ex_icmp_ne 62 dX12_mark_53 (by decide) (fun h53 => ?_) (fun h53 => ?_)
          · skip
            refine ex_aload_n dX12_mark_62 rfl ?_
            refine ex_iconst (v := 3) dX12_mark_63 (by decide) ?_
            refine rx_cV (kd := 12) dX12_mark_64 rfl lk_X12_100 rfl (by decide) (by first | assumption | rfl) ⟨⟨rfl, rfl⟩, by decide, by decide⟩ rfl (Nat.le_of_ble_eq_true rfl) rfl (s_X12_meets (by unfold vp_in; decide)) (Rs.k ?_)
            refine ex_iret dX12_mark_67 rfl rfl ⟨rfl, Nat.le_refl _⟩ ?_
            exact ⟨(by simp only [f_X12_mark3, ↓eq_false h7, ↓h25, ↓eq_false h35, if_true, if_false, not_true_eq_false, not_false_eq_true]), (by simp only [f_X12_mark3, ↓eq_false h7, ↓h25, ↓eq_false h35, if_true, if_false, not_true_eq_false, not_false_eq_true])⟩
          · exact absurd h53 (by decide)
        · exact absurd h41 (by decide)
    · skip
      refine ex_iload dX12_mark_28 rfl ?_
      refine ex_iret dX12_mark_30 rfl rfl ⟨rfl, Nat.le_refl _⟩ ?_
      exact ⟨(by simp only [f_X12_mark3, ↓eq_false h7, ↓h25, if_true, if_false, not_true_eq_false, not_false_eq_true]), (by simp only [f_X12_mark3, ↓eq_false h7, ↓h25, if_true, if_false, not_true_eq_false, not_false_eq_true])⟩
  · skip
    refine ex_iconst (v := (-1)) dX12_mark_10 (by decide) ?_
    refine ex_iret dX12_mark_11 rfl rfl ⟨rfl, Nat.le_refl _⟩ ?_
    exact ⟨(by simp only [f_X12_mark3, ↓eq_true h7, if_true, if_false, not_true_eq_false, not_false_eq_true]), (by simp only [f_X12_mark3, ↓eq_true h7, if_true, if_false, not_true_eq_false, not_false_eq_true])⟩
def f_X12_mark4 (I : Im) (w : Int32) (a : Int32) (i : Int32) (c : Int32) : Int32 × Im :=
  if (b2i (1 ≤ ((4 : Int32)) ∧ ((4 : Int32)) ≤ 5)) = 0 then
    ((-1), I)
  else
    let I1 : Im := (f_X12_kindOf I w a i c).2
    if 0 ≤ ((f_X12_kindOf I w a i c).1) then
      if ((f_X12_kindOf I w a i c).1) = ((4 : Int32)) then
        ((if (I1 211 ((8 * a) + (2 * i)).toNatClampNeg) < ((I1 200 29 - I1 200 28) / (I1 200 27 - 1)) then ((I1 200 29 - I1 200 28) / (I1 200 27 - 1)) - (I1 211 ((8 * a) + (2 * i)).toNatClampNeg) else (I1 211 ((8 * a) + (2 * i)).toNatClampNeg) - ((I1 200 29 - I1 200 28) / (I1 200 27 - 1))), I1)
      else
        let I2 : Im := meI I1 3
        ((-3), I2)
    else
      ((f_X12_kindOf I w a i c).1, I1)
set_option maxRecDepth 100000 in
set_option maxHeartbeats 4000000 in
theorem s_X12_mark4  {w : Int32} {a : Int32} {i : Int32} {c : Int32} (hH : HmS I) (hSm : SmS I) (hS : SpS I) : Ca G mdX12_mark [.ref 200, .int w, .int a, .int i, .int c, .int ((4 : Int32))] (mk I L t) (Rs (.int (f_X12_mark4 I w a i c).1) (mk ((f_X12_mark4 I w a i c).2) L t)) := by
  refine Ca.intro [some (.ref 200), some (.int w), some (.int a), some (.int i), some (.int c), some (.int ((4 : Int32))), none] (by decide) (Nat.le_of_ble_eq_true rfl) rfl rfl ?_
  refine ex_iload dX12_mark_0 rfl ?_
  refine ex_iconst (v := 1) dX12_mark_2 (by decide) ?_
  refine ex_iconst (v := 5) dX12_mark_3 (by decide) ?_
  refine rx_cS dX12_mark_4 rfl lk_X12_86 ⟨⟨rfl, rfl⟩, by decide, by decide⟩ rfl (Nat.le_of_ble_eq_true rfl) rfl s_X12_in (Rs.k ?_)
  refine ex_if_ne 12 dX12_mark_7 (by decide) (fun h7 => ?_) (fun h7 => ?_)
  · have kp := kof (I := I) (w := w) (a := a) (i := i) (c := c) hSm
    refine ex_aload_n dX12_mark_12 rfl ?_
    refine ex_iload_n dX12_mark_13 rfl ?_
    refine ex_iload_n dX12_mark_14 rfl ?_
    refine ex_iload_n dX12_mark_15 rfl ?_
    refine ex_iload dX12_mark_16 rfl ?_
    refine rx_cV (kd := 12) dX12_mark_18 rfl lk_X12_295 rfl (by decide) (by first | assumption | rfl) ⟨⟨rfl, rfl⟩, by decide, by decide⟩ rfl (Nat.le_of_ble_eq_true rfl) rfl (s_X12_kindOf hH hSm hS) (Rs.k ?_)
    refine st_i6 dX12_mark_21 (by first | exact rfl | exact trivial) ?_
    refine ex_iload dX12_mark_23 rfl ?_
    refine ex_if_ge 31 dX12_mark_25 (by decide) (fun h25 => ?_) (fun h25 => ?_)
    · skip
      refine ex_iload dX12_mark_31 rfl ?_
      refine ex_iload dX12_mark_33 rfl ?_
      refine ex_icmp_eq 68 dX12_mark_35 (by decide) (fun h35 => ?_) (fun h35 => ?_)
      · have kg := kp.2 h25 (fun z => absurd (h35.symm.trans z) (by decide))
        have kv := kp.1 (Or.inr h35)
        refine ex_iload dX12_mark_68 rfl ?_
        refine ex_tsw 2 3 [100, 140, 114, 135] 140 dX12_mark_70 (by decide) (by decide) (by decide) (by decide) (by decide) (fun i hi hs => ?_) (fun hs => ?_)
        · rcases (by omega : i = 0 ∨ i = 1 ∨ i = 2 ∨ i = 3) with rfl | rfl | rfl | rfl
          · exact absurd hs (by decide)
          · exact absurd hs (by decide)
          · show Ex G _ 114 _ _ _ _ _ _
            refine ex_aload_n dX12_mark_114 rfl ?_
            refine g_12_14 dX12_mark_115 rfl wf_X12_42 (by first | assumption | rfl) (show Rt _ 200 14 = some 211 from rfl) ?_
            refine ex_bipush (v := 8) dX12_mark_118 (by decide) ?_
            refine ex_iload_n dX12_mark_120 rfl ?_
            refine ex_imul dX12_mark_121 ?_
            refine ex_iconst (v := 2) dX12_mark_122 (by decide) ?_
            refine ex_iload_n dX12_mark_123 rfl ?_
            refine ex_imul dX12_mark_124 ?_
            refine ex_iadd dX12_mark_125 ?_
            refine rx_iald dX12_mark_126 (by first | assumption | rfl) (ix8 kv.1 kv.2).1 ?_
            refine ex_aload_n dX12_mark_127 rfl ?_
            refine rx_cV (kd := 12) dX12_mark_128 rfl lk_X12_280 rfl (by decide) (by first | assumption | rfl) ⟨⟨rfl, rfl⟩, by decide, by decide⟩ rfl (Nat.le_of_ble_eq_true rfl) rfl (s_X12_beatCut kg.1 kg.2) (Rs.k ?_)
            refine rx_cS dX12_mark_131 rfl lk_X12_283 ⟨⟨rfl, rfl⟩, by decide, by decide⟩ rfl (Nat.le_of_ble_eq_true rfl) rfl s_X12_far (Rs.k ?_)
            refine ex_iret dX12_mark_134 rfl rfl ⟨rfl, Nat.le_refl _⟩ ?_
            exact ⟨(by simp only [f_X12_mark4, ↓eq_false h7, ↓h25, ↓eq_true h35, if_true, if_false, not_true_eq_false, not_false_eq_true]), (by simp only [f_X12_mark4, ↓eq_false h7, ↓h25, ↓eq_true h35, if_true, if_false, not_true_eq_false, not_false_eq_true])⟩
          · exact absurd hs (by decide)
        · exact absurd (by decide) (hs 2 (by decide))
      · skip
        refine ex_iload dX12_mark_38 rfl ?_
        refine ex_iconst (v := 1) dX12_mark_40 (by decide) ?_
        refine ex_icmp_ne 50 dX12_mark_41 (by decide) (fun h41 => ?_) (fun h41 => ?_)
        · skip
          refine ex_iload dX12_mark_50 rfl ?_
          refine ex_iconst (v := 2) dX12_mark_52 (by decide) ?_
          refine ex_icmp_ne 62 dX12_mark_53 (by decide) (fun h53 => ?_) (fun h53 => ?_)
          · skip
            refine ex_aload_n dX12_mark_62 rfl ?_
            refine ex_iconst (v := 3) dX12_mark_63 (by decide) ?_
            refine rx_cV (kd := 12) dX12_mark_64 rfl lk_X12_100 rfl (by decide) (by first | assumption | rfl) ⟨⟨rfl, rfl⟩, by decide, by decide⟩ rfl (Nat.le_of_ble_eq_true rfl) rfl (s_X12_meets (by unfold vp_in; decide)) (Rs.k ?_)
            refine ex_iret dX12_mark_67 rfl rfl ⟨rfl, Nat.le_refl _⟩ ?_
            exact ⟨(by simp only [f_X12_mark4, ↓eq_false h7, ↓h25, ↓eq_false h35, if_true, if_false, not_true_eq_false, not_false_eq_true]), (by simp only [f_X12_mark4, ↓eq_false h7, ↓h25, ↓eq_false h35, if_true, if_false, not_true_eq_false, not_false_eq_true])⟩
          · exact absurd h53 (by decide)
        · exact absurd h41 (by decide)
    · skip
      refine ex_iload dX12_mark_28 rfl ?_
      refine ex_iret dX12_mark_30 rfl rfl ⟨rfl, Nat.le_refl _⟩ ?_
      exact ⟨(by simp only [f_X12_mark4, ↓eq_false h7, ↓h25, if_true, if_false, not_true_eq_false, not_false_eq_true]), (by simp only [f_X12_mark4, ↓eq_false h7, ↓h25, if_true, if_false, not_true_eq_false, not_false_eq_true])⟩
  · skip
    refine ex_iconst (v := (-1)) dX12_mark_10 (by decide) ?_
    refine ex_iret dX12_mark_11 rfl rfl ⟨rfl, Nat.le_refl _⟩ ?_
    exact ⟨(by simp only [f_X12_mark4, ↓eq_true h7, if_true, if_false, not_true_eq_false, not_false_eq_true]), (by simp only [f_X12_mark4, ↓eq_true h7, if_true, if_false, not_true_eq_false, not_false_eq_true])⟩
def f_X12_mark5 (I : Im) (w : Int32) (a : Int32) (i : Int32) (c : Int32) : Int32 × Im :=
  if (b2i (1 ≤ ((5 : Int32)) ∧ ((5 : Int32)) ≤ 5)) = 0 then
    ((-1), I)
  else
    let I1 : Im := (f_X12_kindOf I w a i c).2
    if 0 ≤ ((f_X12_kindOf I w a i c).1) then
      if ((f_X12_kindOf I w a i c).1) = ((5 : Int32)) then
        (nI (lastL (I1 218) 400), I1)
      else
        let I2 : Im := meI I1 3
        ((-3), I2)
    else
      ((f_X12_kindOf I w a i c).1, I1)
set_option maxRecDepth 100000 in
set_option maxHeartbeats 4000000 in
theorem s_X12_mark5  {w : Int32} {a : Int32} {i : Int32} {c : Int32} (hH : HmS I) (hSm : SmS I) (hS : SpS I) : Ca G mdX12_mark [.ref 200, .int w, .int a, .int i, .int c, .int ((5 : Int32))] (mk I L t) (Rs (.int (f_X12_mark5 I w a i c).1) (mk ((f_X12_mark5 I w a i c).2) L t)) := by
  refine Ca.intro [some (.ref 200), some (.int w), some (.int a), some (.int i), some (.int c), some (.int ((5 : Int32))), none] (by decide) (Nat.le_of_ble_eq_true rfl) rfl rfl ?_
  refine ex_iload dX12_mark_0 rfl ?_
  refine ex_iconst (v := 1) dX12_mark_2 (by decide) ?_
  refine ex_iconst (v := 5) dX12_mark_3 (by decide) ?_
  refine rx_cS dX12_mark_4 rfl lk_X12_86 ⟨⟨rfl, rfl⟩, by decide, by decide⟩ rfl (Nat.le_of_ble_eq_true rfl) rfl s_X12_in (Rs.k ?_)
  refine ex_if_ne 12 dX12_mark_7 (by decide) (fun h7 => ?_) (fun h7 => ?_)
  · have kp := kof (I := I) (w := w) (a := a) (i := i) (c := c) hSm
    refine ex_aload_n dX12_mark_12 rfl ?_
    refine ex_iload_n dX12_mark_13 rfl ?_
    refine ex_iload_n dX12_mark_14 rfl ?_
    refine ex_iload_n dX12_mark_15 rfl ?_
    refine ex_iload dX12_mark_16 rfl ?_
    refine rx_cV (kd := 12) dX12_mark_18 rfl lk_X12_295 rfl (by decide) (by first | assumption | rfl) ⟨⟨rfl, rfl⟩, by decide, by decide⟩ rfl (Nat.le_of_ble_eq_true rfl) rfl (s_X12_kindOf hH hSm hS) (Rs.k ?_)
    refine st_i6 dX12_mark_21 (by first | exact rfl | exact trivial) ?_
    refine ex_iload dX12_mark_23 rfl ?_
    refine ex_if_ge 31 dX12_mark_25 (by decide) (fun h25 => ?_) (fun h25 => ?_)
    · skip
      refine ex_iload dX12_mark_31 rfl ?_
      refine ex_iload dX12_mark_33 rfl ?_
      refine ex_icmp_eq 68 dX12_mark_35 (by decide) (fun h35 => ?_) (fun h35 => ?_)
      · have kg := kp.2 h25 (fun z => absurd (h35.symm.trans z) (by decide))
        refine ex_iload dX12_mark_68 rfl ?_
        refine ex_tsw 2 3 [100, 140, 114, 135] 140 dX12_mark_70 (by decide) (by decide) (by decide) (by decide) (by decide) (fun i hi hs => ?_) (fun hs => ?_)
        · rcases (by omega : i = 0 ∨ i = 1 ∨ i = 2 ∨ i = 3) with rfl | rfl | rfl | rfl
          · exact absurd hs (by decide)
          · exact absurd hs (by decide)
          · exact absurd hs (by decide)
          · show Ex G _ 135 _ _ _ _ _ _
            refine ex_aload_n dX12_mark_135 rfl ?_
            refine rx_cV (kd := 12) dX12_mark_136 rfl lk_X12_277 rfl (by decide) (by first | assumption | rfl) ⟨⟨rfl, rfl⟩, by decide, by decide⟩ rfl (Nat.le_of_ble_eq_true rfl) rfl s_X12_lastLoud (Rs.k ?_)
            refine ex_iret dX12_mark_139 rfl rfl ⟨rfl, Nat.le_refl _⟩ ?_
            exact ⟨(by simp only [f_X12_mark5, ↓eq_false h7, ↓h25, ↓eq_true h35, if_true, if_false, not_true_eq_false, not_false_eq_true]), (by simp only [f_X12_mark5, ↓eq_false h7, ↓h25, ↓eq_true h35, if_true, if_false, not_true_eq_false, not_false_eq_true])⟩
        · exact absurd (by decide) (hs 3 (by decide))
      · skip
        refine ex_iload dX12_mark_38 rfl ?_
        refine ex_iconst (v := 1) dX12_mark_40 (by decide) ?_
        refine ex_icmp_ne 50 dX12_mark_41 (by decide) (fun h41 => ?_) (fun h41 => ?_)
        · skip
          refine ex_iload dX12_mark_50 rfl ?_
          refine ex_iconst (v := 2) dX12_mark_52 (by decide) ?_
          refine ex_icmp_ne 62 dX12_mark_53 (by decide) (fun h53 => ?_) (fun h53 => ?_)
          · skip
            refine ex_aload_n dX12_mark_62 rfl ?_
            refine ex_iconst (v := 3) dX12_mark_63 (by decide) ?_
            refine rx_cV (kd := 12) dX12_mark_64 rfl lk_X12_100 rfl (by decide) (by first | assumption | rfl) ⟨⟨rfl, rfl⟩, by decide, by decide⟩ rfl (Nat.le_of_ble_eq_true rfl) rfl (s_X12_meets (by unfold vp_in; decide)) (Rs.k ?_)
            refine ex_iret dX12_mark_67 rfl rfl ⟨rfl, Nat.le_refl _⟩ ?_
            exact ⟨(by simp only [f_X12_mark5, ↓eq_false h7, ↓h25, ↓eq_false h35, if_true, if_false, not_true_eq_false, not_false_eq_true]), (by simp only [f_X12_mark5, ↓eq_false h7, ↓h25, ↓eq_false h35, if_true, if_false, not_true_eq_false, not_false_eq_true])⟩
          · exact absurd h53 (by decide)
        · exact absurd h41 (by decide)
    · skip
      refine ex_iload dX12_mark_28 rfl ?_
      refine ex_iret dX12_mark_30 rfl rfl ⟨rfl, Nat.le_refl _⟩ ?_
      exact ⟨(by simp only [f_X12_mark5, ↓eq_false h7, ↓h25, if_true, if_false, not_true_eq_false, not_false_eq_true]), (by simp only [f_X12_mark5, ↓eq_false h7, ↓h25, if_true, if_false, not_true_eq_false, not_false_eq_true])⟩
  · skip
    refine ex_iconst (v := (-1)) dX12_mark_10 (by decide) ?_
    refine ex_iret dX12_mark_11 rfl rfl ⟨rfl, Nat.le_refl _⟩ ?_
    exact ⟨(by simp only [f_X12_mark5, ↓eq_true h7, if_true, if_false, not_true_eq_false, not_false_eq_true]), (by simp only [f_X12_mark5, ↓eq_true h7, if_true, if_false, not_true_eq_false, not_false_eq_true])⟩
def f_X12_mark (I : Im) (w a i c as : Int32) : Int32 × Im := if as = 1 then f_X12_mark1 I w a i c else if as = 2 then f_X12_mark2 I w a i c else if as = 3 then f_X12_mark3 I w a i c else if as = 4 then f_X12_mark4 I w a i c else if as = 5 then f_X12_mark5 I w a i c else (-1, I)
set_option maxRecDepth 100000 in
set_option maxHeartbeats 4000000 in
theorem s_X12_markB {w a i c s : Int32} (hb : b2i (1 ≤ s ∧ s ≤ 5) = 0) : Ca G mdX12_mark [.ref 200, .int w, .int a, .int i, .int c, .int s] (mk I L t) (Rs (.int (-1)) (mk I L t)) := by
  refine Ca.intro [some (.ref 200), some (.int w), some (.int a), some (.int i), some (.int c), some (.int s), none] (by decide) (Nat.le_of_ble_eq_true rfl) rfl rfl ?_
  refine ex_iload dX12_mark_0 rfl ?_
  refine ex_iconst (v := 1) dX12_mark_2 (by decide) ?_
  refine ex_iconst (v := 5) dX12_mark_3 (by decide) ?_
  refine rx_cS dX12_mark_4 rfl lk_X12_86 ⟨⟨rfl, rfl⟩, by decide, by decide⟩ rfl (Nat.le_of_ble_eq_true rfl) rfl s_X12_in (Rs.k ?_)
  refine ex_if_ne 12 dX12_mark_7 (by decide) (fun h7 => ?_) (fun h7 => ?_)
  · exact absurd hb h7
  · skip
    refine ex_iconst (v := (-1)) dX12_mark_10 (by decide) ?_
    refine ex_iret dX12_mark_11 rfl rfl ⟨rfl, Nat.le_refl _⟩ ?_
    exact ⟨rfl, rfl⟩
theorem s_X12_mark {w a i c s : Int32} (hH : HmS I) (hSm : SmS I) (hS : SpS I) : Ca G mdX12_mark [.ref 200, .int w, .int a, .int i, .int c, .int s] (mk I L t) (Rs (.int (f_X12_mark I w a i c s).1) (mk (f_X12_mark I w a i c s).2 L t)) := by
  unfold f_X12_mark
  by_cases c1 : s = 1
  · subst c1
    rw [if_pos rfl]
    exact s_X12_mark1 hH hSm hS
  rw [if_neg c1]
  by_cases c2 : s = 2
  · subst c2
    rw [if_pos rfl]
    exact s_X12_mark2 hH hSm hS
  rw [if_neg c2]
  by_cases c3 : s = 3
  · subst c3
    rw [if_pos rfl]
    exact s_X12_mark3 hH hSm hS
  rw [if_neg c3]
  by_cases c4 : s = 4
  · subst c4
    rw [if_pos rfl]
    exact s_X12_mark4 hH hSm hS
  rw [if_neg c4]
  by_cases c5 : s = 5
  · subst c5
    rw [if_pos rfl]
    exact s_X12_mark5 hH hSm hS
  rw [if_neg c5]
  refine s_X12_markB (b2i_0.mpr (fun z => ?_))
  obtain ⟨j, hj, e⟩ := nI_of2 (M := 5) (n := 5) (by decide) (Int32.not_lt.mpr (Int32.le_trans (by decide) z.1)) z.2
  subst e
  have h1 := (nI_leI (a := 1) (by decide) (by omega)).mp z.1
  rcases (by omega : j = 1 ∨ j = 2 ∨ j = 3 ∨ j = 4 ∨ j = 5) with rfl | rfl | rfl | rfl | rfl
  · exact c1 rfl
  · exact c2 rfl
  · exact c3 rfl
  · exact c4 rfl
  · exact c5 rfl
def wbN (I : Im) (N : Nat → Int32) (z : Nat) : Nat → Int32 := wnd (wnd (upn N 21 (I 210 z)) 22 8 (fun j => I 211 (8 * z + j))) 30 95 (fun _ => 0)
set_option maxRecDepth 100000 in
set_option maxHeartbeats 4000000 in
theorem s_X12_wakesBy {B : Nat} {N : Nat → Int32} {y : Int32} {n mo c : Nat} (vy : vp_in y 4) (hw : WfN (wbN I N y.toNatClampNeg) n mo c) (hb : I 200 24 = nI B) (hB : B ≤ 500) : Ca G mdX12_wakesBy [.ref 200, .int y] (mk (nw I B N) L t) (Rv (mk (nw I B (secI (wbN I N y.toNatClampNeg) n mo c 300)) L t)) := by
  refine Ca.intro [some (.ref 200), some (.int y), none] (by decide) (Nat.le_of_ble_eq_true rfl) rfl rfl ?_
  refine ex_aload_n dX12_wakesBy_0 rfl ?_
  refine ex_iload_n dX12_wakesBy_1 rfl ?_
  refine rx_cV (kd := 12) dX12_wakesBy_2 rfl lk_X12_174 rfl (by decide) (by first | assumption | rfl) ⟨⟨rfl, rfl⟩, by decide, by decide⟩ rfl (Nat.le_of_ble_eq_true rfl) rfl (s_X12_laySea vy hb hB) (Rv.k ?_)
  refine ex_aload_n dX12_wakesBy_5 rfl ?_
  refine rx_cV (kd := 12) dX12_wakesBy_6 rfl lk_X12_177 rfl (by decide) (by first | assumption | rfl) ⟨⟨rfl, rfl⟩, by decide, by decide⟩ rfl (Nat.le_of_ble_eq_true rfl) rfl (s_X12_begins hb hB) (Rv.k ?_)
  refine ex_iconst (v := 0) dX12_wakesBy_9 (by decide) ?_
  refine st_i2 dX12_wakesBy_10 (by first | exact rfl | exact trivial) ?_
  have key := loop_up (G := G) (d := mdX12_wakesBy) (pc := 11) (st := []) (uc := 0) (us := 0) (P := Rv (mk (nw I B (secI (wbN I N y.toNatClampNeg) n mo c 300)) L t)) 300 (fun k => mk (nw I B (secI (wbN I N y.toNatClampNeg) n mo c k)) L t) (fun k => [some (.ref 200), some (.int y), some (.int (nI k))]) ?_ ?_ 0 (Nat.zero_le _)
  · rw [secI_0] at key
    exact key
  · intro k hk ih
    refine ex_iload_n dX12_wakesBy_11 rfl ?_
    refine ex_sipush (v := 300) dX12_wakesBy_12 (by decide) ?_
    refine ex_icmp_ge 28 dX12_wakesBy_15 (by decide) (fun h15 => ?_) (fun h15 => ?_)
    · exact absurd h15 (nI_ge hk (by decide))
    · skip
      refine ex_aload_n dX12_wakesBy_18 rfl ?_
      refine rx_cV (kd := 12) dX12_wakesBy_19 rfl lk_X12_220 rfl (by decide) (by first | assumption | rfl) ⟨⟨rfl, rfl⟩, by decide, by decide⟩ rfl (Nat.le_of_ble_eq_true rfl) rfl (s_X12_second (WfN_i hw k) hb hB) (Rv.k ?_)
      refine inc2 (v := _ + 1) dX12_wakesBy_22 (by rfl) (by first | exact rfl | exact trivial) ?_
      refine ex_goto 11 dX12_wakesBy_25 (by decide) ?_
      rw [nI_1]
      rw [secI_s] at ih
      exact ih
  · skip
    refine ex_iload_n dX12_wakesBy_11 rfl ?_
    refine ex_sipush (v := 300) dX12_wakesBy_12 (by decide) ?_
    refine ex_icmp_ge 28 dX12_wakesBy_15 (by decide) (fun h15 => ?_) (fun h15 => ?_)
    · skip
      refine ex_vret dX12_wakesBy_28 rfl ⟨rfl, Nat.le_refl _⟩ ?_
      exact ⟨rfl, rfl⟩
    · exact absurd (by decide : nI 300 ≤ nI 300) h15
def rgM (N : Nat → Int32) (k : Nat) : Int32 := N (79 + k) - N (63 + k)
set_option maxRecDepth 100000 in
set_option maxHeartbeats 4000000 in
theorem s_X12_loudest {B : Nat} {N : Nat → Int32} {n : Nat} (hn3 : 3 ≤ n) (hn16 : n ≤ 16) (hn : N 0 = nI n) (hb : I 200 24 = nI B) (hB : B ≤ 500) : Ca G mdX12_loudest [.ref 200] (mk (nw I B N) L t) (Rs (.int (nI (wildN (rgM N) (n - 1)))) (mk (nw I B N) L t)) := by
  refine Ca.intro [some (.ref 200), none, none] (by decide) (Nat.le_of_ble_eq_true rfl) rfl rfl ?_
  refine ex_iconst (v := 0) dX12_loudest_0 (by decide) ?_
  refine st_i1 dX12_loudest_1 (by first | exact rfl | exact trivial) ?_
  refine ex_iconst (v := 1) dX12_loudest_2 (by decide) ?_
  refine st_i2 dX12_loudest_3 (by first | exact rfl | exact trivial) ?_
  refine loop_up (G := G) (d := mdX12_loudest) (pc := 4) (st := []) (uc := 0) (us := 0) (P := Rs (.int (nI (wildN (rgM N) (n - 1)))) (mk (nw I B N) L t)) (n - 1) (fun k => mk (nw I B N) L t) (fun k => [some (.ref 200), some (.int (nI (wildN (rgM N) k))), some (.int (nI (k + 1)))]) ?_ ?_ 0 (Nat.zero_le _)
  · intro k hk ih
    refine ex_iload_n dX12_loudest_4 rfl ?_
    refine ex_aload_n dX12_loudest_5 rfl ?_
    refine ex_iconst (v := 0) dX12_loudest_6 (by decide) ?_
    refine rx_cV (kd := 12) dX12_loudest_7 rfl lk_X12_183 rfl (by decide) (by first | assumption | rfl) ⟨⟨rfl, rfl⟩, by decide, by decide⟩ rfl (Nat.le_of_ble_eq_true rfl) rfl (s_X12_v (p := 0) rfl (by decide) hb hB) (Rs.k ?_)
    rw [hn]
    refine ex_icmp_ge 38 dX12_loudest_10 (by decide) (fun h10 => ?_) (fun h10 => ?_)
    · exact absurd h10 (nI_ge (by omega) (by omega))
    · skip
      refine ex_aload_n dX12_loudest_13 rfl ?_
      refine ex_iload_n dX12_loudest_14 rfl ?_
      refine rx_cV (kd := 12) dX12_loudest_15 rfl lk_X12_223 rfl (by decide) (by first | assumption | rfl) ⟨⟨rfl, rfl⟩, by decide, by decide⟩ rfl (Nat.le_of_ble_eq_true rfl) rfl (s_X12_range (k := k + 1) (by omega) hb hB) (Rs.k ?_)
      refine ex_aload_n dX12_loudest_18 rfl ?_
      refine ex_iload_n dX12_loudest_19 rfl ?_
      refine rx_cV (kd := 12) dX12_loudest_20 rfl lk_X12_223 rfl (by decide) (by first | assumption | rfl) ⟨⟨rfl, rfl⟩, by decide, by decide⟩ rfl (Nat.le_of_ble_eq_true rfl) rfl (s_X12_range (k := (wildN (rgM N) k)) (by have := wildN_le (rgM N) k; omega) hb hB) (Rs.k ?_)
      refine ex_icmp_le 30 dX12_loudest_23 (by decide) (fun h23 => ?_) (fun h23 => ?_)
      · have hc : wildN (rgM N) (k + 1) = (wildN (rgM N) k) := if_neg (Int32.not_lt.mpr h23)
        refine ex_iload_n dX12_loudest_30 rfl ?_
        refine st_i1 dX12_loudest_31 (by first | exact rfl | exact trivial) ?_
        refine inc2 (v := _ + 1) dX12_loudest_32 (by rfl) (by first | exact rfl | exact trivial) ?_
        refine ex_goto 4 dX12_loudest_35 (by decide) ?_
        rw [nI_1]
        rw [hc] at ih
        exact ih
      · have hc : wildN (rgM N) (k + 1) = k + 1 := if_pos (Int32.not_le.mp h23)
        refine ex_iload_n dX12_loudest_26 rfl ?_
        refine ex_goto 31 dX12_loudest_27 (by decide) ?_
        refine st_i1 dX12_loudest_31 (by first | exact rfl | exact trivial) ?_
        refine inc2 (v := _ + 1) dX12_loudest_32 (by rfl) (by first | exact rfl | exact trivial) ?_
        refine ex_goto 4 dX12_loudest_35 (by decide) ?_
        rw [nI_1]
        rw [hc] at ih
        exact ih
  · skip
    refine ex_iload_n dX12_loudest_4 rfl ?_
    refine ex_aload_n dX12_loudest_5 rfl ?_
    refine ex_iconst (v := 0) dX12_loudest_6 (by decide) ?_
    refine rx_cV (kd := 12) dX12_loudest_7 rfl lk_X12_183 rfl (by decide) (by first | assumption | rfl) ⟨⟨rfl, rfl⟩, by decide, by decide⟩ rfl (Nat.le_of_ble_eq_true rfl) rfl (s_X12_v (p := 0) rfl (by decide) hb hB) (Rs.k ?_)
    rw [hn]
    refine ex_icmp_ge 38 dX12_loudest_10 (by decide) (fun h10 => ?_) (fun h10 => ?_)
    · skip
      refine ex_iload_n dX12_loudest_38 rfl ?_
      refine ex_iret dX12_loudest_39 rfl rfl ⟨rfl, Nat.le_refl _⟩ ?_
      exact ⟨rfl, rfl⟩
    · exact absurd (nI_le (by omega) (by omega)) h10
set_option maxRecDepth 100000 in
set_option maxHeartbeats 4000000 in
theorem s_X12_stillest {B : Nat} {N : Nat → Int32} {n : Nat} (hn3 : 3 ≤ n) (hn16 : n ≤ 16) (hn : N 0 = nI n) (hb : I 200 24 = nI B) (hB : B ≤ 500) : Ca G mdX12_stillest [.ref 200] (mk (nw I B N) L t) (Rs (.int (nI (calmN (rgM N) (n - 1)))) (mk (nw I B N) L t)) := by
  refine Ca.intro [some (.ref 200), none, none] (by decide) (Nat.le_of_ble_eq_true rfl) rfl rfl ?_
  refine ex_iconst (v := 0) dX12_stillest_0 (by decide) ?_
  refine st_i1 dX12_stillest_1 (by first | exact rfl | exact trivial) ?_
  refine ex_iconst (v := 1) dX12_stillest_2 (by decide) ?_
  refine st_i2 dX12_stillest_3 (by first | exact rfl | exact trivial) ?_
  refine loop_up (G := G) (d := mdX12_stillest) (pc := 4) (st := []) (uc := 0) (us := 0) (P := Rs (.int (nI (calmN (rgM N) (n - 1)))) (mk (nw I B N) L t)) (n - 1) (fun k => mk (nw I B N) L t) (fun k => [some (.ref 200), some (.int (nI (calmN (rgM N) k))), some (.int (nI (k + 1)))]) ?_ ?_ 0 (Nat.zero_le _)
  · intro k hk ih
    refine ex_iload_n dX12_stillest_4 rfl ?_
    refine ex_aload_n dX12_stillest_5 rfl ?_
    refine ex_iconst (v := 0) dX12_stillest_6 (by decide) ?_
    refine rx_cV (kd := 12) dX12_stillest_7 rfl lk_X12_183 rfl (by decide) (by first | assumption | rfl) ⟨⟨rfl, rfl⟩, by decide, by decide⟩ rfl (Nat.le_of_ble_eq_true rfl) rfl (s_X12_v (p := 0) rfl (by decide) hb hB) (Rs.k ?_)
    rw [hn]
    refine ex_icmp_ge 38 dX12_stillest_10 (by decide) (fun h10 => ?_) (fun h10 => ?_)
    · exact absurd h10 (nI_ge (by omega) (by omega))
    · skip
      refine ex_aload_n dX12_stillest_13 rfl ?_
      refine ex_iload_n dX12_stillest_14 rfl ?_
      refine rx_cV (kd := 12) dX12_stillest_15 rfl lk_X12_223 rfl (by decide) (by first | assumption | rfl) ⟨⟨rfl, rfl⟩, by decide, by decide⟩ rfl (Nat.le_of_ble_eq_true rfl) rfl (s_X12_range (k := k + 1) (by omega) hb hB) (Rs.k ?_)
      refine ex_aload_n dX12_stillest_18 rfl ?_
      refine ex_iload_n dX12_stillest_19 rfl ?_
      refine rx_cV (kd := 12) dX12_stillest_20 rfl lk_X12_223 rfl (by decide) (by first | assumption | rfl) ⟨⟨rfl, rfl⟩, by decide, by decide⟩ rfl (Nat.le_of_ble_eq_true rfl) rfl (s_X12_range (k := (calmN (rgM N) k)) (by have := calmN_le (rgM N) k; omega) hb hB) (Rs.k ?_)
      refine ex_icmp_ge 30 dX12_stillest_23 (by decide) (fun h23 => ?_) (fun h23 => ?_)
      · have hc : calmN (rgM N) (k + 1) = (calmN (rgM N) k) := if_neg (Int32.not_lt.mpr h23)
        refine ex_iload_n dX12_stillest_30 rfl ?_
        refine st_i1 dX12_stillest_31 (by first | exact rfl | exact trivial) ?_
        refine inc2 (v := _ + 1) dX12_stillest_32 (by rfl) (by first | exact rfl | exact trivial) ?_
        refine ex_goto 4 dX12_stillest_35 (by decide) ?_
        rw [nI_1]
        rw [hc] at ih
        exact ih
      · have hc : calmN (rgM N) (k + 1) = k + 1 := if_pos (Int32.not_le.mp h23)
        refine ex_iload_n dX12_stillest_26 rfl ?_
        refine ex_goto 31 dX12_stillest_27 (by decide) ?_
        refine st_i1 dX12_stillest_31 (by first | exact rfl | exact trivial) ?_
        refine inc2 (v := _ + 1) dX12_stillest_32 (by rfl) (by first | exact rfl | exact trivial) ?_
        refine ex_goto 4 dX12_stillest_35 (by decide) ?_
        rw [nI_1]
        rw [hc] at ih
        exact ih
  · skip
    refine ex_iload_n dX12_stillest_4 rfl ?_
    refine ex_aload_n dX12_stillest_5 rfl ?_
    refine ex_iconst (v := 0) dX12_stillest_6 (by decide) ?_
    refine rx_cV (kd := 12) dX12_stillest_7 rfl lk_X12_183 rfl (by decide) (by first | assumption | rfl) ⟨⟨rfl, rfl⟩, by decide, by decide⟩ rfl (Nat.le_of_ble_eq_true rfl) rfl (s_X12_v (p := 0) rfl (by decide) hb hB) (Rs.k ?_)
    rw [hn]
    refine ex_icmp_ge 38 dX12_stillest_10 (by decide) (fun h10 => ?_) (fun h10 => ?_)
    · skip
      refine ex_iload_n dX12_stillest_38 rfl ?_
      refine ex_iret dX12_stillest_39 rfl rfl ⟨rfl, Nat.le_refl _⟩ ?_
      exact ⟨rfl, rfl⟩
    · exact absurd (nI_le (by omega) (by omega)) h10
def f_X12_needWoken (I : Im) (k : Int32) (z : Int32) : Int32 × Im :=
  if (b2i (0 ≤ k ∧ k ≤ 3)) = 0 then
    ((-1), I)
  else
    if (b2i (0 ≤ z ∧ z ≤ 3)) = 0 then
      ((-1), I)
    else
      if (I 207 k.toNatClampNeg) = 0 then
        let I1 : Im := meI I 1
        ((-3), I1)
      else
        if (I 209 z.toNatClampNeg) = 0 then
          let I2 : Im := meI I 1
          ((-3), I2)
        else
          (0, I)
set_option maxRecDepth 100000 in
set_option maxHeartbeats 4000000 in
theorem s_X12_needWoken  {k : Int32} {z : Int32}  : Ca G mdX12_needWoken [.ref 200, .int k, .int z] (mk I L t) (Rs (.int (f_X12_needWoken I k z).1) (mk ((f_X12_needWoken I k z).2) L t)) := by
  refine Ca.intro [some (.ref 200), some (.int k), some (.int z)] (by decide) (Nat.le_of_ble_eq_true rfl) rfl rfl ?_
  refine ex_iload_n dX12_needWoken_0 rfl ?_
  refine rx_cS dX12_needWoken_1 rfl lk_X12_151 ⟨⟨rfl, rfl⟩, by decide, by decide⟩ rfl (Nat.le_of_ble_eq_true rfl) rfl s_X12_isPlace (Rs.k ?_)
  refine ex_if_eq 14 dX12_needWoken_4 (by decide) (fun h4 => ?_) (fun h4 => ?_)
  · skip
    refine ex_iconst (v := (-1)) dX12_needWoken_14 (by decide) ?_
    refine ex_iret dX12_needWoken_15 rfl rfl ⟨rfl, Nat.le_refl _⟩ ?_
    exact ⟨(by simp only [f_X12_needWoken, ↓eq_true h4, if_true, if_false, not_true_eq_false, not_false_eq_true]), (by simp only [f_X12_needWoken, ↓eq_true h4, if_true, if_false, not_true_eq_false, not_false_eq_true])⟩
  · have qk := (cl_lt (N := 4) (by decide) h4).1
    have vk := (cl_lt (N := 4) (by decide) h4).2
    refine ex_iload_n dX12_needWoken_7 rfl ?_
    refine rx_cS dX12_needWoken_8 rfl lk_X12_151 ⟨⟨rfl, rfl⟩, by decide, by decide⟩ rfl (Nat.le_of_ble_eq_true rfl) rfl s_X12_isPlace (Rs.k ?_)
    refine ex_if_ne 16 dX12_needWoken_11 (by decide) (fun h11 => ?_) (fun h11 => ?_)
    · have qz := (cl_lt (N := 4) (by decide) h11).1
      have vz := (cl_lt (N := 4) (by decide) h11).2
      refine ex_aload_n dX12_needWoken_16 rfl ?_
      refine g_12_10 dX12_needWoken_17 rfl wf_X12_29 (by first | assumption | rfl) (show Rt _ 200 10 = some 207 from rfl) ?_
      refine ex_iload_n dX12_needWoken_20 rfl ?_
      refine rx_zald dX12_needWoken_21 (by first | assumption | rfl) (by first | assumption | (unfold vp_in; decide)) ?_
      refine ex_if_eq 38 dX12_needWoken_22 (by decide) (fun h22 => ?_) (fun h22 => ?_)
      · skip
        refine ex_aload_n dX12_needWoken_38 rfl ?_
        refine ex_iconst (v := 1) dX12_needWoken_39 (by decide) ?_
        refine rx_cV (kd := 12) dX12_needWoken_40 rfl lk_X12_100 rfl (by decide) (by first | assumption | rfl) ⟨⟨rfl, rfl⟩, by decide, by decide⟩ rfl (Nat.le_of_ble_eq_true rfl) rfl (s_X12_meets (by unfold vp_in; decide)) (Rs.k ?_)
        refine ex_iret dX12_needWoken_43 rfl rfl ⟨rfl, Nat.le_refl _⟩ ?_
        exact ⟨(by simp only [f_X12_needWoken, ↓eq_false h4, ↓eq_false h11, ↓eq_true h22, if_true, if_false, not_true_eq_false, not_false_eq_true]), (by simp only [f_X12_needWoken, ↓eq_false h4, ↓eq_false h11, ↓eq_true h22, if_true, if_false, not_true_eq_false, not_false_eq_true])⟩
      · skip
        refine ex_aload_n dX12_needWoken_25 rfl ?_
        refine g_12_12 dX12_needWoken_26 rfl wf_X12_36 (by first | assumption | rfl) (show Rt _ 200 12 = some 209 from rfl) ?_
        refine ex_iload_n dX12_needWoken_29 rfl ?_
        refine rx_zald dX12_needWoken_30 (by first | assumption | rfl) (by first | assumption | (unfold vp_in; decide)) ?_
        refine ex_if_eq 38 dX12_needWoken_31 (by decide) (fun h31 => ?_) (fun h31 => ?_)
        · skip
          refine ex_aload_n dX12_needWoken_38 rfl ?_
          refine ex_iconst (v := 1) dX12_needWoken_39 (by decide) ?_
          refine rx_cV (kd := 12) dX12_needWoken_40 rfl lk_X12_100 rfl (by decide) (by first | assumption | rfl) ⟨⟨rfl, rfl⟩, by decide, by decide⟩ rfl (Nat.le_of_ble_eq_true rfl) rfl (s_X12_meets (by unfold vp_in; decide)) (Rs.k ?_)
          refine ex_iret dX12_needWoken_43 rfl rfl ⟨rfl, Nat.le_refl _⟩ ?_
          exact ⟨(by simp only [f_X12_needWoken, ↓eq_false h4, ↓eq_false h11, ↓eq_false h22, ↓eq_true h31, if_true, if_false, not_true_eq_false, not_false_eq_true]), (by simp only [f_X12_needWoken, ↓eq_false h4, ↓eq_false h11, ↓eq_false h22, ↓eq_true h31, if_true, if_false, not_true_eq_false, not_false_eq_true])⟩
        · skip
          refine ex_iconst (v := 0) dX12_needWoken_34 (by decide) ?_
          refine ex_goto 43 dX12_needWoken_35 (by decide) ?_
          refine ex_iret dX12_needWoken_43 rfl rfl ⟨rfl, Nat.le_refl _⟩ ?_
          exact ⟨(by simp only [f_X12_needWoken, ↓eq_false h4, ↓eq_false h11, ↓eq_false h22, ↓eq_false h31, if_true, if_false, not_true_eq_false, not_false_eq_true]), (by simp only [f_X12_needWoken, ↓eq_false h4, ↓eq_false h11, ↓eq_false h22, ↓eq_false h31, if_true, if_false, not_true_eq_false, not_false_eq_true])⟩
    · skip
      refine ex_iconst (v := (-1)) dX12_needWoken_14 (by decide) ?_
      refine ex_iret dX12_needWoken_15 rfl rfl ⟨rfl, Nat.le_refl _⟩ ?_
      exact ⟨(by simp only [f_X12_needWoken, ↓eq_false h4, ↓eq_true h11, if_true, if_false, not_true_eq_false, not_false_eq_true]), (by simp only [f_X12_needWoken, ↓eq_false h4, ↓eq_true h11, if_true, if_false, not_true_eq_false, not_false_eq_true])⟩
def wkM (I : Im) (q z : Nat) : Nat → Int32 := fun p => if p < 21 then I 208 (21 * q + p) else if p = 21 then I 210 z else if p < 30 then I 211 (8 * z + (p - 22)) else 0
def wkD (I : Im) (q z : Nat) : Nat → Int32 := secI (wkM I q z) (I 208 (21 * q)).toNatClampNeg (I 208 (21 * q + 1)).toNatClampNeg (I 210 z).toNatClampNeg 300
def lwI (I : Im) (q z : Nat) : Im := nw (lkI I 4) 500 (wkD I q z)
def cut (N : Nat → Int32) : Nat → Int32 := fun p => if p < 125 then N p else 0
theorem nw_cut {B : Nat} {N : Nat → Int32} : nw I B N = nw I B (cut N) := nw_ext (fun p hp => (if_pos hp).symm)
theorem wkM_e {N0 : Nat → Int32} {q z : Nat} : wbN I (cut (wnd N0 0 21 (fun j => I 208 (21 * q + j)))) z = wkM I q z := by
  funext p
  unfold wbN wkM
  by_cases h1 : p < 21
  · rw [if_pos h1, wnd_out (by omega), wnd_out (by omega), upn_n (by omega)]
    unfold cut
    have e := wnd_in (N := N0) (g := fun j => I 208 (21 * q + j)) (o := 0) h1
    rw [Nat.zero_add] at e
    rw [if_pos (by omega), e]
  · rw [if_neg h1]
    by_cases h2 : p = 21
    · subst h2
      rw [if_pos rfl, wnd_out (by omega), wnd_out (by omega), upn_s]
    · rw [if_neg h2]
      by_cases h3 : p < 30
      · rw [if_pos h3, wnd_out (by omega)]
        have e := wnd_in (N := upn (cut (wnd N0 0 21 (fun j => I 208 (21 * q + j)))) 21 (I 210 z)) (g := fun j => I 211 (8 * z + j)) (o := 22) (k := 8) (j := p - 22) (by omega)
        rw [show 22 + (p - 22) = p by omega] at e
        exact e
      · rw [if_neg h3]
        by_cases h4 : p < 125
        · have e := wnd_in (N := wnd (upn (cut (wnd N0 0 21 (fun j => I 208 (21 * q + j)))) 21 (I 210 z)) 22 8 (fun j => I 211 (8 * z + j))) (g := fun _ => (0 : Int32)) (o := 30) (k := 95) (j := p - 30) (by omega)
          rw [show 30 + (p - 30) = p by omega] at e
          exact e
        · rw [wnd_out (by omega), wnd_out (by omega), upn_n (by omega)]
          exact if_neg h4
def SbS (I : Im) : Prop := ∀ q, q < 4 → ∃ m, m ≤ 4 ∧ I 210 q = nI m ∧ ∀ i, i < m → ¬ I 211 (8 * q + 2 * i) = 0
theorem SbS_m (h : SbS I) : SmS I := fun q hq => by
  obtain ⟨m, h1, h2, -⟩ := h q hq
  exact ⟨m, h1, h2⟩
theorem wkM_w {q z : Nat} (hH : HmS I) (hq : q < 4) (hh : ¬ I 207 q = 0) (hS : SbS I) (hz : z < 4) : WfN (wkM I q z) (I 208 (21 * q)).toNatClampNeg (I 208 (21 * q + 1)).toNatClampNeg (I 210 z).toNatClampNeg := by
  obtain ⟨n, mo, h3, hn, hm, e0, e1⟩ := hH q hq hh
  obtain ⟨m, m4, em, hbt⟩ := hS z hz
  rw [e0, e1, em, nI_clamp (by omega), nI_clamp (by omega), nI_clamp (by omega)]
  refine ⟨⟨h3, hn⟩, (if_pos (by decide)).trans e0, ⟨hm, (if_pos (by decide)).trans e1⟩, ⟨m4, ((if_neg (by decide)).trans (if_pos rfl)).trans em, fun i hi => ?_⟩, fun s hs h => ?_⟩
  · unfold wkM
    rw [if_neg (by omega), if_neg (by omega), if_pos (by omega), show 22 + 2 * i - 22 = 2 * i by omega]
    exact hbt i hi
  · unfold wkM at h
    rw [if_neg (by omega), if_neg (by omega), if_neg (by omega)] at h
    exact absurd h (by decide)
theorem wkM_c {J : Im} {q z : Nat} (h8 : J 208 = I 208) (h0 : J 210 = I 210) (h1 : J 211 = I 211) : wkM J q z = wkM I q z := by
  unfold wkM
  rw [h8, h0, h1]
set_option maxRecDepth 100000 in
set_option maxHeartbeats 4000000 in
theorem s_X12_layWoken {y z : Int32} (vy : vp_in y 4) (vz : vp_in z 4) (hH : HmS I) (hh : ¬ I 207 y.toNatClampNeg = 0) (hS : SbS I) : Ca G mdX12_layWoken [.ref 200, .int y, .int z] (mk I L t) (Rv (mk (lwI I y.toNatClampNeg z.toNatClampNeg) L t)) := by
  refine Ca.intro [some (.ref 200), some (.int y), some (.int z)] (by decide) (Nat.le_of_ble_eq_true rfl) rfl rfl ?_
  refine ex_aload_n dX12_layWoken_0 rfl ?_
  refine ex_iconst (v := 4) dX12_layWoken_1 (by decide) ?_
  refine rx_cV (kd := 12) dX12_layWoken_2 rfl lk_X12_167 rfl (by decide) (by first | assumption | rfl) ⟨⟨rfl, rfl⟩, by decide, by decide⟩ rfl (Nat.le_of_ble_eq_true rfl) rfl s_X12_look (Rv.k ?_)
  rw [← nw_rd (I := lkI I 4) (B := 500)]
  refine ex_aload_n dX12_layWoken_5 rfl ?_
  refine ex_iload_n dX12_layWoken_6 rfl ?_
  refine rx_cV (kd := 12) dX12_layWoken_7 rfl lk_X12_171 rfl (by decide) (by first | assumption | rfl) ⟨⟨rfl, rfl⟩, by decide, by decide⟩ rfl (Nat.le_of_ble_eq_true rfl) rfl (s_X12_layHarbour vy lk_4 (by decide)) (Rv.k ?_)
  rw [nw_cut]
  have e := wkM_e (I := lkI I 4) (N0 := rdw (lkI I 4) 500) (q := y.toNatClampNeg) (z := z.toNatClampNeg)
  rw [wkM_c (I := I) (lk_off (by decide)) (lk_off (by decide)) (lk_off (by decide))] at e
  have hw := wkM_w hH (vpn vy).1 hh hS (vpn vz).1
  rw [← e] at hw
  refine ex_aload_n dX12_layWoken_10 rfl ?_
  refine ex_iload_n dX12_layWoken_11 rfl ?_
  refine rx_cV (kd := 12) dX12_layWoken_12 rfl lk_X12_299 rfl (by decide) (by first | assumption | rfl) ⟨⟨rfl, rfl⟩, by decide, by decide⟩ rfl (Nat.le_of_ble_eq_true rfl) rfl (s_X12_wakesBy vz hw lk_4 (by decide)) (Rv.k ?_)
  refine ex_vret dX12_layWoken_15 rfl ⟨rfl, Nat.le_refl _⟩ ?_
  refine ⟨rfl, ?_⟩
  unfold lwI wkD
  rw [← e]
theorem wkD_w {q z : Nat} (hH : HmS I) (hq : q < 4) (hh : ¬ I 207 q = 0) (hS : SbS I) (hz : z < 4) : WfN (wkD I q z) (I 208 (21 * q)).toNatClampNeg (I 208 (21 * q + 1)).toNatClampNeg (I 210 z).toNatClampNeg := WfN_i (wkM_w hH hq hh hS hz) 300
theorem s_loudG {N : Nat → Int32} {n mo c : Nat} (hw : WfN N n mo c) (hb : I 200 24 = nI 500) : Ca G mdX12_loudest [.ref 200] (mk (nw I 500 N) L t) (Rs (.int (nI (wildN (rgM N) (n - 1)))) (mk (nw I 500 N) L t)) := s_X12_loudest hw.1.1 hw.1.2 hw.2.1 hb (by decide)
theorem s_calmG {N : Nat → Int32} {n mo c : Nat} (hw : WfN N n mo c) (hb : I 200 24 = nI 500) : Ca G mdX12_stillest [.ref 200] (mk (nw I 500 N) L t) (Rs (.int (nI (calmN (rgM N) (n - 1)))) (mk (nw I 500 N) L t)) := s_X12_stillest hw.1.1 hw.1.2 hw.2.1 hb (by decide)
end M14
