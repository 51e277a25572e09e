section M16
variable {G : Gp} {I : Im} {L : Nat → Nat → Int64} {t : Nat}
def f_X12_needPull (I : Im) (s : Int32) (k : Int32) (z : Int32) (w : Int32) : Int32 × Im :=
  if (b2i (0 ≤ s ∧ s ≤ 2)) = 0 then
    ((-1), I)
  else
    if (b2i (0 ≤ k ∧ k ≤ 3)) = 0 then
      ((-1), I)
    else
      if (b2i (0 ≤ z ∧ z ≤ 3)) = 0 then
        ((-1), I)
      else
        if (I 214 s.toNatClampNeg) = 0 then
          ((-4), I)
        else
          if (I 207 k.toNatClampNeg) = 0 then
            let I1 : Im := meI I 1
            ((-3), I1)
          else
            if (I 209 z.toNatClampNeg) = 0 then
              let I3 : Im := meI I 1
              ((-3), I3)
            else
              if w = 0 then
                (0, I)
              else
                if (I 215 (5 * s).toNatClampNeg) < (I 208 (21 * k).toNatClampNeg) then
                  (0, I)
                else
                  let I2 : Im := meI I 2
                  ((-3), I2)
set_option maxRecDepth 100000 in
set_option maxHeartbeats 4000000 in
theorem s_X12_needPull  {s : Int32} {k : Int32} {z : Int32} {w : Int32}  : Ca G mdX12_needPull [.ref 200, .int s, .int k, .int z, .int w] (mk I L t) (Rs (.int (f_X12_needPull I s k z w).1) (mk ((f_X12_needPull I s k z w).2) L t)) := by
  refine Ca.intro [some (.ref 200), some (.int s), some (.int k), some (.int z), some (.int w)] (by decide) (Nat.le_of_ble_eq_true rfl) rfl rfl ?_
  refine ex_iload_n dX12_needPull_0 rfl ?_
  refine rx_cS dX12_needPull_1 rfl lk_X12_154 ⟨⟨rfl, rfl⟩, by decide, by decide⟩ rfl (Nat.le_of_ble_eq_true rfl) rfl s_X12_isShipTold (Rs.k ?_)
  refine ex_if_eq 21 dX12_needPull_4 (by decide) (fun h4 => ?_) (fun h4 => ?_)
  · skip
    refine ex_iconst (v := (-1)) dX12_needPull_21 (by decide) ?_
    refine ex_iret dX12_needPull_22 rfl rfl ⟨rfl, Nat.le_refl _⟩ ?_
    exact ⟨(by simp only [f_X12_needPull, ↓eq_true h4, if_true, if_false, not_true_eq_false, not_false_eq_true]), (by simp only [f_X12_needPull, ↓eq_true h4, if_true, if_false, not_true_eq_false, not_false_eq_true])⟩
  · have qs := (cl_lt (N := 3) (by decide) h4).1
    have vs := (cl_lt (N := 3) (by decide) h4).2
    refine ex_iload_n dX12_needPull_7 rfl ?_
    refine rx_cS dX12_needPull_8 rfl lk_X12_151 ⟨⟨rfl, rfl⟩, by decide, by decide⟩ rfl (Nat.le_of_ble_eq_true rfl) rfl s_X12_isPlace (Rs.k ?_)
    refine ex_if_eq 21 dX12_needPull_11 (by decide) (fun h11 => ?_) (fun h11 => ?_)
    · skip
      refine ex_iconst (v := (-1)) dX12_needPull_21 (by decide) ?_
      refine ex_iret dX12_needPull_22 rfl rfl ⟨rfl, Nat.le_refl _⟩ ?_
      exact ⟨(by simp only [f_X12_needPull, ↓eq_false h4, ↓eq_true h11, if_true, if_false, not_true_eq_false, not_false_eq_true]), (by simp only [f_X12_needPull, ↓eq_false h4, ↓eq_true h11, if_true, if_false, not_true_eq_false, not_false_eq_true])⟩
    · have qk := (cl_lt (N := 4) (by decide) h11).1
      have vk := (cl_lt (N := 4) (by decide) h11).2
      refine ex_iload_n dX12_needPull_14 rfl ?_
      refine rx_cS dX12_needPull_15 rfl lk_X12_151 ⟨⟨rfl, rfl⟩, by decide, by decide⟩ rfl (Nat.le_of_ble_eq_true rfl) rfl s_X12_isPlace (Rs.k ?_)
      refine ex_if_ne 23 dX12_needPull_18 (by decide) (fun h18 => ?_) (fun h18 => ?_)
      · have qz := (cl_lt (N := 4) (by decide) h18).1
        have vz := (cl_lt (N := 4) (by decide) h18).2
        refine ex_aload_n dX12_needPull_23 rfl ?_
        refine g_12_20 dX12_needPull_24 rfl wf_X12_51 (by first | assumption | rfl) (show Rt _ 200 20 = some 214 from rfl) ?_
        refine ex_iload_n dX12_needPull_27 rfl ?_
        refine rx_zald dX12_needPull_28 (by first | assumption | rfl) (by first | assumption | (unfold vp_in; decide)) ?_
        refine ex_if_ne 35 dX12_needPull_29 (by decide) (fun h29 => ?_) (fun h29 => ?_)
        · skip
          refine ex_aload_n dX12_needPull_35 rfl ?_
          refine g_12_10 dX12_needPull_36 rfl wf_X12_29 (by first | assumption | rfl) (show Rt _ 200 10 = some 207 from rfl) ?_
          refine ex_iload_n dX12_needPull_39 rfl ?_
          refine rx_zald dX12_needPull_40 (by first | assumption | rfl) (by first | assumption | (unfold vp_in; decide)) ?_
          refine ex_if_eq 53 dX12_needPull_41 (by decide) (fun h41 => ?_) (fun h41 => ?_)
          · skip
            refine ex_aload_n dX12_needPull_53 rfl ?_
            refine ex_iconst (v := 1) dX12_needPull_54 (by decide) ?_
            refine rx_cV (kd := 12) dX12_needPull_55 rfl lk_X12_100 rfl (by decide) (by first | assumption | rfl) ⟨⟨rfl, rfl⟩, by decide, by decide⟩ rfl (Nat.le_of_ble_eq_true rfl) rfl (s_X12_meets (by unfold vp_in; decide)) (Rs.k ?_)
            refine ex_iret dX12_needPull_58 rfl rfl ⟨rfl, Nat.le_refl _⟩ ?_
            exact ⟨(by simp only [f_X12_needPull, ↓eq_false h4, ↓eq_false h11, ↓eq_false h18, ↓eq_false h29, ↓eq_true h41, if_true, if_false, not_true_eq_false, not_false_eq_true]), (by simp only [f_X12_needPull, ↓eq_false h4, ↓eq_false h11, ↓eq_false h18, ↓eq_false h29, ↓eq_true h41, if_true, if_false, not_true_eq_false, not_false_eq_true])⟩
          · skip
            refine ex_aload_n dX12_needPull_44 rfl ?_
            refine g_12_12 dX12_needPull_45 rfl wf_X12_36 (by first | assumption | rfl) (show Rt _ 200 12 = some 209 from rfl) ?_
            refine ex_iload_n dX12_needPull_48 rfl ?_
            refine rx_zald dX12_needPull_49 (by first | assumption | rfl) (by first | assumption | (unfold vp_in; decide)) ?_
            refine ex_if_ne 59 dX12_needPull_50 (by decide) (fun h50 => ?_) (fun h50 => ?_)
            · skip
              refine ex_iload dX12_needPull_59 rfl ?_
              refine ex_if_eq 92 dX12_needPull_61 (by decide) (fun h61 => ?_) (fun h61 => ?_)
              · skip
                refine ex_iconst (v := 0) dX12_needPull_92 (by decide) ?_
                refine ex_iret dX12_needPull_93 rfl rfl ⟨rfl, Nat.le_refl _⟩ ?_
                exact ⟨(by simp only [f_X12_needPull, ↓eq_false h4, ↓eq_false h11, ↓eq_false h18, ↓eq_false h29, ↓eq_false h41, ↓eq_false h50, ↓eq_true h61, if_true, if_false, not_true_eq_false, not_false_eq_true]), (by simp only [f_X12_needPull, ↓eq_false h4, ↓eq_false h11, ↓eq_false h18, ↓eq_false h29, ↓eq_false h41, ↓eq_false h50, ↓eq_true h61, if_true, if_false, not_true_eq_false, not_false_eq_true])⟩
              · skip
                refine ex_aload_n dX12_needPull_64 rfl ?_
                refine g_12_21 dX12_needPull_65 rfl wf_X12_54 (by first | assumption | rfl) (show Rt _ 200 21 = some 215 from rfl) ?_
                refine ex_iconst (v := 5) dX12_needPull_68 (by decide) ?_
                refine ex_iload_n dX12_needPull_69 rfl ?_
                refine ex_imul dX12_needPull_70 ?_
                refine rx_iald dX12_needPull_71 (by first | assumption | rfl) (ixz (C := 5) (R := 3) rfl (by decide) vs (by decide)).1 ?_
                refine ex_aload_n dX12_needPull_72 rfl ?_
                refine g_12_11 dX12_needPull_73 rfl wf_X12_33 (by first | assumption | rfl) (show Rt _ 200 11 = some 208 from rfl) ?_
                refine ex_bipush (v := 21) dX12_needPull_76 (by decide) ?_
                refine ex_iload_n dX12_needPull_78 rfl ?_
                refine ex_imul dX12_needPull_79 ?_
                refine rx_iald dX12_needPull_80 (by first | assumption | rfl) (ixz (C := 21) (R := 4) rfl (by decide) vk (by decide)).1 ?_
                refine ex_icmp_lt 92 dX12_needPull_81 (by decide) (fun h81 => ?_) (fun h81 => ?_)
                · skip
                  refine ex_iconst (v := 0) dX12_needPull_92 (by decide) ?_
                  refine ex_iret dX12_needPull_93 rfl rfl ⟨rfl, Nat.le_refl _⟩ ?_
                  exact ⟨(by simp only [f_X12_needPull, ↓eq_false h4, ↓eq_false h11, ↓eq_false h18, ↓eq_false h29, ↓eq_false h41, ↓eq_false h50, ↓eq_false h61, ↓h81, if_true, if_false, not_true_eq_false, not_false_eq_true]), (by simp only [f_X12_needPull, ↓eq_false h4, ↓eq_false h11, ↓eq_false h18, ↓eq_false h29, ↓eq_false h41, ↓eq_false h50, ↓eq_false h61, ↓h81, if_true, if_false, not_true_eq_false, not_false_eq_true])⟩
                · skip
                  refine ex_aload_n dX12_needPull_84 rfl ?_
                  refine ex_iconst (v := 2) dX12_needPull_85 (by decide) ?_
                  refine rx_cV (kd := 12) dX12_needPull_86 rfl lk_X12_100 rfl (by decide) (by first | assumption | rfl) ⟨⟨rfl, rfl⟩, by decide, by decide⟩ rfl (Nat.le_of_ble_eq_true rfl) rfl (s_X12_meets (by unfold vp_in; decide)) (Rs.k ?_)
                  refine ex_goto 93 dX12_needPull_89 (by decide) ?_
                  refine ex_iret dX12_needPull_93 rfl rfl ⟨rfl, Nat.le_refl _⟩ ?_
                  exact ⟨(by simp only [f_X12_needPull, ↓eq_false h4, ↓eq_false h11, ↓eq_false h18, ↓eq_false h29, ↓eq_false h41, ↓eq_false h50, ↓eq_false h61, ↓h81, if_true, if_false, not_true_eq_false, not_false_eq_true]), (by simp only [f_X12_needPull, ↓eq_false h4, ↓eq_false h11, ↓eq_false h18, ↓eq_false h29, ↓eq_false h41, ↓eq_false h50, ↓eq_false h61, ↓h81, if_true, if_false, not_true_eq_false, not_false_eq_true])⟩
            · skip
              refine ex_aload_n dX12_needPull_53 rfl ?_
              refine ex_iconst (v := 1) dX12_needPull_54 (by decide) ?_
              refine rx_cV (kd := 12) dX12_needPull_55 rfl lk_X12_100 rfl (by decide) (by first | assumption | rfl) ⟨⟨rfl, rfl⟩, by decide, by decide⟩ rfl (Nat.le_of_ble_eq_true rfl) rfl (s_X12_meets (by unfold vp_in; decide)) (Rs.k ?_)
              refine ex_iret dX12_needPull_58 rfl rfl ⟨rfl, Nat.le_refl _⟩ ?_
              exact ⟨(by simp only [f_X12_needPull, ↓eq_false h4, ↓eq_false h11, ↓eq_false h18, ↓eq_false h29, ↓eq_false h41, ↓eq_true h50, if_true, if_false, not_true_eq_false, not_false_eq_true]), (by simp only [f_X12_needPull, ↓eq_false h4, ↓eq_false h11, ↓eq_false h18, ↓eq_false h29, ↓eq_false h41, ↓eq_true h50, if_true, if_false, not_true_eq_false, not_false_eq_true])⟩
        · skip
          refine ex_bipush (v := (-4)) dX12_needPull_32 (by decide) ?_
          refine ex_iret dX12_needPull_34 rfl rfl ⟨rfl, Nat.le_refl _⟩ ?_
          exact ⟨(by simp only [f_X12_needPull, ↓eq_false h4, ↓eq_false h11, ↓eq_false h18, ↓eq_true h29, if_true, if_false, not_true_eq_false, not_false_eq_true]), (by simp only [f_X12_needPull, ↓eq_false h4, ↓eq_false h11, ↓eq_false h18, ↓eq_true h29, if_true, if_false, not_true_eq_false, not_false_eq_true])⟩
      · skip
        refine ex_iconst (v := (-1)) dX12_needPull_21 (by decide) ?_
        refine ex_iret dX12_needPull_22 rfl rfl ⟨rfl, Nat.le_refl _⟩ ?_
        exact ⟨(by simp only [f_X12_needPull, ↓eq_false h4, ↓eq_false h11, ↓eq_true h18, if_true, if_false, not_true_eq_false, not_false_eq_true]), (by simp only [f_X12_needPull, ↓eq_false h4, ↓eq_false h11, ↓eq_true h18, if_true, if_false, not_true_eq_false, not_false_eq_true])⟩
theorem np0 {s k z w : Int32} (h : 0 ≤ (f_X12_needPull I s k z w).1) : (f_X12_needPull I s k z w).2 = I ∧ vp_in s 3 ∧ vp_in k 4 ∧ vp_in z 4 ∧ ¬ I 214 s.toNatClampNeg = 0 ∧ ¬ I 207 k.toNatClampNeg = 0 ∧ ¬ I 209 z.toNatClampNeg = 0 := by
  unfold f_X12_needPull at h ⊢
  by_cases c1 : b2i (0 ≤ s ∧ s ≤ 2) = 0
  · rw [if_pos c1] at h
    exact absurd (show (0 : Int32) ≤ -1 from h) (by decide)
  rw [if_neg c1] at h ⊢
  by_cases c2 : b2i (0 ≤ k ∧ k ≤ 3) = 0
  · rw [if_pos c2] at h
    exact absurd (show (0 : Int32) ≤ -1 from h) (by decide)
  rw [if_neg c2] at h ⊢
  by_cases c3 : b2i (0 ≤ z ∧ z ≤ 3) = 0
  · rw [if_pos c3] at h
    exact absurd (show (0 : Int32) ≤ -1 from h) (by decide)
  rw [if_neg c3] at h ⊢
  by_cases c4 : I 214 s.toNatClampNeg = 0
  · rw [if_pos c4] at h
    exact absurd (show (0 : Int32) ≤ -4 from h) (by decide)
  rw [if_neg c4] at h ⊢
  by_cases c5 : I 207 k.toNatClampNeg = 0
  · rw [if_pos c5] at h
    exact absurd (show (0 : Int32) ≤ -3 from h) (by decide)
  rw [if_neg c5] at h ⊢
  by_cases c6 : I 209 z.toNatClampNeg = 0
  · rw [if_pos c6] at h
    exact absurd (show (0 : Int32) ≤ -3 from h) (by decide)
  rw [if_neg c6] at h ⊢
  have hv := And.intro (cl_lt (N := 3) (by decide) c1).2 (And.intro (cl_lt (N := 4) (by decide) c2).2 (And.intro (cl_lt (N := 4) (by decide) c3).2 (And.intro c4 (And.intro c5 c6))))
  by_cases c7 : w = 0
  · rw [if_pos c7] at h ⊢
    exact ⟨rfl, hv⟩
  rw [if_neg c7] at h ⊢
  by_cases c8 : I 215 (5 * s).toNatClampNeg < I 208 (21 * k).toNatClampNeg
  · rw [if_pos c8] at h ⊢
    exact ⟨rfl, hv⟩
  · rw [if_neg c8] at h
    exact absurd (show (0 : Int32) ≤ -3 from h) (by decide)
theorem sp_c {x : Int32} (vx : vp_in x 3) (hP : SpS I) (hp : ¬ I 214 x.toNatClampNeg = 0) : vp_in (I 215 (5 * x).toNatClampNeg) 16 := by
  rw [(ixz (c := 5) (C := 5) (R := 3) rfl (by decide) vx (by decide)).2]
  obtain ⟨⟨j, hj, e⟩, -⟩ := hP _ (vpn vx).1 hp
  rw [e]
  exact vp_in_nI hj (by decide)
def f_X12_pull (I : Im) (s : Int32) (k : Int32) (z : Int32) : Int32 × Im :=
  let I1 : Im := (f_X12_needPull I s k z 1).2
  if 0 ≤ ((f_X12_needPull I s k z 1).1) then
    let I2 : Im := plI I1 s.toNatClampNeg k.toNatClampNeg z.toNatClampNeg (I1 215 (5 * s).toNatClampNeg) (I1 215 ((5 * s) + 2).toNatClampNeg)
    let I3 : Im := up2 I2 200 2 (I2 200 33)
    ((I2 200 32), I3)
  else
    ((f_X12_needPull I s k z 1).1, I1)
set_option maxRecDepth 100000 in
set_option maxHeartbeats 4000000 in
theorem s_X12_pull  {s : Int32} {k : Int32} {z : Int32} (hH : HmS I) (hS : SbS I) (hP : SpS I) : Ca G mdX12_pull [.ref 200, .int s, .int k, .int z] (mk I L t) (Rs (.int (f_X12_pull I s k z).1) (mk ((f_X12_pull I s k z).2) L t)) := by
  refine Ca.intro [some (.ref 200), some (.int s), some (.int k), some (.int z), none] (by decide) (Nat.le_of_ble_eq_true rfl) rfl rfl ?_
  refine ex_aload_n dX12_pull_0 rfl ?_
  refine ex_iload_n dX12_pull_1 rfl ?_
  refine ex_iload_n dX12_pull_2 rfl ?_
  refine ex_iload_n dX12_pull_3 rfl ?_
  refine ex_iconst (v := 1) dX12_pull_4 (by decide) ?_
  refine rx_cV (kd := 12) dX12_pull_5 rfl lk_X12_323 rfl (by decide) (by first | assumption | rfl) ⟨⟨rfl, rfl⟩, by decide, by decide⟩ rfl (Nat.le_of_ble_eq_true rfl) rfl s_X12_needPull (Rs.k ?_)
  refine st_i4 dX12_pull_8 (by first | exact rfl | exact trivial) ?_
  refine ex_iload dX12_pull_10 rfl ?_
  refine ex_if_ge 18 dX12_pull_12 (by decide) (fun h12 => ?_) (fun h12 => ?_)
  · obtain ⟨hJ, vs, vk, vz, g0, g1, g2⟩ := np0 h12
    have hH' : HmS (f_X12_needPull I s k z 1).2 := hJ.symm ▸ hH
    have hS' : SbS (f_X12_needPull I s k z 1).2 := hJ.symm ▸ hS
    have hP' : SpS (f_X12_needPull I s k z 1).2 := hJ.symm ▸ hP
    have g0' : ¬ (f_X12_needPull I s k z 1).2 214 s.toNatClampNeg = 0 := by rw [hJ]; exact g0
    have g1' : ¬ (f_X12_needPull I s k z 1).2 207 k.toNatClampNeg = 0 := by rw [hJ]; exact g1
    refine ex_aload_n dX12_pull_18 rfl ?_
    refine ex_iload_n dX12_pull_19 rfl ?_
    refine ex_iload_n dX12_pull_20 rfl ?_
    refine ex_iload_n dX12_pull_21 rfl ?_
    refine ex_aload_n dX12_pull_22 rfl ?_
    refine g_12_21 dX12_pull_23 rfl wf_X12_54 (by first | assumption | rfl) (show Rt _ 200 21 = some 215 from rfl) ?_
    refine ex_iconst (v := 5) dX12_pull_26 (by decide) ?_
    refine ex_iload_n dX12_pull_27 rfl ?_
    refine ex_imul dX12_pull_28 ?_
    refine rx_iald dX12_pull_29 (by first | assumption | rfl) (ixz (C := 5) (R := 3) rfl (by decide) vs (by decide)).1 ?_
    refine ex_aload_n dX12_pull_30 rfl ?_
    refine g_12_21 dX12_pull_31 rfl wf_X12_54 (by first | assumption | rfl) (show Rt _ 200 21 = some 215 from rfl) ?_
    refine ex_iconst (v := 5) dX12_pull_34 (by decide) ?_
    refine ex_iload_n dX12_pull_35 rfl ?_
    refine ex_imul dX12_pull_36 ?_
    refine ex_iconst (v := 2) dX12_pull_37 (by decide) ?_
    refine ex_iadd dX12_pull_38 ?_
    refine rx_iald dX12_pull_39 (by first | assumption | rfl) (ixm (c := 5) (C := 5) (R := 3) rfl vs (i := 2) (by unfold vp_in; decide) (by decide)).1 ?_
    refine rx_cV (kd := 12) dX12_pull_40 rfl lk_X12_327 rfl (by decide) (by first | assumption | rfl) ⟨⟨rfl, rfl⟩, by decide, by decide⟩ rfl (Nat.le_of_ble_eq_true rfl) rfl (s_plG vs vk vz (sp_c vs hP' g0') hH' g1' hS' hP' g0') (Rv.k ?_)
    refine ex_aload_n dX12_pull_43 rfl ?_
    refine ex_aload_n dX12_pull_44 rfl ?_
    refine g_12_33 dX12_pull_45 rfl wf_X12_320 (by first | assumption | rfl) ?_
    refine ex_aload_n dX12_pull_48 rfl ?_
    refine g_12_32 dX12_pull_49 rfl wf_X12_317 (by first | assumption | rfl) ?_
    refine rx_cV (kd := 12) dX12_pull_52 rfl lk_X12_108 rfl (by decide) (by first | assumption | rfl) ⟨⟨rfl, rfl⟩, by decide, by decide⟩ rfl (Nat.le_of_ble_eq_true rfl) rfl s_X12_tells (Rs.k ?_)
    refine ex_iret dX12_pull_55 rfl rfl ⟨rfl, Nat.le_refl _⟩ ?_
    exact ⟨(by simp only [f_X12_pull, ↓h12, if_true, if_false, not_true_eq_false, not_false_eq_true]), (by simp only [f_X12_pull, ↓h12, if_true, if_false, not_true_eq_false, not_false_eq_true])⟩
  · skip
    refine ex_iload dX12_pull_15 rfl ?_
    refine ex_iret dX12_pull_17 rfl rfl ⟨rfl, Nat.le_refl _⟩ ?_
    exact ⟨(by simp only [f_X12_pull, ↓h12, if_true, if_false, not_true_eq_false, not_false_eq_true]), (by simp only [f_X12_pull, ↓h12, if_true, if_false, not_true_eq_false, not_false_eq_true])⟩
def tgN (I : Im) (s q z : Nat) (c : Int32) (k : Nat) : Int32 × Int32 × Im :=
  match k with
  | 0 => (-9, 0, I)
  | k + 1 => if (tgN I s q z c k).1 = -9 ∨ (plI (tgN I s q z c k).2.2 s q z c (nI (k + 1))) 200 32 < (tgN I s q z c k).2.1 then (nI (k + 1), (plI (tgN I s q z c k).2.2 s q z c (nI (k + 1))) 200 32, (plI (tgN I s q z c k).2.2 s q z c (nI (k + 1)))) else ((tgN I s q z c k).1, (tgN I s q z c k).2.1, (plI (tgN I s q z c k).2.2 s q z c (nI (k + 1))))
termination_by k
theorem tgN_0 {s q z : Nat} {c : Int32} : tgN I s q z c 0 = (-9, 0, I) := by rw [tgN]
theorem tgN_s {s q z k : Nat} {c : Int32} : tgN I s q z c (k + 1) = if (tgN I s q z c k).1 = -9 ∨ (plI (tgN I s q z c k).2.2 s q z c (nI (k + 1))) 200 32 < (tgN I s q z c k).2.1 then (nI (k + 1), (plI (tgN I s q z c k).2.2 s q z c (nI (k + 1))) 200 32, (plI (tgN I s q z c k).2.2 s q z c (nI (k + 1)))) else ((tgN I s q z c k).1, (tgN I s q z c k).2.1, (plI (tgN I s q z c k).2.2 s q z c (nI (k + 1)))) := by rw [tgN]
theorem tgN_off {s q z e : Nat} {c : Int32} (h : e ≠ 217) (h2 : e ≠ 200) : ∀ k, (tgN I s q z c k).2.2 e = I e := by
  intro k
  induction k with
  | zero => rw [tgN_0]
  | succ k ih =>
    rw [tgN_s]
    split
    · exact (plI_off h h2).trans ih
    · exact (plI_off h h2).trans ih
def whN (I : Im) (s q z : Nat) (g : Int32) (k : Nat) : Int32 × Int32 × Im :=
  match k with
  | 0 => (-9, 0, I)
  | k + 1 => if (whN I s q z g k).1 = -9 ∨ (plI (whN I s q z g k).2.2 s q z (nI k) g) 200 32 < (whN I s q z g k).2.1 then (nI k, (plI (whN I s q z g k).2.2 s q z (nI k) g) 200 32, (plI (whN I s q z g k).2.2 s q z (nI k) g)) else ((whN I s q z g k).1, (whN I s q z g k).2.1, (plI (whN I s q z g k).2.2 s q z (nI k) g))
termination_by k
theorem whN_0 {s q z : Nat} {g : Int32} : whN I s q z g 0 = (-9, 0, I) := by rw [whN]
theorem whN_s {s q z k : Nat} {g : Int32} : whN I s q z g (k + 1) = if (whN I s q z g k).1 = -9 ∨ (plI (whN I s q z g k).2.2 s q z (nI k) g) 200 32 < (whN I s q z g k).2.1 then (nI k, (plI (whN I s q z g k).2.2 s q z (nI k) g) 200 32, (plI (whN I s q z g k).2.2 s q z (nI k) g)) else ((whN I s q z g k).1, (whN I s q z g k).2.1, (plI (whN I s q z g k).2.2 s q z (nI k) g)) := by rw [whN]
theorem whN_off {s q z e : Nat} {g : Int32} (h : e ≠ 217) (h2 : e ≠ 200) : ∀ k, (whN I s q z g k).2.2 e = I e := by
  intro k
  induction k with
  | zero => rw [whN_0]
  | succ k ih =>
    rw [whN_s]
    split
    · exact (plI_off h h2).trans ih
    · exact (plI_off h h2).trans ih
set_option maxRecDepth 100000 in
set_option maxHeartbeats 4000000 in
theorem lm_tig {P : Option Value → Mem → Prop} {x y z v : Int32} (vs : vp_in x 3) (vk : vp_in y 4) (vz : vp_in z 4) (hH : HmS I) (hS : SbS I) (hP : SpS I) (hh : ¬ I 207 y.toNatClampNeg = 0) (hp : ¬ I 214 x.toNatClampNeg = 0) (kont : Ex G mdX12_tight 84 [some (.ref 200), some (.int x), some (.int y), some (.int z), some (.int v), some (.int (tgN I x.toNatClampNeg y.toNatClampNeg z.toNatClampNeg (I 215 (5 * x).toNatClampNeg) 9).1), some (.int (tgN I x.toNatClampNeg y.toNatClampNeg z.toNatClampNeg (I 215 (5 * x).toNatClampNeg) 9).2.1), some (.int (nI (9 + 1)))] [] (mk (tgN I x.toNatClampNeg y.toNatClampNeg z.toNatClampNeg (I 215 (5 * x).toNatClampNeg) 9).2.2 L t) 0 0 P) : Ex G mdX12_tight 28 [some (.ref 200), some (.int x), some (.int y), some (.int z), some (.int v), some (.int (tgN I x.toNatClampNeg y.toNatClampNeg z.toNatClampNeg (I 215 (5 * x).toNatClampNeg) 0).1), some (.int (tgN I x.toNatClampNeg y.toNatClampNeg z.toNatClampNeg (I 215 (5 * x).toNatClampNeg) 0).2.1), some (.int (nI (0 + 1)))] [] (mk (tgN I x.toNatClampNeg y.toNatClampNeg z.toNatClampNeg (I 215 (5 * x).toNatClampNeg) 0).2.2 L t) 0 0 P := by
  refine loop_up (G := G) (d := mdX12_tight) (pc := 28) (st := []) (uc := 0) (us := 0) (P := P) 9 (fun k => mk (tgN I x.toNatClampNeg y.toNatClampNeg z.toNatClampNeg (I 215 (5 * x).toNatClampNeg) k).2.2 L t) (fun k => [some (.ref 200), some (.int x), some (.int y), some (.int z), some (.int v), some (.int (tgN I x.toNatClampNeg y.toNatClampNeg z.toNatClampNeg (I 215 (5 * x).toNatClampNeg) k).1), some (.int (tgN I x.toNatClampNeg y.toNatClampNeg z.toNatClampNeg (I 215 (5 * x).toNatClampNeg) k).2.1), some (.int (nI (k + 1)))]) ?_ ?_ 0 (Nat.zero_le _)
  · intro k hk ih
    have hHk : HmS (tgN I x.toNatClampNeg y.toNatClampNeg z.toNatClampNeg (I 215 (5 * x).toNatClampNeg) k).2.2 := HmS_of (tgN_off (by decide) (by decide) k) (tgN_off (by decide) (by decide) k) hH
    have hSk : SbS (tgN I x.toNatClampNeg y.toNatClampNeg z.toNatClampNeg (I 215 (5 * x).toNatClampNeg) k).2.2 := SbS_of (tgN_off (by decide) (by decide) k) (tgN_off (by decide) (by decide) k) hS
    have hPk : SpS (tgN I x.toNatClampNeg y.toNatClampNeg z.toNatClampNeg (I 215 (5 * x).toNatClampNeg) k).2.2 := SpS_of (tgN_off (by decide) (by decide) k) (tgN_off (by decide) (by decide) k) hP
    have gk : ¬ (tgN I x.toNatClampNeg y.toNatClampNeg z.toNatClampNeg (I 215 (5 * x).toNatClampNeg) k).2.2 207 y.toNatClampNeg = 0 := by rw [tgN_off (by decide) (by decide) k]; exact hh
    have pk : ¬ (tgN I x.toNatClampNeg y.toNatClampNeg z.toNatClampNeg (I 215 (5 * x).toNatClampNeg) k).2.2 214 x.toNatClampNeg = 0 := by rw [tgN_off (by decide) (by decide) k]; exact hp
    refine ex_iload dX12_tight_28 rfl ?_
    refine ex_bipush (v := 9) dX12_tight_30 (by decide) ?_
    refine ex_icmp_gt 84 dX12_tight_32 (by decide) (fun h32 => ?_) (fun h32 => ?_)
    · exact absurd h32 (nI_nlt (a := 9) (by omega) (by decide))
    · skip
      refine ex_aload_n dX12_tight_35 rfl ?_
      refine ex_iload_n dX12_tight_36 rfl ?_
      refine ex_iload_n dX12_tight_37 rfl ?_
      refine ex_iload_n dX12_tight_38 rfl ?_
      refine ex_aload_n dX12_tight_39 rfl ?_
      refine g_12_21 dX12_tight_40 rfl wf_X12_54 (by first | assumption | rfl) (show Rt _ 200 21 = some 215 from rfl) ?_
      refine ex_iconst (v := 5) dX12_tight_43 (by decide) ?_
      refine ex_iload_n dX12_tight_44 rfl ?_
      refine ex_imul dX12_tight_45 ?_
      refine rx_iald dX12_tight_46 (by first | assumption | rfl) (ixz (C := 5) (R := 3) rfl (by decide) vs (by decide)).1 ?_
      rw [tgN_off (by decide) (by decide) k]
      refine ex_iload dX12_tight_47 rfl ?_
      refine rx_cV (kd := 12) dX12_tight_49 rfl lk_X12_327 rfl (by decide) (by first | assumption | rfl) ⟨⟨rfl, rfl⟩, by decide, by decide⟩ rfl (Nat.le_of_ble_eq_true rfl) rfl (s_plG vs vk vz (sp_c vs hP hp) hHk gk hSk hPk pk) (Rv.k ?_)
      refine ex_iload dX12_tight_52 rfl ?_
      refine ex_bipush (v := (-9)) dX12_tight_54 (by decide) ?_
      refine ex_icmp_eq 68 dX12_tight_56 (by decide) (fun h56 => ?_) (fun h56 => ?_)
      · have hc : tgN I x.toNatClampNeg y.toNatClampNeg z.toNatClampNeg (I 215 (5 * x).toNatClampNeg) (k + 1) = (nI (k + 1), (plI (tgN I x.toNatClampNeg y.toNatClampNeg z.toNatClampNeg (I 215 (5 * x).toNatClampNeg) k).2.2 x.toNatClampNeg y.toNatClampNeg z.toNatClampNeg (I 215 (5 * x).toNatClampNeg) (nI (k + 1))) 200 32, (plI (tgN I x.toNatClampNeg y.toNatClampNeg z.toNatClampNeg (I 215 (5 * x).toNatClampNeg) k).2.2 x.toNatClampNeg y.toNatClampNeg z.toNatClampNeg (I 215 (5 * x).toNatClampNeg) (nI (k + 1)))) := tgN_s.trans (if_pos (Or.inl h56))
        refine ex_iload dX12_tight_68 rfl ?_
        refine st_i5 dX12_tight_70 (by first | exact rfl | exact trivial) ?_
        refine ex_aload_n dX12_tight_72 rfl ?_
        refine g_12_32 dX12_tight_73 rfl wf_X12_317 (by first | assumption | rfl) ?_
        refine st_i6 dX12_tight_76 (by first | exact rfl | exact trivial) ?_
        refine inc7 (v := _ + 1) dX12_tight_78 (by rfl) (by first | exact rfl | exact trivial) ?_
        refine ex_goto 28 dX12_tight_81 (by decide) ?_
        rw [nI_1]
        rw [hc] at ih
        exact ih
      · skip
        refine ex_aload_n dX12_tight_59 rfl ?_
        refine g_12_32 dX12_tight_60 rfl wf_X12_317 (by first | assumption | rfl) ?_
        refine ex_iload dX12_tight_63 rfl ?_
        refine ex_icmp_ge 78 dX12_tight_65 (by decide) (fun h65 => ?_) (fun h65 => ?_)
        · have hc : tgN I x.toNatClampNeg y.toNatClampNeg z.toNatClampNeg (I 215 (5 * x).toNatClampNeg) (k + 1) = ((tgN I x.toNatClampNeg y.toNatClampNeg z.toNatClampNeg (I 215 (5 * x).toNatClampNeg) k).1, (tgN I x.toNatClampNeg y.toNatClampNeg z.toNatClampNeg (I 215 (5 * x).toNatClampNeg) k).2.1, (plI (tgN I x.toNatClampNeg y.toNatClampNeg z.toNatClampNeg (I 215 (5 * x).toNatClampNeg) k).2.2 x.toNatClampNeg y.toNatClampNeg z.toNatClampNeg (I 215 (5 * x).toNatClampNeg) (nI (k + 1)))) := tgN_s.trans (if_neg (fun z => z.elim h56 (fun y => absurd y (Int32.not_lt.mpr h65))))
          refine inc7 (v := _ + 1) dX12_tight_78 (by rfl) (by first | exact rfl | exact trivial) ?_
          refine ex_goto 28 dX12_tight_81 (by decide) ?_
          rw [nI_1]
          rw [hc] at ih
          exact ih
        · have hc : tgN I x.toNatClampNeg y.toNatClampNeg z.toNatClampNeg (I 215 (5 * x).toNatClampNeg) (k + 1) = (nI (k + 1), (plI (tgN I x.toNatClampNeg y.toNatClampNeg z.toNatClampNeg (I 215 (5 * x).toNatClampNeg) k).2.2 x.toNatClampNeg y.toNatClampNeg z.toNatClampNeg (I 215 (5 * x).toNatClampNeg) (nI (k + 1))) 200 32, (plI (tgN I x.toNatClampNeg y.toNatClampNeg z.toNatClampNeg (I 215 (5 * x).toNatClampNeg) k).2.2 x.toNatClampNeg y.toNatClampNeg z.toNatClampNeg (I 215 (5 * x).toNatClampNeg) (nI (k + 1)))) := tgN_s.trans (if_pos (Or.inr (Int32.not_le.mp h65)))
          refine ex_iload dX12_tight_68 rfl ?_
          refine st_i5 dX12_tight_70 (by first | exact rfl | exact trivial) ?_
          refine ex_aload_n dX12_tight_72 rfl ?_
          refine g_12_32 dX12_tight_73 rfl wf_X12_317 (by first | assumption | rfl) ?_
          refine st_i6 dX12_tight_76 (by first | exact rfl | exact trivial) ?_
          refine inc7 (v := _ + 1) dX12_tight_78 (by rfl) (by first | exact rfl | exact trivial) ?_
          refine ex_goto 28 dX12_tight_81 (by decide) ?_
          rw [nI_1]
          rw [hc] at ih
          exact ih
  · skip
    refine ex_iload dX12_tight_28 rfl ?_
    refine ex_bipush (v := 9) dX12_tight_30 (by decide) ?_
    refine ex_icmp_gt 84 dX12_tight_32 (by decide) (fun h32 => ?_) (fun h32 => ?_)
    · skip
      exact kont
    · exact absurd (nI_lt (a := 9) (by decide) (by decide)) h32
theorem lm_tig0 {P : Option Value → Mem → Prop} {x y z v : Int32} (vs : vp_in x 3) (vk : vp_in y 4) (vz : vp_in z 4) (hH : HmS I) (hS : SbS I) (hP : SpS I) (hh : ¬ I 207 y.toNatClampNeg = 0) (hp : ¬ I 214 x.toNatClampNeg = 0) (kont : Ex G mdX12_tight 84 [some (.ref 200), some (.int x), some (.int y), some (.int z), some (.int v), some (.int (tgN I x.toNatClampNeg y.toNatClampNeg z.toNatClampNeg (I 215 (5 * x).toNatClampNeg) 9).1), some (.int (tgN I x.toNatClampNeg y.toNatClampNeg z.toNatClampNeg (I 215 (5 * x).toNatClampNeg) 9).2.1), none] [] (mk (tgN I x.toNatClampNeg y.toNatClampNeg z.toNatClampNeg (I 215 (5 * x).toNatClampNeg) 9).2.2 L t) 0 0 P) : Ex G mdX12_tight 28 [some (.ref 200), some (.int x), some (.int y), some (.int z), some (.int v), some (.int (-9)), some (.int 0), some (.int 1)] [] (mk I L t) 0 0 P := by
  have h := lm_tig (G := G) (I := I) (L := L) (v := v) vs vk vz hH hS hP hh hp (P := P) (fg7 kont)
  rw [tgN_0] at h
  exact h
def f_X12_tight (I : Im) (s : Int32) (k : Int32) (z : Int32) : Int32 × Im :=
  let I1 : Im := (f_X12_needPull I s k z 1).2
  if 0 ≤ ((f_X12_needPull I s k z 1).1) then
    let I2 : Im := (tgN I1 s.toNatClampNeg k.toNatClampNeg z.toNatClampNeg (I1 215 (5 * s).toNatClampNeg) 9).2.2
    let I3 : Im := up2 I2 200 2 ((tgN I1 s.toNatClampNeg k.toNatClampNeg z.toNatClampNeg (I1 215 (5 * s).toNatClampNeg) 9).2.1)
    (((tgN I1 s.toNatClampNeg k.toNatClampNeg z.toNatClampNeg (I1 215 (5 * s).toNatClampNeg) 9).1), I3)
  else
    ((f_X12_needPull I s k z 1).1, I1)
set_option maxRecDepth 100000 in
set_option maxHeartbeats 4000000 in
theorem s_X12_tight  {s : Int32} {k : Int32} {z : Int32} (hH : HmS I) (hS : SbS I) (hP : SpS I) : Ca G mdX12_tight [.ref 200, .int s, .int k, .int z] (mk I L t) (Rs (.int (f_X12_tight I s k z).1) (mk ((f_X12_tight I s k z).2) L t)) := by
  refine Ca.intro [some (.ref 200), some (.int s), some (.int k), some (.int z), none, none, none, none] (by decide) (Nat.le_of_ble_eq_true rfl) rfl rfl ?_
  refine ex_aload_n dX12_tight_0 rfl ?_
  refine ex_iload_n dX12_tight_1 rfl ?_
  refine ex_iload_n dX12_tight_2 rfl ?_
  refine ex_iload_n dX12_tight_3 rfl ?_
  refine ex_iconst (v := 1) dX12_tight_4 (by decide) ?_
  refine rx_cV (kd := 12) dX12_tight_5 rfl lk_X12_323 rfl (by decide) (by first | assumption | rfl) ⟨⟨rfl, rfl⟩, by decide, by decide⟩ rfl (Nat.le_of_ble_eq_true rfl) rfl s_X12_needPull (Rs.k ?_)
  refine st_i4 dX12_tight_8 (by first | exact rfl | exact trivial) ?_
  refine ex_iload dX12_tight_10 rfl ?_
  refine ex_if_ge 18 dX12_tight_12 (by decide) (fun h12 => ?_) (fun h12 => ?_)
  · obtain ⟨hJ, vs, vk, vz, g0, g1, g2⟩ := np0 h12
    have hH' : HmS (f_X12_needPull I s k z 1).2 := hJ.symm ▸ hH
    have hS' : SbS (f_X12_needPull I s k z 1).2 := hJ.symm ▸ hS
    have hP' : SpS (f_X12_needPull I s k z 1).2 := hJ.symm ▸ hP
    have g0' : ¬ (f_X12_needPull I s k z 1).2 214 s.toNatClampNeg = 0 := by rw [hJ]; exact g0
    have g1' : ¬ (f_X12_needPull I s k z 1).2 207 k.toNatClampNeg = 0 := by rw [hJ]; exact g1
    refine ex_bipush (v := (-9)) dX12_tight_18 (by decide) ?_
    refine st_i5 dX12_tight_20 (by first | exact rfl | exact trivial) ?_
    refine ex_iconst (v := 0) dX12_tight_22 (by decide) ?_
    refine st_i6 dX12_tight_23 (by first | exact rfl | exact trivial) ?_
    refine ex_iconst (v := 1) dX12_tight_25 (by decide) ?_
    refine st_i7 dX12_tight_26 (by first | exact rfl | exact trivial) ?_
    refine (lm_tig0 vs vk vz hH' hS' hP' g1' g0') ?_
    refine ex_aload_n dX12_tight_84 rfl ?_
    refine ex_iload dX12_tight_85 rfl ?_
    refine ex_iload dX12_tight_87 rfl ?_
    refine rx_cV (kd := 12) dX12_tight_89 rfl lk_X12_108 rfl (by decide) (by first | assumption | rfl) ⟨⟨rfl, rfl⟩, by decide, by decide⟩ rfl (Nat.le_of_ble_eq_true rfl) rfl s_X12_tells (Rs.k ?_)
    refine ex_iret dX12_tight_92 rfl rfl ⟨rfl, Nat.le_refl _⟩ ?_
    exact ⟨(by simp only [f_X12_tight, ↓h12, if_true, if_false, not_true_eq_false, not_false_eq_true]), (by simp only [f_X12_tight, ↓h12, if_true, if_false, not_true_eq_false, not_false_eq_true])⟩
  · skip
    refine ex_iload dX12_tight_15 rfl ?_
    refine ex_iret dX12_tight_17 rfl rfl ⟨rfl, Nat.le_refl _⟩ ?_
    exact ⟨(by simp only [f_X12_tight, ↓h12, if_true, if_false, not_true_eq_false, not_false_eq_true]), (by simp only [f_X12_tight, ↓h12, if_true, if_false, not_true_eq_false, not_false_eq_true])⟩
set_option maxRecDepth 100000 in
set_option maxHeartbeats 4000000 in
theorem lm_whe {P : Option Value → Mem → Prop} {x y z v : Int32} (vs : vp_in x 3) (vk : vp_in y 4) (vz : vp_in z 4) (hH : HmS I) (hS : SbS I) (hP : SpS I) (hh : ¬ I 207 y.toNatClampNeg = 0) (hp : ¬ I 214 x.toNatClampNeg = 0) {n : Nat} (hn16 : n ≤ 16) (hn : I 208 (21 * y.toNatClampNeg) = nI n) (kont : Ex G mdX12_where 93 [some (.ref 200), some (.int x), some (.int y), some (.int z), some (.int v), some (.int (whN I x.toNatClampNeg y.toNatClampNeg z.toNatClampNeg (I 215 (5 * x + 2).toNatClampNeg) n).1), some (.int (whN I x.toNatClampNeg y.toNatClampNeg z.toNatClampNeg (I 215 (5 * x + 2).toNatClampNeg) n).2.1), some (.int (nI n))] [] (mk (whN I x.toNatClampNeg y.toNatClampNeg z.toNatClampNeg (I 215 (5 * x + 2).toNatClampNeg) n).2.2 L t) 0 0 P) : Ex G mdX12_where 28 [some (.ref 200), some (.int x), some (.int y), some (.int z), some (.int v), some (.int (whN I x.toNatClampNeg y.toNatClampNeg z.toNatClampNeg (I 215 (5 * x + 2).toNatClampNeg) 0).1), some (.int (whN I x.toNatClampNeg y.toNatClampNeg z.toNatClampNeg (I 215 (5 * x + 2).toNatClampNeg) 0).2.1), some (.int (nI 0))] [] (mk (whN I x.toNatClampNeg y.toNatClampNeg z.toNatClampNeg (I 215 (5 * x + 2).toNatClampNeg) 0).2.2 L t) 0 0 P := by
  refine loop_up (G := G) (d := mdX12_where) (pc := 28) (st := []) (uc := 0) (us := 0) (P := P) n (fun k => mk (whN I x.toNatClampNeg y.toNatClampNeg z.toNatClampNeg (I 215 (5 * x + 2).toNatClampNeg) k).2.2 L t) (fun k => [some (.ref 200), some (.int x), some (.int y), some (.int z), some (.int v), some (.int (whN I x.toNatClampNeg y.toNatClampNeg z.toNatClampNeg (I 215 (5 * x + 2).toNatClampNeg) k).1), some (.int (whN I x.toNatClampNeg y.toNatClampNeg z.toNatClampNeg (I 215 (5 * x + 2).toNatClampNeg) k).2.1), some (.int (nI k))]) ?_ ?_ 0 (Nat.zero_le _)
  · intro k hk ih
    have hHk : HmS (whN I x.toNatClampNeg y.toNatClampNeg z.toNatClampNeg (I 215 (5 * x + 2).toNatClampNeg) k).2.2 := HmS_of (whN_off (by decide) (by decide) k) (whN_off (by decide) (by decide) k) hH
    have hSk : SbS (whN I x.toNatClampNeg y.toNatClampNeg z.toNatClampNeg (I 215 (5 * x + 2).toNatClampNeg) k).2.2 := SbS_of (whN_off (by decide) (by decide) k) (whN_off (by decide) (by decide) k) hS
    have hPk : SpS (whN I x.toNatClampNeg y.toNatClampNeg z.toNatClampNeg (I 215 (5 * x + 2).toNatClampNeg) k).2.2 := SpS_of (whN_off (by decide) (by decide) k) (whN_off (by decide) (by decide) k) hP
    have gk : ¬ (whN I x.toNatClampNeg y.toNatClampNeg z.toNatClampNeg (I 215 (5 * x + 2).toNatClampNeg) k).2.2 207 y.toNatClampNeg = 0 := by rw [whN_off (by decide) (by decide) k]; exact hh
    have pk : ¬ (whN I x.toNatClampNeg y.toNatClampNeg z.toNatClampNeg (I 215 (5 * x + 2).toNatClampNeg) k).2.2 214 x.toNatClampNeg = 0 := by rw [whN_off (by decide) (by decide) k]; exact hp
    refine ex_iload dX12_where_28 rfl ?_
    refine ex_aload_n dX12_where_30 rfl ?_
    refine g_12_11 dX12_where_31 rfl wf_X12_33 (by first | assumption | rfl) (show Rt _ 200 11 = some 208 from rfl) ?_
    refine ex_bipush (v := 21) dX12_where_34 (by decide) ?_
    refine ex_iload_n dX12_where_36 rfl ?_
    refine ex_imul dX12_where_37 ?_
    refine rx_iald dX12_where_38 (by first | assumption | rfl) (ixz (C := 21) (R := 4) rfl (by decide) vk (by decide)).1 ?_
    rw [whN_off (by decide) (by decide) k, (ixz (c := 21) (C := 21) (R := 4) rfl (by decide) vk (by decide)).2, hn]
    refine ex_icmp_ge 93 dX12_where_39 (by decide) (fun h39 => ?_) (fun h39 => ?_)
    · exact absurd h39 (nI_ge hk (by omega))
    · skip
      refine ex_aload_n dX12_where_42 rfl ?_
      refine ex_iload_n dX12_where_43 rfl ?_
      refine ex_iload_n dX12_where_44 rfl ?_
      refine ex_iload_n dX12_where_45 rfl ?_
      refine ex_iload dX12_where_46 rfl ?_
      refine ex_aload_n dX12_where_48 rfl ?_
      refine g_12_21 dX12_where_49 rfl wf_X12_54 (by first | assumption | rfl) (show Rt _ 200 21 = some 215 from rfl) ?_
      refine ex_iconst (v := 5) dX12_where_52 (by decide) ?_
      refine ex_iload_n dX12_where_53 rfl ?_
      refine ex_imul dX12_where_54 ?_
      refine ex_iconst (v := 2) dX12_where_55 (by decide) ?_
      refine ex_iadd dX12_where_56 ?_
      refine rx_iald dX12_where_57 (by first | assumption | rfl) (ixm (c := 5) (C := 5) (R := 3) rfl vs (i := 2) (by unfold vp_in; decide) (by decide)).1 ?_
      rw [whN_off (by decide) (by decide) k]
      refine rx_cV (kd := 12) dX12_where_58 rfl lk_X12_327 rfl (by decide) (by first | assumption | rfl) ⟨⟨rfl, rfl⟩, by decide, by decide⟩ rfl (Nat.le_of_ble_eq_true rfl) rfl (s_plG vs vk vz (vp_in_nI (show k < 16 by omega) (by decide)) hHk gk hSk hPk pk) (Rv.k ?_)
      refine ex_iload dX12_where_61 rfl ?_
      refine ex_bipush (v := (-9)) dX12_where_63 (by decide) ?_
      refine ex_icmp_eq 77 dX12_where_65 (by decide) (fun h65 => ?_) (fun h65 => ?_)
      · have hc : whN I x.toNatClampNeg y.toNatClampNeg z.toNatClampNeg (I 215 (5 * x + 2).toNatClampNeg) (k + 1) = (nI k, (plI (whN I x.toNatClampNeg y.toNatClampNeg z.toNatClampNeg (I 215 (5 * x + 2).toNatClampNeg) k).2.2 x.toNatClampNeg y.toNatClampNeg z.toNatClampNeg (nI k) (I 215 (5 * x + 2).toNatClampNeg)) 200 32, (plI (whN I x.toNatClampNeg y.toNatClampNeg z.toNatClampNeg (I 215 (5 * x + 2).toNatClampNeg) k).2.2 x.toNatClampNeg y.toNatClampNeg z.toNatClampNeg (nI k) (I 215 (5 * x + 2).toNatClampNeg))) := whN_s.trans (if_pos (Or.inl h65))
        refine ex_iload dX12_where_77 rfl ?_
        refine st_i5 dX12_where_79 (by first | exact rfl | exact trivial) ?_
        refine ex_aload_n dX12_where_81 rfl ?_
        refine g_12_32 dX12_where_82 rfl wf_X12_317 (by first | assumption | rfl) ?_
        refine st_i6 dX12_where_85 (by first | exact rfl | exact trivial) ?_
        refine inc7 (v := _ + 1) dX12_where_87 (by rfl) (by first | exact rfl | exact trivial) ?_
        refine ex_goto 28 dX12_where_90 (by decide) ?_
        rw [nI_1]
        rw [hc] at ih
        exact ih
      · skip
        refine ex_aload_n dX12_where_68 rfl ?_
        refine g_12_32 dX12_where_69 rfl wf_X12_317 (by first | assumption | rfl) ?_
        refine ex_iload dX12_where_72 rfl ?_
        refine ex_icmp_ge 87 dX12_where_74 (by decide) (fun h74 => ?_) (fun h74 => ?_)
        · have hc : whN I x.toNatClampNeg y.toNatClampNeg z.toNatClampNeg (I 215 (5 * x + 2).toNatClampNeg) (k + 1) = ((whN I x.toNatClampNeg y.toNatClampNeg z.toNatClampNeg (I 215 (5 * x + 2).toNatClampNeg) k).1, (whN I x.toNatClampNeg y.toNatClampNeg z.toNatClampNeg (I 215 (5 * x + 2).toNatClampNeg) k).2.1, (plI (whN I x.toNatClampNeg y.toNatClampNeg z.toNatClampNeg (I 215 (5 * x + 2).toNatClampNeg) k).2.2 x.toNatClampNeg y.toNatClampNeg z.toNatClampNeg (nI k) (I 215 (5 * x + 2).toNatClampNeg))) := whN_s.trans (if_neg (fun z => z.elim h65 (fun y => absurd y (Int32.not_lt.mpr h74))))
          refine inc7 (v := _ + 1) dX12_where_87 (by rfl) (by first | exact rfl | exact trivial) ?_
          refine ex_goto 28 dX12_where_90 (by decide) ?_
          rw [nI_1]
          rw [hc] at ih
          exact ih
        · have hc : whN I x.toNatClampNeg y.toNatClampNeg z.toNatClampNeg (I 215 (5 * x + 2).toNatClampNeg) (k + 1) = (nI k, (plI (whN I x.toNatClampNeg y.toNatClampNeg z.toNatClampNeg (I 215 (5 * x + 2).toNatClampNeg) k).2.2 x.toNatClampNeg y.toNatClampNeg z.toNatClampNeg (nI k) (I 215 (5 * x + 2).toNatClampNeg)) 200 32, (plI (whN I x.toNatClampNeg y.toNatClampNeg z.toNatClampNeg (I 215 (5 * x + 2).toNatClampNeg) k).2.2 x.toNatClampNeg y.toNatClampNeg z.toNatClampNeg (nI k) (I 215 (5 * x + 2).toNatClampNeg))) := whN_s.trans (if_pos (Or.inr (Int32.not_le.mp h74)))
          refine ex_iload dX12_where_77 rfl ?_
          refine st_i5 dX12_where_79 (by first | exact rfl | exact trivial) ?_
          refine ex_aload_n dX12_where_81 rfl ?_
          refine g_12_32 dX12_where_82 rfl wf_X12_317 (by first | assumption | rfl) ?_
          refine st_i6 dX12_where_85 (by first | exact rfl | exact trivial) ?_
          refine inc7 (v := _ + 1) dX12_where_87 (by rfl) (by first | exact rfl | exact trivial) ?_
          refine ex_goto 28 dX12_where_90 (by decide) ?_
          rw [nI_1]
          rw [hc] at ih
          exact ih
  · skip
    refine ex_iload dX12_where_28 rfl ?_
    refine ex_aload_n dX12_where_30 rfl ?_
    refine g_12_11 dX12_where_31 rfl wf_X12_33 (by first | assumption | rfl) (show Rt _ 200 11 = some 208 from rfl) ?_
    refine ex_bipush (v := 21) dX12_where_34 (by decide) ?_
    refine ex_iload_n dX12_where_36 rfl ?_
    refine ex_imul dX12_where_37 ?_
    refine rx_iald dX12_where_38 (by first | assumption | rfl) (ixz (C := 21) (R := 4) rfl (by decide) vk (by decide)).1 ?_
    rw [whN_off (by decide) (by decide) n, (ixz (c := 21) (C := 21) (R := 4) rfl (by decide) vk (by decide)).2, hn]
    refine ex_icmp_ge 93 dX12_where_39 (by decide) (fun h39 => ?_) (fun h39 => ?_)
    · skip
      exact kont
    · exact absurd (Int32.le_refl _) h39
theorem lm_whe0 {P : Option Value → Mem → Prop} {x y z v : Int32} (vs : vp_in x 3) (vk : vp_in y 4) (vz : vp_in z 4) (hH : HmS I) (hS : SbS I) (hP : SpS I) (hh : ¬ I 207 y.toNatClampNeg = 0) (hp : ¬ I 214 x.toNatClampNeg = 0) (kont : Ex G mdX12_where 93 [some (.ref 200), some (.int x), some (.int y), some (.int z), some (.int v), some (.int (whN I x.toNatClampNeg y.toNatClampNeg z.toNatClampNeg (I 215 (5 * x + 2).toNatClampNeg) (I 208 (21 * y.toNatClampNeg)).toNatClampNeg).1), some (.int (whN I x.toNatClampNeg y.toNatClampNeg z.toNatClampNeg (I 215 (5 * x + 2).toNatClampNeg) (I 208 (21 * y.toNatClampNeg)).toNatClampNeg).2.1), none] [] (mk (whN I x.toNatClampNeg y.toNatClampNeg z.toNatClampNeg (I 215 (5 * x + 2).toNatClampNeg) (I 208 (21 * y.toNatClampNeg)).toNatClampNeg).2.2 L t) 0 0 P) : Ex G mdX12_where 28 [some (.ref 200), some (.int x), some (.int y), some (.int z), some (.int v), some (.int (-9)), some (.int 0), some (.int 0)] [] (mk I L t) 0 0 P := by
  obtain ⟨n, mo, h3, hn, hm, e0, e1⟩ := hH _ (vpn vk).1 hh
  rw [e0, nI_clamp (by omega)] at kont
  have h := lm_whe (G := G) (I := I) (L := L) (v := v) vs vk vz hH hS hP hh hp hn e0 (P := P) (fg7 kont)
  rw [whN_0] at h
  exact h
def f_X12_where (I : Im) (s : Int32) (k : Int32) (z : Int32) : Int32 × Im :=
  let I1 : Im := (f_X12_needPull I s k z 0).2
  if 0 ≤ ((f_X12_needPull I s k z 0).1) then
    let I2 : Im := (whN I1 s.toNatClampNeg k.toNatClampNeg z.toNatClampNeg (I1 215 (5 * s + 2).toNatClampNeg) (I1 208 (21 * k.toNatClampNeg)).toNatClampNeg).2.2
    let I3 : Im := up2 I2 200 2 ((whN I1 s.toNatClampNeg k.toNatClampNeg z.toNatClampNeg (I1 215 (5 * s + 2).toNatClampNeg) (I1 208 (21 * k.toNatClampNeg)).toNatClampNeg).2.1)
    (((whN I1 s.toNatClampNeg k.toNatClampNeg z.toNatClampNeg (I1 215 (5 * s + 2).toNatClampNeg) (I1 208 (21 * k.toNatClampNeg)).toNatClampNeg).1), I3)
  else
    ((f_X12_needPull I s k z 0).1, I1)
set_option maxRecDepth 100000 in
set_option maxHeartbeats 4000000 in
theorem s_X12_where  {s : Int32} {k : Int32} {z : Int32} (hH : HmS I) (hS : SbS I) (hP : SpS I) : Ca G mdX12_where [.ref 200, .int s, .int k, .int z] (mk I L t) (Rs (.int (f_X12_where I s k z).1) (mk ((f_X12_where I s k z).2) L t)) := by
  refine Ca.intro [some (.ref 200), some (.int s), some (.int k), some (.int z), none, none, none, none] (by decide) (Nat.le_of_ble_eq_true rfl) rfl rfl ?_
  refine ex_aload_n dX12_where_0 rfl ?_
  refine ex_iload_n dX12_where_1 rfl ?_
  refine ex_iload_n dX12_where_2 rfl ?_
  refine ex_iload_n dX12_where_3 rfl ?_
  refine ex_iconst (v := 0) dX12_where_4 (by decide) ?_
  refine rx_cV (kd := 12) dX12_where_5 rfl lk_X12_323 rfl (by decide) (by first | assumption | rfl) ⟨⟨rfl, rfl⟩, by decide, by decide⟩ rfl (Nat.le_of_ble_eq_true rfl) rfl s_X12_needPull (Rs.k ?_)
  refine st_i4 dX12_where_8 (by first | exact rfl | exact trivial) ?_
  refine ex_iload dX12_where_10 rfl ?_
  refine ex_if_ge 18 dX12_where_12 (by decide) (fun h12 => ?_) (fun h12 => ?_)
  · obtain ⟨hJ, vs, vk, vz, g0, g1, g2⟩ := np0 h12
    have hH' : HmS (f_X12_needPull I s k z 0).2 := hJ.symm ▸ hH
    have hS' : SbS (f_X12_needPull I s k z 0).2 := hJ.symm ▸ hS
    have hP' : SpS (f_X12_needPull I s k z 0).2 := hJ.symm ▸ hP
    have g0' : ¬ (f_X12_needPull I s k z 0).2 214 s.toNatClampNeg = 0 := by rw [hJ]; exact g0
    have g1' : ¬ (f_X12_needPull I s k z 0).2 207 k.toNatClampNeg = 0 := by rw [hJ]; exact g1
    refine ex_bipush (v := (-9)) dX12_where_18 (by decide) ?_
    refine st_i5 dX12_where_20 (by first | exact rfl | exact trivial) ?_
    refine ex_iconst (v := 0) dX12_where_22 (by decide) ?_
    refine st_i6 dX12_where_23 (by first | exact rfl | exact trivial) ?_
    refine ex_iconst (v := 0) dX12_where_25 (by decide) ?_
    refine st_i7 dX12_where_26 (by first | exact rfl | exact trivial) ?_
    refine (lm_whe0 vs vk vz hH' hS' hP' g1' g0') ?_
    refine ex_aload_n dX12_where_93 rfl ?_
    refine ex_iload dX12_where_94 rfl ?_
    refine ex_iload dX12_where_96 rfl ?_
    refine rx_cV (kd := 12) dX12_where_98 rfl lk_X12_108 rfl (by decide) (by first | assumption | rfl) ⟨⟨rfl, rfl⟩, by decide, by decide⟩ rfl (Nat.le_of_ble_eq_true rfl) rfl s_X12_tells (Rs.k ?_)
    refine ex_iret dX12_where_101 rfl rfl ⟨rfl, Nat.le_refl _⟩ ?_
    exact ⟨(by simp only [f_X12_where, ↓h12, if_true, if_false, not_true_eq_false, not_false_eq_true]), (by simp only [f_X12_where, ↓h12, if_true, if_false, not_true_eq_false, not_false_eq_true])⟩
  · skip
    refine ex_iload dX12_where_15 rfl ?_
    refine ex_iret dX12_where_17 rfl rfl ⟨rfl, Nat.le_refl _⟩ ?_
    exact ⟨(by simp only [f_X12_where, ↓h12, if_true, if_false, not_true_eq_false, not_false_eq_true]), (by simp only [f_X12_where, ↓h12, if_true, if_false, not_true_eq_false, not_false_eq_true])⟩
end M16
