section M15
variable {G : Gp} {I : Im} {L : Nat → Nat → Int64} {t : Nat}
theorem wl16 {N : Nat → Int32} {n mo c : Nat} (hw : WfN N n mo c) : wildN (rgM N) (n - 1) < 16 ∧ calmN (rgM N) (n - 1) < 16 := by
  have h1 := wildN_le (rgM N) (n - 1)
  have h2 := calmN_le (rgM N) (n - 1)
  have h3 := hw.1
  omega
theorem s_rangeG {N : Nat → Int32} {k : Nat} (hk : k < 16) (hb : I 200 24 = nI 500) : Ca G mdX12_range [.ref 200, .int (nI k)] (mk (nw I 500 N) L t) (Rs (.int (rgM N (nI k).toNatClampNeg)) (mk (nw I 500 N) L t)) := by
  rw [nI_clamp (by omega)]
  exact s_X12_range hk hb (by decide)
theorem nwk0 {k z : Int32} (h : 0 ≤ (f_X12_needWoken I k z).1) : (f_X12_needWoken I k z).2 = I ∧ vp_in k 4 ∧ vp_in z 4 ∧ ¬ I 207 k.toNatClampNeg = 0 ∧ ¬ I 209 z.toNatClampNeg = 0 := by
  unfold f_X12_needWoken at h ⊢
  by_cases c1 : b2i (0 ≤ k ∧ k ≤ 3) = 0
  · rw [if_pos c1] at h
    exact absurd (show (0 : Int32) ≤ -1 from h) (by decide)
  rw [if_neg c1] at h ⊢
  by_cases c2 : b2i (0 ≤ z ∧ z ≤ 3) = 0
  · rw [if_pos c2] at h
    exact absurd (show (0 : Int32) ≤ -1 from h) (by decide)
  rw [if_neg c2] at h ⊢
  by_cases c3 : I 207 k.toNatClampNeg = 0
  · rw [if_pos c3] at h
    exact absurd (show (0 : Int32) ≤ -3 from h) (by decide)
  rw [if_neg c3] at h ⊢
  by_cases c4 : I 209 z.toNatClampNeg = 0
  · rw [if_pos c4] at h
    exact absurd (show (0 : Int32) ≤ -3 from h) (by decide)
  rw [if_neg c4] at h ⊢
  exact ⟨rfl, (cl_lt (N := 4) (by decide) c1).2, (cl_lt (N := 4) (by decide) c2).2, c3, c4⟩
def f_X12_quiet (I : Im) (k : Int32) (z : Int32) : Int32 × Im :=
  let I1 : Im := (f_X12_needWoken I k z).2
  if 0 ≤ ((f_X12_needWoken I k z).1) then
    let I2 : Im := lwI I1 k.toNatClampNeg z.toNatClampNeg
    let I3 : Im := up2 I2 200 2 (nI (wildN (rgM (wkD I1 k.toNatClampNeg z.toNatClampNeg)) ((I1 208 (21 * k.toNatClampNeg)).toNatClampNeg - 1)))
    ((rgM (wkD I1 k.toNatClampNeg z.toNatClampNeg) ((nI (wildN (rgM (wkD I1 k.toNatClampNeg z.toNatClampNeg)) ((I1 208 (21 * k.toNatClampNeg)).toNatClampNeg - 1)))).toNatClampNeg), I3)
  else
    ((f_X12_needWoken I k z).1, I1)
set_option maxRecDepth 100000 in
set_option maxHeartbeats 4000000 in
theorem s_X12_quiet  {k : Int32} {z : Int32} (hH : HmS I) (hS : SbS I) : Ca G mdX12_quiet [.ref 200, .int k, .int z] (mk I L t) (Rs (.int (f_X12_quiet I k z).1) (mk ((f_X12_quiet I k z).2) L t)) := by
  refine Ca.intro [some (.ref 200), some (.int k), some (.int z), none] (by decide) (Nat.le_of_ble_eq_true rfl) rfl rfl ?_
  refine ex_aload_n dX12_quiet_0 rfl ?_
  refine ex_iload_n dX12_quiet_1 rfl ?_
  refine ex_iload_n dX12_quiet_2 rfl ?_
  refine rx_cV (kd := 12) dX12_quiet_3 rfl lk_X12_302 rfl (by decide) (by first | assumption | rfl) ⟨⟨rfl, rfl⟩, by decide, by decide⟩ rfl (Nat.le_of_ble_eq_true rfl) rfl s_X12_needWoken (Rs.k ?_)
  refine st_i3 dX12_quiet_6 (by first | exact rfl | exact trivial) ?_
  refine ex_iload_n dX12_quiet_7 rfl ?_
  refine ex_if_ge 13 dX12_quiet_8 (by decide) (fun h8 => ?_) (fun h8 => ?_)
  · obtain ⟨hJ, vk, vz, g1, g2⟩ := nwk0 h8
    have hH' : HmS (f_X12_needWoken I k z).2 := hJ.symm ▸ hH
    have hS' : SbS (f_X12_needWoken I k z).2 := hJ.symm ▸ hS
    have g1' : ¬ (f_X12_needWoken I k z).2 207 k.toNatClampNeg = 0 := by rw [hJ]; exact g1
    have hw := wkD_w hH' (vpn vk).1 g1' hS' (vpn vz).1
    refine ex_aload_n dX12_quiet_13 rfl ?_
    refine ex_iload_n dX12_quiet_14 rfl ?_
    refine ex_iload_n dX12_quiet_15 rfl ?_
    refine rx_cV (kd := 12) dX12_quiet_16 rfl lk_X12_305 rfl (by decide) (by first | assumption | rfl) ⟨⟨rfl, rfl⟩, by decide, by decide⟩ rfl (Nat.le_of_ble_eq_true rfl) rfl (s_X12_layWoken vk vz hH' g1' hS') (Rv.k ?_)
    refine ex_aload_n dX12_quiet_19 rfl ?_
    refine ex_aload_n dX12_quiet_20 rfl ?_
    refine rx_cV (kd := 12) dX12_quiet_21 rfl lk_X12_308 rfl (by decide) (by first | assumption | rfl) ⟨⟨rfl, rfl⟩, by decide, by decide⟩ rfl (Nat.le_of_ble_eq_true rfl) rfl (s_loudG hw lk_4) (Rs.k ?_)
    refine ex_aload_n dX12_quiet_24 rfl ?_
    refine ex_aload_n dX12_quiet_25 rfl ?_
    refine rx_cV (kd := 12) dX12_quiet_26 rfl lk_X12_308 rfl (by decide) (by first | assumption | rfl) ⟨⟨rfl, rfl⟩, by decide, by decide⟩ rfl (Nat.le_of_ble_eq_true rfl) rfl (s_loudG hw lk_4) (Rs.k ?_)
    refine rx_cV (kd := 12) dX12_quiet_29 rfl lk_X12_223 rfl (by decide) (by first | assumption | rfl) ⟨⟨rfl, rfl⟩, by decide, by decide⟩ rfl (Nat.le_of_ble_eq_true rfl) rfl (s_rangeG (wl16 hw).1 lk_4) (Rs.k ?_)
    refine rx_cV (kd := 12) dX12_quiet_32 rfl lk_X12_108 rfl (by decide) (by first | assumption | rfl) ⟨⟨rfl, rfl⟩, by decide, by decide⟩ rfl (Nat.le_of_ble_eq_true rfl) rfl s_X12_tells (Rs.k ?_)
    refine ex_iret dX12_quiet_35 rfl rfl ⟨rfl, Nat.le_refl _⟩ ?_
    exact ⟨(by simp only [f_X12_quiet, ↓h8, if_true, if_false, not_true_eq_false, not_false_eq_true, lwI]), (by simp only [f_X12_quiet, ↓h8, if_true, if_false, not_true_eq_false, not_false_eq_true, lwI])⟩
  · skip
    refine ex_iload_n dX12_quiet_11 rfl ?_
    refine ex_iret dX12_quiet_12 rfl rfl ⟨rfl, Nat.le_refl _⟩ ?_
    exact ⟨(by simp only [f_X12_quiet, ↓h8, if_true, if_false, not_true_eq_false, not_false_eq_true, lwI]), (by simp only [f_X12_quiet, ↓h8, if_true, if_false, not_true_eq_false, not_false_eq_true, lwI])⟩
def f_X12_still (I : Im) (k : Int32) (z : Int32) : Int32 × Im :=
  let I1 : Im := (f_X12_needWoken I k z).2
  if 0 ≤ ((f_X12_needWoken I k z).1) then
    let I2 : Im := lwI I1 k.toNatClampNeg z.toNatClampNeg
    let I3 : Im := up2 I2 200 2 (rgM (wkD I1 k.toNatClampNeg z.toNatClampNeg) ((nI (calmN (rgM (wkD I1 k.toNatClampNeg z.toNatClampNeg)) ((I1 208 (21 * k.toNatClampNeg)).toNatClampNeg - 1)))).toNatClampNeg)
    ((nI (calmN (rgM (wkD I1 k.toNatClampNeg z.toNatClampNeg)) ((I1 208 (21 * k.toNatClampNeg)).toNatClampNeg - 1))), I3)
  else
    ((f_X12_needWoken I k z).1, I1)
set_option maxRecDepth 100000 in
set_option maxHeartbeats 4000000 in
theorem s_X12_still  {k : Int32} {z : Int32} (hH : HmS I) (hS : SbS I) : Ca G mdX12_still [.ref 200, .int k, .int z] (mk I L t) (Rs (.int (f_X12_still I k z).1) (mk ((f_X12_still I k z).2) L t)) := by
  refine Ca.intro [some (.ref 200), some (.int k), some (.int z), none] (by decide) (Nat.le_of_ble_eq_true rfl) rfl rfl ?_
  refine ex_aload_n dX12_still_0 rfl ?_
  refine ex_iload_n dX12_still_1 rfl ?_
  refine ex_iload_n dX12_still_2 rfl ?_
  refine rx_cV (kd := 12) dX12_still_3 rfl lk_X12_302 rfl (by decide) (by first | assumption | rfl) ⟨⟨rfl, rfl⟩, by decide, by decide⟩ rfl (Nat.le_of_ble_eq_true rfl) rfl s_X12_needWoken (Rs.k ?_)
  refine st_i3 dX12_still_6 (by first | exact rfl | exact trivial) ?_
  refine ex_iload_n dX12_still_7 rfl ?_
  refine ex_if_ge 13 dX12_still_8 (by decide) (fun h8 => ?_) (fun h8 => ?_)
  · obtain ⟨hJ, vk, vz, g1, g2⟩ := nwk0 h8
    have hH' : HmS (f_X12_needWoken I k z).2 := hJ.symm ▸ hH
    have hS' : SbS (f_X12_needWoken I k z).2 := hJ.symm ▸ hS
    have g1' : ¬ (f_X12_needWoken I k z).2 207 k.toNatClampNeg = 0 := by rw [hJ]; exact g1
    have hw := wkD_w hH' (vpn vk).1 g1' hS' (vpn vz).1
    refine ex_aload_n dX12_still_13 rfl ?_
    refine ex_iload_n dX12_still_14 rfl ?_
    refine ex_iload_n dX12_still_15 rfl ?_
    refine rx_cV (kd := 12) dX12_still_16 rfl lk_X12_305 rfl (by decide) (by first | assumption | rfl) ⟨⟨rfl, rfl⟩, by decide, by decide⟩ rfl (Nat.le_of_ble_eq_true rfl) rfl (s_X12_layWoken vk vz hH' g1' hS') (Rv.k ?_)
    refine ex_aload_n dX12_still_19 rfl ?_
    refine ex_aload_n dX12_still_20 rfl ?_
    refine ex_aload_n dX12_still_21 rfl ?_
    refine rx_cV (kd := 12) dX12_still_22 rfl lk_X12_311 rfl (by decide) (by first | assumption | rfl) ⟨⟨rfl, rfl⟩, by decide, by decide⟩ rfl (Nat.le_of_ble_eq_true rfl) rfl (s_calmG hw lk_4) (Rs.k ?_)
    refine rx_cV (kd := 12) dX12_still_25 rfl lk_X12_223 rfl (by decide) (by first | assumption | rfl) ⟨⟨rfl, rfl⟩, by decide, by decide⟩ rfl (Nat.le_of_ble_eq_true rfl) rfl (s_rangeG (wl16 hw).2 lk_4) (Rs.k ?_)
    refine ex_aload_n dX12_still_28 rfl ?_
    refine rx_cV (kd := 12) dX12_still_29 rfl lk_X12_311 rfl (by decide) (by first | assumption | rfl) ⟨⟨rfl, rfl⟩, by decide, by decide⟩ rfl (Nat.le_of_ble_eq_true rfl) rfl (s_calmG hw lk_4) (Rs.k ?_)
    refine rx_cV (kd := 12) dX12_still_32 rfl lk_X12_108 rfl (by decide) (by first | assumption | rfl) ⟨⟨rfl, rfl⟩, by decide, by decide⟩ rfl (Nat.le_of_ble_eq_true rfl) rfl s_X12_tells (Rs.k ?_)
    refine ex_iret dX12_still_35 rfl rfl ⟨rfl, Nat.le_refl _⟩ ?_
    exact ⟨(by simp only [f_X12_still, ↓h8, if_true, if_false, not_true_eq_false, not_false_eq_true, lwI]), (by simp only [f_X12_still, ↓h8, if_true, if_false, not_true_eq_false, not_false_eq_true, lwI])⟩
  · skip
    refine ex_iload_n dX12_still_11 rfl ?_
    refine ex_iret dX12_still_12 rfl rfl ⟨rfl, Nat.le_refl _⟩ ?_
    exact ⟨(by simp only [f_X12_still, ↓h8, if_true, if_false, not_true_eq_false, not_false_eq_true, lwI]), (by simp only [f_X12_still, ↓h8, if_true, if_false, not_true_eq_false, not_false_eq_true, lwI])⟩
def f_X12_isAnySea (I : Im) : Int32 :=
  if (I 209 (0 : Int32).toNatClampNeg) = 0 then
    if (I 209 (0 + 1 : Int32).toNatClampNeg) = 0 then
      if (I 209 ((0 + 1) + 1 : Int32).toNatClampNeg) = 0 then
        if (I 209 (((0 + 1) + 1) + 1 : Int32).toNatClampNeg) = 0 then
          0
        else
          1
      else
        1
    else
      1
  else
    1
set_option maxRecDepth 100000 in
set_option maxHeartbeats 4000000 in
theorem s_X12_isAnySea   : Ca G mdX12_isAnySea [.ref 200] (mk I L t) (Rs (.int (f_X12_isAnySea I)) (mk I L t)) := by
  refine Ca.intro [some (.ref 200), none, none] (by decide) (Nat.le_of_ble_eq_true rfl) rfl rfl ?_
  refine ex_iconst (v := 0) dX12_isAnySea_0 (by decide) ?_
  refine st_i1 dX12_isAnySea_1 (by first | exact rfl | exact trivial) ?_
  refine ex_iconst (v := 0) dX12_isAnySea_2 (by decide) ?_
  refine st_i2 dX12_isAnySea_3 (by first | exact rfl | exact trivial) ?_
  refine ex_iload_n dX12_isAnySea_4 rfl ?_
  refine ex_iconst (v := 4) dX12_isAnySea_5 (by decide) ?_
  refine ex_icmp_ge 34 dX12_isAnySea_6 (by decide) (fun h6 => ?_) (fun h6 => ?_)
  · exact absurd h6 (by decide)
  · skip
    refine ex_iload_n dX12_isAnySea_9 rfl ?_
    refine ex_if_ne 22 dX12_isAnySea_10 (by decide) (fun h10 => ?_) (fun h10 => ?_)
    · exact absurd h10 (by decide)
    · skip
      refine ex_aload_n dX12_isAnySea_13 rfl ?_
      refine g_12_12 dX12_isAnySea_14 rfl wf_X12_36 (by first | assumption | rfl) (show Rt _ 200 12 = some 209 from rfl) ?_
      refine ex_iload_n dX12_isAnySea_17 rfl ?_
      refine rx_zald dX12_isAnySea_18 (by first | assumption | rfl) (by first | assumption | (unfold vp_in; decide)) ?_
      refine ex_if_eq 26 dX12_isAnySea_19 (by decide) (fun h19 => ?_) (fun h19 => ?_)
      · skip
        refine ex_iconst (v := 0) dX12_isAnySea_26 (by decide) ?_
        refine st_i1 dX12_isAnySea_27 (by first | exact rfl | exact trivial) ?_
        refine inc2 (v := _ + 1) dX12_isAnySea_28 (by rfl) (by first | exact rfl | exact trivial) ?_
        refine ex_goto 4 dX12_isAnySea_31 (by decide) ?_
        refine ex_iload_n dX12_isAnySea_4 rfl ?_
        refine ex_iconst (v := 4) dX12_isAnySea_5 (by decide) ?_
        refine ex_icmp_ge 34 dX12_isAnySea_6 (by decide) (fun h6_1 => ?_) (fun h6_1 => ?_)
        · exact absurd h6_1 (by decide)
        · skip
          refine ex_iload_n dX12_isAnySea_9 rfl ?_
          refine ex_if_ne 22 dX12_isAnySea_10 (by decide) (fun h10_1 => ?_) (fun h10_1 => ?_)
          · exact absurd h10_1 (by decide)
          · skip
            refine ex_aload_n dX12_isAnySea_13 rfl ?_
            refine g_12_12 dX12_isAnySea_14 rfl wf_X12_36 (by first | assumption | rfl) (show Rt _ 200 12 = some 209 from rfl) ?_
            refine ex_iload_n dX12_isAnySea_17 rfl ?_
            refine rx_zald dX12_isAnySea_18 (by first | assumption | rfl) (by first | assumption | (unfold vp_in; decide)) ?_
            refine ex_if_eq 26 dX12_isAnySea_19 (by decide) (fun h19_1 => ?_) (fun h19_1 => ?_)
            · skip
              refine ex_iconst (v := 0) dX12_isAnySea_26 (by decide) ?_
              refine st_i1 dX12_isAnySea_27 (by first | exact rfl | exact trivial) ?_
              refine inc2 (v := _ + 1) dX12_isAnySea_28 (by rfl) (by first | exact rfl | exact trivial) ?_
              refine ex_goto 4 dX12_isAnySea_31 (by decide) ?_
              refine ex_iload_n dX12_isAnySea_4 rfl ?_
              refine ex_iconst (v := 4) dX12_isAnySea_5 (by decide) ?_
              refine ex_icmp_ge 34 dX12_isAnySea_6 (by decide) (fun h6_2 => ?_) (fun h6_2 => ?_)
              · exact absurd h6_2 (by decide)
              · skip
                refine ex_iload_n dX12_isAnySea_9 rfl ?_
                refine ex_if_ne 22 dX12_isAnySea_10 (by decide) (fun h10_2 => ?_) (fun h10_2 => ?_)
                · exact absurd h10_2 (by decide)
                · skip
                  refine ex_aload_n dX12_isAnySea_13 rfl ?_
                  refine g_12_12 dX12_isAnySea_14 rfl wf_X12_36 (by first | assumption | rfl) (show Rt _ 200 12 = some 209 from rfl) ?_
                  refine ex_iload_n dX12_isAnySea_17 rfl ?_
                  refine rx_zald dX12_isAnySea_18 (by first | assumption | rfl) (by first | assumption | (unfold vp_in; decide)) ?_
                  refine ex_if_eq 26 dX12_isAnySea_19 (by decide) (fun h19_2 => ?_) (fun h19_2 => ?_)
                  · skip
                    refine ex_iconst (v := 0) dX12_isAnySea_26 (by decide) ?_
                    refine st_i1 dX12_isAnySea_27 (by first | exact rfl | exact trivial) ?_
                    refine inc2 (v := _ + 1) dX12_isAnySea_28 (by rfl) (by first | exact rfl | exact trivial) ?_
                    refine ex_goto 4 dX12_isAnySea_31 (by decide) ?_
                    refine ex_iload_n dX12_isAnySea_4 rfl ?_
                    refine ex_iconst (v := 4) dX12_isAnySea_5 (by decide) ?_
                    refine ex_icmp_ge 34 dX12_isAnySea_6 (by decide) (fun h6_3 => ?_) (fun h6_3 => ?_)
                    · exact absurd h6_3 (by decide)
                    · skip
                      refine ex_iload_n dX12_isAnySea_9 rfl ?_
                      refine ex_if_ne 22 dX12_isAnySea_10 (by decide) (fun h10_3 => ?_) (fun h10_3 => ?_)
                      · exact absurd h10_3 (by decide)
                      · skip
                        refine ex_aload_n dX12_isAnySea_13 rfl ?_
                        refine g_12_12 dX12_isAnySea_14 rfl wf_X12_36 (by first | assumption | rfl) (show Rt _ 200 12 = some 209 from rfl) ?_
                        refine ex_iload_n dX12_isAnySea_17 rfl ?_
                        refine rx_zald dX12_isAnySea_18 (by first | assumption | rfl) (by first | assumption | (unfold vp_in; decide)) ?_
                        refine ex_if_eq 26 dX12_isAnySea_19 (by decide) (fun h19_3 => ?_) (fun h19_3 => ?_)
                        · skip
                          refine ex_iconst (v := 0) dX12_isAnySea_26 (by decide) ?_
                          refine st_i1 dX12_isAnySea_27 (by first | exact rfl | exact trivial) ?_
                          refine inc2 (v := _ + 1) dX12_isAnySea_28 (by rfl) (by first | exact rfl | exact trivial) ?_
                          refine ex_goto 4 dX12_isAnySea_31 (by decide) ?_
                          refine ex_iload_n dX12_isAnySea_4 rfl ?_
                          refine ex_iconst (v := 4) dX12_isAnySea_5 (by decide) ?_
                          refine ex_icmp_ge 34 dX12_isAnySea_6 (by decide) (fun h6_4 => ?_) (fun h6_4 => ?_)
                          · skip
                            refine ex_iload_n dX12_isAnySea_34 rfl ?_
                            refine ex_iret dX12_isAnySea_35 rfl rfl ⟨rfl, Nat.le_refl _⟩ ?_
                            exact ⟨(by simp only [f_X12_isAnySea, ↓eq_true h19, ↓eq_true h19_1, ↓eq_true h19_2, ↓eq_true h19_3, if_true, if_false, not_true_eq_false, not_false_eq_true]), rfl⟩
                          · exact absurd h6_4 (by decide)
                        · skip
                          refine ex_iconst (v := 1) dX12_isAnySea_22 (by decide) ?_
                          refine ex_goto 27 dX12_isAnySea_23 (by decide) ?_
                          refine st_i1 dX12_isAnySea_27 (by first | exact rfl | exact trivial) ?_
                          refine inc2 (v := _ + 1) dX12_isAnySea_28 (by rfl) (by first | exact rfl | exact trivial) ?_
                          refine ex_goto 4 dX12_isAnySea_31 (by decide) ?_
                          refine ex_iload_n dX12_isAnySea_4 rfl ?_
                          refine ex_iconst (v := 4) dX12_isAnySea_5 (by decide) ?_
                          refine ex_icmp_ge 34 dX12_isAnySea_6 (by decide) (fun h6_4 => ?_) (fun h6_4 => ?_)
                          · skip
                            refine ex_iload_n dX12_isAnySea_34 rfl ?_
                            refine ex_iret dX12_isAnySea_35 rfl rfl ⟨rfl, Nat.le_refl _⟩ ?_
                            exact ⟨(by simp only [f_X12_isAnySea, ↓eq_true h19, ↓eq_true h19_1, ↓eq_true h19_2, ↓eq_false h19_3, if_true, if_false, not_true_eq_false, not_false_eq_true]), rfl⟩
                          · exact absurd h6_4 (by decide)
                  · skip
                    refine ex_iconst (v := 1) dX12_isAnySea_22 (by decide) ?_
                    refine ex_goto 27 dX12_isAnySea_23 (by decide) ?_
                    refine st_i1 dX12_isAnySea_27 (by first | exact rfl | exact trivial) ?_
                    refine inc2 (v := _ + 1) dX12_isAnySea_28 (by rfl) (by first | exact rfl | exact trivial) ?_
                    refine ex_goto 4 dX12_isAnySea_31 (by decide) ?_
                    refine ex_iload_n dX12_isAnySea_4 rfl ?_
                    refine ex_iconst (v := 4) dX12_isAnySea_5 (by decide) ?_
                    refine ex_icmp_ge 34 dX12_isAnySea_6 (by decide) (fun h6_3 => ?_) (fun h6_3 => ?_)
                    · exact absurd h6_3 (by decide)
                    · skip
                      refine ex_iload_n dX12_isAnySea_9 rfl ?_
                      refine ex_if_ne 22 dX12_isAnySea_10 (by decide) (fun h10_3 => ?_) (fun h10_3 => ?_)
                      · skip
                        refine ex_iconst (v := 1) dX12_isAnySea_22 (by decide) ?_
                        refine ex_goto 27 dX12_isAnySea_23 (by decide) ?_
                        refine st_i1 dX12_isAnySea_27 (by first | exact rfl | exact trivial) ?_
                        refine inc2 (v := _ + 1) dX12_isAnySea_28 (by rfl) (by first | exact rfl | exact trivial) ?_
                        refine ex_goto 4 dX12_isAnySea_31 (by decide) ?_
                        refine ex_iload_n dX12_isAnySea_4 rfl ?_
                        refine ex_iconst (v := 4) dX12_isAnySea_5 (by decide) ?_
                        refine ex_icmp_ge 34 dX12_isAnySea_6 (by decide) (fun h6_4 => ?_) (fun h6_4 => ?_)
                        · skip
                          refine ex_iload_n dX12_isAnySea_34 rfl ?_
                          refine ex_iret dX12_isAnySea_35 rfl rfl ⟨rfl, Nat.le_refl _⟩ ?_
                          exact ⟨(by simp only [f_X12_isAnySea, ↓eq_true h19, ↓eq_true h19_1, ↓eq_false h19_2, if_true, if_false, not_true_eq_false, not_false_eq_true]), rfl⟩
                        · exact absurd h6_4 (by decide)
                      · exact absurd h10_3 (by decide)
            · skip
              refine ex_iconst (v := 1) dX12_isAnySea_22 (by decide) ?_
              refine ex_goto 27 dX12_isAnySea_23 (by decide) ?_
              refine st_i1 dX12_isAnySea_27 (by first | exact rfl | exact trivial) ?_
              refine inc2 (v := _ + 1) dX12_isAnySea_28 (by rfl) (by first | exact rfl | exact trivial) ?_
              refine ex_goto 4 dX12_isAnySea_31 (by decide) ?_
              refine ex_iload_n dX12_isAnySea_4 rfl ?_
              refine ex_iconst (v := 4) dX12_isAnySea_5 (by decide) ?_
              refine ex_icmp_ge 34 dX12_isAnySea_6 (by decide) (fun h6_2 => ?_) (fun h6_2 => ?_)
              · exact absurd h6_2 (by decide)
              · skip
                refine ex_iload_n dX12_isAnySea_9 rfl ?_
                refine ex_if_ne 22 dX12_isAnySea_10 (by decide) (fun h10_2 => ?_) (fun h10_2 => ?_)
                · skip
                  refine ex_iconst (v := 1) dX12_isAnySea_22 (by decide) ?_
                  refine ex_goto 27 dX12_isAnySea_23 (by decide) ?_
                  refine st_i1 dX12_isAnySea_27 (by first | exact rfl | exact trivial) ?_
                  refine inc2 (v := _ + 1) dX12_isAnySea_28 (by rfl) (by first | exact rfl | exact trivial) ?_
                  refine ex_goto 4 dX12_isAnySea_31 (by decide) ?_
                  refine ex_iload_n dX12_isAnySea_4 rfl ?_
                  refine ex_iconst (v := 4) dX12_isAnySea_5 (by decide) ?_
                  refine ex_icmp_ge 34 dX12_isAnySea_6 (by decide) (fun h6_3 => ?_) (fun h6_3 => ?_)
                  · exact absurd h6_3 (by decide)
                  · skip
                    refine ex_iload_n dX12_isAnySea_9 rfl ?_
                    refine ex_if_ne 22 dX12_isAnySea_10 (by decide) (fun h10_3 => ?_) (fun h10_3 => ?_)
                    · skip
                      refine ex_iconst (v := 1) dX12_isAnySea_22 (by decide) ?_
                      refine ex_goto 27 dX12_isAnySea_23 (by decide) ?_
                      refine st_i1 dX12_isAnySea_27 (by first | exact rfl | exact trivial) ?_
                      refine inc2 (v := _ + 1) dX12_isAnySea_28 (by rfl) (by first | exact rfl | exact trivial) ?_
                      refine ex_goto 4 dX12_isAnySea_31 (by decide) ?_
                      refine ex_iload_n dX12_isAnySea_4 rfl ?_
                      refine ex_iconst (v := 4) dX12_isAnySea_5 (by decide) ?_
                      refine ex_icmp_ge 34 dX12_isAnySea_6 (by decide) (fun h6_4 => ?_) (fun h6_4 => ?_)
                      · skip
                        refine ex_iload_n dX12_isAnySea_34 rfl ?_
                        refine ex_iret dX12_isAnySea_35 rfl rfl ⟨rfl, Nat.le_refl _⟩ ?_
                        exact ⟨(by simp only [f_X12_isAnySea, ↓eq_true h19, ↓eq_false h19_1, if_true, if_false, not_true_eq_false, not_false_eq_true]), rfl⟩
                      · exact absurd h6_4 (by decide)
                    · exact absurd h10_3 (by decide)
                · exact absurd h10_2 (by decide)
      · skip
        refine ex_iconst (v := 1) dX12_isAnySea_22 (by decide) ?_
        refine ex_goto 27 dX12_isAnySea_23 (by decide) ?_
        refine st_i1 dX12_isAnySea_27 (by first | exact rfl | exact trivial) ?_
        refine inc2 (v := _ + 1) dX12_isAnySea_28 (by rfl) (by first | exact rfl | exact trivial) ?_
        refine ex_goto 4 dX12_isAnySea_31 (by decide) ?_
        refine ex_iload_n dX12_isAnySea_4 rfl ?_
        refine ex_iconst (v := 4) dX12_isAnySea_5 (by decide) ?_
        refine ex_icmp_ge 34 dX12_isAnySea_6 (by decide) (fun h6_1 => ?_) (fun h6_1 => ?_)
        · exact absurd h6_1 (by decide)
        · skip
          refine ex_iload_n dX12_isAnySea_9 rfl ?_
          refine ex_if_ne 22 dX12_isAnySea_10 (by decide) (fun h10_1 => ?_) (fun h10_1 => ?_)
          · skip
            refine ex_iconst (v := 1) dX12_isAnySea_22 (by decide) ?_
            refine ex_goto 27 dX12_isAnySea_23 (by decide) ?_
            refine st_i1 dX12_isAnySea_27 (by first | exact rfl | exact trivial) ?_
            refine inc2 (v := _ + 1) dX12_isAnySea_28 (by rfl) (by first | exact rfl | exact trivial) ?_
            refine ex_goto 4 dX12_isAnySea_31 (by decide) ?_
            refine ex_iload_n dX12_isAnySea_4 rfl ?_
            refine ex_iconst (v := 4) dX12_isAnySea_5 (by decide) ?_
            refine ex_icmp_ge 34 dX12_isAnySea_6 (by decide) (fun h6_2 => ?_) (fun h6_2 => ?_)
            · exact absurd h6_2 (by decide)
            · skip
              refine ex_iload_n dX12_isAnySea_9 rfl ?_
              refine ex_if_ne 22 dX12_isAnySea_10 (by decide) (fun h10_2 => ?_) (fun h10_2 => ?_)
              · skip
                refine ex_iconst (v := 1) dX12_isAnySea_22 (by decide) ?_
                refine ex_goto 27 dX12_isAnySea_23 (by decide) ?_
                refine st_i1 dX12_isAnySea_27 (by first | exact rfl | exact trivial) ?_
                refine inc2 (v := _ + 1) dX12_isAnySea_28 (by rfl) (by first | exact rfl | exact trivial) ?_
                refine ex_goto 4 dX12_isAnySea_31 (by decide) ?_
                refine ex_iload_n dX12_isAnySea_4 rfl ?_
                refine ex_iconst (v := 4) dX12_isAnySea_5 (by decide) ?_
                refine ex_icmp_ge 34 dX12_isAnySea_6 (by decide) (fun h6_3 => ?_) (fun h6_3 => ?_)
                · exact absurd h6_3 (by decide)
                · skip
                  refine ex_iload_n dX12_isAnySea_9 rfl ?_
                  refine ex_if_ne 22 dX12_isAnySea_10 (by decide) (fun h10_3 => ?_) (fun h10_3 => ?_)
                  · skip
                    refine ex_iconst (v := 1) dX12_isAnySea_22 (by decide) ?_
                    refine ex_goto 27 dX12_isAnySea_23 (by decide) ?_
                    refine st_i1 dX12_isAnySea_27 (by first | exact rfl | exact trivial) ?_
                    refine inc2 (v := _ + 1) dX12_isAnySea_28 (by rfl) (by first | exact rfl | exact trivial) ?_
                    refine ex_goto 4 dX12_isAnySea_31 (by decide) ?_
                    refine ex_iload_n dX12_isAnySea_4 rfl ?_
                    refine ex_iconst (v := 4) dX12_isAnySea_5 (by decide) ?_
                    refine ex_icmp_ge 34 dX12_isAnySea_6 (by decide) (fun h6_4 => ?_) (fun h6_4 => ?_)
                    · skip
                      refine ex_iload_n dX12_isAnySea_34 rfl ?_
                      refine ex_iret dX12_isAnySea_35 rfl rfl ⟨rfl, Nat.le_refl _⟩ ?_
                      exact ⟨(by simp only [f_X12_isAnySea, ↓eq_false h19, if_true, if_false, not_true_eq_false, not_false_eq_true]), rfl⟩
                    · exact absurd h6_4 (by decide)
                  · exact absurd h10_3 (by decide)
              · exact absurd h10_2 (by decide)
          · exact absurd h10_1 (by decide)
theorem z_X12_isAnySea {I : Im} : f_X12_isAnySea I = 0 ∨ f_X12_isAnySea I = 1 := by
  unfold f_X12_isAnySea
  repeat' split
  all_goals first | exact Or.inl rfl | exact Or.inr rfl | assumption
theorem HmS_of {J : Im} (h7 : J 207 = I 207) (h8 : J 208 = I 208) (h : HmS I) : HmS J := by
  unfold HmS
  rw [h7, h8]
  exact h
theorem SbS_of {J : Im} (h0 : J 210 = I 210) (h1 : J 211 = I 211) (h : SbS I) : SbS J := by
  unfold SbS
  rw [h0, h1]
  exact h
theorem SpS_of {J : Im} (h4 : J 214 = I 214) (h5 : J 215 = I 215) (h : SpS I) : SpS J := by
  unfold SpS
  rw [h4, h5]
  exact h
theorem lwI_off {q z e : Nat} (h : e ≠ 217) (h2 : e ≠ 200) : lwI I q z e = I e := by
  unfold lwI
  rw [nw_off h, lk_off h2]
def mwN (I : Im) (q n k : Nat) : Int32 × Int32 × Im :=
  match k with
  | 0 => (-9, 0, I)
  | k + 1 => if (mwN I q n k).2.2 209 k = 0 then mwN I q n k else if (mwN I q n k).1 = -9 ∨ (mwN I q n k).2.1 < (rgM (wkD (mwN I q n k).2.2 q k) (wildN (rgM (wkD (mwN I q n k).2.2 q k)) (n - 1))) then (nI k, (rgM (wkD (mwN I q n k).2.2 q k) (wildN (rgM (wkD (mwN I q n k).2.2 q k)) (n - 1))), lwI (mwN I q n k).2.2 q k) else ((mwN I q n k).1, (mwN I q n k).2.1, lwI (mwN I q n k).2.2 q k)
termination_by k
theorem mwN_0 {q n : Nat} : mwN I q n 0 = (-9, 0, I) := by rw [mwN]
theorem mwN_s {q n k : Nat} : mwN I q n (k + 1) = if (mwN I q n k).2.2 209 k = 0 then mwN I q n k else if (mwN I q n k).1 = -9 ∨ (mwN I q n k).2.1 < (rgM (wkD (mwN I q n k).2.2 q k) (wildN (rgM (wkD (mwN I q n k).2.2 q k)) (n - 1))) then (nI k, (rgM (wkD (mwN I q n k).2.2 q k) (wildN (rgM (wkD (mwN I q n k).2.2 q k)) (n - 1))), lwI (mwN I q n k).2.2 q k) else ((mwN I q n k).1, (mwN I q n k).2.1, lwI (mwN I q n k).2.2 q k) := by rw [mwN]
theorem mwN_off {q n e : Nat} (h : e ≠ 217) (h2 : e ≠ 200) : ∀ k, (mwN I q n k).2.2 e = I e := by
  intro k
  induction k with
  | zero => rw [mwN_0]
  | succ k ih =>
    rw [mwN_s]
    split
    · exact ih
    · split
      · exact (lwI_off h h2).trans ih
      · exact (lwI_off h h2).trans ih
set_option maxRecDepth 100000 in
set_option maxHeartbeats 4000000 in
theorem lm_wks {P : Option Value → Mem → Prop} {y : Int32} {n : Nat} (hn16 : n ≤ 16) (vy : vp_in y 4) (hn : I 208 (21 * y.toNatClampNeg) = nI n) (hh : ¬ I 207 y.toNatClampNeg = 0) (hH : HmS I) (hS : SbS I) (kont : Ex G mdX12_wakes 96 [some (.ref 200), some (.int y), some (.int (mwN I y.toNatClampNeg n 4).1), some (.int (mwN I y.toNatClampNeg n 4).2.1), some (.int (nI 4)), none] [] (mk (mwN I y.toNatClampNeg n 4).2.2 L t) 0 0 P) : Ex G mdX12_wakes 39 [some (.ref 200), some (.int y), some (.int (mwN I y.toNatClampNeg n 0).1), some (.int (mwN I y.toNatClampNeg n 0).2.1), some (.int (nI 0)), none] [] (mk (mwN I y.toNatClampNeg n 0).2.2 L t) 0 0 P := by
  refine loop_up (G := G) (d := mdX12_wakes) (pc := 39) (st := []) (uc := 0) (us := 0) (P := P) 4 (fun k => mk (mwN I y.toNatClampNeg n k).2.2 L t) (fun k => [some (.ref 200), some (.int y), some (.int (mwN I y.toNatClampNeg n k).1), some (.int (mwN I y.toNatClampNeg n k).2.1), some (.int (nI k)), none]) ?_ ?_ 0 (Nat.zero_le _)
  · intro k hk ih
    have hHk : HmS (mwN I y.toNatClampNeg n k).2.2 := HmS_of (mwN_off (by decide) (by decide) k) (mwN_off (by decide) (by decide) k) hH
    have hSk : SbS (mwN I y.toNatClampNeg n k).2.2 := SbS_of (mwN_off (by decide) (by decide) k) (mwN_off (by decide) (by decide) k) hS
    have gk : ¬ (mwN I y.toNatClampNeg n k).2.2 207 y.toNatClampNeg = 0 := by rw [mwN_off (by decide) (by decide) k]; exact hh
    have hw := wkD_w hHk (vpn vy).1 gk hSk hk
    rw [mwN_off (e := 208) (by decide) (by decide) k, hn, nI_clamp (by omega)] at hw
    refine ex_iload dX12_wakes_39 rfl ?_
    refine ex_iconst (v := 4) dX12_wakes_41 (by decide) ?_
    refine ex_icmp_ge 96 dX12_wakes_42 (by decide) (fun h42 => ?_) (fun h42 => ?_)
    · exact absurd h42 (nI_ge hk (by decide))
    · skip
      refine ex_aload_n dX12_wakes_45 rfl ?_
      refine g_12_12 dX12_wakes_46 rfl wf_X12_36 (by first | assumption | rfl) (show Rt _ 200 12 = some 209 from rfl) ?_
      refine ex_iload dX12_wakes_49 rfl ?_
      refine rx_zald dX12_wakes_51 (by first | assumption | rfl) (vp_in_nI hk (by decide)) ?_
      rw [nI_clamp (by omega)]
      refine ex_if_eq 90 dX12_wakes_52 (by decide) (fun h52 => ?_) (fun h52 => ?_)
      · have hc : mwN I y.toNatClampNeg n (k + 1) = (mwN I y.toNatClampNeg n k) := mwN_s.trans (if_pos h52)
        refine inc4 (v := _ + 1) dX12_wakes_90 (by rfl) (by first | exact rfl | exact trivial) ?_
        refine ex_goto 39 dX12_wakes_93 (by decide) ?_
        refine fg5 ?_
        rw [nI_1]
        rw [hc] at ih
        exact ih
      · skip
        refine ex_aload_n dX12_wakes_55 rfl ?_
        refine ex_iload_n dX12_wakes_56 rfl ?_
        refine ex_iload dX12_wakes_57 rfl ?_
        refine rx_cV (kd := 12) dX12_wakes_59 rfl lk_X12_305 rfl (by decide) (by first | assumption | rfl) ⟨⟨rfl, rfl⟩, by decide, by decide⟩ rfl (Nat.le_of_ble_eq_true rfl) rfl (s_X12_layWoken vy (vp_in_nI hk (by decide)) hHk gk hSk) (Rv.k ?_)
        rw [nI_clamp (show k < 2 ^ 31 by omega)]
        refine ex_aload_n dX12_wakes_62 rfl ?_
        refine ex_aload_n dX12_wakes_63 rfl ?_
        refine rx_cV (kd := 12) dX12_wakes_64 rfl lk_X12_308 rfl (by decide) (by first | assumption | rfl) ⟨⟨rfl, rfl⟩, by decide, by decide⟩ rfl (Nat.le_of_ble_eq_true rfl) rfl (s_loudG hw lk_4) (Rs.k ?_)
        refine rx_cV (kd := 12) dX12_wakes_67 rfl lk_X12_223 rfl (by decide) (by first | assumption | rfl) ⟨⟨rfl, rfl⟩, by decide, by decide⟩ rfl (Nat.le_of_ble_eq_true rfl) rfl (s_rangeG (wl16 hw).1 lk_4) (Rs.k ?_)
        rw [nI_clamp (show wildN _ _ < 2 ^ 31 by have := (wl16 hw).1; omega)]
        refine st_i5 dX12_wakes_70 (by first | exact rfl | exact trivial) ?_
        refine ex_iload_n dX12_wakes_72 rfl ?_
        refine ex_bipush (v := (-9)) dX12_wakes_73 (by decide) ?_
        refine ex_icmp_eq 84 dX12_wakes_75 (by decide) (fun h75 => ?_) (fun h75 => ?_)
        · have hc : mwN I y.toNatClampNeg n (k + 1) = (nI k, (rgM (wkD (mwN I y.toNatClampNeg n k).2.2 y.toNatClampNeg k) (wildN (rgM (wkD (mwN I y.toNatClampNeg n k).2.2 y.toNatClampNeg k)) (n - 1))), lwI (mwN I y.toNatClampNeg n k).2.2 y.toNatClampNeg k) := mwN_s.trans ((if_neg h52).trans (if_pos (Or.inl h75)))
          refine ex_iload dX12_wakes_84 rfl ?_
          refine st_i2 dX12_wakes_86 (by first | exact rfl | exact trivial) ?_
          refine ex_iload dX12_wakes_87 rfl ?_
          refine st_i3 dX12_wakes_89 (by first | exact rfl | exact trivial) ?_
          refine inc4 (v := _ + 1) dX12_wakes_90 (by rfl) (by first | exact rfl | exact trivial) ?_
          refine ex_goto 39 dX12_wakes_93 (by decide) ?_
          refine fg5 ?_
          rw [nI_1]
          rw [hc] at ih
          exact ih
        · skip
          refine ex_iload dX12_wakes_78 rfl ?_
          refine ex_iload_n dX12_wakes_80 rfl ?_
          refine ex_icmp_le 90 dX12_wakes_81 (by decide) (fun h81 => ?_) (fun h81 => ?_)
          · have hc : mwN I y.toNatClampNeg n (k + 1) = ((mwN I y.toNatClampNeg n k).1, (mwN I y.toNatClampNeg n k).2.1, lwI (mwN I y.toNatClampNeg n k).2.2 y.toNatClampNeg k) := mwN_s.trans ((if_neg h52).trans (if_neg (fun z => z.elim h75 (fun y => absurd y (Int32.not_lt.mpr h81)))))
            refine inc4 (v := _ + 1) dX12_wakes_90 (by rfl) (by first | exact rfl | exact trivial) ?_
            refine ex_goto 39 dX12_wakes_93 (by decide) ?_
            refine fg5 ?_
            rw [nI_1]
            rw [hc] at ih
            exact ih
          · have hc : mwN I y.toNatClampNeg n (k + 1) = (nI k, (rgM (wkD (mwN I y.toNatClampNeg n k).2.2 y.toNatClampNeg k) (wildN (rgM (wkD (mwN I y.toNatClampNeg n k).2.2 y.toNatClampNeg k)) (n - 1))), lwI (mwN I y.toNatClampNeg n k).2.2 y.toNatClampNeg k) := mwN_s.trans ((if_neg h52).trans (if_pos (Or.inr (Int32.not_le.mp h81))))
            refine ex_iload dX12_wakes_84 rfl ?_
            refine st_i2 dX12_wakes_86 (by first | exact rfl | exact trivial) ?_
            refine ex_iload dX12_wakes_87 rfl ?_
            refine st_i3 dX12_wakes_89 (by first | exact rfl | exact trivial) ?_
            refine inc4 (v := _ + 1) dX12_wakes_90 (by rfl) (by first | exact rfl | exact trivial) ?_
            refine ex_goto 39 dX12_wakes_93 (by decide) ?_
            refine fg5 ?_
            rw [nI_1]
            rw [hc] at ih
            exact ih
  · skip
    refine ex_iload dX12_wakes_39 rfl ?_
    refine ex_iconst (v := 4) dX12_wakes_41 (by decide) ?_
    refine ex_icmp_ge 96 dX12_wakes_42 (by decide) (fun h42 => ?_) (fun h42 => ?_)
    · skip
      exact kont
    · exact absurd (by decide : nI 4 ≤ nI 4) h42
theorem lm_wks0 {P : Option Value → Mem → Prop} {y : Int32} (vy : vp_in y 4) (hh : ¬ I 207 y.toNatClampNeg = 0) (hH : HmS I) (hS : SbS I) (kont : Ex G mdX12_wakes 96 [some (.ref 200), some (.int y), some (.int (mwN I y.toNatClampNeg (I 208 (21 * y.toNatClampNeg)).toNatClampNeg 4).1), some (.int (mwN I y.toNatClampNeg (I 208 (21 * y.toNatClampNeg)).toNatClampNeg 4).2.1), none, none] [] (mk (mwN I y.toNatClampNeg (I 208 (21 * y.toNatClampNeg)).toNatClampNeg 4).2.2 L t) 0 0 P) : Ex G mdX12_wakes 39 [some (.ref 200), some (.int y), some (.int (-9)), some (.int 0), some (.int 0), none] [] (mk I L t) 0 0 P := by
  obtain ⟨n, mo, h3, hn, hm, e0, e1⟩ := hH _ (vpn vy).1 hh
  rw [e0, nI_clamp (by omega)] at kont
  have h := lm_wks (G := G) (I := I) (L := L) hn vy e0 hh hH hS (P := P) (fg4 kont)
  rw [mwN_0] at h
  exact h
def f_X12_wakes (I : Im) (k : Int32) : Int32 × Im :=
  if (b2i (0 ≤ k ∧ k ≤ 3)) = 0 then
    ((-1), I)
  else
    if (I 207 k.toNatClampNeg) = 0 then
      let I1 : Im := meI I 1
      ((-3), I1)
    else
      if ((f_X12_isAnySea I)) = 0 then
        let I4 : Im := meI I 1
        ((-3), I4)
      else
        let I2 : Im := (mwN I k.toNatClampNeg (I 208 (21 * k.toNatClampNeg)).toNatClampNeg 4).2.2
        let I3 : Im := up2 I2 200 2 ((mwN I k.toNatClampNeg (I 208 (21 * k.toNatClampNeg)).toNatClampNeg 4).2.1)
        (((mwN I k.toNatClampNeg (I 208 (21 * k.toNatClampNeg)).toNatClampNeg 4).1), I3)
set_option maxRecDepth 100000 in
set_option maxHeartbeats 4000000 in
theorem s_X12_wakes  {k : Int32} (hH : HmS I) (hS : SbS I) : Ca G mdX12_wakes [.ref 200, .int k] (mk I L t) (Rs (.int (f_X12_wakes I k).1) (mk ((f_X12_wakes I k).2) L t)) := by
  refine Ca.intro [some (.ref 200), some (.int k), none, none, none, none] (by decide) (Nat.le_of_ble_eq_true rfl) rfl rfl ?_
  refine ex_iload_n dX12_wakes_0 rfl ?_
  refine rx_cS dX12_wakes_1 rfl lk_X12_151 ⟨⟨rfl, rfl⟩, by decide, by decide⟩ rfl (Nat.le_of_ble_eq_true rfl) rfl s_X12_isPlace (Rs.k ?_)
  refine ex_if_ne 9 dX12_wakes_4 (by decide) (fun h4 => ?_) (fun h4 => ?_)
  · have qk := (cl_lt (N := 4) (by decide) h4).1
    have vk := (cl_lt (N := 4) (by decide) h4).2
    refine ex_aload_n dX12_wakes_9 rfl ?_
    refine g_12_10 dX12_wakes_10 rfl wf_X12_29 (by first | assumption | rfl) (show Rt _ 200 10 = some 207 from rfl) ?_
    refine ex_iload_n dX12_wakes_13 rfl ?_
    refine rx_zald dX12_wakes_14 (by first | assumption | rfl) (by first | assumption | (unfold vp_in; decide)) ?_
    refine ex_if_eq 25 dX12_wakes_15 (by decide) (fun h15 => ?_) (fun h15 => ?_)
    · skip
      refine ex_aload_n dX12_wakes_25 rfl ?_
      refine ex_iconst (v := 1) dX12_wakes_26 (by decide) ?_
      refine rx_cV (kd := 12) dX12_wakes_27 rfl lk_X12_100 rfl (by decide) (by first | assumption | rfl) ⟨⟨rfl, rfl⟩, by decide, by decide⟩ rfl (Nat.le_of_ble_eq_true rfl) rfl (s_X12_meets (by unfold vp_in; decide)) (Rs.k ?_)
      refine ex_iret dX12_wakes_30 rfl rfl ⟨rfl, Nat.le_refl _⟩ ?_
      exact ⟨(by simp only [f_X12_wakes, ↓eq_false h4, ↓eq_true h15, if_true, if_false, not_true_eq_false, not_false_eq_true]), (by simp only [f_X12_wakes, ↓eq_false h4, ↓eq_true h15, if_true, if_false, not_true_eq_false, not_false_eq_true])⟩
    · skip
      refine ex_aload_n dX12_wakes_18 rfl ?_
      refine rx_cV (kd := 12) dX12_wakes_19 rfl lk_X12_314 rfl (by decide) (by first | assumption | rfl) ⟨⟨rfl, rfl⟩, by decide, by decide⟩ rfl (Nat.le_of_ble_eq_true rfl) rfl s_X12_isAnySea (Rs.k ?_)
      refine ex_if_ne 31 dX12_wakes_22 (by decide) (fun h22 => ?_) (fun h22 => ?_)
      · skip
        refine ex_bipush (v := (-9)) dX12_wakes_31 (by decide) ?_
        refine st_i2 dX12_wakes_33 (by first | exact rfl | exact trivial) ?_
        refine ex_iconst (v := 0) dX12_wakes_34 (by decide) ?_
        refine st_i3 dX12_wakes_35 (by first | exact rfl | exact trivial) ?_
        refine ex_iconst (v := 0) dX12_wakes_36 (by decide) ?_
        refine st_i4 dX12_wakes_37 (by first | exact rfl | exact trivial) ?_
        refine (lm_wks0 vk h15 hH hS) ?_
        refine ex_aload_n dX12_wakes_96 rfl ?_
        refine ex_iload_n dX12_wakes_97 rfl ?_
        refine ex_iload_n dX12_wakes_98 rfl ?_
        refine rx_cV (kd := 12) dX12_wakes_99 rfl lk_X12_108 rfl (by decide) (by first | assumption | rfl) ⟨⟨rfl, rfl⟩, by decide, by decide⟩ rfl (Nat.le_of_ble_eq_true rfl) rfl s_X12_tells (Rs.k ?_)
        refine ex_iret dX12_wakes_102 rfl rfl ⟨rfl, Nat.le_refl _⟩ ?_
        exact ⟨(by simp only [f_X12_wakes, ↓eq_false h4, ↓eq_false h15, ↓eq_false h22, if_true, if_false, not_true_eq_false, not_false_eq_true]), (by simp only [f_X12_wakes, ↓eq_false h4, ↓eq_false h15, ↓eq_false h22, if_true, if_false, not_true_eq_false, not_false_eq_true])⟩
      · skip
        refine ex_aload_n dX12_wakes_25 rfl ?_
        refine ex_iconst (v := 1) dX12_wakes_26 (by decide) ?_
        refine rx_cV (kd := 12) dX12_wakes_27 rfl lk_X12_100 rfl (by decide) (by first | assumption | rfl) ⟨⟨rfl, rfl⟩, by decide, by decide⟩ rfl (Nat.le_of_ble_eq_true rfl) rfl (s_X12_meets (by unfold vp_in; decide)) (Rs.k ?_)
        refine ex_iret dX12_wakes_30 rfl rfl ⟨rfl, Nat.le_refl _⟩ ?_
        exact ⟨(by simp only [f_X12_wakes, ↓eq_false h4, ↓eq_false h15, ↓eq_true h22, if_true, if_false, not_true_eq_false, not_false_eq_true]), (by simp only [f_X12_wakes, ↓eq_false h4, ↓eq_false h15, ↓eq_true h22, if_true, if_false, not_true_eq_false, not_false_eq_true])⟩
  · skip
    refine ex_iconst (v := (-1)) dX12_wakes_7 (by decide) ?_
    refine ex_iret dX12_wakes_8 rfl rfl ⟨rfl, Nat.le_refl _⟩ ?_
    exact ⟨(by simp only [f_X12_wakes, ↓eq_true h4, if_true, if_false, not_true_eq_false, not_false_eq_true]), (by simp only [f_X12_wakes, ↓eq_true h4, if_true, if_false, not_true_eq_false, not_false_eq_true])⟩
def plN (I : Im) (s q z : Nat) (c g : Int32) : Nat → Int32 := upn (upn (shN (wkM I q z) (95 + 10 * s) (fun j => I 215 (5 * s + j))) (95 + 10 * s + 1) c) (95 + 10 * s + 3) g
def plD (I : Im) (s q z : Nat) (c g : Int32) : Nat → Int32 := secI (plN I s q z c g) (I 208 (21 * q)).toNatClampNeg (I 208 (21 * q + 1)).toNatClampNeg (I 210 z).toNatClampNeg 300
def plI (I : Im) (s q z : Nat) (c g : Int32) : Im := up2 (up2 (nw (lkI I 4) 500 (plD I s q z c g)) 200 32 (plD I s q z c g (95 + 10 * s + 8))) 200 33 (plD I s q z c g (95 + 10 * s + 9))
theorem lay_e {J : Im} {N0 : Nat → Int32} {q z : Nat} : nw J 500 (wnd (wnd (upn (wnd N0 0 21 (fun j => J 208 (21 * q + j))) 21 (J 210 z)) 22 8 (fun j => J 211 (8 * z + j))) 30 95 (fun _ => 0)) = nw J 500 (wkM J q z) := by
  apply nw_ext
  intro p hp
  rw [← wkM_e (N0 := N0)]
  unfold wbN
  by_cases h4 : p < 30
  · rw [wnd_out (o := 30) (by omega), wnd_out (o := 30) (by omega)]
    by_cases h3 : 22 ≤ p
    · have e : ∀ M : Nat → Int32, wnd M 22 8 (fun j => J 211 (8 * z + j)) p = J 211 (8 * z + (p - 22)) := fun M => by
        have e := wnd_in (N := M) (g := fun j => J 211 (8 * z + j)) (o := 22) (k := 8) (j := p - 22) (by omega)
        rw [show 22 + (p - 22) = p by omega] at e
        exact e
      rw [e, e]
    · rw [wnd_out (by omega), wnd_out (by omega)]
      by_cases h2 : p = 21
      · subst h2
        rw [upn_s, upn_s]
      · rw [upn_n h2, upn_n h2]
        exact (if_pos hp).symm
  · have e : ∀ M : Nat → Int32, wnd M 30 95 (fun _ => (0 : Int32)) p = 0 := fun M => by
      have e := wnd_in (N := M) (g := fun _ => (0 : Int32)) (o := 30) (k := 95) (j := p - 30) (by omega)
      rw [show 30 + (p - 30) = p by omega] at e
      exact e
    rw [e, e]
theorem plN_o {s q z p : Nat} {c g : Int32} (h : p < 95 + 10 * s ∨ 95 + 10 * s + 10 ≤ p) : plN I s q z c g p = wkM I q z p := by
  unfold plN shN
  rw [upn_n (by omega), upn_n (by omega), upn_n (by omega), upn_n (by omega), upn_n (by omega), upn_n (by omega), wnd_out (by omega), upn_n (by omega)]
theorem plN_w {s q z cc : Nat} {g : Int32} (hH : HmS I) (hq : q < 4) (hh : ¬ I 207 q = 0) (hS : SbS I) (hz : z < 4) (hs : s < 3) (hP : SpS I) (hp : ¬ I 214 s = 0) (hc : cc < 16) : WfN (plN I s q z (nI cc) g) (I 208 (21 * q)).toNatClampNeg (I 208 (21 * q + 1)).toNatClampNeg (I 210 z).toNatClampNeg := by
  obtain ⟨w1, w2, w3, w4, w5⟩ := wkM_w hH hq hh hS hz
  refine ⟨w1, (plN_o (by omega)).trans w2, ⟨w3.1, (plN_o (by omega)).trans w3.2⟩, ⟨w4.1, (plN_o (by omega)).trans w4.2.1, fun i hi => ?_⟩, fun r hr h => ?_⟩
  · have := w4.1
    rw [plN_o (by omega)]
    exact w4.2.2 i hi
  · by_cases e : r = s
    · subst e
      refine ⟨⟨cc, hc, ?_⟩, ?_⟩
      · unfold plN
        rw [upn_n (by omega), upn_s]
      · unfold plN shN
        rw [upn_n (by omega), upn_n (by omega), upn_n (by omega), upn_n (by omega), upn_n (by omega), upn_n (by omega), show 95 + 10 * r + 2 = 95 + 10 * r + 1 + 1 by omega, wnd_in (by decide)]
        exact (hP r hr hp).2
    · rw [plN_o (by omega)] at h
      unfold wkM at h
      rw [if_neg (by omega), if_neg (by omega), if_neg (by omega)] at h
      exact absurd h (by decide)
theorem plN_c {J : Im} {s q z : Nat} {c g : Int32} (h8 : J 208 = I 208) (h0 : J 210 = I 210) (h1 : J 211 = I 211) (h5 : J 215 = I 215) : plN J s q z c g = plN I s q z c g := by
  unfold plN
  rw [wkM_c h8 h0 h1, h5]
theorem plI_off {s q z e : Nat} {c g : Int32} (h : e ≠ 217) (h2 : e ≠ 200) : plI I s q z c g e = I e := by
  unfold plI
  rw [up2_off h2, up2_off h2, nw_off h, lk_off h2]
theorem plI_t {s q z : Nat} {c g : Int32} : plI I s q z c g 200 32 = plD I s q z c g (95 + 10 * s + 8) := by
  unfold plI
  rw [u2_j (by decide), u2_s]
theorem plI_p {s q z : Nat} {c g : Int32} : plI I s q z c g 200 33 = plD I s q z c g (95 + 10 * s + 9) := by
  unfold plI
  rw [u2_s]
set_option maxRecDepth 100000 in
set_option maxHeartbeats 4000000 in
theorem s_X12_layPull {y z g : Int32} {s cc : Nat} (hs : s < 3) (vy : vp_in y 4) (vz : vp_in z 4) (hc : cc < 16) (hH : HmS I) (hh : ¬ I 207 y.toNatClampNeg = 0) (hS : SbS I) (hP : SpS I) (hp : ¬ I 214 s = 0) : Ca G mdX12_layPull [.ref 200, .int (nI s), .int y, .int z, .int (nI cc), .int g] (mk I L t) (Rv (mk (plI I s y.toNatClampNeg z.toNatClampNeg (nI cc) g) L t)) := by
  refine Ca.intro [some (.ref 200), some (.int (nI s)), some (.int y), some (.int z), some (.int (nI cc)), some (.int g), none] (by decide) (Nat.le_of_ble_eq_true rfl) rfl rfl ?_
  refine ex_aload_n dX12_layPull_0 rfl ?_
  refine ex_iconst (v := 4) dX12_layPull_1 (by decide) ?_
  refine rx_cV (kd := 12) dX12_layPull_2 rfl lk_X12_167 rfl (by decide) (by first | assumption | rfl) ⟨⟨rfl, rfl⟩, by decide, by decide⟩ rfl (Nat.le_of_ble_eq_true rfl) rfl s_X12_look (Rv.k ?_)
  rw [← nw_rd (I := lkI I 4) (B := 500)]
  refine ex_aload_n dX12_layPull_5 rfl ?_
  refine ex_iload_n dX12_layPull_6 rfl ?_
  refine rx_cV (kd := 12) dX12_layPull_7 rfl lk_X12_171 rfl (by decide) (by first | assumption | rfl) ⟨⟨rfl, rfl⟩, by decide, by decide⟩ rfl (Nat.le_of_ble_eq_true rfl) rfl (s_X12_layHarbour vy lk_4 (by decide)) (Rv.k ?_)
  refine ex_aload_n dX12_layPull_10 rfl ?_
  refine ex_iload_n dX12_layPull_11 rfl ?_
  refine rx_cV (kd := 12) dX12_layPull_12 rfl lk_X12_174 rfl (by decide) (by first | assumption | rfl) ⟨⟨rfl, rfl⟩, by decide, by decide⟩ rfl (Nat.le_of_ble_eq_true rfl) rfl (s_X12_laySea vz lk_4 (by decide)) (Rv.k ?_)
  refine ex_aload_n dX12_layPull_15 rfl ?_
  refine rx_cV (kd := 12) dX12_layPull_16 rfl lk_X12_177 rfl (by decide) (by first | assumption | rfl) ⟨⟨rfl, rfl⟩, by decide, by decide⟩ rfl (Nat.le_of_ble_eq_true rfl) rfl (s_X12_begins lk_4 (by decide)) (Rv.k ?_)
  rw [lay_e]
  refine ex_aload_n dX12_layPull_19 rfl ?_
  refine ex_iload_n dX12_layPull_20 rfl ?_
  refine rx_cV (kd := 12) dX12_layPull_21 rfl lk_X12_180 rfl (by decide) (by first | assumption | rfl) ⟨⟨rfl, rfl⟩, by decide, by decide⟩ rfl (Nat.le_of_ble_eq_true rfl) rfl (s_X12_layShip hs lk_4 (by decide)) (Rv.k ?_)
  refine ex_aload_n dX12_layPull_24 rfl ?_
  refine ex_iload_n dX12_layPull_25 rfl ?_
  refine rx_cS dX12_layPull_26 rfl lk_X12_164 ⟨⟨rfl, rfl⟩, by decide, by decide⟩ rfl (Nat.le_of_ble_eq_true rfl) rfl s_X12_rider (Rs.k ?_)
  refine ex_iconst (v := 1) dX12_layPull_29 (by decide) ?_
  refine ex_iadd dX12_layPull_30 ?_
  refine ex_iload dX12_layPull_31 rfl ?_
  refine rx_cV (kd := 12) dX12_layPull_33 rfl lk_X12_160 rfl (by decide) (by first | assumption | rfl) ⟨⟨rfl, rfl⟩, by decide, by decide⟩ rfl (Nat.le_of_ble_eq_true rfl) rfl (s_X12_put_ (p := 95 + 10 * s + 1) (nI_1 _) (by omega) lk_4 (by decide)) (Rv.k ?_)
  refine ex_aload_n dX12_layPull_36 rfl ?_
  refine ex_iload_n dX12_layPull_37 rfl ?_
  refine rx_cS dX12_layPull_38 rfl lk_X12_164 ⟨⟨rfl, rfl⟩, by decide, by decide⟩ rfl (Nat.le_of_ble_eq_true rfl) rfl s_X12_rider (Rs.k ?_)
  refine ex_iconst (v := 3) dX12_layPull_41 (by decide) ?_
  refine ex_iadd dX12_layPull_42 ?_
  refine ex_iload dX12_layPull_43 rfl ?_
  refine rx_cV (kd := 12) dX12_layPull_45 rfl lk_X12_160 rfl (by decide) (by first | assumption | rfl) ⟨⟨rfl, rfl⟩, by decide, by decide⟩ rfl (Nat.le_of_ble_eq_true rfl) rfl (s_X12_put_ (p := 95 + 10 * s + 3) (nI_add _ 3) (by omega) lk_4 (by decide)) (Rv.k ?_)
  have e := plN_c (J := lkI I 4) (I := I) (s := s) (q := y.toNatClampNeg) (z := z.toNatClampNeg) (c := nI cc) (g := g) (lk_off (by decide)) (lk_off (by decide)) (lk_off (by decide)) (lk_off (by decide))
  unfold plN at e
  rw [e]
  have hw := plN_w (g := g) hH (vpn vy).1 hh hS (vpn vz).1 hs hP hp hc
  unfold plN at hw
  refine ex_iconst (v := 0) dX12_layPull_48 (by decide) ?_
  refine st_i6 dX12_layPull_49 (by first | exact rfl | exact trivial) ?_
  have key := loop_up (G := G) (d := mdX12_layPull) (pc := 51) (st := []) (uc := 0) (us := 0) (P := Rv (mk (plI I s y.toNatClampNeg z.toNatClampNeg (nI cc) g) L t)) 300 (fun k => mk (nw (lkI I 4) 500 (secI (plN I s y.toNatClampNeg z.toNatClampNeg (nI cc) g) (I 208 (21 * y.toNatClampNeg)).toNatClampNeg (I 208 (21 * y.toNatClampNeg + 1)).toNatClampNeg (I 210 z.toNatClampNeg).toNatClampNeg k)) L t) (fun k => [some (.ref 200), some (.int (nI s)), some (.int y), some (.int z), some (.int (nI cc)), some (.int g), some (.int (nI k))]) ?_ ?_ 0 (Nat.zero_le _)
  · rw [secI_0] at key
    exact key
  · intro k hk ih
    refine ex_iload dX12_layPull_51 rfl ?_
    refine ex_sipush (v := 300) dX12_layPull_53 (by decide) ?_
    refine ex_icmp_ge 69 dX12_layPull_56 (by decide) (fun h56 => ?_) (fun h56 => ?_)
    · exact absurd h56 (nI_ge hk (by decide))
    · skip
      refine ex_aload_n dX12_layPull_59 rfl ?_
      refine rx_cV (kd := 12) dX12_layPull_60 rfl lk_X12_220 rfl (by decide) (by first | assumption | rfl) ⟨⟨rfl, rfl⟩, by decide, by decide⟩ rfl (Nat.le_of_ble_eq_true rfl) rfl (s_X12_second (WfN_i hw k) lk_4 (by decide)) (Rv.k ?_)
      refine inc6 (v := _ + 1) dX12_layPull_63 (by rfl) (by first | exact rfl | exact trivial) ?_
      refine ex_goto 51 dX12_layPull_66 (by decide) ?_
      rw [nI_1]
      rw [secI_s] at ih
      exact ih
  · skip
    refine ex_iload dX12_layPull_51 rfl ?_
    refine ex_sipush (v := 300) dX12_layPull_53 (by decide) ?_
    refine ex_icmp_ge 69 dX12_layPull_56 (by decide) (fun h56 => ?_) (fun h56 => ?_)
    · skip
      refine ex_aload_n dX12_layPull_69 rfl ?_
      refine ex_aload_n dX12_layPull_70 rfl ?_
      refine ex_iload_n dX12_layPull_71 rfl ?_
      refine rx_cS dX12_layPull_72 rfl lk_X12_164 ⟨⟨rfl, rfl⟩, by decide, by decide⟩ rfl (Nat.le_of_ble_eq_true rfl) rfl s_X12_rider (Rs.k ?_)
      refine ex_bipush (v := 8) dX12_layPull_75 (by decide) ?_
      refine ex_iadd dX12_layPull_77 ?_
      refine rx_cV (kd := 12) dX12_layPull_78 rfl lk_X12_183 rfl (by decide) (by first | assumption | rfl) ⟨⟨rfl, rfl⟩, by decide, by decide⟩ rfl (Nat.le_of_ble_eq_true rfl) rfl (s_X12_v (p := 95 + 10 * s + 8) (nI_add _ 8) (by omega) lk_4 (by decide)) (Rs.k ?_)
      refine p_12_32 dX12_layPull_81 rfl wf_X12_317 (by first | assumption | rfl) ?_
      rw [nw_c (by decide)]
      refine ex_aload_n dX12_layPull_84 rfl ?_
      refine ex_aload_n dX12_layPull_85 rfl ?_
      refine ex_iload_n dX12_layPull_86 rfl ?_
      refine rx_cS dX12_layPull_87 rfl lk_X12_164 ⟨⟨rfl, rfl⟩, by decide, by decide⟩ rfl (Nat.le_of_ble_eq_true rfl) rfl s_X12_rider (Rs.k ?_)
      refine ex_bipush (v := 9) dX12_layPull_90 (by decide) ?_
      refine ex_iadd dX12_layPull_92 ?_
      refine rx_cV (kd := 12) dX12_layPull_93 rfl lk_X12_183 rfl (by decide) (by first | assumption | rfl) ⟨⟨rfl, rfl⟩, by decide, by decide⟩ rfl (Nat.le_of_ble_eq_true rfl) rfl (s_X12_v (B := 500) (I := up2 (lkI I 4) 200 32 ((plD I s y.toNatClampNeg z.toNatClampNeg (nI cc) g) (95 + 10 * s + 8))) (p := 95 + 10 * s + 9) (nI_add _ 9) (by omega) ((u2_j (by decide)).trans lk_4) (by decide)) (Rs.k ?_)
      refine p_12_33 dX12_layPull_96 rfl wf_X12_320 (by first | assumption | rfl) ?_
      rw [nw_c (by decide)]
      refine ex_vret dX12_layPull_99 rfl ⟨rfl, Nat.le_refl _⟩ ?_
      refine ⟨rfl, ?_⟩
      unfold plI
      rw [nw_c (by decide), nw_c (by decide)]
      rfl
    · exact absurd (by decide : nI 300 ≤ nI 300) h56
theorem s_plG {x y z c g : Int32} (vx : vp_in x 3) (vy : vp_in y 4) (vz : vp_in z 4) (vc : vp_in c 16) (hH : HmS I) (hh : ¬ I 207 y.toNatClampNeg = 0) (hS : SbS I) (hP : SpS I) (hp : ¬ I 214 x.toNatClampNeg = 0) : Ca G mdX12_layPull [.ref 200, .int x, .int y, .int z, .int c, .int g] (mk I L t) (Rv (mk (plI I x.toNatClampNeg y.toNatClampNeg z.toNatClampNeg c g) L t)) := by
  obtain ⟨x1, x2⟩ := vpn vx
  obtain ⟨c1, c2⟩ := vpn vc
  have key := s_X12_layPull (G := G) (L := L) (t := t) (g := g) x1 vy vz c1 hH hh hS hP hp
  rw [← x2, ← c2] at key
  exact key
end M15
