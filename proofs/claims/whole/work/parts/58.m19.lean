section M19
variable {G : Gp} {I : Im} {L : Nat → Nat → Int64} {t : Nat}
theorem lm_ts0 {P : Option Value → Mem → Prop} {y z r w : Int32} (vk : vp_in y 4) (vz : vp_in z 4) (hw : ∃ n, 3 ≤ n ∧ n ≤ 16 ∧ w = nI n) (hH : HmS I) (hS : SbS I) (hP : SpS I) (hh : ¬ I 207 y.toNatClampNeg = 0) (kont : Ex G mdX12_tonight 194 [some (.ref 200), some (.int y), some (.int z), some (.int r), some (.int w), none, none] [] (mk (tsN I y.toNatClampNeg z.toNatClampNeg w.toNatClampNeg 3) L t) 0 0 P) : Ex G mdX12_tonight 91 [some (.ref 200), some (.int y), some (.int z), some (.int r), some (.int w), some (.int 0), none] [] (mk I L t) 0 0 P := by
  obtain ⟨n, h3, hn, rfl⟩ := hw
  rw [nI_clamp (by omega)] at kont
  have h := lm_ts (G := G) (I := I) (L := L) (r := r) h3 vk vz hn hH hS hP hh (P := P) (fg5 kont)
  rw [tsN_0] at h
  exact h
theorem s_lieG {w r : Int32} (hw : ∃ n, 3 ≤ n ∧ n ≤ 16 ∧ w = nI n) (vr : vp_in r 6) : Ca G mdX12_lie [.ref 200, .int w, .int r] (mk I L t) (Rs (.int (liE I w.toNatClampNeg).2.1) (mk (liI I w.toNatClampNeg r.toNatClampNeg) L t)) := by
  obtain ⟨n, h3, hn, rfl⟩ := hw
  rw [nI_clamp (by omega)]
  exact s_X12_lie h3 hn vr
theorem har_n {x : Int32} (vx : vp_in x 4) (hH : HmS I) (hx : ¬ I 207 x.toNatClampNeg = 0) : ∃ n, 3 ≤ n ∧ n ≤ 16 ∧ I 208 (21 * x).toNatClampNeg = nI n := by
  obtain ⟨n, mo, h3, hn, hm, e0, e1⟩ := hH _ (vpn vx).1 hx
  rw [(ixz (c := 21) (C := 21) (R := 4) rfl (by decide) vx (by decide)).2]
  exact ⟨n, h3, hn, e0⟩
def f_X12_tonight (I : Im) (k : Int32) (z : Int32) (r : Int32) : Int32 × Im :=
  if (b2i (0 ≤ k ∧ k ≤ 3)) = 0 then
    ((-1), I)
  else
    if (b2i (0 ≤ z ∧ z ≤ 3)) = 0 then
      ((-1), I)
    else
      if (b2i (0 ≤ r ∧ r ≤ 5)) = 0 then
        ((-1), I)
      else
        if (I 207 k.toNatClampNeg) = 0 then
          let I1 : Im := meI I 1
          ((-3), I1)
        else
          if (I 209 z.toNatClampNeg) = 0 then
            let I8 : Im := meI I 1
            ((-3), I8)
          else
            if (I 214 (0 : Int32).toNatClampNeg) = 0 then
              if (I 214 (1 : Int32).toNatClampNeg) = 0 then
                if (I 214 (2 : Int32).toNatClampNeg) = 0 then
                  ((-4), I)
                else
                  let I6 : Im := tsN I k.toNatClampNeg z.toNatClampNeg (I 208 (21 * k).toNatClampNeg).toNatClampNeg 3
                  let I7 : Im := liI I6 (I 208 (21 * k).toNatClampNeg).toNatClampNeg r.toNatClampNeg
                  ((liE I6 (I 208 (21 * k).toNatClampNeg).toNatClampNeg).2.1, I7)
              else
                let I4 : Im := tsN I k.toNatClampNeg z.toNatClampNeg (I 208 (21 * k).toNatClampNeg).toNatClampNeg 3
                let I5 : Im := liI I4 (I 208 (21 * k).toNatClampNeg).toNatClampNeg r.toNatClampNeg
                ((liE I4 (I 208 (21 * k).toNatClampNeg).toNatClampNeg).2.1, I5)
            else
              let I2 : Im := tsN I k.toNatClampNeg z.toNatClampNeg (I 208 (21 * k).toNatClampNeg).toNatClampNeg 3
              let I3 : Im := liI I2 (I 208 (21 * k).toNatClampNeg).toNatClampNeg r.toNatClampNeg
              ((liE I2 (I 208 (21 * k).toNatClampNeg).toNatClampNeg).2.1, I3)
set_option maxRecDepth 100000 in
set_option maxHeartbeats 4000000 in
theorem s_X12_tonight  {k : Int32} {z : Int32} {r : Int32} (hH : HmS I) (hS : SbS I) (hP : SpS I) : Ca G mdX12_tonight [.ref 200, .int k, .int z, .int r] (mk I L t) (Rs (.int (f_X12_tonight I k z r).1) (mk ((f_X12_tonight I k z r).2) L t)) := by
  refine Ca.intro [some (.ref 200), some (.int k), some (.int z), some (.int r), none, none, none] (by decide) (Nat.le_of_ble_eq_true rfl) rfl rfl ?_
  refine ex_iload_n dX12_tonight_0 rfl ?_
  refine rx_cS dX12_tonight_1 rfl lk_X12_151 ⟨⟨rfl, rfl⟩, by decide, by decide⟩ rfl (Nat.le_of_ble_eq_true rfl) rfl s_X12_isPlace (Rs.k ?_)
  refine ex_if_eq 21 dX12_tonight_4 (by decide) (fun h4 => ?_) (fun h4 => ?_)
  · skip
    refine ex_iconst (v := (-1)) dX12_tonight_21 (by decide) ?_
    refine ex_iret dX12_tonight_22 rfl rfl ⟨rfl, Nat.le_refl _⟩ ?_
    exact ⟨(by simp only [f_X12_tonight, ↓eq_true h4, if_true, if_false, not_true_eq_false, not_false_eq_true]), (by simp only [f_X12_tonight, ↓eq_true h4, if_true, if_false, not_true_eq_false, not_false_eq_true])⟩
  · have qk := (cl_lt (N := 4) (by decide) h4).1
    have vk := (cl_lt (N := 4) (by decide) h4).2
    refine ex_iload_n dX12_tonight_7 rfl ?_
    refine rx_cS dX12_tonight_8 rfl lk_X12_151 ⟨⟨rfl, rfl⟩, by decide, by decide⟩ rfl (Nat.le_of_ble_eq_true rfl) rfl s_X12_isPlace (Rs.k ?_)
    refine ex_if_eq 21 dX12_tonight_11 (by decide) (fun h11 => ?_) (fun h11 => ?_)
    · skip
      refine ex_iconst (v := (-1)) dX12_tonight_21 (by decide) ?_
      refine ex_iret dX12_tonight_22 rfl rfl ⟨rfl, Nat.le_refl _⟩ ?_
      exact ⟨(by simp only [f_X12_tonight, ↓eq_false h4, ↓eq_true h11, if_true, if_false, not_true_eq_false, not_false_eq_true]), (by simp only [f_X12_tonight, ↓eq_false h4, ↓eq_true h11, if_true, if_false, not_true_eq_false, not_false_eq_true])⟩
    · have qz := (cl_lt (N := 4) (by decide) h11).1
      have vz := (cl_lt (N := 4) (by decide) h11).2
      refine ex_iload_n dX12_tonight_14 rfl ?_
      refine rx_cS dX12_tonight_15 rfl lk_X12_96 ⟨⟨rfl, rfl⟩, by decide, by decide⟩ rfl (Nat.le_of_ble_eq_true rfl) rfl s_X12_isRow (Rs.k ?_)
      refine ex_if_ne 23 dX12_tonight_18 (by decide) (fun h18 => ?_) (fun h18 => ?_)
      · have qr := (cl_lt (N := 6) (by decide) h18).1
        have vr := (cl_lt (N := 6) (by decide) h18).2
        refine ex_aload_n dX12_tonight_23 rfl ?_
        refine g_12_10 dX12_tonight_24 rfl wf_X12_29 (by first | assumption | rfl) (show Rt _ 200 10 = some 207 from rfl) ?_
        refine ex_iload_n dX12_tonight_27 rfl ?_
        refine rx_zald dX12_tonight_28 (by first | assumption | rfl) (by first | assumption | (unfold vp_in; decide)) ?_
        refine ex_if_eq 41 dX12_tonight_29 (by decide) (fun h29 => ?_) (fun h29 => ?_)
        · skip
          refine ex_aload_n dX12_tonight_41 rfl ?_
          refine ex_iconst (v := 1) dX12_tonight_42 (by decide) ?_
          refine rx_cV (kd := 12) dX12_tonight_43 rfl lk_X12_100 rfl (by decide) (by first | assumption | rfl) ⟨⟨rfl, rfl⟩, by decide, by decide⟩ rfl (Nat.le_of_ble_eq_true rfl) rfl (s_X12_meets (by unfold vp_in; decide)) (Rs.k ?_)
          refine ex_iret dX12_tonight_46 rfl rfl ⟨rfl, Nat.le_refl _⟩ ?_
          exact ⟨(by simp only [f_X12_tonight, ↓eq_false h4, ↓eq_false h11, ↓eq_false h18, ↓eq_true h29, if_true, if_false, not_true_eq_false, not_false_eq_true]), (by simp only [f_X12_tonight, ↓eq_false h4, ↓eq_false h11, ↓eq_false h18, ↓eq_true h29, if_true, if_false, not_true_eq_false, not_false_eq_true])⟩
        · skip
          refine ex_aload_n dX12_tonight_32 rfl ?_
          refine g_12_12 dX12_tonight_33 rfl wf_X12_36 (by first | assumption | rfl) (show Rt _ 200 12 = some 209 from rfl) ?_
          refine ex_iload_n dX12_tonight_36 rfl ?_
          refine rx_zald dX12_tonight_37 (by first | assumption | rfl) (by first | assumption | (unfold vp_in; decide)) ?_
          refine ex_if_ne 47 dX12_tonight_38 (by decide) (fun h38 => ?_) (fun h38 => ?_)
          · skip
            refine ex_aload_n dX12_tonight_47 rfl ?_
            refine g_12_20 dX12_tonight_48 rfl wf_X12_51 (by first | assumption | rfl) (show Rt _ 200 20 = some 214 from rfl) ?_
            refine ex_iconst (v := 0) dX12_tonight_51 (by decide) ?_
            refine rx_zald dX12_tonight_52 (by first | assumption | rfl) (by first | assumption | (unfold vp_in; decide)) ?_
            refine ex_if_ne 77 dX12_tonight_53 (by decide) (fun h53 => ?_) (fun h53 => ?_)
            · skip
              refine ex_aload_n dX12_tonight_77 rfl ?_
              refine g_12_11 dX12_tonight_78 rfl wf_X12_33 (by first | assumption | rfl) (show Rt _ 200 11 = some 208 from rfl) ?_
              refine ex_bipush (v := 21) dX12_tonight_81 (by decide) ?_
              refine ex_iload_n dX12_tonight_83 rfl ?_
              refine ex_imul dX12_tonight_84 ?_
              refine rx_iald dX12_tonight_85 (by first | assumption | rfl) (ixz (C := 21) (R := 4) rfl (by decide) vk (by decide)).1 ?_
              refine st_i4 dX12_tonight_86 (by first | exact rfl | exact trivial) ?_
              refine ex_iconst (v := 0) dX12_tonight_88 (by decide) ?_
              refine st_i5 dX12_tonight_89 (by first | exact rfl | exact trivial) ?_
              refine (lm_ts0 vk vz (har_n vk hH h29) hH hS hP h29) ?_
              refine ex_aload_n dX12_tonight_194 rfl ?_
              refine ex_iload dX12_tonight_195 rfl ?_
              refine ex_iload_n dX12_tonight_197 rfl ?_
              refine rx_cV (kd := 12) dX12_tonight_198 rfl lk_X12_331 rfl (by decide) (by first | assumption | rfl) ⟨⟨rfl, rfl⟩, by decide, by decide⟩ rfl (Nat.le_of_ble_eq_true rfl) rfl (s_lieG (har_n vk hH h29) vr) (Rs.k ?_)
              refine ex_iret dX12_tonight_201 rfl rfl ⟨rfl, Nat.le_refl _⟩ ?_
              exact ⟨(by simp only [f_X12_tonight, ↓eq_false h4, ↓eq_false h11, ↓eq_false h18, ↓eq_false h29, ↓eq_false h38, ↓eq_false h53, if_true, if_false, not_true_eq_false, not_false_eq_true]), (by simp only [f_X12_tonight, ↓eq_false h4, ↓eq_false h11, ↓eq_false h18, ↓eq_false h29, ↓eq_false h38, ↓eq_false h53, if_true, if_false, not_true_eq_false, not_false_eq_true])⟩
            · skip
              refine ex_aload_n dX12_tonight_56 rfl ?_
              refine g_12_20 dX12_tonight_57 rfl wf_X12_51 (by first | assumption | rfl) (show Rt _ 200 20 = some 214 from rfl) ?_
              refine ex_iconst (v := 1) dX12_tonight_60 (by decide) ?_
              refine rx_zald dX12_tonight_61 (by first | assumption | rfl) (by first | assumption | (unfold vp_in; decide)) ?_
              refine ex_if_ne 77 dX12_tonight_62 (by decide) (fun h62 => ?_) (fun h62 => ?_)
              · skip
                refine ex_aload_n dX12_tonight_77 rfl ?_
                refine g_12_11 dX12_tonight_78 rfl wf_X12_33 (by first | assumption | rfl) (show Rt _ 200 11 = some 208 from rfl) ?_
                refine ex_bipush (v := 21) dX12_tonight_81 (by decide) ?_
                refine ex_iload_n dX12_tonight_83 rfl ?_
                refine ex_imul dX12_tonight_84 ?_
                refine rx_iald dX12_tonight_85 (by first | assumption | rfl) (ixz (C := 21) (R := 4) rfl (by decide) vk (by decide)).1 ?_
                refine st_i4 dX12_tonight_86 (by first | exact rfl | exact trivial) ?_
                refine ex_iconst (v := 0) dX12_tonight_88 (by decide) ?_
                refine st_i5 dX12_tonight_89 (by first | exact rfl | exact trivial) ?_
                refine (lm_ts0 vk vz (har_n vk hH h29) hH hS hP h29) ?_
                refine ex_aload_n dX12_tonight_194 rfl ?_
                refine ex_iload dX12_tonight_195 rfl ?_
                refine ex_iload_n dX12_tonight_197 rfl ?_
                refine rx_cV (kd := 12) dX12_tonight_198 rfl lk_X12_331 rfl (by decide) (by first | assumption | rfl) ⟨⟨rfl, rfl⟩, by decide, by decide⟩ rfl (Nat.le_of_ble_eq_true rfl) rfl (s_lieG (har_n vk hH h29) vr) (Rs.k ?_)
                refine ex_iret dX12_tonight_201 rfl rfl ⟨rfl, Nat.le_refl _⟩ ?_
                exact ⟨(by simp only [f_X12_tonight, ↓eq_false h4, ↓eq_false h11, ↓eq_false h18, ↓eq_false h29, ↓eq_false h38, ↓eq_true h53, ↓eq_false h62, if_true, if_false, not_true_eq_false, not_false_eq_true]), (by simp only [f_X12_tonight, ↓eq_false h4, ↓eq_false h11, ↓eq_false h18, ↓eq_false h29, ↓eq_false h38, ↓eq_true h53, ↓eq_false h62, if_true, if_false, not_true_eq_false, not_false_eq_true])⟩
              · skip
                refine ex_aload_n dX12_tonight_65 rfl ?_
                refine g_12_20 dX12_tonight_66 rfl wf_X12_51 (by first | assumption | rfl) (show Rt _ 200 20 = some 214 from rfl) ?_
                refine ex_iconst (v := 2) dX12_tonight_69 (by decide) ?_
                refine rx_zald dX12_tonight_70 (by first | assumption | rfl) (by first | assumption | (unfold vp_in; decide)) ?_
                refine ex_if_ne 77 dX12_tonight_71 (by decide) (fun h71 => ?_) (fun h71 => ?_)
                · skip
                  refine ex_aload_n dX12_tonight_77 rfl ?_
                  refine g_12_11 dX12_tonight_78 rfl wf_X12_33 (by first | assumption | rfl) (show Rt _ 200 11 = some 208 from rfl) ?_
                  refine ex_bipush (v := 21) dX12_tonight_81 (by decide) ?_
                  refine ex_iload_n dX12_tonight_83 rfl ?_
                  refine ex_imul dX12_tonight_84 ?_
                  refine rx_iald dX12_tonight_85 (by first | assumption | rfl) (ixz (C := 21) (R := 4) rfl (by decide) vk (by decide)).1 ?_
                  refine st_i4 dX12_tonight_86 (by first | exact rfl | exact trivial) ?_
                  refine ex_iconst (v := 0) dX12_tonight_88 (by decide) ?_
                  refine st_i5 dX12_tonight_89 (by first | exact rfl | exact trivial) ?_
                  refine (lm_ts0 vk vz (har_n vk hH h29) hH hS hP h29) ?_
                  refine ex_aload_n dX12_tonight_194 rfl ?_
                  refine ex_iload dX12_tonight_195 rfl ?_
                  refine ex_iload_n dX12_tonight_197 rfl ?_
                  refine rx_cV (kd := 12) dX12_tonight_198 rfl lk_X12_331 rfl (by decide) (by first | assumption | rfl) ⟨⟨rfl, rfl⟩, by decide, by decide⟩ rfl (Nat.le_of_ble_eq_true rfl) rfl (s_lieG (har_n vk hH h29) vr) (Rs.k ?_)
                  refine ex_iret dX12_tonight_201 rfl rfl ⟨rfl, Nat.le_refl _⟩ ?_
                  exact ⟨(by simp only [f_X12_tonight, ↓eq_false h4, ↓eq_false h11, ↓eq_false h18, ↓eq_false h29, ↓eq_false h38, ↓eq_true h53, ↓eq_true h62, ↓eq_false h71, if_true, if_false, not_true_eq_false, not_false_eq_true]), (by simp only [f_X12_tonight, ↓eq_false h4, ↓eq_false h11, ↓eq_false h18, ↓eq_false h29, ↓eq_false h38, ↓eq_true h53, ↓eq_true h62, ↓eq_false h71, if_true, if_false, not_true_eq_false, not_false_eq_true])⟩
                · skip
                  refine ex_bipush (v := (-4)) dX12_tonight_74 (by decide) ?_
                  refine ex_iret dX12_tonight_76 rfl rfl ⟨rfl, Nat.le_refl _⟩ ?_
                  exact ⟨(by simp only [f_X12_tonight, ↓eq_false h4, ↓eq_false h11, ↓eq_false h18, ↓eq_false h29, ↓eq_false h38, ↓eq_true h53, ↓eq_true h62, ↓eq_true h71, if_true, if_false, not_true_eq_false, not_false_eq_true]), (by simp only [f_X12_tonight, ↓eq_false h4, ↓eq_false h11, ↓eq_false h18, ↓eq_false h29, ↓eq_false h38, ↓eq_true h53, ↓eq_true h62, ↓eq_true h71, if_true, if_false, not_true_eq_false, not_false_eq_true])⟩
          · skip
            refine ex_aload_n dX12_tonight_41 rfl ?_
            refine ex_iconst (v := 1) dX12_tonight_42 (by decide) ?_
            refine rx_cV (kd := 12) dX12_tonight_43 rfl lk_X12_100 rfl (by decide) (by first | assumption | rfl) ⟨⟨rfl, rfl⟩, by decide, by decide⟩ rfl (Nat.le_of_ble_eq_true rfl) rfl (s_X12_meets (by unfold vp_in; decide)) (Rs.k ?_)
            refine ex_iret dX12_tonight_46 rfl rfl ⟨rfl, Nat.le_refl _⟩ ?_
            exact ⟨(by simp only [f_X12_tonight, ↓eq_false h4, ↓eq_false h11, ↓eq_false h18, ↓eq_false h29, ↓eq_true h38, if_true, if_false, not_true_eq_false, not_false_eq_true]), (by simp only [f_X12_tonight, ↓eq_false h4, ↓eq_false h11, ↓eq_false h18, ↓eq_false h29, ↓eq_true h38, if_true, if_false, not_true_eq_false, not_false_eq_true])⟩
      · skip
        refine ex_iconst (v := (-1)) dX12_tonight_21 (by decide) ?_
        refine ex_iret dX12_tonight_22 rfl rfl ⟨rfl, Nat.le_refl _⟩ ?_
        exact ⟨(by simp only [f_X12_tonight, ↓eq_false h4, ↓eq_false h11, ↓eq_true h18, if_true, if_false, not_true_eq_false, not_false_eq_true]), (by simp only [f_X12_tonight, ↓eq_false h4, ↓eq_false h11, ↓eq_true h18, if_true, if_false, not_true_eq_false, not_false_eq_true])⟩
def WmS (I : Im) : Prop := ∃ m, m ≤ 5 ∧ I 200 37 = nI m
theorem wm_q (h : WmS I) (h5 : ¬ I 200 37 = 5) : vp_in (I 200 37) 5 := by
  obtain ⟨m, hm, e⟩ := h
  rw [e] at h5 ⊢
  have : m ≠ 5 := fun z => h5 (by rw [z]; rfl)
  exact vp_in_nI (by omega) (by decide)
def f_X12_work (I : Im) (s : Int32) (k : Int32) (v : Int32) (c : Int32) : Int32 × Im :=
  if (b2i (0 ≤ s ∧ s ≤ 5)) = 0 then
    ((-1), I)
  else
    if (b2i (0 ≤ k ∧ k ≤ 15)) = 0 then
      ((-1), I)
    else
      if (b2i (0 ≤ v ∧ v ≤ 9)) = 0 then
        ((-1), I)
      else
        if (b2i (0 ≤ c ∧ c ≤ 99)) = 0 then
          ((-1), I)
        else
          if (I 200 37) = 5 then
            ((-2), I)
          else
            let I1 : Im := up2 I 222 (4 * (I 200 37)).toNatClampNeg s
            let I2 : Im := up2 I1 222 ((4 * (I1 200 37)) + 1).toNatClampNeg k
            let I3 : Im := up2 I2 222 ((4 * (I2 200 37)) + 2).toNatClampNeg v
            let I4 : Im := up2 I3 222 ((4 * (I3 200 37)) + 3).toNatClampNeg c
            let I5 : Im := up2 I4 200 37 ((I4 200 37) + 1)
            ((I5 200 37) - 1, I5)
set_option maxRecDepth 100000 in
set_option maxHeartbeats 4000000 in
theorem s_X12_work  {s : Int32} {k : Int32} {v : Int32} {c : Int32} (hM : WmS I) : Ca G mdX12_work [.ref 200, .int s, .int k, .int v, .int c] (mk I L t) (Rs (.int (f_X12_work I s k v c).1) (mk ((f_X12_work I s k v c).2) L t)) := by
  refine Ca.intro [some (.ref 200), some (.int s), some (.int k), some (.int v), some (.int c)] (by decide) (Nat.le_of_ble_eq_true rfl) rfl rfl ?_
  refine ex_iload_n dX12_work_0 rfl ?_
  refine ex_iconst (v := 0) dX12_work_1 (by decide) ?_
  refine ex_iconst (v := 5) dX12_work_2 (by decide) ?_
  refine rx_cS dX12_work_3 rfl lk_X12_86 ⟨⟨rfl, rfl⟩, by decide, by decide⟩ rfl (Nat.le_of_ble_eq_true rfl) rfl s_X12_in (Rs.k ?_)
  refine ex_if_eq 40 dX12_work_6 (by decide) (fun h6 => ?_) (fun h6 => ?_)
  · skip
    refine ex_iconst (v := (-1)) dX12_work_40 (by decide) ?_
    refine ex_iret dX12_work_41 rfl rfl ⟨rfl, Nat.le_refl _⟩ ?_
    exact ⟨(by simp only [f_X12_work, ↓eq_true h6, if_true, if_false, not_true_eq_false, not_false_eq_true]), (by simp only [f_X12_work, ↓eq_true h6, if_true, if_false, not_true_eq_false, not_false_eq_true])⟩
  · skip
    refine ex_iload_n dX12_work_9 rfl ?_
    refine ex_iconst (v := 0) dX12_work_10 (by decide) ?_
    refine ex_bipush (v := 15) dX12_work_11 (by decide) ?_
    refine rx_cS dX12_work_13 rfl lk_X12_86 ⟨⟨rfl, rfl⟩, by decide, by decide⟩ rfl (Nat.le_of_ble_eq_true rfl) rfl s_X12_in (Rs.k ?_)
    refine ex_if_eq 40 dX12_work_16 (by decide) (fun h16 => ?_) (fun h16 => ?_)
    · skip
      refine ex_iconst (v := (-1)) dX12_work_40 (by decide) ?_
      refine ex_iret dX12_work_41 rfl rfl ⟨rfl, Nat.le_refl _⟩ ?_
      exact ⟨(by simp only [f_X12_work, ↓eq_false h6, ↓eq_true h16, if_true, if_false, not_true_eq_false, not_false_eq_true]), (by simp only [f_X12_work, ↓eq_false h6, ↓eq_true h16, if_true, if_false, not_true_eq_false, not_false_eq_true])⟩
    · skip
      refine ex_iload_n dX12_work_19 rfl ?_
      refine ex_iconst (v := 0) dX12_work_20 (by decide) ?_
      refine ex_bipush (v := 9) dX12_work_21 (by decide) ?_
      refine rx_cS dX12_work_23 rfl lk_X12_86 ⟨⟨rfl, rfl⟩, by decide, by decide⟩ rfl (Nat.le_of_ble_eq_true rfl) rfl s_X12_in (Rs.k ?_)
      refine ex_if_eq 40 dX12_work_26 (by decide) (fun h26 => ?_) (fun h26 => ?_)
      · skip
        refine ex_iconst (v := (-1)) dX12_work_40 (by decide) ?_
        refine ex_iret dX12_work_41 rfl rfl ⟨rfl, Nat.le_refl _⟩ ?_
        exact ⟨(by simp only [f_X12_work, ↓eq_false h6, ↓eq_false h16, ↓eq_true h26, if_true, if_false, not_true_eq_false, not_false_eq_true]), (by simp only [f_X12_work, ↓eq_false h6, ↓eq_false h16, ↓eq_true h26, if_true, if_false, not_true_eq_false, not_false_eq_true])⟩
      · skip
        refine ex_iload dX12_work_29 rfl ?_
        refine ex_iconst (v := 0) dX12_work_31 (by decide) ?_
        refine ex_bipush (v := 99) dX12_work_32 (by decide) ?_
        refine rx_cS dX12_work_34 rfl lk_X12_86 ⟨⟨rfl, rfl⟩, by decide, by decide⟩ rfl (Nat.le_of_ble_eq_true rfl) rfl s_X12_in (Rs.k ?_)
        refine ex_if_ne 42 dX12_work_37 (by decide) (fun h37 => ?_) (fun h37 => ?_)
        · skip
          refine ex_aload_n dX12_work_42 rfl ?_
          refine g_12_37 dX12_work_43 rfl wf_X12_337 (by first | assumption | rfl) ?_
          refine ex_iconst (v := 5) dX12_work_46 (by decide) ?_
          refine ex_icmp_ne 53 dX12_work_47 (by decide) (fun h47 => ?_) (fun h47 => ?_)
          · have vw := wm_q hM h47
            refine ex_aload_n dX12_work_53 rfl ?_
            refine g_12_38 dX12_work_54 rfl wf_X12_75 (by first | assumption | rfl) (show Rt _ 200 38 = some 222 from rfl) ?_
            refine ex_iconst (v := 4) dX12_work_57 (by decide) ?_
            refine ex_aload_n dX12_work_58 rfl ?_
            refine g_12_37 dX12_work_59 rfl wf_X12_337 (by first | assumption | rfl) ?_
            refine ex_imul dX12_work_62 ?_
            refine ex_iload_n dX12_work_63 rfl ?_
            refine rx_iast dX12_work_64 (by first | assumption | rfl) (ixz (C := 4) (R := 5) rfl (by decide) vw (by decide)).1 ?_
            refine ex_aload_n dX12_work_65 rfl ?_
            refine g_12_38 dX12_work_66 rfl wf_X12_75 (by first | assumption | rfl) (show Rt _ 200 38 = some 222 from rfl) ?_
            refine ex_iconst (v := 4) dX12_work_69 (by decide) ?_
            refine ex_aload_n dX12_work_70 rfl ?_
            refine g_12_37 dX12_work_71 rfl wf_X12_337 (by first | assumption | rfl) ?_
            refine ex_imul dX12_work_74 ?_
            refine ex_iconst (v := 1) dX12_work_75 (by decide) ?_
            refine ex_iadd dX12_work_76 ?_
            refine ex_iload_n dX12_work_77 rfl ?_
            refine rx_iast dX12_work_78 (by first | assumption | rfl) (ixm (c := 4) (C := 4) (R := 5) rfl (by first | exact vw | (rw [up2_off (by decide)]; exact vw) | (rw [up2_off (by decide), up2_off (by decide)]; exact vw) | (rw [up2_off (by decide), up2_off (by decide), up2_off (by decide)]; exact vw)) (i := 1) (by unfold vp_in; decide) (by decide)).1 ?_
            refine ex_aload_n dX12_work_79 rfl ?_
            refine g_12_38 dX12_work_80 rfl wf_X12_75 (by first | assumption | rfl) (show Rt _ 200 38 = some 222 from rfl) ?_
            refine ex_iconst (v := 4) dX12_work_83 (by decide) ?_
            refine ex_aload_n dX12_work_84 rfl ?_
            refine g_12_37 dX12_work_85 rfl wf_X12_337 (by first | assumption | rfl) ?_
            refine ex_imul dX12_work_88 ?_
            refine ex_iconst (v := 2) dX12_work_89 (by decide) ?_
            refine ex_iadd dX12_work_90 ?_
            refine ex_iload_n dX12_work_91 rfl ?_
            refine rx_iast dX12_work_92 (by first | assumption | rfl) (ixm (c := 4) (C := 4) (R := 5) rfl (by first | exact vw | (rw [up2_off (by decide)]; exact vw) | (rw [up2_off (by decide), up2_off (by decide)]; exact vw) | (rw [up2_off (by decide), up2_off (by decide), up2_off (by decide)]; exact vw)) (i := 2) (by unfold vp_in; decide) (by decide)).1 ?_
            refine ex_aload_n dX12_work_93 rfl ?_
            refine g_12_38 dX12_work_94 rfl wf_X12_75 (by first | assumption | rfl) (show Rt _ 200 38 = some 222 from rfl) ?_
            refine ex_iconst (v := 4) dX12_work_97 (by decide) ?_
            refine ex_aload_n dX12_work_98 rfl ?_
            refine g_12_37 dX12_work_99 rfl wf_X12_337 (by first | assumption | rfl) ?_
            refine ex_imul dX12_work_102 ?_
            refine ex_iconst (v := 3) dX12_work_103 (by decide) ?_
            refine ex_iadd dX12_work_104 ?_
            refine ex_iload dX12_work_105 rfl ?_
            refine rx_iast dX12_work_107 (by first | assumption | rfl) (ixm (c := 4) (C := 4) (R := 5) rfl (by first | exact vw | (rw [up2_off (by decide)]; exact vw) | (rw [up2_off (by decide), up2_off (by decide)]; exact vw) | (rw [up2_off (by decide), up2_off (by decide), up2_off (by decide)]; exact vw)) (i := 3) (by unfold vp_in; decide) (by decide)).1 ?_
            refine ex_aload_n dX12_work_108 rfl ?_
            refine ex_dup dX12_work_109 rfl ?_
            refine g_12_37 dX12_work_110 rfl wf_X12_337 (by first | assumption | rfl) ?_
            refine ex_iconst (v := 1) dX12_work_113 (by decide) ?_
            refine ex_iadd dX12_work_114 ?_
            refine p_12_37 dX12_work_115 rfl wf_X12_337 (by first | assumption | rfl) ?_
            refine ex_aload_n dX12_work_118 rfl ?_
            refine g_12_37 dX12_work_119 rfl wf_X12_337 (by first | assumption | rfl) ?_
            refine ex_iconst (v := 1) dX12_work_122 (by decide) ?_
            refine ex_isub dX12_work_123 ?_
            refine ex_iret dX12_work_124 rfl rfl ⟨rfl, Nat.le_refl _⟩ ?_
            exact ⟨(by simp only [f_X12_work, ↓eq_false h6, ↓eq_false h16, ↓eq_false h26, ↓eq_false h37, ↓eq_false h47, if_true, if_false, not_true_eq_false, not_false_eq_true]), (by simp only [f_X12_work, ↓eq_false h6, ↓eq_false h16, ↓eq_false h26, ↓eq_false h37, ↓eq_false h47, if_true, if_false, not_true_eq_false, not_false_eq_true])⟩
          · skip
            refine ex_bipush (v := (-2)) dX12_work_50 (by decide) ?_
            refine ex_iret dX12_work_52 rfl rfl ⟨rfl, Nat.le_refl _⟩ ?_
            exact ⟨(by simp only [f_X12_work, ↓eq_false h6, ↓eq_false h16, ↓eq_false h26, ↓eq_false h37, ↓eq_true h47, if_true, if_false, not_true_eq_false, not_false_eq_true]), (by simp only [f_X12_work, ↓eq_false h6, ↓eq_false h16, ↓eq_false h26, ↓eq_false h37, ↓eq_true h47, if_true, if_false, not_true_eq_false, not_false_eq_true])⟩
        · skip
          refine ex_iconst (v := (-1)) dX12_work_40 (by decide) ?_
          refine ex_iret dX12_work_41 rfl rfl ⟨rfl, Nat.le_refl _⟩ ?_
          exact ⟨(by simp only [f_X12_work, ↓eq_false h6, ↓eq_false h16, ↓eq_false h26, ↓eq_true h37, if_true, if_false, not_true_eq_false, not_false_eq_true]), (by simp only [f_X12_work, ↓eq_false h6, ↓eq_false h16, ↓eq_false h26, ↓eq_true h37, if_true, if_false, not_true_eq_false, not_false_eq_true])⟩
def f_X12_back (I : Im) (n : Int32) : Int32 × Im :=
  if (b2i (0 ≤ n ∧ n ≤ (I 200 37))) = 0 then
    ((-1), I)
  else
    let I1 : Im := up2 I 200 37 n
    ((I 200 37) - n, I1)
set_option maxRecDepth 100000 in
set_option maxHeartbeats 4000000 in
theorem s_X12_back  {n : Int32}  : Ca G mdX12_back [.ref 200, .int n] (mk I L t) (Rs (.int (f_X12_back I n).1) (mk ((f_X12_back I n).2) L t)) := by
  refine Ca.intro [some (.ref 200), some (.int n), none] (by decide) (Nat.le_of_ble_eq_true rfl) rfl rfl ?_
  refine ex_iload_n dX12_back_0 rfl ?_
  refine ex_iconst (v := 0) dX12_back_1 (by decide) ?_
  refine ex_aload_n dX12_back_2 rfl ?_
  refine g_12_37 dX12_back_3 rfl wf_X12_337 (by first | assumption | rfl) ?_
  refine rx_cS dX12_back_6 rfl lk_X12_86 ⟨⟨rfl, rfl⟩, by decide, by decide⟩ rfl (Nat.le_of_ble_eq_true rfl) rfl s_X12_in (Rs.k ?_)
  refine ex_if_ne 14 dX12_back_9 (by decide) (fun h9 => ?_) (fun h9 => ?_)
  · skip
    refine ex_aload_n dX12_back_14 rfl ?_
    refine g_12_37 dX12_back_15 rfl wf_X12_337 (by first | assumption | rfl) ?_
    refine ex_iload_n dX12_back_18 rfl ?_
    refine ex_isub dX12_back_19 ?_
    refine st_i2 dX12_back_20 (by first | exact rfl | exact trivial) ?_
    refine ex_aload_n dX12_back_21 rfl ?_
    refine ex_iload_n dX12_back_22 rfl ?_
    refine p_12_37 dX12_back_23 rfl wf_X12_337 (by first | assumption | rfl) ?_
    refine ex_iload_n dX12_back_26 rfl ?_
    refine ex_iret dX12_back_27 rfl rfl ⟨rfl, Nat.le_refl _⟩ ?_
    exact ⟨(by simp only [f_X12_back, ↓eq_false h9, if_true, if_false, not_true_eq_false, not_false_eq_true]), (by simp only [f_X12_back, ↓eq_false h9, if_true, if_false, not_true_eq_false, not_false_eq_true])⟩
  · skip
    refine ex_iconst (v := (-1)) dX12_back_12 (by decide) ?_
    refine ex_iret dX12_back_13 rfl rfl ⟨rfl, Nat.le_refl _⟩ ?_
    exact ⟨(by simp only [f_X12_back, ↓eq_true h9, if_true, if_false, not_true_eq_false, not_false_eq_true]), (by simp only [f_X12_back, ↓eq_true h9, if_true, if_false, not_true_eq_false, not_false_eq_true])⟩
def f_X12_builds (I : Im) (w : Int32) : Im :=
  if (I 217 (500 + (0 : Int32).toNatClampNeg)) ≤ ((I 222 ((4 * w) + 1).toNatClampNeg) + 1) then
    if (I 217 (500 + (0 : Int32).toNatClampNeg)) ≤ (I 222 ((4 * w) + 1).toNatClampNeg) then
      if (I 222 (4 * w).toNatClampNeg) = 0 then
        if (I 222 (4 * w).toNatClampNeg) = 1 then
          if (I 222 (4 * w).toNatClampNeg) = 2 then
            let I8 : Im := up2 I 217 (500 + (2 : Int32).toNatClampNeg) ((if 9 < ((I 217 (500 + (2 : Int32).toNatClampNeg)) + (I 222 ((4 * w) + 2).toNatClampNeg)) then 9 else ((I 217 (500 + (2 : Int32).toNatClampNeg)) + (I 222 ((4 * w) + 2).toNatClampNeg))))
            I8
          else
            if (I 222 (4 * w).toNatClampNeg) = 3 then
              let I7 : Im := up2 I 217 (500 + (2 : Int32).toNatClampNeg) ((if ((I 217 (500 + (2 : Int32).toNatClampNeg)) - (I 222 ((4 * w) + 2).toNatClampNeg)) < 0 then 0 else ((I 217 (500 + (2 : Int32).toNatClampNeg)) - (I 222 ((4 * w) + 2).toNatClampNeg))))
              I7
            else
              if (I 222 (4 * w).toNatClampNeg) = 4 then
                if (I 222 (4 * w).toNatClampNeg) = 5 then
                  I
                else
                  I
              else
                if (I 222 (4 * w).toNatClampNeg) = 5 then
                  I
                else
                  I
        else
          if (I 222 (4 * w).toNatClampNeg) = 2 then
            let I6 : Im := up2 I 217 (500 + (2 : Int32).toNatClampNeg) ((if 9 < ((I 217 (500 + (2 : Int32).toNatClampNeg)) + (I 222 ((4 * w) + 2).toNatClampNeg)) then 9 else ((I 217 (500 + (2 : Int32).toNatClampNeg)) + (I 222 ((4 * w) + 2).toNatClampNeg))))
            I6
          else
            if (I 222 (4 * w).toNatClampNeg) = 3 then
              let I5 : Im := up2 I 217 (500 + (2 : Int32).toNatClampNeg) ((if ((I 217 (500 + (2 : Int32).toNatClampNeg)) - (I 222 ((4 * w) + 2).toNatClampNeg)) < 0 then 0 else ((I 217 (500 + (2 : Int32).toNatClampNeg)) - (I 222 ((4 * w) + 2).toNatClampNeg))))
              I5
            else
              if (I 222 (4 * w).toNatClampNeg) = 4 then
                if (I 222 (4 * w).toNatClampNeg) = 5 then
                  I
                else
                  I
              else
                if (I 222 (4 * w).toNatClampNeg) = 5 then
                  I
                else
                  I
      else
        if (I 222 (4 * w).toNatClampNeg) = 1 then
          if (I 222 (4 * w).toNatClampNeg) = 2 then
            let I4 : Im := up2 I 217 (500 + (2 : Int32).toNatClampNeg) ((if 9 < ((I 217 (500 + (2 : Int32).toNatClampNeg)) + (I 222 ((4 * w) + 2).toNatClampNeg)) then 9 else ((I 217 (500 + (2 : Int32).toNatClampNeg)) + (I 222 ((4 * w) + 2).toNatClampNeg))))
            I4
          else
            if (I 222 (4 * w).toNatClampNeg) = 3 then
              let I3 : Im := up2 I 217 (500 + (2 : Int32).toNatClampNeg) ((if ((I 217 (500 + (2 : Int32).toNatClampNeg)) - (I 222 ((4 * w) + 2).toNatClampNeg)) < 0 then 0 else ((I 217 (500 + (2 : Int32).toNatClampNeg)) - (I 222 ((4 * w) + 2).toNatClampNeg))))
              I3
            else
              if (I 222 (4 * w).toNatClampNeg) = 4 then
                if (I 222 (4 * w).toNatClampNeg) = 5 then
                  I
                else
                  I
              else
                if (I 222 (4 * w).toNatClampNeg) = 5 then
                  I
                else
                  I
        else
          if (I 222 (4 * w).toNatClampNeg) = 2 then
            let I2 : Im := up2 I 217 (500 + (2 : Int32).toNatClampNeg) ((if 9 < ((I 217 (500 + (2 : Int32).toNatClampNeg)) + (I 222 ((4 * w) + 2).toNatClampNeg)) then 9 else ((I 217 (500 + (2 : Int32).toNatClampNeg)) + (I 222 ((4 * w) + 2).toNatClampNeg))))
            I2
          else
            if (I 222 (4 * w).toNatClampNeg) = 3 then
              let I1 : Im := up2 I 217 (500 + (2 : Int32).toNatClampNeg) ((if ((I 217 (500 + (2 : Int32).toNatClampNeg)) - (I 222 ((4 * w) + 2).toNatClampNeg)) < 0 then 0 else ((I 217 (500 + (2 : Int32).toNatClampNeg)) - (I 222 ((4 * w) + 2).toNatClampNeg))))
              I1
            else
              if (I 222 (4 * w).toNatClampNeg) = 4 then
                if (I 222 (4 * w).toNatClampNeg) = 5 then
                  I
                else
                  I
              else
                if (I 222 (4 * w).toNatClampNeg) = 5 then
                  I
                else
                  I
    else
      if (I 222 (4 * w).toNatClampNeg) = 0 then
        if (I 222 (4 * w).toNatClampNeg) = 1 then
          if (I 222 (4 * w).toNatClampNeg) = 2 then
            let I24 : Im := up2 I 217 (500 + (2 : Int32).toNatClampNeg) ((if 9 < ((I 217 (500 + (2 : Int32).toNatClampNeg)) + (I 222 ((4 * w) + 2).toNatClampNeg)) then 9 else ((I 217 (500 + (2 : Int32).toNatClampNeg)) + (I 222 ((4 * w) + 2).toNatClampNeg))))
            I24
          else
            if (I 222 (4 * w).toNatClampNeg) = 3 then
              let I23 : Im := up2 I 217 (500 + (2 : Int32).toNatClampNeg) ((if ((I 217 (500 + (2 : Int32).toNatClampNeg)) - (I 222 ((4 * w) + 2).toNatClampNeg)) < 0 then 0 else ((I 217 (500 + (2 : Int32).toNatClampNeg)) - (I 222 ((4 * w) + 2).toNatClampNeg))))
              I23
            else
              if (I 222 (4 * w).toNatClampNeg) = 4 then
                let I22 : Im := up2 I 217 (500 + ((5 + (I 222 ((4 * w) + 1).toNatClampNeg)) : Int32).toNatClampNeg) ((if 9 < ((I 217 (500 + ((5 + (I 222 ((4 * w) + 1).toNatClampNeg)) : Int32).toNatClampNeg)) + (I 222 ((4 * w) + 2).toNatClampNeg)) then 9 else ((I 217 (500 + ((5 + (I 222 ((4 * w) + 1).toNatClampNeg)) : Int32).toNatClampNeg)) + (I 222 ((4 * w) + 2).toNatClampNeg))))
                I22
              else
                if (I 222 (4 * w).toNatClampNeg) = 5 then
                  let I21 : Im := up2 I 217 (500 + ((5 + (I 222 ((4 * w) + 1).toNatClampNeg)) : Int32).toNatClampNeg) ((if ((I 217 (500 + ((5 + (I 222 ((4 * w) + 1).toNatClampNeg)) : Int32).toNatClampNeg)) - (I 222 ((4 * w) + 2).toNatClampNeg)) < 1 then 1 else ((I 217 (500 + ((5 + (I 222 ((4 * w) + 1).toNatClampNeg)) : Int32).toNatClampNeg)) - (I 222 ((4 * w) + 2).toNatClampNeg))))
                  I21
                else
                  I
        else
          if (I 222 (4 * w).toNatClampNeg) = 2 then
            let I20 : Im := up2 I 217 (500 + (2 : Int32).toNatClampNeg) ((if 9 < ((I 217 (500 + (2 : Int32).toNatClampNeg)) + (I 222 ((4 * w) + 2).toNatClampNeg)) then 9 else ((I 217 (500 + (2 : Int32).toNatClampNeg)) + (I 222 ((4 * w) + 2).toNatClampNeg))))
            I20
          else
            if (I 222 (4 * w).toNatClampNeg) = 3 then
              let I19 : Im := up2 I 217 (500 + (2 : Int32).toNatClampNeg) ((if ((I 217 (500 + (2 : Int32).toNatClampNeg)) - (I 222 ((4 * w) + 2).toNatClampNeg)) < 0 then 0 else ((I 217 (500 + (2 : Int32).toNatClampNeg)) - (I 222 ((4 * w) + 2).toNatClampNeg))))
              I19
            else
              if (I 222 (4 * w).toNatClampNeg) = 4 then
                let I18 : Im := up2 I 217 (500 + ((5 + (I 222 ((4 * w) + 1).toNatClampNeg)) : Int32).toNatClampNeg) ((if 9 < ((I 217 (500 + ((5 + (I 222 ((4 * w) + 1).toNatClampNeg)) : Int32).toNatClampNeg)) + (I 222 ((4 * w) + 2).toNatClampNeg)) then 9 else ((I 217 (500 + ((5 + (I 222 ((4 * w) + 1).toNatClampNeg)) : Int32).toNatClampNeg)) + (I 222 ((4 * w) + 2).toNatClampNeg))))
                I18
              else
                if (I 222 (4 * w).toNatClampNeg) = 5 then
                  let I17 : Im := up2 I 217 (500 + ((5 + (I 222 ((4 * w) + 1).toNatClampNeg)) : Int32).toNatClampNeg) ((if ((I 217 (500 + ((5 + (I 222 ((4 * w) + 1).toNatClampNeg)) : Int32).toNatClampNeg)) - (I 222 ((4 * w) + 2).toNatClampNeg)) < 1 then 1 else ((I 217 (500 + ((5 + (I 222 ((4 * w) + 1).toNatClampNeg)) : Int32).toNatClampNeg)) - (I 222 ((4 * w) + 2).toNatClampNeg))))
                  I17
                else
                  I
      else
        if (I 222 (4 * w).toNatClampNeg) = 1 then
          if (I 222 (4 * w).toNatClampNeg) = 2 then
            let I16 : Im := up2 I 217 (500 + (2 : Int32).toNatClampNeg) ((if 9 < ((I 217 (500 + (2 : Int32).toNatClampNeg)) + (I 222 ((4 * w) + 2).toNatClampNeg)) then 9 else ((I 217 (500 + (2 : Int32).toNatClampNeg)) + (I 222 ((4 * w) + 2).toNatClampNeg))))
            I16
          else
            if (I 222 (4 * w).toNatClampNeg) = 3 then
              let I15 : Im := up2 I 217 (500 + (2 : Int32).toNatClampNeg) ((if ((I 217 (500 + (2 : Int32).toNatClampNeg)) - (I 222 ((4 * w) + 2).toNatClampNeg)) < 0 then 0 else ((I 217 (500 + (2 : Int32).toNatClampNeg)) - (I 222 ((4 * w) + 2).toNatClampNeg))))
              I15
            else
              if (I 222 (4 * w).toNatClampNeg) = 4 then
                let I14 : Im := up2 I 217 (500 + ((5 + (I 222 ((4 * w) + 1).toNatClampNeg)) : Int32).toNatClampNeg) ((if 9 < ((I 217 (500 + ((5 + (I 222 ((4 * w) + 1).toNatClampNeg)) : Int32).toNatClampNeg)) + (I 222 ((4 * w) + 2).toNatClampNeg)) then 9 else ((I 217 (500 + ((5 + (I 222 ((4 * w) + 1).toNatClampNeg)) : Int32).toNatClampNeg)) + (I 222 ((4 * w) + 2).toNatClampNeg))))
                I14
              else
                if (I 222 (4 * w).toNatClampNeg) = 5 then
                  let I13 : Im := up2 I 217 (500 + ((5 + (I 222 ((4 * w) + 1).toNatClampNeg)) : Int32).toNatClampNeg) ((if ((I 217 (500 + ((5 + (I 222 ((4 * w) + 1).toNatClampNeg)) : Int32).toNatClampNeg)) - (I 222 ((4 * w) + 2).toNatClampNeg)) < 1 then 1 else ((I 217 (500 + ((5 + (I 222 ((4 * w) + 1).toNatClampNeg)) : Int32).toNatClampNeg)) - (I 222 ((4 * w) + 2).toNatClampNeg))))
                  I13
                else
                  I
        else
          if (I 222 (4 * w).toNatClampNeg) = 2 then
            let I12 : Im := up2 I 217 (500 + (2 : Int32).toNatClampNeg) ((if 9 < ((I 217 (500 + (2 : Int32).toNatClampNeg)) + (I 222 ((4 * w) + 2).toNatClampNeg)) then 9 else ((I 217 (500 + (2 : Int32).toNatClampNeg)) + (I 222 ((4 * w) + 2).toNatClampNeg))))
            I12
          else
            if (I 222 (4 * w).toNatClampNeg) = 3 then
              let I11 : Im := up2 I 217 (500 + (2 : Int32).toNatClampNeg) ((if ((I 217 (500 + (2 : Int32).toNatClampNeg)) - (I 222 ((4 * w) + 2).toNatClampNeg)) < 0 then 0 else ((I 217 (500 + (2 : Int32).toNatClampNeg)) - (I 222 ((4 * w) + 2).toNatClampNeg))))
              I11
            else
              if (I 222 (4 * w).toNatClampNeg) = 4 then
                let I10 : Im := up2 I 217 (500 + ((5 + (I 222 ((4 * w) + 1).toNatClampNeg)) : Int32).toNatClampNeg) ((if 9 < ((I 217 (500 + ((5 + (I 222 ((4 * w) + 1).toNatClampNeg)) : Int32).toNatClampNeg)) + (I 222 ((4 * w) + 2).toNatClampNeg)) then 9 else ((I 217 (500 + ((5 + (I 222 ((4 * w) + 1).toNatClampNeg)) : Int32).toNatClampNeg)) + (I 222 ((4 * w) + 2).toNatClampNeg))))
                I10
              else
                if (I 222 (4 * w).toNatClampNeg) = 5 then
                  let I9 : Im := up2 I 217 (500 + ((5 + (I 222 ((4 * w) + 1).toNatClampNeg)) : Int32).toNatClampNeg) ((if ((I 217 (500 + ((5 + (I 222 ((4 * w) + 1).toNatClampNeg)) : Int32).toNatClampNeg)) - (I 222 ((4 * w) + 2).toNatClampNeg)) < 1 then 1 else ((I 217 (500 + ((5 + (I 222 ((4 * w) + 1).toNatClampNeg)) : Int32).toNatClampNeg)) - (I 222 ((4 * w) + 2).toNatClampNeg))))
                  I9
                else
                  I
  else
    if (I 217 (500 + (0 : Int32).toNatClampNeg)) ≤ (I 222 ((4 * w) + 1).toNatClampNeg) then
      if (I 222 (4 * w).toNatClampNeg) = 0 then
        let I28 : Im := up2 I 217 (500 + (4 : Int32).toNatClampNeg) ((I 217 (500 + (4 : Int32).toNatClampNeg)) ||| (1 <<< ((I 222 ((4 * w) + 1).toNatClampNeg) &&& 31)))
        I28
      else
        if (I 222 (4 * w).toNatClampNeg) = 1 then
          let I27 : Im := up2 I 217 (500 + (4 : Int32).toNatClampNeg) ((I 217 (500 + (4 : Int32).toNatClampNeg)) &&& ((1 <<< ((I 222 ((4 * w) + 1).toNatClampNeg) &&& 31)) ^^^ ((-1))))
          I27
        else
          if (I 222 (4 * w).toNatClampNeg) = 2 then
            let I26 : Im := up2 I 217 (500 + (2 : Int32).toNatClampNeg) ((if 9 < ((I 217 (500 + (2 : Int32).toNatClampNeg)) + (I 222 ((4 * w) + 2).toNatClampNeg)) then 9 else ((I 217 (500 + (2 : Int32).toNatClampNeg)) + (I 222 ((4 * w) + 2).toNatClampNeg))))
            I26
          else
            if (I 222 (4 * w).toNatClampNeg) = 3 then
              let I25 : Im := up2 I 217 (500 + (2 : Int32).toNatClampNeg) ((if ((I 217 (500 + (2 : Int32).toNatClampNeg)) - (I 222 ((4 * w) + 2).toNatClampNeg)) < 0 then 0 else ((I 217 (500 + (2 : Int32).toNatClampNeg)) - (I 222 ((4 * w) + 2).toNatClampNeg))))
              I25
            else
              if (I 222 (4 * w).toNatClampNeg) = 4 then
                if (I 222 (4 * w).toNatClampNeg) = 5 then
                  I
                else
                  I
              else
                if (I 222 (4 * w).toNatClampNeg) = 5 then
                  I
                else
                  I
    else
      if (I 222 (4 * w).toNatClampNeg) = 0 then
        let I34 : Im := up2 I 217 (500 + (4 : Int32).toNatClampNeg) ((I 217 (500 + (4 : Int32).toNatClampNeg)) ||| (1 <<< ((I 222 ((4 * w) + 1).toNatClampNeg) &&& 31)))
        I34
      else
        if (I 222 (4 * w).toNatClampNeg) = 1 then
          let I33 : Im := up2 I 217 (500 + (4 : Int32).toNatClampNeg) ((I 217 (500 + (4 : Int32).toNatClampNeg)) &&& ((1 <<< ((I 222 ((4 * w) + 1).toNatClampNeg) &&& 31)) ^^^ ((-1))))
          I33
        else
          if (I 222 (4 * w).toNatClampNeg) = 2 then
            let I32 : Im := up2 I 217 (500 + (2 : Int32).toNatClampNeg) ((if 9 < ((I 217 (500 + (2 : Int32).toNatClampNeg)) + (I 222 ((4 * w) + 2).toNatClampNeg)) then 9 else ((I 217 (500 + (2 : Int32).toNatClampNeg)) + (I 222 ((4 * w) + 2).toNatClampNeg))))
            I32
          else
            if (I 222 (4 * w).toNatClampNeg) = 3 then
              let I31 : Im := up2 I 217 (500 + (2 : Int32).toNatClampNeg) ((if ((I 217 (500 + (2 : Int32).toNatClampNeg)) - (I 222 ((4 * w) + 2).toNatClampNeg)) < 0 then 0 else ((I 217 (500 + (2 : Int32).toNatClampNeg)) - (I 222 ((4 * w) + 2).toNatClampNeg))))
              I31
            else
              if (I 222 (4 * w).toNatClampNeg) = 4 then
                let I30 : Im := up2 I 217 (500 + ((5 + (I 222 ((4 * w) + 1).toNatClampNeg)) : Int32).toNatClampNeg) ((if 9 < ((I 217 (500 + ((5 + (I 222 ((4 * w) + 1).toNatClampNeg)) : Int32).toNatClampNeg)) + (I 222 ((4 * w) + 2).toNatClampNeg)) then 9 else ((I 217 (500 + ((5 + (I 222 ((4 * w) + 1).toNatClampNeg)) : Int32).toNatClampNeg)) + (I 222 ((4 * w) + 2).toNatClampNeg))))
                I30
              else
                if (I 222 (4 * w).toNatClampNeg) = 5 then
                  let I29 : Im := up2 I 217 (500 + ((5 + (I 222 ((4 * w) + 1).toNatClampNeg)) : Int32).toNatClampNeg) ((if ((I 217 (500 + ((5 + (I 222 ((4 * w) + 1).toNatClampNeg)) : Int32).toNatClampNeg)) - (I 222 ((4 * w) + 2).toNatClampNeg)) < 1 then 1 else ((I 217 (500 + ((5 + (I 222 ((4 * w) + 1).toNatClampNeg)) : Int32).toNatClampNeg)) - (I 222 ((4 * w) + 2).toNatClampNeg))))
                  I29
                else
                  I
set_option maxRecDepth 100000 in
set_option maxHeartbeats 4000000 in
theorem s_X12_builds  {w : Int32} (vw : vp_in w 5) (vj : vp_in (I 222 (4 * w + 1).toNatClampNeg) 16) (hb : I 200 24 = nI 500) : Ca G mdX12_builds [.ref 200, .int w] (mk I L t) (Rv (mk ((f_X12_builds I w)) L t)) := by
  refine Ca.intro [some (.ref 200), some (.int w), none, none, none, none, none] (by decide) (Nat.le_of_ble_eq_true rfl) rfl rfl ?_
  refine ex_aload_n dX12_builds_0 rfl ?_
  refine g_12_38 dX12_builds_1 rfl wf_X12_75 (by first | assumption | rfl) (show Rt _ 200 38 = some 222 from rfl) ?_
  refine ex_iconst (v := 4) dX12_builds_4 (by decide) ?_
  refine ex_iload_n dX12_builds_5 rfl ?_
  refine ex_imul dX12_builds_6 ?_
  refine rx_iald dX12_builds_7 (by first | assumption | rfl) (ixz (C := 4) (R := 5) rfl (by decide) vw (by decide)).1 ?_
  refine st_i2 dX12_builds_8 (by first | exact rfl | exact trivial) ?_
  refine ex_aload_n dX12_builds_9 rfl ?_
  refine g_12_38 dX12_builds_10 rfl wf_X12_75 (by first | assumption | rfl) (show Rt _ 200 38 = some 222 from rfl) ?_
  refine ex_iconst (v := 4) dX12_builds_13 (by decide) ?_
  refine ex_iload_n dX12_builds_14 rfl ?_
  refine ex_imul dX12_builds_15 ?_
  refine ex_iconst (v := 1) dX12_builds_16 (by decide) ?_
  refine ex_iadd dX12_builds_17 ?_
  refine rx_iald dX12_builds_18 (by first | assumption | rfl) (ixm (c := 4) (C := 4) (R := 5) rfl vw (i := 1) (by unfold vp_in; decide) (by decide)).1 ?_
  refine st_i3 dX12_builds_19 (by first | exact rfl | exact trivial) ?_
  refine ex_aload_n dX12_builds_20 rfl ?_
  refine g_12_38 dX12_builds_21 rfl wf_X12_75 (by first | assumption | rfl) (show Rt _ 200 38 = some 222 from rfl) ?_
  refine ex_iconst (v := 4) dX12_builds_24 (by decide) ?_
  refine ex_iload_n dX12_builds_25 rfl ?_
  refine ex_imul dX12_builds_26 ?_
  refine ex_iconst (v := 2) dX12_builds_27 (by decide) ?_
  refine ex_iadd dX12_builds_28 ?_
  refine rx_iald dX12_builds_29 (by first | assumption | rfl) (ixm (c := 4) (C := 4) (R := 5) rfl vw (i := 2) (by unfold vp_in; decide) (by decide)).1 ?_
  refine st_i4 dX12_builds_30 (by first | exact rfl | exact trivial) ?_
  refine ex_iload_n dX12_builds_32 rfl ?_
  refine ex_iconst (v := 1) dX12_builds_33 (by decide) ?_
  refine ex_iadd dX12_builds_34 ?_
  refine ex_aload_n dX12_builds_35 rfl ?_
  refine ex_iconst (v := 0) dX12_builds_36 (by decide) ?_
  refine rx_cV (kd := 12) dX12_builds_37 rfl lk_X12_183 rfl (by decide) (by first | assumption | rfl) ⟨⟨rfl, rfl⟩, by decide, by decide⟩ rfl (Nat.le_of_ble_eq_true rfl) rfl (s_v0 (B := 500) (by unfold vp_in; decide) hb (by decide)) (Rs.k ?_)
  refine ex_icmp_ge 47 dX12_builds_40 (by decide) (fun h40 => ?_) (fun h40 => ?_)
  · skip
    refine ex_iconst (v := 0) dX12_builds_47 (by decide) ?_
    refine st_i5 dX12_builds_48 (by first | exact rfl | exact trivial) ?_
    refine ex_iload_n dX12_builds_50 rfl ?_
    refine ex_aload_n dX12_builds_51 rfl ?_
    refine ex_iconst (v := 0) dX12_builds_52 (by decide) ?_
    refine rx_cV (kd := 12) dX12_builds_53 rfl lk_X12_183 rfl (by decide) (by first | assumption | rfl) ⟨⟨rfl, rfl⟩, by decide, by decide⟩ rfl (Nat.le_of_ble_eq_true rfl) rfl (s_v0 (B := 500) (by unfold vp_in; decide) hb (by decide)) (Rs.k ?_)
    refine ex_icmp_ge 63 dX12_builds_56 (by decide) (fun h56 => ?_) (fun h56 => ?_)
    · skip
      refine ex_iconst (v := 0) dX12_builds_63 (by decide) ?_
      refine st_i6 dX12_builds_64 (by first | exact rfl | exact trivial) ?_
      refine ex_iload_n dX12_builds_66 rfl ?_
      refine ex_if_ne 92 dX12_builds_67 (by decide) (fun h67 => ?_) (fun h67 => ?_)
      · skip
        refine ex_iload_n dX12_builds_92 rfl ?_
        refine ex_iconst (v := 1) dX12_builds_93 (by decide) ?_
        refine ex_icmp_ne 121 dX12_builds_94 (by decide) (fun h94 => ?_) (fun h94 => ?_)
        · skip
          refine ex_iload_n dX12_builds_121 rfl ?_
          refine ex_iconst (v := 2) dX12_builds_122 (by decide) ?_
          refine ex_icmp_ne 147 dX12_builds_123 (by decide) (fun h123 => ?_) (fun h123 => ?_)
          · skip
            refine ex_iload_n dX12_builds_147 rfl ?_
            refine ex_iconst (v := 3) dX12_builds_148 (by decide) ?_
            refine ex_icmp_ne 172 dX12_builds_149 (by decide) (fun h149 => ?_) (fun h149 => ?_)
            · skip
              refine ex_iload_n dX12_builds_172 rfl ?_
              refine ex_iconst (v := 4) dX12_builds_173 (by decide) ?_
              refine ex_icmp_ne 207 dX12_builds_174 (by decide) (fun h174 => ?_) (fun h174 => ?_)
              · skip
                refine ex_iload_n dX12_builds_207 rfl ?_
                refine ex_iconst (v := 5) dX12_builds_208 (by decide) ?_
                refine ex_icmp_ne 238 dX12_builds_209 (by decide) (fun h209 => ?_) (fun h209 => ?_)
                · skip
                  refine ex_vret dX12_builds_238 rfl ⟨rfl, Nat.le_refl _⟩ ?_
                  exact ⟨rfl, (by simp only [f_X12_builds, ↓h40, ↓h56, ↓eq_false h67, ↓eq_false h94, ↓eq_false h123, ↓eq_false h149, ↓eq_false h174, ↓eq_false h209, if_true, if_false, not_true_eq_false, not_false_eq_true])⟩
                · skip
                  refine ex_iload dX12_builds_212 rfl ?_
                  refine ex_if_eq 238 dX12_builds_214 (by decide) (fun h214 => ?_) (fun h214 => ?_)
                  · skip
                    refine ex_vret dX12_builds_238 rfl ⟨rfl, Nat.le_refl _⟩ ?_
                    exact ⟨rfl, (by simp only [f_X12_builds, ↓h40, ↓h56, ↓eq_false h67, ↓eq_false h94, ↓eq_false h123, ↓eq_false h149, ↓eq_false h174, ↓eq_true h209, if_true, if_false, not_true_eq_false, not_false_eq_true])⟩
                  · exact absurd h214 (by decide)
              · skip
                refine ex_iload dX12_builds_177 rfl ?_
                refine ex_if_eq 207 dX12_builds_179 (by decide) (fun h179 => ?_) (fun h179 => ?_)
                · skip
                  refine ex_iload_n dX12_builds_207 rfl ?_
                  refine ex_iconst (v := 5) dX12_builds_208 (by decide) ?_
                  refine ex_icmp_ne 238 dX12_builds_209 (by decide) (fun h209 => ?_) (fun h209 => ?_)
                  · skip
                    refine ex_vret dX12_builds_238 rfl ⟨rfl, Nat.le_refl _⟩ ?_
                    exact ⟨rfl, (by simp only [f_X12_builds, ↓h40, ↓h56, ↓eq_false h67, ↓eq_false h94, ↓eq_false h123, ↓eq_false h149, ↓eq_true h174, ↓eq_false h209, if_true, if_false, not_true_eq_false, not_false_eq_true])⟩
                  · skip
                    refine ex_iload dX12_builds_212 rfl ?_
                    refine ex_if_eq 238 dX12_builds_214 (by decide) (fun h214 => ?_) (fun h214 => ?_)
                    · skip
                      refine ex_vret dX12_builds_238 rfl ⟨rfl, Nat.le_refl _⟩ ?_
                      exact ⟨rfl, (by simp only [f_X12_builds, ↓h40, ↓h56, ↓eq_false h67, ↓eq_false h94, ↓eq_false h123, ↓eq_false h149, ↓eq_true h174, ↓eq_true h209, if_true, if_false, not_true_eq_false, not_false_eq_true])⟩
                    · exact absurd h214 (by decide)
                · exact absurd h179 (by decide)
            · skip
              refine ex_aload_n dX12_builds_152 rfl ?_
              refine ex_iconst (v := 2) dX12_builds_153 (by decide) ?_
              refine ex_iconst (v := 0) dX12_builds_154 (by decide) ?_
              refine ex_aload_n dX12_builds_155 rfl ?_
              refine ex_iconst (v := 2) dX12_builds_156 (by decide) ?_
              refine rx_cV (kd := 12) dX12_builds_157 rfl lk_X12_183 rfl (by decide) (by first | assumption | rfl) ⟨⟨rfl, rfl⟩, by decide, by decide⟩ rfl (Nat.le_of_ble_eq_true rfl) rfl (s_v0 (B := 500) (by unfold vp_in; decide) hb (by decide)) (Rs.k ?_)
              refine ex_iload dX12_builds_160 rfl ?_
              refine ex_isub dX12_builds_162 ?_
              refine rx_cS dX12_builds_163 rfl lk_X12_202 ⟨⟨rfl, rfl⟩, by decide, by decide⟩ rfl (Nat.le_of_ble_eq_true rfl) rfl s_X12_greater (Rs.k ?_)
              refine rx_cV (kd := 12) dX12_builds_166 rfl lk_X12_160 rfl (by decide) (by first | assumption | rfl) ⟨⟨rfl, rfl⟩, by decide, by decide⟩ rfl (Nat.le_of_ble_eq_true rfl) rfl (s_put0 (B := 500) (by unfold vp_in; decide) hb (by decide)) (Rv.k ?_)
              refine ex_goto 238 dX12_builds_169 (by decide) ?_
              refine ex_vret dX12_builds_238 rfl ⟨rfl, Nat.le_refl _⟩ ?_
              exact ⟨rfl, (by simp only [f_X12_builds, ↓h40, ↓h56, ↓eq_false h67, ↓eq_false h94, ↓eq_false h123, ↓eq_true h149, if_true, if_false, not_true_eq_false, not_false_eq_true])⟩
          · skip
            refine ex_aload_n dX12_builds_126 rfl ?_
            refine ex_iconst (v := 2) dX12_builds_127 (by decide) ?_
            refine ex_bipush (v := 9) dX12_builds_128 (by decide) ?_
            refine ex_aload_n dX12_builds_130 rfl ?_
            refine ex_iconst (v := 2) dX12_builds_131 (by decide) ?_
            refine rx_cV (kd := 12) dX12_builds_132 rfl lk_X12_183 rfl (by decide) (by first | assumption | rfl) ⟨⟨rfl, rfl⟩, by decide, by decide⟩ rfl (Nat.le_of_ble_eq_true rfl) rfl (s_v0 (B := 500) (by unfold vp_in; decide) hb (by decide)) (Rs.k ?_)
            refine ex_iload dX12_builds_135 rfl ?_
            refine ex_iadd dX12_builds_137 ?_
            refine rx_cS dX12_builds_138 rfl lk_X12_189 ⟨⟨rfl, rfl⟩, by decide, by decide⟩ rfl (Nat.le_of_ble_eq_true rfl) rfl s_X12_lesser (Rs.k ?_)
            refine rx_cV (kd := 12) dX12_builds_141 rfl lk_X12_160 rfl (by decide) (by first | assumption | rfl) ⟨⟨rfl, rfl⟩, by decide, by decide⟩ rfl (Nat.le_of_ble_eq_true rfl) rfl (s_put0 (B := 500) (by unfold vp_in; decide) hb (by decide)) (Rv.k ?_)
            refine ex_goto 238 dX12_builds_144 (by decide) ?_
            refine ex_vret dX12_builds_238 rfl ⟨rfl, Nat.le_refl _⟩ ?_
            exact ⟨rfl, (by simp only [f_X12_builds, ↓h40, ↓h56, ↓eq_false h67, ↓eq_false h94, ↓eq_true h123, if_true, if_false, not_true_eq_false, not_false_eq_true])⟩
        · skip
          refine ex_iload dX12_builds_97 rfl ?_
          refine ex_if_eq 121 dX12_builds_99 (by decide) (fun h99 => ?_) (fun h99 => ?_)
          · skip
            refine ex_iload_n dX12_builds_121 rfl ?_
            refine ex_iconst (v := 2) dX12_builds_122 (by decide) ?_
            refine ex_icmp_ne 147 dX12_builds_123 (by decide) (fun h123 => ?_) (fun h123 => ?_)
            · skip
              refine ex_iload_n dX12_builds_147 rfl ?_
              refine ex_iconst (v := 3) dX12_builds_148 (by decide) ?_
              refine ex_icmp_ne 172 dX12_builds_149 (by decide) (fun h149 => ?_) (fun h149 => ?_)
              · skip
                refine ex_iload_n dX12_builds_172 rfl ?_
                refine ex_iconst (v := 4) dX12_builds_173 (by decide) ?_
                refine ex_icmp_ne 207 dX12_builds_174 (by decide) (fun h174 => ?_) (fun h174 => ?_)
                · skip
                  refine ex_iload_n dX12_builds_207 rfl ?_
                  refine ex_iconst (v := 5) dX12_builds_208 (by decide) ?_
                  refine ex_icmp_ne 238 dX12_builds_209 (by decide) (fun h209 => ?_) (fun h209 => ?_)
                  · skip
                    refine ex_vret dX12_builds_238 rfl ⟨rfl, Nat.le_refl _⟩ ?_
                    exact ⟨rfl, (by simp only [f_X12_builds, ↓h40, ↓h56, ↓eq_false h67, ↓eq_true h94, ↓eq_false h123, ↓eq_false h149, ↓eq_false h174, ↓eq_false h209, if_true, if_false, not_true_eq_false, not_false_eq_true])⟩
                  · skip
                    refine ex_iload dX12_builds_212 rfl ?_
                    refine ex_if_eq 238 dX12_builds_214 (by decide) (fun h214 => ?_) (fun h214 => ?_)
                    · skip
                      refine ex_vret dX12_builds_238 rfl ⟨rfl, Nat.le_refl _⟩ ?_
                      exact ⟨rfl, (by simp only [f_X12_builds, ↓h40, ↓h56, ↓eq_false h67, ↓eq_true h94, ↓eq_false h123, ↓eq_false h149, ↓eq_false h174, ↓eq_true h209, if_true, if_false, not_true_eq_false, not_false_eq_true])⟩
                    · exact absurd h214 (by decide)
                · skip
                  refine ex_iload dX12_builds_177 rfl ?_
                  refine ex_if_eq 207 dX12_builds_179 (by decide) (fun h179 => ?_) (fun h179 => ?_)
                  · skip
                    refine ex_iload_n dX12_builds_207 rfl ?_
                    refine ex_iconst (v := 5) dX12_builds_208 (by decide) ?_
                    refine ex_icmp_ne 238 dX12_builds_209 (by decide) (fun h209 => ?_) (fun h209 => ?_)
                    · skip
                      refine ex_vret dX12_builds_238 rfl ⟨rfl, Nat.le_refl _⟩ ?_
                      exact ⟨rfl, (by simp only [f_X12_builds, ↓h40, ↓h56, ↓eq_false h67, ↓eq_true h94, ↓eq_false h123, ↓eq_false h149, ↓eq_true h174, ↓eq_false h209, if_true, if_false, not_true_eq_false, not_false_eq_true])⟩
                    · skip
                      refine ex_iload dX12_builds_212 rfl ?_
                      refine ex_if_eq 238 dX12_builds_214 (by decide) (fun h214 => ?_) (fun h214 => ?_)
                      · skip
                        refine ex_vret dX12_builds_238 rfl ⟨rfl, Nat.le_refl _⟩ ?_
                        exact ⟨rfl, (by simp only [f_X12_builds, ↓h40, ↓h56, ↓eq_false h67, ↓eq_true h94, ↓eq_false h123, ↓eq_false h149, ↓eq_true h174, ↓eq_true h209, if_true, if_false, not_true_eq_false, not_false_eq_true])⟩
                      · exact absurd h214 (by decide)
                  · exact absurd h179 (by decide)
              · skip
                refine ex_aload_n dX12_builds_152 rfl ?_
                refine ex_iconst (v := 2) dX12_builds_153 (by decide) ?_
                refine ex_iconst (v := 0) dX12_builds_154 (by decide) ?_
                refine ex_aload_n dX12_builds_155 rfl ?_
                refine ex_iconst (v := 2) dX12_builds_156 (by decide) ?_
                refine rx_cV (kd := 12) dX12_builds_157 rfl lk_X12_183 rfl (by decide) (by first | assumption | rfl) ⟨⟨rfl, rfl⟩, by decide, by decide⟩ rfl (Nat.le_of_ble_eq_true rfl) rfl (s_v0 (B := 500) (by unfold vp_in; decide) hb (by decide)) (Rs.k ?_)
                refine ex_iload dX12_builds_160 rfl ?_
                refine ex_isub dX12_builds_162 ?_
                refine rx_cS dX12_builds_163 rfl lk_X12_202 ⟨⟨rfl, rfl⟩, by decide, by decide⟩ rfl (Nat.le_of_ble_eq_true rfl) rfl s_X12_greater (Rs.k ?_)
                refine rx_cV (kd := 12) dX12_builds_166 rfl lk_X12_160 rfl (by decide) (by first | assumption | rfl) ⟨⟨rfl, rfl⟩, by decide, by decide⟩ rfl (Nat.le_of_ble_eq_true rfl) rfl (s_put0 (B := 500) (by unfold vp_in; decide) hb (by decide)) (Rv.k ?_)
                refine ex_goto 238 dX12_builds_169 (by decide) ?_
                refine ex_vret dX12_builds_238 rfl ⟨rfl, Nat.le_refl _⟩ ?_
                exact ⟨rfl, (by simp only [f_X12_builds, ↓h40, ↓h56, ↓eq_false h67, ↓eq_true h94, ↓eq_false h123, ↓eq_true h149, if_true, if_false, not_true_eq_false, not_false_eq_true])⟩
            · skip
              refine ex_aload_n dX12_builds_126 rfl ?_
              refine ex_iconst (v := 2) dX12_builds_127 (by decide) ?_
              refine ex_bipush (v := 9) dX12_builds_128 (by decide) ?_
              refine ex_aload_n dX12_builds_130 rfl ?_
              refine ex_iconst (v := 2) dX12_builds_131 (by decide) ?_
              refine rx_cV (kd := 12) dX12_builds_132 rfl lk_X12_183 rfl (by decide) (by first | assumption | rfl) ⟨⟨rfl, rfl⟩, by decide, by decide⟩ rfl (Nat.le_of_ble_eq_true rfl) rfl (s_v0 (B := 500) (by unfold vp_in; decide) hb (by decide)) (Rs.k ?_)
              refine ex_iload dX12_builds_135 rfl ?_
              refine ex_iadd dX12_builds_137 ?_
              refine rx_cS dX12_builds_138 rfl lk_X12_189 ⟨⟨rfl, rfl⟩, by decide, by decide⟩ rfl (Nat.le_of_ble_eq_true rfl) rfl s_X12_lesser (Rs.k ?_)
              refine rx_cV (kd := 12) dX12_builds_141 rfl lk_X12_160 rfl (by decide) (by first | assumption | rfl) ⟨⟨rfl, rfl⟩, by decide, by decide⟩ rfl (Nat.le_of_ble_eq_true rfl) rfl (s_put0 (B := 500) (by unfold vp_in; decide) hb (by decide)) (Rv.k ?_)
              refine ex_goto 238 dX12_builds_144 (by decide) ?_
              refine ex_vret dX12_builds_238 rfl ⟨rfl, Nat.le_refl _⟩ ?_
              exact ⟨rfl, (by simp only [f_X12_builds, ↓h40, ↓h56, ↓eq_false h67, ↓eq_true h94, ↓eq_true h123, if_true, if_false, not_true_eq_false, not_false_eq_true])⟩
          · exact absurd h99 (by decide)
      · skip
        refine ex_iload dX12_builds_70 rfl ?_
        refine ex_if_eq 92 dX12_builds_72 (by decide) (fun h72 => ?_) (fun h72 => ?_)
        · skip
          refine ex_iload_n dX12_builds_92 rfl ?_
          refine ex_iconst (v := 1) dX12_builds_93 (by decide) ?_
          refine ex_icmp_ne 121 dX12_builds_94 (by decide) (fun h94 => ?_) (fun h94 => ?_)
          · skip
            refine ex_iload_n dX12_builds_121 rfl ?_
            refine ex_iconst (v := 2) dX12_builds_122 (by decide) ?_
            refine ex_icmp_ne 147 dX12_builds_123 (by decide) (fun h123 => ?_) (fun h123 => ?_)
            · skip
              refine ex_iload_n dX12_builds_147 rfl ?_
              refine ex_iconst (v := 3) dX12_builds_148 (by decide) ?_
              refine ex_icmp_ne 172 dX12_builds_149 (by decide) (fun h149 => ?_) (fun h149 => ?_)
              · skip
                refine ex_iload_n dX12_builds_172 rfl ?_
                refine ex_iconst (v := 4) dX12_builds_173 (by decide) ?_
                refine ex_icmp_ne 207 dX12_builds_174 (by decide) (fun h174 => ?_) (fun h174 => ?_)
                · skip
                  refine ex_iload_n dX12_builds_207 rfl ?_
                  refine ex_iconst (v := 5) dX12_builds_208 (by decide) ?_
                  refine ex_icmp_ne 238 dX12_builds_209 (by decide) (fun h209 => ?_) (fun h209 => ?_)
                  · skip
                    refine ex_vret dX12_builds_238 rfl ⟨rfl, Nat.le_refl _⟩ ?_
                    exact ⟨rfl, (by simp only [f_X12_builds, ↓h40, ↓h56, ↓eq_true h67, ↓eq_false h94, ↓eq_false h123, ↓eq_false h149, ↓eq_false h174, ↓eq_false h209, if_true, if_false, not_true_eq_false, not_false_eq_true])⟩
                  · skip
                    refine ex_iload dX12_builds_212 rfl ?_
                    refine ex_if_eq 238 dX12_builds_214 (by decide) (fun h214 => ?_) (fun h214 => ?_)
                    · skip
                      refine ex_vret dX12_builds_238 rfl ⟨rfl, Nat.le_refl _⟩ ?_
                      exact ⟨rfl, (by simp only [f_X12_builds, ↓h40, ↓h56, ↓eq_true h67, ↓eq_false h94, ↓eq_false h123, ↓eq_false h149, ↓eq_false h174, ↓eq_true h209, if_true, if_false, not_true_eq_false, not_false_eq_true])⟩
                    · exact absurd h214 (by decide)
                · skip
                  refine ex_iload dX12_builds_177 rfl ?_
                  refine ex_if_eq 207 dX12_builds_179 (by decide) (fun h179 => ?_) (fun h179 => ?_)
                  · skip
                    refine ex_iload_n dX12_builds_207 rfl ?_
                    refine ex_iconst (v := 5) dX12_builds_208 (by decide) ?_
                    refine ex_icmp_ne 238 dX12_builds_209 (by decide) (fun h209 => ?_) (fun h209 => ?_)
                    · skip
                      refine ex_vret dX12_builds_238 rfl ⟨rfl, Nat.le_refl _⟩ ?_
                      exact ⟨rfl, (by simp only [f_X12_builds, ↓h40, ↓h56, ↓eq_true h67, ↓eq_false h94, ↓eq_false h123, ↓eq_false h149, ↓eq_true h174, ↓eq_false h209, if_true, if_false, not_true_eq_false, not_false_eq_true])⟩
                    · skip
                      refine ex_iload dX12_builds_212 rfl ?_
                      refine ex_if_eq 238 dX12_builds_214 (by decide) (fun h214 => ?_) (fun h214 => ?_)
                      · skip
                        refine ex_vret dX12_builds_238 rfl ⟨rfl, Nat.le_refl _⟩ ?_
                        exact ⟨rfl, (by simp only [f_X12_builds, ↓h40, ↓h56, ↓eq_true h67, ↓eq_false h94, ↓eq_false h123, ↓eq_false h149, ↓eq_true h174, ↓eq_true h209, if_true, if_false, not_true_eq_false, not_false_eq_true])⟩
                      · exact absurd h214 (by decide)
                  · exact absurd h179 (by decide)
              · skip
                refine ex_aload_n dX12_builds_152 rfl ?_
                refine ex_iconst (v := 2) dX12_builds_153 (by decide) ?_
                refine ex_iconst (v := 0) dX12_builds_154 (by decide) ?_
                refine ex_aload_n dX12_builds_155 rfl ?_
                refine ex_iconst (v := 2) dX12_builds_156 (by decide) ?_
                refine rx_cV (kd := 12) dX12_builds_157 rfl lk_X12_183 rfl (by decide) (by first | assumption | rfl) ⟨⟨rfl, rfl⟩, by decide, by decide⟩ rfl (Nat.le_of_ble_eq_true rfl) rfl (s_v0 (B := 500) (by unfold vp_in; decide) hb (by decide)) (Rs.k ?_)
                refine ex_iload dX12_builds_160 rfl ?_
                refine ex_isub dX12_builds_162 ?_
                refine rx_cS dX12_builds_163 rfl lk_X12_202 ⟨⟨rfl, rfl⟩, by decide, by decide⟩ rfl (Nat.le_of_ble_eq_true rfl) rfl s_X12_greater (Rs.k ?_)
                refine rx_cV (kd := 12) dX12_builds_166 rfl lk_X12_160 rfl (by decide) (by first | assumption | rfl) ⟨⟨rfl, rfl⟩, by decide, by decide⟩ rfl (Nat.le_of_ble_eq_true rfl) rfl (s_put0 (B := 500) (by unfold vp_in; decide) hb (by decide)) (Rv.k ?_)
                refine ex_goto 238 dX12_builds_169 (by decide) ?_
                refine ex_vret dX12_builds_238 rfl ⟨rfl, Nat.le_refl _⟩ ?_
                exact ⟨rfl, (by simp only [f_X12_builds, ↓h40, ↓h56, ↓eq_true h67, ↓eq_false h94, ↓eq_false h123, ↓eq_true h149, if_true, if_false, not_true_eq_false, not_false_eq_true])⟩
            · skip
              refine ex_aload_n dX12_builds_126 rfl ?_
              refine ex_iconst (v := 2) dX12_builds_127 (by decide) ?_
              refine ex_bipush (v := 9) dX12_builds_128 (by decide) ?_
              refine ex_aload_n dX12_builds_130 rfl ?_
              refine ex_iconst (v := 2) dX12_builds_131 (by decide) ?_
              refine rx_cV (kd := 12) dX12_builds_132 rfl lk_X12_183 rfl (by decide) (by first | assumption | rfl) ⟨⟨rfl, rfl⟩, by decide, by decide⟩ rfl (Nat.le_of_ble_eq_true rfl) rfl (s_v0 (B := 500) (by unfold vp_in; decide) hb (by decide)) (Rs.k ?_)
              refine ex_iload dX12_builds_135 rfl ?_
              refine ex_iadd dX12_builds_137 ?_
              refine rx_cS dX12_builds_138 rfl lk_X12_189 ⟨⟨rfl, rfl⟩, by decide, by decide⟩ rfl (Nat.le_of_ble_eq_true rfl) rfl s_X12_lesser (Rs.k ?_)
              refine rx_cV (kd := 12) dX12_builds_141 rfl lk_X12_160 rfl (by decide) (by first | assumption | rfl) ⟨⟨rfl, rfl⟩, by decide, by decide⟩ rfl (Nat.le_of_ble_eq_true rfl) rfl (s_put0 (B := 500) (by unfold vp_in; decide) hb (by decide)) (Rv.k ?_)
              refine ex_goto 238 dX12_builds_144 (by decide) ?_
              refine ex_vret dX12_builds_238 rfl ⟨rfl, Nat.le_refl _⟩ ?_
              exact ⟨rfl, (by simp only [f_X12_builds, ↓h40, ↓h56, ↓eq_true h67, ↓eq_false h94, ↓eq_true h123, if_true, if_false, not_true_eq_false, not_false_eq_true])⟩
          · skip
            refine ex_iload dX12_builds_97 rfl ?_
            refine ex_if_eq 121 dX12_builds_99 (by decide) (fun h99 => ?_) (fun h99 => ?_)
            · skip
              refine ex_iload_n dX12_builds_121 rfl ?_
              refine ex_iconst (v := 2) dX12_builds_122 (by decide) ?_
              refine ex_icmp_ne 147 dX12_builds_123 (by decide) (fun h123 => ?_) (fun h123 => ?_)
              · skip
                refine ex_iload_n dX12_builds_147 rfl ?_
                refine ex_iconst (v := 3) dX12_builds_148 (by decide) ?_
                refine ex_icmp_ne 172 dX12_builds_149 (by decide) (fun h149 => ?_) (fun h149 => ?_)
                · skip
                  refine ex_iload_n dX12_builds_172 rfl ?_
                  refine ex_iconst (v := 4) dX12_builds_173 (by decide) ?_
                  refine ex_icmp_ne 207 dX12_builds_174 (by decide) (fun h174 => ?_) (fun h174 => ?_)
                  · skip
                    refine ex_iload_n dX12_builds_207 rfl ?_
                    refine ex_iconst (v := 5) dX12_builds_208 (by decide) ?_
                    refine ex_icmp_ne 238 dX12_builds_209 (by decide) (fun h209 => ?_) (fun h209 => ?_)
                    · skip
                      refine ex_vret dX12_builds_238 rfl ⟨rfl, Nat.le_refl _⟩ ?_
                      exact ⟨rfl, (by simp only [f_X12_builds, ↓h40, ↓h56, ↓eq_true h67, ↓eq_true h94, ↓eq_false h123, ↓eq_false h149, ↓eq_false h174, ↓eq_false h209, if_true, if_false, not_true_eq_false, not_false_eq_true])⟩
                    · skip
                      refine ex_iload dX12_builds_212 rfl ?_
                      refine ex_if_eq 238 dX12_builds_214 (by decide) (fun h214 => ?_) (fun h214 => ?_)
                      · skip
                        refine ex_vret dX12_builds_238 rfl ⟨rfl, Nat.le_refl _⟩ ?_
                        exact ⟨rfl, (by simp only [f_X12_builds, ↓h40, ↓h56, ↓eq_true h67, ↓eq_true h94, ↓eq_false h123, ↓eq_false h149, ↓eq_false h174, ↓eq_true h209, if_true, if_false, not_true_eq_false, not_false_eq_true])⟩
                      · exact absurd h214 (by decide)
                  · skip
                    refine ex_iload dX12_builds_177 rfl ?_
                    refine ex_if_eq 207 dX12_builds_179 (by decide) (fun h179 => ?_) (fun h179 => ?_)
                    · skip
                      refine ex_iload_n dX12_builds_207 rfl ?_
                      refine ex_iconst (v := 5) dX12_builds_208 (by decide) ?_
                      refine ex_icmp_ne 238 dX12_builds_209 (by decide) (fun h209 => ?_) (fun h209 => ?_)
                      · skip
                        refine ex_vret dX12_builds_238 rfl ⟨rfl, Nat.le_refl _⟩ ?_
                        exact ⟨rfl, (by simp only [f_X12_builds, ↓h40, ↓h56, ↓eq_true h67, ↓eq_true h94, ↓eq_false h123, ↓eq_false h149, ↓eq_true h174, ↓eq_false h209, if_true, if_false, not_true_eq_false, not_false_eq_true])⟩
                      · skip
                        refine ex_iload dX12_builds_212 rfl ?_
                        refine ex_if_eq 238 dX12_builds_214 (by decide) (fun h214 => ?_) (fun h214 => ?_)
                        · skip
                          refine ex_vret dX12_builds_238 rfl ⟨rfl, Nat.le_refl _⟩ ?_
                          exact ⟨rfl, (by simp only [f_X12_builds, ↓h40, ↓h56, ↓eq_true h67, ↓eq_true h94, ↓eq_false h123, ↓eq_false h149, ↓eq_true h174, ↓eq_true h209, if_true, if_false, not_true_eq_false, not_false_eq_true])⟩
                        · exact absurd h214 (by decide)
                    · exact absurd h179 (by decide)
                · skip
                  refine ex_aload_n dX12_builds_152 rfl ?_
                  refine ex_iconst (v := 2) dX12_builds_153 (by decide) ?_
                  refine ex_iconst (v := 0) dX12_builds_154 (by decide) ?_
                  refine ex_aload_n dX12_builds_155 rfl ?_
                  refine ex_iconst (v := 2) dX12_builds_156 (by decide) ?_
                  refine rx_cV (kd := 12) dX12_builds_157 rfl lk_X12_183 rfl (by decide) (by first | assumption | rfl) ⟨⟨rfl, rfl⟩, by decide, by decide⟩ rfl (Nat.le_of_ble_eq_true rfl) rfl (s_v0 (B := 500) (by unfold vp_in; decide) hb (by decide)) (Rs.k ?_)
                  refine ex_iload dX12_builds_160 rfl ?_
                  refine ex_isub dX12_builds_162 ?_
                  refine rx_cS dX12_builds_163 rfl lk_X12_202 ⟨⟨rfl, rfl⟩, by decide, by decide⟩ rfl (Nat.le_of_ble_eq_true rfl) rfl s_X12_greater (Rs.k ?_)
                  refine rx_cV (kd := 12) dX12_builds_166 rfl lk_X12_160 rfl (by decide) (by first | assumption | rfl) ⟨⟨rfl, rfl⟩, by decide, by decide⟩ rfl (Nat.le_of_ble_eq_true rfl) rfl (s_put0 (B := 500) (by unfold vp_in; decide) hb (by decide)) (Rv.k ?_)
                  refine ex_goto 238 dX12_builds_169 (by decide) ?_
                  refine ex_vret dX12_builds_238 rfl ⟨rfl, Nat.le_refl _⟩ ?_
                  exact ⟨rfl, (by simp only [f_X12_builds, ↓h40, ↓h56, ↓eq_true h67, ↓eq_true h94, ↓eq_false h123, ↓eq_true h149, if_true, if_false, not_true_eq_false, not_false_eq_true])⟩
              · skip
                refine ex_aload_n dX12_builds_126 rfl ?_
                refine ex_iconst (v := 2) dX12_builds_127 (by decide) ?_
                refine ex_bipush (v := 9) dX12_builds_128 (by decide) ?_
                refine ex_aload_n dX12_builds_130 rfl ?_
                refine ex_iconst (v := 2) dX12_builds_131 (by decide) ?_
                refine rx_cV (kd := 12) dX12_builds_132 rfl lk_X12_183 rfl (by decide) (by first | assumption | rfl) ⟨⟨rfl, rfl⟩, by decide, by decide⟩ rfl (Nat.le_of_ble_eq_true rfl) rfl (s_v0 (B := 500) (by unfold vp_in; decide) hb (by decide)) (Rs.k ?_)
                refine ex_iload dX12_builds_135 rfl ?_
                refine ex_iadd dX12_builds_137 ?_
                refine rx_cS dX12_builds_138 rfl lk_X12_189 ⟨⟨rfl, rfl⟩, by decide, by decide⟩ rfl (Nat.le_of_ble_eq_true rfl) rfl s_X12_lesser (Rs.k ?_)
                refine rx_cV (kd := 12) dX12_builds_141 rfl lk_X12_160 rfl (by decide) (by first | assumption | rfl) ⟨⟨rfl, rfl⟩, by decide, by decide⟩ rfl (Nat.le_of_ble_eq_true rfl) rfl (s_put0 (B := 500) (by unfold vp_in; decide) hb (by decide)) (Rv.k ?_)
                refine ex_goto 238 dX12_builds_144 (by decide) ?_
                refine ex_vret dX12_builds_238 rfl ⟨rfl, Nat.le_refl _⟩ ?_
                exact ⟨rfl, (by simp only [f_X12_builds, ↓h40, ↓h56, ↓eq_true h67, ↓eq_true h94, ↓eq_true h123, if_true, if_false, not_true_eq_false, not_false_eq_true])⟩
            · exact absurd h99 (by decide)
        · exact absurd h72 (by decide)
    · skip
      refine ex_iconst (v := 1) dX12_builds_59 (by decide) ?_
      refine ex_goto 64 dX12_builds_60 (by decide) ?_
      refine st_i6 dX12_builds_64 (by first | exact rfl | exact trivial) ?_
      refine ex_iload_n dX12_builds_66 rfl ?_
      refine ex_if_ne 92 dX12_builds_67 (by decide) (fun h67 => ?_) (fun h67 => ?_)
      · skip
        refine ex_iload_n dX12_builds_92 rfl ?_
        refine ex_iconst (v := 1) dX12_builds_93 (by decide) ?_
        refine ex_icmp_ne 121 dX12_builds_94 (by decide) (fun h94 => ?_) (fun h94 => ?_)
        · skip
          refine ex_iload_n dX12_builds_121 rfl ?_
          refine ex_iconst (v := 2) dX12_builds_122 (by decide) ?_
          refine ex_icmp_ne 147 dX12_builds_123 (by decide) (fun h123 => ?_) (fun h123 => ?_)
          · skip
            refine ex_iload_n dX12_builds_147 rfl ?_
            refine ex_iconst (v := 3) dX12_builds_148 (by decide) ?_
            refine ex_icmp_ne 172 dX12_builds_149 (by decide) (fun h149 => ?_) (fun h149 => ?_)
            · skip
              refine ex_iload_n dX12_builds_172 rfl ?_
              refine ex_iconst (v := 4) dX12_builds_173 (by decide) ?_
              refine ex_icmp_ne 207 dX12_builds_174 (by decide) (fun h174 => ?_) (fun h174 => ?_)
              · skip
                refine ex_iload_n dX12_builds_207 rfl ?_
                refine ex_iconst (v := 5) dX12_builds_208 (by decide) ?_
                refine ex_icmp_ne 238 dX12_builds_209 (by decide) (fun h209 => ?_) (fun h209 => ?_)
                · skip
                  refine ex_vret dX12_builds_238 rfl ⟨rfl, Nat.le_refl _⟩ ?_
                  exact ⟨rfl, (by simp only [f_X12_builds, ↓h40, ↓h56, ↓eq_false h67, ↓eq_false h94, ↓eq_false h123, ↓eq_false h149, ↓eq_false h174, ↓eq_false h209, if_true, if_false, not_true_eq_false, not_false_eq_true])⟩
                · skip
                  refine ex_iload dX12_builds_212 rfl ?_
                  refine ex_if_eq 238 dX12_builds_214 (by decide) (fun h214 => ?_) (fun h214 => ?_)
                  · exact absurd h214 (by decide)
                  · skip
                    refine ex_aload_n dX12_builds_217 rfl ?_
                    refine ex_iconst (v := 5) dX12_builds_218 (by decide) ?_
                    refine ex_iload_n dX12_builds_219 rfl ?_
                    refine ex_iadd dX12_builds_220 ?_
                    refine ex_iconst (v := 1) dX12_builds_221 (by decide) ?_
                    refine ex_aload_n dX12_builds_222 rfl ?_
                    refine ex_iconst (v := 5) dX12_builds_223 (by decide) ?_
                    refine ex_iload_n dX12_builds_224 rfl ?_
                    refine ex_iadd dX12_builds_225 ?_
                    refine rx_cV (kd := 12) dX12_builds_226 rfl lk_X12_183 rfl (by decide) (by first | assumption | rfl) ⟨⟨rfl, rfl⟩, by decide, by decide⟩ rfl (Nat.le_of_ble_eq_true rfl) rfl (s_v0 (B := 500) (vpa (C := 5) (c := 5) rfl vj (by decide) (by decide)) hb (by decide)) (Rs.k ?_)
                    refine ex_iload dX12_builds_229 rfl ?_
                    refine ex_isub dX12_builds_231 ?_
                    refine rx_cS dX12_builds_232 rfl lk_X12_202 ⟨⟨rfl, rfl⟩, by decide, by decide⟩ rfl (Nat.le_of_ble_eq_true rfl) rfl s_X12_greater (Rs.k ?_)
                    refine rx_cV (kd := 12) dX12_builds_235 rfl lk_X12_160 rfl (by decide) (by first | assumption | rfl) ⟨⟨rfl, rfl⟩, by decide, by decide⟩ rfl (Nat.le_of_ble_eq_true rfl) rfl (s_put0 (B := 500) (vpa (C := 5) (c := 5) rfl vj (by decide) (by decide)) hb (by decide)) (Rv.k ?_)
                    refine ex_vret dX12_builds_238 rfl ⟨rfl, Nat.le_refl _⟩ ?_
                    exact ⟨rfl, (by simp only [f_X12_builds, ↓h40, ↓h56, ↓eq_false h67, ↓eq_false h94, ↓eq_false h123, ↓eq_false h149, ↓eq_false h174, ↓eq_true h209, if_true, if_false, not_true_eq_false, not_false_eq_true])⟩
              · skip
                refine ex_iload dX12_builds_177 rfl ?_
                refine ex_if_eq 207 dX12_builds_179 (by decide) (fun h179 => ?_) (fun h179 => ?_)
                · exact absurd h179 (by decide)
                · skip
                  refine ex_aload_n dX12_builds_182 rfl ?_
                  refine ex_iconst (v := 5) dX12_builds_183 (by decide) ?_
                  refine ex_iload_n dX12_builds_184 rfl ?_
                  refine ex_iadd dX12_builds_185 ?_
                  refine ex_bipush (v := 9) dX12_builds_186 (by decide) ?_
                  refine ex_aload_n dX12_builds_188 rfl ?_
                  refine ex_iconst (v := 5) dX12_builds_189 (by decide) ?_
                  refine ex_iload_n dX12_builds_190 rfl ?_
                  refine ex_iadd dX12_builds_191 ?_
                  refine rx_cV (kd := 12) dX12_builds_192 rfl lk_X12_183 rfl (by decide) (by first | assumption | rfl) ⟨⟨rfl, rfl⟩, by decide, by decide⟩ rfl (Nat.le_of_ble_eq_true rfl) rfl (s_v0 (B := 500) (vpa (C := 5) (c := 5) rfl vj (by decide) (by decide)) hb (by decide)) (Rs.k ?_)
                  refine ex_iload dX12_builds_195 rfl ?_
                  refine ex_iadd dX12_builds_197 ?_
                  refine rx_cS dX12_builds_198 rfl lk_X12_189 ⟨⟨rfl, rfl⟩, by decide, by decide⟩ rfl (Nat.le_of_ble_eq_true rfl) rfl s_X12_lesser (Rs.k ?_)
                  refine rx_cV (kd := 12) dX12_builds_201 rfl lk_X12_160 rfl (by decide) (by first | assumption | rfl) ⟨⟨rfl, rfl⟩, by decide, by decide⟩ rfl (Nat.le_of_ble_eq_true rfl) rfl (s_put0 (B := 500) (vpa (C := 5) (c := 5) rfl vj (by decide) (by decide)) hb (by decide)) (Rv.k ?_)
                  refine ex_goto 238 dX12_builds_204 (by decide) ?_
                  refine ex_vret dX12_builds_238 rfl ⟨rfl, Nat.le_refl _⟩ ?_
                  exact ⟨rfl, (by simp only [f_X12_builds, ↓h40, ↓h56, ↓eq_false h67, ↓eq_false h94, ↓eq_false h123, ↓eq_false h149, ↓eq_true h174, if_true, if_false, not_true_eq_false, not_false_eq_true])⟩
            · skip
              refine ex_aload_n dX12_builds_152 rfl ?_
              refine ex_iconst (v := 2) dX12_builds_153 (by decide) ?_
              refine ex_iconst (v := 0) dX12_builds_154 (by decide) ?_
              refine ex_aload_n dX12_builds_155 rfl ?_
              refine ex_iconst (v := 2) dX12_builds_156 (by decide) ?_
              refine rx_cV (kd := 12) dX12_builds_157 rfl lk_X12_183 rfl (by decide) (by first | assumption | rfl) ⟨⟨rfl, rfl⟩, by decide, by decide⟩ rfl (Nat.le_of_ble_eq_true rfl) rfl (s_v0 (B := 500) (by unfold vp_in; decide) hb (by decide)) (Rs.k ?_)
              refine ex_iload dX12_builds_160 rfl ?_
              refine ex_isub dX12_builds_162 ?_
              refine rx_cS dX12_builds_163 rfl lk_X12_202 ⟨⟨rfl, rfl⟩, by decide, by decide⟩ rfl (Nat.le_of_ble_eq_true rfl) rfl s_X12_greater (Rs.k ?_)
              refine rx_cV (kd := 12) dX12_builds_166 rfl lk_X12_160 rfl (by decide) (by first | assumption | rfl) ⟨⟨rfl, rfl⟩, by decide, by decide⟩ rfl (Nat.le_of_ble_eq_true rfl) rfl (s_put0 (B := 500) (by unfold vp_in; decide) hb (by decide)) (Rv.k ?_)
              refine ex_goto 238 dX12_builds_169 (by decide) ?_
              refine ex_vret dX12_builds_238 rfl ⟨rfl, Nat.le_refl _⟩ ?_
              exact ⟨rfl, (by simp only [f_X12_builds, ↓h40, ↓h56, ↓eq_false h67, ↓eq_false h94, ↓eq_false h123, ↓eq_true h149, if_true, if_false, not_true_eq_false, not_false_eq_true])⟩
          · skip
            refine ex_aload_n dX12_builds_126 rfl ?_
            refine ex_iconst (v := 2) dX12_builds_127 (by decide) ?_
            refine ex_bipush (v := 9) dX12_builds_128 (by decide) ?_
            refine ex_aload_n dX12_builds_130 rfl ?_
            refine ex_iconst (v := 2) dX12_builds_131 (by decide) ?_
            refine rx_cV (kd := 12) dX12_builds_132 rfl lk_X12_183 rfl (by decide) (by first | assumption | rfl) ⟨⟨rfl, rfl⟩, by decide, by decide⟩ rfl (Nat.le_of_ble_eq_true rfl) rfl (s_v0 (B := 500) (by unfold vp_in; decide) hb (by decide)) (Rs.k ?_)
            refine ex_iload dX12_builds_135 rfl ?_
            refine ex_iadd dX12_builds_137 ?_
            refine rx_cS dX12_builds_138 rfl lk_X12_189 ⟨⟨rfl, rfl⟩, by decide, by decide⟩ rfl (Nat.le_of_ble_eq_true rfl) rfl s_X12_lesser (Rs.k ?_)
            refine rx_cV (kd := 12) dX12_builds_141 rfl lk_X12_160 rfl (by decide) (by first | assumption | rfl) ⟨⟨rfl, rfl⟩, by decide, by decide⟩ rfl (Nat.le_of_ble_eq_true rfl) rfl (s_put0 (B := 500) (by unfold vp_in; decide) hb (by decide)) (Rv.k ?_)
            refine ex_goto 238 dX12_builds_144 (by decide) ?_
            refine ex_vret dX12_builds_238 rfl ⟨rfl, Nat.le_refl _⟩ ?_
            exact ⟨rfl, (by simp only [f_X12_builds, ↓h40, ↓h56, ↓eq_false h67, ↓eq_false h94, ↓eq_true h123, if_true, if_false, not_true_eq_false, not_false_eq_true])⟩
        · skip
          refine ex_iload dX12_builds_97 rfl ?_
          refine ex_if_eq 121 dX12_builds_99 (by decide) (fun h99 => ?_) (fun h99 => ?_)
          · skip
            refine ex_iload_n dX12_builds_121 rfl ?_
            refine ex_iconst (v := 2) dX12_builds_122 (by decide) ?_
            refine ex_icmp_ne 147 dX12_builds_123 (by decide) (fun h123 => ?_) (fun h123 => ?_)
            · skip
              refine ex_iload_n dX12_builds_147 rfl ?_
              refine ex_iconst (v := 3) dX12_builds_148 (by decide) ?_
              refine ex_icmp_ne 172 dX12_builds_149 (by decide) (fun h149 => ?_) (fun h149 => ?_)
              · skip
                refine ex_iload_n dX12_builds_172 rfl ?_
                refine ex_iconst (v := 4) dX12_builds_173 (by decide) ?_
                refine ex_icmp_ne 207 dX12_builds_174 (by decide) (fun h174 => ?_) (fun h174 => ?_)
                · skip
                  refine ex_iload_n dX12_builds_207 rfl ?_
                  refine ex_iconst (v := 5) dX12_builds_208 (by decide) ?_
                  refine ex_icmp_ne 238 dX12_builds_209 (by decide) (fun h209 => ?_) (fun h209 => ?_)
                  · skip
                    refine ex_vret dX12_builds_238 rfl ⟨rfl, Nat.le_refl _⟩ ?_
                    exact ⟨rfl, (by simp only [f_X12_builds, ↓h40, ↓h56, ↓eq_false h67, ↓eq_true h94, ↓eq_false h123, ↓eq_false h149, ↓eq_false h174, ↓eq_false h209, if_true, if_false, not_true_eq_false, not_false_eq_true])⟩
                  · skip
                    refine ex_iload dX12_builds_212 rfl ?_
                    refine ex_if_eq 238 dX12_builds_214 (by decide) (fun h214 => ?_) (fun h214 => ?_)
                    · exact absurd h214 (by decide)
                    · skip
                      refine ex_aload_n dX12_builds_217 rfl ?_
                      refine ex_iconst (v := 5) dX12_builds_218 (by decide) ?_
                      refine ex_iload_n dX12_builds_219 rfl ?_
                      refine ex_iadd dX12_builds_220 ?_
                      refine ex_iconst (v := 1) dX12_builds_221 (by decide) ?_
                      refine ex_aload_n dX12_builds_222 rfl ?_
                      refine ex_iconst (v := 5) dX12_builds_223 (by decide) ?_
                      refine ex_iload_n dX12_builds_224 rfl ?_
                      refine ex_iadd dX12_builds_225 ?_
                      refine rx_cV (kd := 12) dX12_builds_226 rfl lk_X12_183 rfl (by decide) (by first | assumption | rfl) ⟨⟨rfl, rfl⟩, by decide, by decide⟩ rfl (Nat.le_of_ble_eq_true rfl) rfl (s_v0 (B := 500) (vpa (C := 5) (c := 5) rfl vj (by decide) (by decide)) hb (by decide)) (Rs.k ?_)
                      refine ex_iload dX12_builds_229 rfl ?_
                      refine ex_isub dX12_builds_231 ?_
                      refine rx_cS dX12_builds_232 rfl lk_X12_202 ⟨⟨rfl, rfl⟩, by decide, by decide⟩ rfl (Nat.le_of_ble_eq_true rfl) rfl s_X12_greater (Rs.k ?_)
                      refine rx_cV (kd := 12) dX12_builds_235 rfl lk_X12_160 rfl (by decide) (by first | assumption | rfl) ⟨⟨rfl, rfl⟩, by decide, by decide⟩ rfl (Nat.le_of_ble_eq_true rfl) rfl (s_put0 (B := 500) (vpa (C := 5) (c := 5) rfl vj (by decide) (by decide)) hb (by decide)) (Rv.k ?_)
                      refine ex_vret dX12_builds_238 rfl ⟨rfl, Nat.le_refl _⟩ ?_
                      exact ⟨rfl, (by simp only [f_X12_builds, ↓h40, ↓h56, ↓eq_false h67, ↓eq_true h94, ↓eq_false h123, ↓eq_false h149, ↓eq_false h174, ↓eq_true h209, if_true, if_false, not_true_eq_false, not_false_eq_true])⟩
                · skip
                  refine ex_iload dX12_builds_177 rfl ?_
                  refine ex_if_eq 207 dX12_builds_179 (by decide) (fun h179 => ?_) (fun h179 => ?_)
                  · exact absurd h179 (by decide)
                  · skip
                    refine ex_aload_n dX12_builds_182 rfl ?_
                    refine ex_iconst (v := 5) dX12_builds_183 (by decide) ?_
                    refine ex_iload_n dX12_builds_184 rfl ?_
                    refine ex_iadd dX12_builds_185 ?_
                    refine ex_bipush (v := 9) dX12_builds_186 (by decide) ?_
                    refine ex_aload_n dX12_builds_188 rfl ?_
                    refine ex_iconst (v := 5) dX12_builds_189 (by decide) ?_
                    refine ex_iload_n dX12_builds_190 rfl ?_
                    refine ex_iadd dX12_builds_191 ?_
                    refine rx_cV (kd := 12) dX12_builds_192 rfl lk_X12_183 rfl (by decide) (by first | assumption | rfl) ⟨⟨rfl, rfl⟩, by decide, by decide⟩ rfl (Nat.le_of_ble_eq_true rfl) rfl (s_v0 (B := 500) (vpa (C := 5) (c := 5) rfl vj (by decide) (by decide)) hb (by decide)) (Rs.k ?_)
                    refine ex_iload dX12_builds_195 rfl ?_
                    refine ex_iadd dX12_builds_197 ?_
                    refine rx_cS dX12_builds_198 rfl lk_X12_189 ⟨⟨rfl, rfl⟩, by decide, by decide⟩ rfl (Nat.le_of_ble_eq_true rfl) rfl s_X12_lesser (Rs.k ?_)
                    refine rx_cV (kd := 12) dX12_builds_201 rfl lk_X12_160 rfl (by decide) (by first | assumption | rfl) ⟨⟨rfl, rfl⟩, by decide, by decide⟩ rfl (Nat.le_of_ble_eq_true rfl) rfl (s_put0 (B := 500) (vpa (C := 5) (c := 5) rfl vj (by decide) (by decide)) hb (by decide)) (Rv.k ?_)
                    refine ex_goto 238 dX12_builds_204 (by decide) ?_
                    refine ex_vret dX12_builds_238 rfl ⟨rfl, Nat.le_refl _⟩ ?_
                    exact ⟨rfl, (by simp only [f_X12_builds, ↓h40, ↓h56, ↓eq_false h67, ↓eq_true h94, ↓eq_false h123, ↓eq_false h149, ↓eq_true h174, if_true, if_false, not_true_eq_false, not_false_eq_true])⟩
              · skip
                refine ex_aload_n dX12_builds_152 rfl ?_
                refine ex_iconst (v := 2) dX12_builds_153 (by decide) ?_
                refine ex_iconst (v := 0) dX12_builds_154 (by decide) ?_
                refine ex_aload_n dX12_builds_155 rfl ?_
                refine ex_iconst (v := 2) dX12_builds_156 (by decide) ?_
                refine rx_cV (kd := 12) dX12_builds_157 rfl lk_X12_183 rfl (by decide) (by first | assumption | rfl) ⟨⟨rfl, rfl⟩, by decide, by decide⟩ rfl (Nat.le_of_ble_eq_true rfl) rfl (s_v0 (B := 500) (by unfold vp_in; decide) hb (by decide)) (Rs.k ?_)
                refine ex_iload dX12_builds_160 rfl ?_
                refine ex_isub dX12_builds_162 ?_
                refine rx_cS dX12_builds_163 rfl lk_X12_202 ⟨⟨rfl, rfl⟩, by decide, by decide⟩ rfl (Nat.le_of_ble_eq_true rfl) rfl s_X12_greater (Rs.k ?_)
                refine rx_cV (kd := 12) dX12_builds_166 rfl lk_X12_160 rfl (by decide) (by first | assumption | rfl) ⟨⟨rfl, rfl⟩, by decide, by decide⟩ rfl (Nat.le_of_ble_eq_true rfl) rfl (s_put0 (B := 500) (by unfold vp_in; decide) hb (by decide)) (Rv.k ?_)
                refine ex_goto 238 dX12_builds_169 (by decide) ?_
                refine ex_vret dX12_builds_238 rfl ⟨rfl, Nat.le_refl _⟩ ?_
                exact ⟨rfl, (by simp only [f_X12_builds, ↓h40, ↓h56, ↓eq_false h67, ↓eq_true h94, ↓eq_false h123, ↓eq_true h149, if_true, if_false, not_true_eq_false, not_false_eq_true])⟩
            · skip
              refine ex_aload_n dX12_builds_126 rfl ?_
              refine ex_iconst (v := 2) dX12_builds_127 (by decide) ?_
              refine ex_bipush (v := 9) dX12_builds_128 (by decide) ?_
              refine ex_aload_n dX12_builds_130 rfl ?_
              refine ex_iconst (v := 2) dX12_builds_131 (by decide) ?_
              refine rx_cV (kd := 12) dX12_builds_132 rfl lk_X12_183 rfl (by decide) (by first | assumption | rfl) ⟨⟨rfl, rfl⟩, by decide, by decide⟩ rfl (Nat.le_of_ble_eq_true rfl) rfl (s_v0 (B := 500) (by unfold vp_in; decide) hb (by decide)) (Rs.k ?_)
              refine ex_iload dX12_builds_135 rfl ?_
              refine ex_iadd dX12_builds_137 ?_
              refine rx_cS dX12_builds_138 rfl lk_X12_189 ⟨⟨rfl, rfl⟩, by decide, by decide⟩ rfl (Nat.le_of_ble_eq_true rfl) rfl s_X12_lesser (Rs.k ?_)
              refine rx_cV (kd := 12) dX12_builds_141 rfl lk_X12_160 rfl (by decide) (by first | assumption | rfl) ⟨⟨rfl, rfl⟩, by decide, by decide⟩ rfl (Nat.le_of_ble_eq_true rfl) rfl (s_put0 (B := 500) (by unfold vp_in; decide) hb (by decide)) (Rv.k ?_)
              refine ex_goto 238 dX12_builds_144 (by decide) ?_
              refine ex_vret dX12_builds_238 rfl ⟨rfl, Nat.le_refl _⟩ ?_
              exact ⟨rfl, (by simp only [f_X12_builds, ↓h40, ↓h56, ↓eq_false h67, ↓eq_true h94, ↓eq_true h123, if_true, if_false, not_true_eq_false, not_false_eq_true])⟩
          · exact absurd h99 (by decide)
      · skip
        refine ex_iload dX12_builds_70 rfl ?_
        refine ex_if_eq 92 dX12_builds_72 (by decide) (fun h72 => ?_) (fun h72 => ?_)
        · skip
          refine ex_iload_n dX12_builds_92 rfl ?_
          refine ex_iconst (v := 1) dX12_builds_93 (by decide) ?_
          refine ex_icmp_ne 121 dX12_builds_94 (by decide) (fun h94 => ?_) (fun h94 => ?_)
          · skip
            refine ex_iload_n dX12_builds_121 rfl ?_
            refine ex_iconst (v := 2) dX12_builds_122 (by decide) ?_
            refine ex_icmp_ne 147 dX12_builds_123 (by decide) (fun h123 => ?_) (fun h123 => ?_)
            · skip
              refine ex_iload_n dX12_builds_147 rfl ?_
              refine ex_iconst (v := 3) dX12_builds_148 (by decide) ?_
              refine ex_icmp_ne 172 dX12_builds_149 (by decide) (fun h149 => ?_) (fun h149 => ?_)
              · skip
                refine ex_iload_n dX12_builds_172 rfl ?_
                refine ex_iconst (v := 4) dX12_builds_173 (by decide) ?_
                refine ex_icmp_ne 207 dX12_builds_174 (by decide) (fun h174 => ?_) (fun h174 => ?_)
                · skip
                  refine ex_iload_n dX12_builds_207 rfl ?_
                  refine ex_iconst (v := 5) dX12_builds_208 (by decide) ?_
                  refine ex_icmp_ne 238 dX12_builds_209 (by decide) (fun h209 => ?_) (fun h209 => ?_)
                  · skip
                    refine ex_vret dX12_builds_238 rfl ⟨rfl, Nat.le_refl _⟩ ?_
                    exact ⟨rfl, (by simp only [f_X12_builds, ↓h40, ↓h56, ↓eq_true h67, ↓eq_false h94, ↓eq_false h123, ↓eq_false h149, ↓eq_false h174, ↓eq_false h209, if_true, if_false, not_true_eq_false, not_false_eq_true])⟩
                  · skip
                    refine ex_iload dX12_builds_212 rfl ?_
                    refine ex_if_eq 238 dX12_builds_214 (by decide) (fun h214 => ?_) (fun h214 => ?_)
                    · exact absurd h214 (by decide)
                    · skip
                      refine ex_aload_n dX12_builds_217 rfl ?_
                      refine ex_iconst (v := 5) dX12_builds_218 (by decide) ?_
                      refine ex_iload_n dX12_builds_219 rfl ?_
                      refine ex_iadd dX12_builds_220 ?_
                      refine ex_iconst (v := 1) dX12_builds_221 (by decide) ?_
                      refine ex_aload_n dX12_builds_222 rfl ?_
                      refine ex_iconst (v := 5) dX12_builds_223 (by decide) ?_
                      refine ex_iload_n dX12_builds_224 rfl ?_
                      refine ex_iadd dX12_builds_225 ?_
                      refine rx_cV (kd := 12) dX12_builds_226 rfl lk_X12_183 rfl (by decide) (by first | assumption | rfl) ⟨⟨rfl, rfl⟩, by decide, by decide⟩ rfl (Nat.le_of_ble_eq_true rfl) rfl (s_v0 (B := 500) (vpa (C := 5) (c := 5) rfl vj (by decide) (by decide)) hb (by decide)) (Rs.k ?_)
                      refine ex_iload dX12_builds_229 rfl ?_
                      refine ex_isub dX12_builds_231 ?_
                      refine rx_cS dX12_builds_232 rfl lk_X12_202 ⟨⟨rfl, rfl⟩, by decide, by decide⟩ rfl (Nat.le_of_ble_eq_true rfl) rfl s_X12_greater (Rs.k ?_)
                      refine rx_cV (kd := 12) dX12_builds_235 rfl lk_X12_160 rfl (by decide) (by first | assumption | rfl) ⟨⟨rfl, rfl⟩, by decide, by decide⟩ rfl (Nat.le_of_ble_eq_true rfl) rfl (s_put0 (B := 500) (vpa (C := 5) (c := 5) rfl vj (by decide) (by decide)) hb (by decide)) (Rv.k ?_)
                      refine ex_vret dX12_builds_238 rfl ⟨rfl, Nat.le_refl _⟩ ?_
                      exact ⟨rfl, (by simp only [f_X12_builds, ↓h40, ↓h56, ↓eq_true h67, ↓eq_false h94, ↓eq_false h123, ↓eq_false h149, ↓eq_false h174, ↓eq_true h209, if_true, if_false, not_true_eq_false, not_false_eq_true])⟩
                · skip
                  refine ex_iload dX12_builds_177 rfl ?_
                  refine ex_if_eq 207 dX12_builds_179 (by decide) (fun h179 => ?_) (fun h179 => ?_)
                  · exact absurd h179 (by decide)
                  · skip
                    refine ex_aload_n dX12_builds_182 rfl ?_
                    refine ex_iconst (v := 5) dX12_builds_183 (by decide) ?_
                    refine ex_iload_n dX12_builds_184 rfl ?_
                    refine ex_iadd dX12_builds_185 ?_
                    refine ex_bipush (v := 9) dX12_builds_186 (by decide) ?_
                    refine ex_aload_n dX12_builds_188 rfl ?_
                    refine ex_iconst (v := 5) dX12_builds_189 (by decide) ?_
                    refine ex_iload_n dX12_builds_190 rfl ?_
                    refine ex_iadd dX12_builds_191 ?_
                    refine rx_cV (kd := 12) dX12_builds_192 rfl lk_X12_183 rfl (by decide) (by first | assumption | rfl) ⟨⟨rfl, rfl⟩, by decide, by decide⟩ rfl (Nat.le_of_ble_eq_true rfl) rfl (s_v0 (B := 500) (vpa (C := 5) (c := 5) rfl vj (by decide) (by decide)) hb (by decide)) (Rs.k ?_)
                    refine ex_iload dX12_builds_195 rfl ?_
                    refine ex_iadd dX12_builds_197 ?_
                    refine rx_cS dX12_builds_198 rfl lk_X12_189 ⟨⟨rfl, rfl⟩, by decide, by decide⟩ rfl (Nat.le_of_ble_eq_true rfl) rfl s_X12_lesser (Rs.k ?_)
                    refine rx_cV (kd := 12) dX12_builds_201 rfl lk_X12_160 rfl (by decide) (by first | assumption | rfl) ⟨⟨rfl, rfl⟩, by decide, by decide⟩ rfl (Nat.le_of_ble_eq_true rfl) rfl (s_put0 (B := 500) (vpa (C := 5) (c := 5) rfl vj (by decide) (by decide)) hb (by decide)) (Rv.k ?_)
                    refine ex_goto 238 dX12_builds_204 (by decide) ?_
                    refine ex_vret dX12_builds_238 rfl ⟨rfl, Nat.le_refl _⟩ ?_
                    exact ⟨rfl, (by simp only [f_X12_builds, ↓h40, ↓h56, ↓eq_true h67, ↓eq_false h94, ↓eq_false h123, ↓eq_false h149, ↓eq_true h174, if_true, if_false, not_true_eq_false, not_false_eq_true])⟩
              · skip
                refine ex_aload_n dX12_builds_152 rfl ?_
                refine ex_iconst (v := 2) dX12_builds_153 (by decide) ?_
                refine ex_iconst (v := 0) dX12_builds_154 (by decide) ?_
                refine ex_aload_n dX12_builds_155 rfl ?_
                refine ex_iconst (v := 2) dX12_builds_156 (by decide) ?_
                refine rx_cV (kd := 12) dX12_builds_157 rfl lk_X12_183 rfl (by decide) (by first | assumption | rfl) ⟨⟨rfl, rfl⟩, by decide, by decide⟩ rfl (Nat.le_of_ble_eq_true rfl) rfl (s_v0 (B := 500) (by unfold vp_in; decide) hb (by decide)) (Rs.k ?_)
                refine ex_iload dX12_builds_160 rfl ?_
                refine ex_isub dX12_builds_162 ?_
                refine rx_cS dX12_builds_163 rfl lk_X12_202 ⟨⟨rfl, rfl⟩, by decide, by decide⟩ rfl (Nat.le_of_ble_eq_true rfl) rfl s_X12_greater (Rs.k ?_)
                refine rx_cV (kd := 12) dX12_builds_166 rfl lk_X12_160 rfl (by decide) (by first | assumption | rfl) ⟨⟨rfl, rfl⟩, by decide, by decide⟩ rfl (Nat.le_of_ble_eq_true rfl) rfl (s_put0 (B := 500) (by unfold vp_in; decide) hb (by decide)) (Rv.k ?_)
                refine ex_goto 238 dX12_builds_169 (by decide) ?_
                refine ex_vret dX12_builds_238 rfl ⟨rfl, Nat.le_refl _⟩ ?_
                exact ⟨rfl, (by simp only [f_X12_builds, ↓h40, ↓h56, ↓eq_true h67, ↓eq_false h94, ↓eq_false h123, ↓eq_true h149, if_true, if_false, not_true_eq_false, not_false_eq_true])⟩
            · skip
              refine ex_aload_n dX12_builds_126 rfl ?_
              refine ex_iconst (v := 2) dX12_builds_127 (by decide) ?_
              refine ex_bipush (v := 9) dX12_builds_128 (by decide) ?_
              refine ex_aload_n dX12_builds_130 rfl ?_
              refine ex_iconst (v := 2) dX12_builds_131 (by decide) ?_
              refine rx_cV (kd := 12) dX12_builds_132 rfl lk_X12_183 rfl (by decide) (by first | assumption | rfl) ⟨⟨rfl, rfl⟩, by decide, by decide⟩ rfl (Nat.le_of_ble_eq_true rfl) rfl (s_v0 (B := 500) (by unfold vp_in; decide) hb (by decide)) (Rs.k ?_)
              refine ex_iload dX12_builds_135 rfl ?_
              refine ex_iadd dX12_builds_137 ?_
              refine rx_cS dX12_builds_138 rfl lk_X12_189 ⟨⟨rfl, rfl⟩, by decide, by decide⟩ rfl (Nat.le_of_ble_eq_true rfl) rfl s_X12_lesser (Rs.k ?_)
              refine rx_cV (kd := 12) dX12_builds_141 rfl lk_X12_160 rfl (by decide) (by first | assumption | rfl) ⟨⟨rfl, rfl⟩, by decide, by decide⟩ rfl (Nat.le_of_ble_eq_true rfl) rfl (s_put0 (B := 500) (by unfold vp_in; decide) hb (by decide)) (Rv.k ?_)
              refine ex_goto 238 dX12_builds_144 (by decide) ?_
              refine ex_vret dX12_builds_238 rfl ⟨rfl, Nat.le_refl _⟩ ?_
              exact ⟨rfl, (by simp only [f_X12_builds, ↓h40, ↓h56, ↓eq_true h67, ↓eq_false h94, ↓eq_true h123, if_true, if_false, not_true_eq_false, not_false_eq_true])⟩
          · skip
            refine ex_iload dX12_builds_97 rfl ?_
            refine ex_if_eq 121 dX12_builds_99 (by decide) (fun h99 => ?_) (fun h99 => ?_)
            · skip
              refine ex_iload_n dX12_builds_121 rfl ?_
              refine ex_iconst (v := 2) dX12_builds_122 (by decide) ?_
              refine ex_icmp_ne 147 dX12_builds_123 (by decide) (fun h123 => ?_) (fun h123 => ?_)
              · skip
                refine ex_iload_n dX12_builds_147 rfl ?_
                refine ex_iconst (v := 3) dX12_builds_148 (by decide) ?_
                refine ex_icmp_ne 172 dX12_builds_149 (by decide) (fun h149 => ?_) (fun h149 => ?_)
                · skip
                  refine ex_iload_n dX12_builds_172 rfl ?_
                  refine ex_iconst (v := 4) dX12_builds_173 (by decide) ?_
                  refine ex_icmp_ne 207 dX12_builds_174 (by decide) (fun h174 => ?_) (fun h174 => ?_)
                  · skip
                    refine ex_iload_n dX12_builds_207 rfl ?_
                    refine ex_iconst (v := 5) dX12_builds_208 (by decide) ?_
                    refine ex_icmp_ne 238 dX12_builds_209 (by decide) (fun h209 => ?_) (fun h209 => ?_)
                    · skip
                      refine ex_vret dX12_builds_238 rfl ⟨rfl, Nat.le_refl _⟩ ?_
                      exact ⟨rfl, (by simp only [f_X12_builds, ↓h40, ↓h56, ↓eq_true h67, ↓eq_true h94, ↓eq_false h123, ↓eq_false h149, ↓eq_false h174, ↓eq_false h209, if_true, if_false, not_true_eq_false, not_false_eq_true])⟩
                    · skip
                      refine ex_iload dX12_builds_212 rfl ?_
                      refine ex_if_eq 238 dX12_builds_214 (by decide) (fun h214 => ?_) (fun h214 => ?_)
                      · exact absurd h214 (by decide)
                      · skip
                        refine ex_aload_n dX12_builds_217 rfl ?_
                        refine ex_iconst (v := 5) dX12_builds_218 (by decide) ?_
                        refine ex_iload_n dX12_builds_219 rfl ?_
                        refine ex_iadd dX12_builds_220 ?_
                        refine ex_iconst (v := 1) dX12_builds_221 (by decide) ?_
                        refine ex_aload_n dX12_builds_222 rfl ?_
                        refine ex_iconst (v := 5) dX12_builds_223 (by decide) ?_
                        refine ex_iload_n dX12_builds_224 rfl ?_
                        refine ex_iadd dX12_builds_225 ?_
                        refine rx_cV (kd := 12) dX12_builds_226 rfl lk_X12_183 rfl (by decide) (by first | assumption | rfl) ⟨⟨rfl, rfl⟩, by decide, by decide⟩ rfl (Nat.le_of_ble_eq_true rfl) rfl (s_v0 (B := 500) (vpa (C := 5) (c := 5) rfl vj (by decide) (by decide)) hb (by decide)) (Rs.k ?_)
                        refine ex_iload dX12_builds_229 rfl ?_
                        refine ex_isub dX12_builds_231 ?_
                        refine rx_cS dX12_builds_232 rfl lk_X12_202 ⟨⟨rfl, rfl⟩, by decide, by decide⟩ rfl (Nat.le_of_ble_eq_true rfl) rfl s_X12_greater (Rs.k ?_)
                        refine rx_cV (kd := 12) dX12_builds_235 rfl lk_X12_160 rfl (by decide) (by first | assumption | rfl) ⟨⟨rfl, rfl⟩, by decide, by decide⟩ rfl (Nat.le_of_ble_eq_true rfl) rfl (s_put0 (B := 500) (vpa (C := 5) (c := 5) rfl vj (by decide) (by decide)) hb (by decide)) (Rv.k ?_)
                        refine ex_vret dX12_builds_238 rfl ⟨rfl, Nat.le_refl _⟩ ?_
                        exact ⟨rfl, (by simp only [f_X12_builds, ↓h40, ↓h56, ↓eq_true h67, ↓eq_true h94, ↓eq_false h123, ↓eq_false h149, ↓eq_false h174, ↓eq_true h209, if_true, if_false, not_true_eq_false, not_false_eq_true])⟩
                  · skip
                    refine ex_iload dX12_builds_177 rfl ?_
                    refine ex_if_eq 207 dX12_builds_179 (by decide) (fun h179 => ?_) (fun h179 => ?_)
                    · exact absurd h179 (by decide)
                    · skip
                      refine ex_aload_n dX12_builds_182 rfl ?_
                      refine ex_iconst (v := 5) dX12_builds_183 (by decide) ?_
                      refine ex_iload_n dX12_builds_184 rfl ?_
                      refine ex_iadd dX12_builds_185 ?_
                      refine ex_bipush (v := 9) dX12_builds_186 (by decide) ?_
                      refine ex_aload_n dX12_builds_188 rfl ?_
                      refine ex_iconst (v := 5) dX12_builds_189 (by decide) ?_
                      refine ex_iload_n dX12_builds_190 rfl ?_
                      refine ex_iadd dX12_builds_191 ?_
                      refine rx_cV (kd := 12) dX12_builds_192 rfl lk_X12_183 rfl (by decide) (by first | assumption | rfl) ⟨⟨rfl, rfl⟩, by decide, by decide⟩ rfl (Nat.le_of_ble_eq_true rfl) rfl (s_v0 (B := 500) (vpa (C := 5) (c := 5) rfl vj (by decide) (by decide)) hb (by decide)) (Rs.k ?_)
                      refine ex_iload dX12_builds_195 rfl ?_
                      refine ex_iadd dX12_builds_197 ?_
                      refine rx_cS dX12_builds_198 rfl lk_X12_189 ⟨⟨rfl, rfl⟩, by decide, by decide⟩ rfl (Nat.le_of_ble_eq_true rfl) rfl s_X12_lesser (Rs.k ?_)
                      refine rx_cV (kd := 12) dX12_builds_201 rfl lk_X12_160 rfl (by decide) (by first | assumption | rfl) ⟨⟨rfl, rfl⟩, by decide, by decide⟩ rfl (Nat.le_of_ble_eq_true rfl) rfl (s_put0 (B := 500) (vpa (C := 5) (c := 5) rfl vj (by decide) (by decide)) hb (by decide)) (Rv.k ?_)
                      refine ex_goto 238 dX12_builds_204 (by decide) ?_
                      refine ex_vret dX12_builds_238 rfl ⟨rfl, Nat.le_refl _⟩ ?_
                      exact ⟨rfl, (by simp only [f_X12_builds, ↓h40, ↓h56, ↓eq_true h67, ↓eq_true h94, ↓eq_false h123, ↓eq_false h149, ↓eq_true h174, if_true, if_false, not_true_eq_false, not_false_eq_true])⟩
                · skip
                  refine ex_aload_n dX12_builds_152 rfl ?_
                  refine ex_iconst (v := 2) dX12_builds_153 (by decide) ?_
                  refine ex_iconst (v := 0) dX12_builds_154 (by decide) ?_
                  refine ex_aload_n dX12_builds_155 rfl ?_
                  refine ex_iconst (v := 2) dX12_builds_156 (by decide) ?_
                  refine rx_cV (kd := 12) dX12_builds_157 rfl lk_X12_183 rfl (by decide) (by first | assumption | rfl) ⟨⟨rfl, rfl⟩, by decide, by decide⟩ rfl (Nat.le_of_ble_eq_true rfl) rfl (s_v0 (B := 500) (by unfold vp_in; decide) hb (by decide)) (Rs.k ?_)
                  refine ex_iload dX12_builds_160 rfl ?_
                  refine ex_isub dX12_builds_162 ?_
                  refine rx_cS dX12_builds_163 rfl lk_X12_202 ⟨⟨rfl, rfl⟩, by decide, by decide⟩ rfl (Nat.le_of_ble_eq_true rfl) rfl s_X12_greater (Rs.k ?_)
                  refine rx_cV (kd := 12) dX12_builds_166 rfl lk_X12_160 rfl (by decide) (by first | assumption | rfl) ⟨⟨rfl, rfl⟩, by decide, by decide⟩ rfl (Nat.le_of_ble_eq_true rfl) rfl (s_put0 (B := 500) (by unfold vp_in; decide) hb (by decide)) (Rv.k ?_)
                  refine ex_goto 238 dX12_builds_169 (by decide) ?_
                  refine ex_vret dX12_builds_238 rfl ⟨rfl, Nat.le_refl _⟩ ?_
                  exact ⟨rfl, (by simp only [f_X12_builds, ↓h40, ↓h56, ↓eq_true h67, ↓eq_true h94, ↓eq_false h123, ↓eq_true h149, if_true, if_false, not_true_eq_false, not_false_eq_true])⟩
              · skip
                refine ex_aload_n dX12_builds_126 rfl ?_
                refine ex_iconst (v := 2) dX12_builds_127 (by decide) ?_
                refine ex_bipush (v := 9) dX12_builds_128 (by decide) ?_
                refine ex_aload_n dX12_builds_130 rfl ?_
                refine ex_iconst (v := 2) dX12_builds_131 (by decide) ?_
                refine rx_cV (kd := 12) dX12_builds_132 rfl lk_X12_183 rfl (by decide) (by first | assumption | rfl) ⟨⟨rfl, rfl⟩, by decide, by decide⟩ rfl (Nat.le_of_ble_eq_true rfl) rfl (s_v0 (B := 500) (by unfold vp_in; decide) hb (by decide)) (Rs.k ?_)
                refine ex_iload dX12_builds_135 rfl ?_
                refine ex_iadd dX12_builds_137 ?_
                refine rx_cS dX12_builds_138 rfl lk_X12_189 ⟨⟨rfl, rfl⟩, by decide, by decide⟩ rfl (Nat.le_of_ble_eq_true rfl) rfl s_X12_lesser (Rs.k ?_)
                refine rx_cV (kd := 12) dX12_builds_141 rfl lk_X12_160 rfl (by decide) (by first | assumption | rfl) ⟨⟨rfl, rfl⟩, by decide, by decide⟩ rfl (Nat.le_of_ble_eq_true rfl) rfl (s_put0 (B := 500) (by unfold vp_in; decide) hb (by decide)) (Rv.k ?_)
                refine ex_goto 238 dX12_builds_144 (by decide) ?_
                refine ex_vret dX12_builds_238 rfl ⟨rfl, Nat.le_refl _⟩ ?_
                exact ⟨rfl, (by simp only [f_X12_builds, ↓h40, ↓h56, ↓eq_true h67, ↓eq_true h94, ↓eq_true h123, if_true, if_false, not_true_eq_false, not_false_eq_true])⟩
            · exact absurd h99 (by decide)
        · exact absurd h72 (by decide)
  · skip
    refine ex_iconst (v := 1) dX12_builds_43 (by decide) ?_
    refine ex_goto 48 dX12_builds_44 (by decide) ?_
    refine st_i5 dX12_builds_48 (by first | exact rfl | exact trivial) ?_
    refine ex_iload_n dX12_builds_50 rfl ?_
    refine ex_aload_n dX12_builds_51 rfl ?_
    refine ex_iconst (v := 0) dX12_builds_52 (by decide) ?_
    refine rx_cV (kd := 12) dX12_builds_53 rfl lk_X12_183 rfl (by decide) (by first | assumption | rfl) ⟨⟨rfl, rfl⟩, by decide, by decide⟩ rfl (Nat.le_of_ble_eq_true rfl) rfl (s_v0 (B := 500) (by unfold vp_in; decide) hb (by decide)) (Rs.k ?_)
    refine ex_icmp_ge 63 dX12_builds_56 (by decide) (fun h56 => ?_) (fun h56 => ?_)
    · skip
      refine ex_iconst (v := 0) dX12_builds_63 (by decide) ?_
      refine st_i6 dX12_builds_64 (by first | exact rfl | exact trivial) ?_
      refine ex_iload_n dX12_builds_66 rfl ?_
      refine ex_if_ne 92 dX12_builds_67 (by decide) (fun h67 => ?_) (fun h67 => ?_)
      · skip
        refine ex_iload_n dX12_builds_92 rfl ?_
        refine ex_iconst (v := 1) dX12_builds_93 (by decide) ?_
        refine ex_icmp_ne 121 dX12_builds_94 (by decide) (fun h94 => ?_) (fun h94 => ?_)
        · skip
          refine ex_iload_n dX12_builds_121 rfl ?_
          refine ex_iconst (v := 2) dX12_builds_122 (by decide) ?_
          refine ex_icmp_ne 147 dX12_builds_123 (by decide) (fun h123 => ?_) (fun h123 => ?_)
          · skip
            refine ex_iload_n dX12_builds_147 rfl ?_
            refine ex_iconst (v := 3) dX12_builds_148 (by decide) ?_
            refine ex_icmp_ne 172 dX12_builds_149 (by decide) (fun h149 => ?_) (fun h149 => ?_)
            · skip
              refine ex_iload_n dX12_builds_172 rfl ?_
              refine ex_iconst (v := 4) dX12_builds_173 (by decide) ?_
              refine ex_icmp_ne 207 dX12_builds_174 (by decide) (fun h174 => ?_) (fun h174 => ?_)
              · skip
                refine ex_iload_n dX12_builds_207 rfl ?_
                refine ex_iconst (v := 5) dX12_builds_208 (by decide) ?_
                refine ex_icmp_ne 238 dX12_builds_209 (by decide) (fun h209 => ?_) (fun h209 => ?_)
                · skip
                  refine ex_vret dX12_builds_238 rfl ⟨rfl, Nat.le_refl _⟩ ?_
                  exact ⟨rfl, (by simp only [f_X12_builds, ↓h40, ↓h56, ↓eq_false h67, ↓eq_false h94, ↓eq_false h123, ↓eq_false h149, ↓eq_false h174, ↓eq_false h209, if_true, if_false, not_true_eq_false, not_false_eq_true])⟩
                · skip
                  refine ex_iload dX12_builds_212 rfl ?_
                  refine ex_if_eq 238 dX12_builds_214 (by decide) (fun h214 => ?_) (fun h214 => ?_)
                  · skip
                    refine ex_vret dX12_builds_238 rfl ⟨rfl, Nat.le_refl _⟩ ?_
                    exact ⟨rfl, (by simp only [f_X12_builds, ↓h40, ↓h56, ↓eq_false h67, ↓eq_false h94, ↓eq_false h123, ↓eq_false h149, ↓eq_false h174, ↓eq_true h209, if_true, if_false, not_true_eq_false, not_false_eq_true])⟩
                  · exact absurd h214 (by decide)
              · skip
                refine ex_iload dX12_builds_177 rfl ?_
                refine ex_if_eq 207 dX12_builds_179 (by decide) (fun h179 => ?_) (fun h179 => ?_)
                · skip
                  refine ex_iload_n dX12_builds_207 rfl ?_
                  refine ex_iconst (v := 5) dX12_builds_208 (by decide) ?_
                  refine ex_icmp_ne 238 dX12_builds_209 (by decide) (fun h209 => ?_) (fun h209 => ?_)
                  · skip
                    refine ex_vret dX12_builds_238 rfl ⟨rfl, Nat.le_refl _⟩ ?_
                    exact ⟨rfl, (by simp only [f_X12_builds, ↓h40, ↓h56, ↓eq_false h67, ↓eq_false h94, ↓eq_false h123, ↓eq_false h149, ↓eq_true h174, ↓eq_false h209, if_true, if_false, not_true_eq_false, not_false_eq_true])⟩
                  · skip
                    refine ex_iload dX12_builds_212 rfl ?_
                    refine ex_if_eq 238 dX12_builds_214 (by decide) (fun h214 => ?_) (fun h214 => ?_)
                    · skip
                      refine ex_vret dX12_builds_238 rfl ⟨rfl, Nat.le_refl _⟩ ?_
                      exact ⟨rfl, (by simp only [f_X12_builds, ↓h40, ↓h56, ↓eq_false h67, ↓eq_false h94, ↓eq_false h123, ↓eq_false h149, ↓eq_true h174, ↓eq_true h209, if_true, if_false, not_true_eq_false, not_false_eq_true])⟩
                    · exact absurd h214 (by decide)
                · exact absurd h179 (by decide)
            · skip
              refine ex_aload_n dX12_builds_152 rfl ?_
              refine ex_iconst (v := 2) dX12_builds_153 (by decide) ?_
              refine ex_iconst (v := 0) dX12_builds_154 (by decide) ?_
              refine ex_aload_n dX12_builds_155 rfl ?_
              refine ex_iconst (v := 2) dX12_builds_156 (by decide) ?_
              refine rx_cV (kd := 12) dX12_builds_157 rfl lk_X12_183 rfl (by decide) (by first | assumption | rfl) ⟨⟨rfl, rfl⟩, by decide, by decide⟩ rfl (Nat.le_of_ble_eq_true rfl) rfl (s_v0 (B := 500) (by unfold vp_in; decide) hb (by decide)) (Rs.k ?_)
              refine ex_iload dX12_builds_160 rfl ?_
              refine ex_isub dX12_builds_162 ?_
              refine rx_cS dX12_builds_163 rfl lk_X12_202 ⟨⟨rfl, rfl⟩, by decide, by decide⟩ rfl (Nat.le_of_ble_eq_true rfl) rfl s_X12_greater (Rs.k ?_)
              refine rx_cV (kd := 12) dX12_builds_166 rfl lk_X12_160 rfl (by decide) (by first | assumption | rfl) ⟨⟨rfl, rfl⟩, by decide, by decide⟩ rfl (Nat.le_of_ble_eq_true rfl) rfl (s_put0 (B := 500) (by unfold vp_in; decide) hb (by decide)) (Rv.k ?_)
              refine ex_goto 238 dX12_builds_169 (by decide) ?_
              refine ex_vret dX12_builds_238 rfl ⟨rfl, Nat.le_refl _⟩ ?_
              exact ⟨rfl, (by simp only [f_X12_builds, ↓h40, ↓h56, ↓eq_false h67, ↓eq_false h94, ↓eq_false h123, ↓eq_true h149, if_true, if_false, not_true_eq_false, not_false_eq_true])⟩
          · skip
            refine ex_aload_n dX12_builds_126 rfl ?_
            refine ex_iconst (v := 2) dX12_builds_127 (by decide) ?_
            refine ex_bipush (v := 9) dX12_builds_128 (by decide) ?_
            refine ex_aload_n dX12_builds_130 rfl ?_
            refine ex_iconst (v := 2) dX12_builds_131 (by decide) ?_
            refine rx_cV (kd := 12) dX12_builds_132 rfl lk_X12_183 rfl (by decide) (by first | assumption | rfl) ⟨⟨rfl, rfl⟩, by decide, by decide⟩ rfl (Nat.le_of_ble_eq_true rfl) rfl (s_v0 (B := 500) (by unfold vp_in; decide) hb (by decide)) (Rs.k ?_)
            refine ex_iload dX12_builds_135 rfl ?_
            refine ex_iadd dX12_builds_137 ?_
            refine rx_cS dX12_builds_138 rfl lk_X12_189 ⟨⟨rfl, rfl⟩, by decide, by decide⟩ rfl (Nat.le_of_ble_eq_true rfl) rfl s_X12_lesser (Rs.k ?_)
            refine rx_cV (kd := 12) dX12_builds_141 rfl lk_X12_160 rfl (by decide) (by first | assumption | rfl) ⟨⟨rfl, rfl⟩, by decide, by decide⟩ rfl (Nat.le_of_ble_eq_true rfl) rfl (s_put0 (B := 500) (by unfold vp_in; decide) hb (by decide)) (Rv.k ?_)
            refine ex_goto 238 dX12_builds_144 (by decide) ?_
            refine ex_vret dX12_builds_238 rfl ⟨rfl, Nat.le_refl _⟩ ?_
            exact ⟨rfl, (by simp only [f_X12_builds, ↓h40, ↓h56, ↓eq_false h67, ↓eq_false h94, ↓eq_true h123, if_true, if_false, not_true_eq_false, not_false_eq_true])⟩
        · skip
          refine ex_iload dX12_builds_97 rfl ?_
          refine ex_if_eq 121 dX12_builds_99 (by decide) (fun h99 => ?_) (fun h99 => ?_)
          · exact absurd h99 (by decide)
          · skip
            refine ex_aload_n dX12_builds_102 rfl ?_
            refine ex_iconst (v := 4) dX12_builds_103 (by decide) ?_
            refine ex_aload_n dX12_builds_104 rfl ?_
            refine ex_iconst (v := 4) dX12_builds_105 (by decide) ?_
            refine rx_cV (kd := 12) dX12_builds_106 rfl lk_X12_183 rfl (by decide) (by first | assumption | rfl) ⟨⟨rfl, rfl⟩, by decide, by decide⟩ rfl (Nat.le_of_ble_eq_true rfl) rfl (s_v0 (B := 500) (by unfold vp_in; decide) hb (by decide)) (Rs.k ?_)
            refine ex_iconst (v := 1) dX12_builds_109 (by decide) ?_
            refine ex_iload_n dX12_builds_110 rfl ?_
            refine ex_ishl dX12_builds_111 ?_
            refine ex_iconst (v := (-1)) dX12_builds_112 (by decide) ?_
            refine ex_ixor dX12_builds_113 ?_
            refine ex_iand dX12_builds_114 ?_
            refine rx_cV (kd := 12) dX12_builds_115 rfl lk_X12_160 rfl (by decide) (by first | assumption | rfl) ⟨⟨rfl, rfl⟩, by decide, by decide⟩ rfl (Nat.le_of_ble_eq_true rfl) rfl (s_put0 (B := 500) (by unfold vp_in; decide) hb (by decide)) (Rv.k ?_)
            refine ex_goto 238 dX12_builds_118 (by decide) ?_
            refine ex_vret dX12_builds_238 rfl ⟨rfl, Nat.le_refl _⟩ ?_
            exact ⟨rfl, (by simp only [f_X12_builds, ↓h40, ↓h56, ↓eq_false h67, ↓eq_true h94, if_true, if_false, not_true_eq_false, not_false_eq_true])⟩
      · skip
        refine ex_iload dX12_builds_70 rfl ?_
        refine ex_if_eq 92 dX12_builds_72 (by decide) (fun h72 => ?_) (fun h72 => ?_)
        · exact absurd h72 (by decide)
        · skip
          refine ex_aload_n dX12_builds_75 rfl ?_
          refine ex_iconst (v := 4) dX12_builds_76 (by decide) ?_
          refine ex_aload_n dX12_builds_77 rfl ?_
          refine ex_iconst (v := 4) dX12_builds_78 (by decide) ?_
          refine rx_cV (kd := 12) dX12_builds_79 rfl lk_X12_183 rfl (by decide) (by first | assumption | rfl) ⟨⟨rfl, rfl⟩, by decide, by decide⟩ rfl (Nat.le_of_ble_eq_true rfl) rfl (s_v0 (B := 500) (by unfold vp_in; decide) hb (by decide)) (Rs.k ?_)
          refine ex_iconst (v := 1) dX12_builds_82 (by decide) ?_
          refine ex_iload_n dX12_builds_83 rfl ?_
          refine ex_ishl dX12_builds_84 ?_
          refine ex_ior dX12_builds_85 ?_
          refine rx_cV (kd := 12) dX12_builds_86 rfl lk_X12_160 rfl (by decide) (by first | assumption | rfl) ⟨⟨rfl, rfl⟩, by decide, by decide⟩ rfl (Nat.le_of_ble_eq_true rfl) rfl (s_put0 (B := 500) (by unfold vp_in; decide) hb (by decide)) (Rv.k ?_)
          refine ex_goto 238 dX12_builds_89 (by decide) ?_
          refine ex_vret dX12_builds_238 rfl ⟨rfl, Nat.le_refl _⟩ ?_
          exact ⟨rfl, (by simp only [f_X12_builds, ↓h40, ↓h56, ↓eq_true h67, if_true, if_false, not_true_eq_false, not_false_eq_true])⟩
    · skip
      refine ex_iconst (v := 1) dX12_builds_59 (by decide) ?_
      refine ex_goto 64 dX12_builds_60 (by decide) ?_
      refine st_i6 dX12_builds_64 (by first | exact rfl | exact trivial) ?_
      refine ex_iload_n dX12_builds_66 rfl ?_
      refine ex_if_ne 92 dX12_builds_67 (by decide) (fun h67 => ?_) (fun h67 => ?_)
      · skip
        refine ex_iload_n dX12_builds_92 rfl ?_
        refine ex_iconst (v := 1) dX12_builds_93 (by decide) ?_
        refine ex_icmp_ne 121 dX12_builds_94 (by decide) (fun h94 => ?_) (fun h94 => ?_)
        · skip
          refine ex_iload_n dX12_builds_121 rfl ?_
          refine ex_iconst (v := 2) dX12_builds_122 (by decide) ?_
          refine ex_icmp_ne 147 dX12_builds_123 (by decide) (fun h123 => ?_) (fun h123 => ?_)
          · skip
            refine ex_iload_n dX12_builds_147 rfl ?_
            refine ex_iconst (v := 3) dX12_builds_148 (by decide) ?_
            refine ex_icmp_ne 172 dX12_builds_149 (by decide) (fun h149 => ?_) (fun h149 => ?_)
            · skip
              refine ex_iload_n dX12_builds_172 rfl ?_
              refine ex_iconst (v := 4) dX12_builds_173 (by decide) ?_
              refine ex_icmp_ne 207 dX12_builds_174 (by decide) (fun h174 => ?_) (fun h174 => ?_)
              · skip
                refine ex_iload_n dX12_builds_207 rfl ?_
                refine ex_iconst (v := 5) dX12_builds_208 (by decide) ?_
                refine ex_icmp_ne 238 dX12_builds_209 (by decide) (fun h209 => ?_) (fun h209 => ?_)
                · skip
                  refine ex_vret dX12_builds_238 rfl ⟨rfl, Nat.le_refl _⟩ ?_
                  exact ⟨rfl, (by simp only [f_X12_builds, ↓h40, ↓h56, ↓eq_false h67, ↓eq_false h94, ↓eq_false h123, ↓eq_false h149, ↓eq_false h174, ↓eq_false h209, if_true, if_false, not_true_eq_false, not_false_eq_true])⟩
                · skip
                  refine ex_iload dX12_builds_212 rfl ?_
                  refine ex_if_eq 238 dX12_builds_214 (by decide) (fun h214 => ?_) (fun h214 => ?_)
                  · exact absurd h214 (by decide)
                  · skip
                    refine ex_aload_n dX12_builds_217 rfl ?_
                    refine ex_iconst (v := 5) dX12_builds_218 (by decide) ?_
                    refine ex_iload_n dX12_builds_219 rfl ?_
                    refine ex_iadd dX12_builds_220 ?_
                    refine ex_iconst (v := 1) dX12_builds_221 (by decide) ?_
                    refine ex_aload_n dX12_builds_222 rfl ?_
                    refine ex_iconst (v := 5) dX12_builds_223 (by decide) ?_
                    refine ex_iload_n dX12_builds_224 rfl ?_
                    refine ex_iadd dX12_builds_225 ?_
                    refine rx_cV (kd := 12) dX12_builds_226 rfl lk_X12_183 rfl (by decide) (by first | assumption | rfl) ⟨⟨rfl, rfl⟩, by decide, by decide⟩ rfl (Nat.le_of_ble_eq_true rfl) rfl (s_v0 (B := 500) (vpa (C := 5) (c := 5) rfl vj (by decide) (by decide)) hb (by decide)) (Rs.k ?_)
                    refine ex_iload dX12_builds_229 rfl ?_
                    refine ex_isub dX12_builds_231 ?_
                    refine rx_cS dX12_builds_232 rfl lk_X12_202 ⟨⟨rfl, rfl⟩, by decide, by decide⟩ rfl (Nat.le_of_ble_eq_true rfl) rfl s_X12_greater (Rs.k ?_)
                    refine rx_cV (kd := 12) dX12_builds_235 rfl lk_X12_160 rfl (by decide) (by first | assumption | rfl) ⟨⟨rfl, rfl⟩, by decide, by decide⟩ rfl (Nat.le_of_ble_eq_true rfl) rfl (s_put0 (B := 500) (vpa (C := 5) (c := 5) rfl vj (by decide) (by decide)) hb (by decide)) (Rv.k ?_)
                    refine ex_vret dX12_builds_238 rfl ⟨rfl, Nat.le_refl _⟩ ?_
                    exact ⟨rfl, (by simp only [f_X12_builds, ↓h40, ↓h56, ↓eq_false h67, ↓eq_false h94, ↓eq_false h123, ↓eq_false h149, ↓eq_false h174, ↓eq_true h209, if_true, if_false, not_true_eq_false, not_false_eq_true])⟩
              · skip
                refine ex_iload dX12_builds_177 rfl ?_
                refine ex_if_eq 207 dX12_builds_179 (by decide) (fun h179 => ?_) (fun h179 => ?_)
                · exact absurd h179 (by decide)
                · skip
                  refine ex_aload_n dX12_builds_182 rfl ?_
                  refine ex_iconst (v := 5) dX12_builds_183 (by decide) ?_
                  refine ex_iload_n dX12_builds_184 rfl ?_
                  refine ex_iadd dX12_builds_185 ?_
                  refine ex_bipush (v := 9) dX12_builds_186 (by decide) ?_
                  refine ex_aload_n dX12_builds_188 rfl ?_
                  refine ex_iconst (v := 5) dX12_builds_189 (by decide) ?_
                  refine ex_iload_n dX12_builds_190 rfl ?_
                  refine ex_iadd dX12_builds_191 ?_
                  refine rx_cV (kd := 12) dX12_builds_192 rfl lk_X12_183 rfl (by decide) (by first | assumption | rfl) ⟨⟨rfl, rfl⟩, by decide, by decide⟩ rfl (Nat.le_of_ble_eq_true rfl) rfl (s_v0 (B := 500) (vpa (C := 5) (c := 5) rfl vj (by decide) (by decide)) hb (by decide)) (Rs.k ?_)
                  refine ex_iload dX12_builds_195 rfl ?_
                  refine ex_iadd dX12_builds_197 ?_
                  refine rx_cS dX12_builds_198 rfl lk_X12_189 ⟨⟨rfl, rfl⟩, by decide, by decide⟩ rfl (Nat.le_of_ble_eq_true rfl) rfl s_X12_lesser (Rs.k ?_)
                  refine rx_cV (kd := 12) dX12_builds_201 rfl lk_X12_160 rfl (by decide) (by first | assumption | rfl) ⟨⟨rfl, rfl⟩, by decide, by decide⟩ rfl (Nat.le_of_ble_eq_true rfl) rfl (s_put0 (B := 500) (vpa (C := 5) (c := 5) rfl vj (by decide) (by decide)) hb (by decide)) (Rv.k ?_)
                  refine ex_goto 238 dX12_builds_204 (by decide) ?_
                  refine ex_vret dX12_builds_238 rfl ⟨rfl, Nat.le_refl _⟩ ?_
                  exact ⟨rfl, (by simp only [f_X12_builds, ↓h40, ↓h56, ↓eq_false h67, ↓eq_false h94, ↓eq_false h123, ↓eq_false h149, ↓eq_true h174, if_true, if_false, not_true_eq_false, not_false_eq_true])⟩
            · skip
              refine ex_aload_n dX12_builds_152 rfl ?_
              refine ex_iconst (v := 2) dX12_builds_153 (by decide) ?_
              refine ex_iconst (v := 0) dX12_builds_154 (by decide) ?_
              refine ex_aload_n dX12_builds_155 rfl ?_
              refine ex_iconst (v := 2) dX12_builds_156 (by decide) ?_
              refine rx_cV (kd := 12) dX12_builds_157 rfl lk_X12_183 rfl (by decide) (by first | assumption | rfl) ⟨⟨rfl, rfl⟩, by decide, by decide⟩ rfl (Nat.le_of_ble_eq_true rfl) rfl (s_v0 (B := 500) (by unfold vp_in; decide) hb (by decide)) (Rs.k ?_)
              refine ex_iload dX12_builds_160 rfl ?_
              refine ex_isub dX12_builds_162 ?_
              refine rx_cS dX12_builds_163 rfl lk_X12_202 ⟨⟨rfl, rfl⟩, by decide, by decide⟩ rfl (Nat.le_of_ble_eq_true rfl) rfl s_X12_greater (Rs.k ?_)
              refine rx_cV (kd := 12) dX12_builds_166 rfl lk_X12_160 rfl (by decide) (by first | assumption | rfl) ⟨⟨rfl, rfl⟩, by decide, by decide⟩ rfl (Nat.le_of_ble_eq_true rfl) rfl (s_put0 (B := 500) (by unfold vp_in; decide) hb (by decide)) (Rv.k ?_)
              refine ex_goto 238 dX12_builds_169 (by decide) ?_
              refine ex_vret dX12_builds_238 rfl ⟨rfl, Nat.le_refl _⟩ ?_
              exact ⟨rfl, (by simp only [f_X12_builds, ↓h40, ↓h56, ↓eq_false h67, ↓eq_false h94, ↓eq_false h123, ↓eq_true h149, if_true, if_false, not_true_eq_false, not_false_eq_true])⟩
          · skip
            refine ex_aload_n dX12_builds_126 rfl ?_
            refine ex_iconst (v := 2) dX12_builds_127 (by decide) ?_
            refine ex_bipush (v := 9) dX12_builds_128 (by decide) ?_
            refine ex_aload_n dX12_builds_130 rfl ?_
            refine ex_iconst (v := 2) dX12_builds_131 (by decide) ?_
            refine rx_cV (kd := 12) dX12_builds_132 rfl lk_X12_183 rfl (by decide) (by first | assumption | rfl) ⟨⟨rfl, rfl⟩, by decide, by decide⟩ rfl (Nat.le_of_ble_eq_true rfl) rfl (s_v0 (B := 500) (by unfold vp_in; decide) hb (by decide)) (Rs.k ?_)
            refine ex_iload dX12_builds_135 rfl ?_
            refine ex_iadd dX12_builds_137 ?_
            refine rx_cS dX12_builds_138 rfl lk_X12_189 ⟨⟨rfl, rfl⟩, by decide, by decide⟩ rfl (Nat.le_of_ble_eq_true rfl) rfl s_X12_lesser (Rs.k ?_)
            refine rx_cV (kd := 12) dX12_builds_141 rfl lk_X12_160 rfl (by decide) (by first | assumption | rfl) ⟨⟨rfl, rfl⟩, by decide, by decide⟩ rfl (Nat.le_of_ble_eq_true rfl) rfl (s_put0 (B := 500) (by unfold vp_in; decide) hb (by decide)) (Rv.k ?_)
            refine ex_goto 238 dX12_builds_144 (by decide) ?_
            refine ex_vret dX12_builds_238 rfl ⟨rfl, Nat.le_refl _⟩ ?_
            exact ⟨rfl, (by simp only [f_X12_builds, ↓h40, ↓h56, ↓eq_false h67, ↓eq_false h94, ↓eq_true h123, if_true, if_false, not_true_eq_false, not_false_eq_true])⟩
        · skip
          refine ex_iload dX12_builds_97 rfl ?_
          refine ex_if_eq 121 dX12_builds_99 (by decide) (fun h99 => ?_) (fun h99 => ?_)
          · exact absurd h99 (by decide)
          · skip
            refine ex_aload_n dX12_builds_102 rfl ?_
            refine ex_iconst (v := 4) dX12_builds_103 (by decide) ?_
            refine ex_aload_n dX12_builds_104 rfl ?_
            refine ex_iconst (v := 4) dX12_builds_105 (by decide) ?_
            refine rx_cV (kd := 12) dX12_builds_106 rfl lk_X12_183 rfl (by decide) (by first | assumption | rfl) ⟨⟨rfl, rfl⟩, by decide, by decide⟩ rfl (Nat.le_of_ble_eq_true rfl) rfl (s_v0 (B := 500) (by unfold vp_in; decide) hb (by decide)) (Rs.k ?_)
            refine ex_iconst (v := 1) dX12_builds_109 (by decide) ?_
            refine ex_iload_n dX12_builds_110 rfl ?_
            refine ex_ishl dX12_builds_111 ?_
            refine ex_iconst (v := (-1)) dX12_builds_112 (by decide) ?_
            refine ex_ixor dX12_builds_113 ?_
            refine ex_iand dX12_builds_114 ?_
            refine rx_cV (kd := 12) dX12_builds_115 rfl lk_X12_160 rfl (by decide) (by first | assumption | rfl) ⟨⟨rfl, rfl⟩, by decide, by decide⟩ rfl (Nat.le_of_ble_eq_true rfl) rfl (s_put0 (B := 500) (by unfold vp_in; decide) hb (by decide)) (Rv.k ?_)
            refine ex_goto 238 dX12_builds_118 (by decide) ?_
            refine ex_vret dX12_builds_238 rfl ⟨rfl, Nat.le_refl _⟩ ?_
            exact ⟨rfl, (by simp only [f_X12_builds, ↓h40, ↓h56, ↓eq_false h67, ↓eq_true h94, if_true, if_false, not_true_eq_false, not_false_eq_true])⟩
      · skip
        refine ex_iload dX12_builds_70 rfl ?_
        refine ex_if_eq 92 dX12_builds_72 (by decide) (fun h72 => ?_) (fun h72 => ?_)
        · exact absurd h72 (by decide)
        · skip
          refine ex_aload_n dX12_builds_75 rfl ?_
          refine ex_iconst (v := 4) dX12_builds_76 (by decide) ?_
          refine ex_aload_n dX12_builds_77 rfl ?_
          refine ex_iconst (v := 4) dX12_builds_78 (by decide) ?_
          refine rx_cV (kd := 12) dX12_builds_79 rfl lk_X12_183 rfl (by decide) (by first | assumption | rfl) ⟨⟨rfl, rfl⟩, by decide, by decide⟩ rfl (Nat.le_of_ble_eq_true rfl) rfl (s_v0 (B := 500) (by unfold vp_in; decide) hb (by decide)) (Rs.k ?_)
          refine ex_iconst (v := 1) dX12_builds_82 (by decide) ?_
          refine ex_iload_n dX12_builds_83 rfl ?_
          refine ex_ishl dX12_builds_84 ?_
          refine ex_ior dX12_builds_85 ?_
          refine rx_cV (kd := 12) dX12_builds_86 rfl lk_X12_160 rfl (by decide) (by first | assumption | rfl) ⟨⟨rfl, rfl⟩, by decide, by decide⟩ rfl (Nat.le_of_ble_eq_true rfl) rfl (s_put0 (B := 500) (by unfold vp_in; decide) hb (by decide)) (Rv.k ?_)
          refine ex_goto 238 dX12_builds_89 (by decide) ?_
          refine ex_vret dX12_builds_238 rfl ⟨rfl, Nat.le_refl _⟩ ?_
          exact ⟨rfl, (by simp only [f_X12_builds, ↓h40, ↓h56, ↓eq_true h67, if_true, if_false, not_true_eq_false, not_false_eq_true])⟩
theorem bd_off {w : Int32} {e : Nat} (h : e ≠ 217) : f_X12_builds I w e = I e := by
  unfold f_X12_builds
  repeat' first | exact rfl | exact up2_off h | refine ite_at ?_ ?_
theorem bd_keep {w : Int32} {p : Nat} (vj : vp_in (I 222 (4 * w + 1).toNatClampNeg) 16) (h2 : p ≠ 2) (h4 : p ≠ 4) (h5 : p < 5 ∨ 21 ≤ p) : f_X12_builds I w 217 (500 + p) = I 217 (500 + p) := by
  have e5 : (5 + I 222 (4 * w + 1).toNatClampNeg).toNatClampNeg = 5 + (I 222 (4 * w + 1).toNatClampNeg).toNatClampNeg := by
    obtain ⟨j1, j2⟩ := vpn vj
    rw [show (5 + I 222 (4 * w + 1).toNatClampNeg).toNatClampNeg = (nI 5 + nI (I 222 (4 * w + 1).toNatClampNeg).toNatClampNeg).toNatClampNeg by rw [← j2]; rfl, nI_add, nI_clamp (by omega)]
  have j1 := (vpn vj).1
  have a4 : 500 + p ≠ 500 + (4 : Int32).toNatClampNeg := by
    show 500 + p ≠ 500 + 4
    omega
  have a2 : 500 + p ≠ 500 + (2 : Int32).toNatClampNeg := by
    show 500 + p ≠ 500 + 2
    omega
  have a5 : 500 + p ≠ 500 + (5 + I 222 (4 * w + 1).toNatClampNeg).toNatClampNeg := by
    rw [e5]
    omega
  unfold f_X12_builds
  repeat' first | exact rfl | exact u2_j a4 | exact u2_j a2 | exact u2_j a5 | refine ite_j ?_ ?_
def qbN (M : Im) (x : Int32) (k : Nat) : Im :=
  match k with
  | 0 => M
  | k + 1 => if b2i (x >>> (nI k &&& 31) &&& 1 = 1) = 0 then qbN M x k else f_X12_builds (qbN M x k) (nI k)
termination_by k
theorem qbN_0 {M : Im} {x : Int32} : qbN M x 0 = M := by rw [qbN]
theorem qbN_s {M : Im} {x : Int32} {k : Nat} : qbN M x (k + 1) = if b2i (x >>> (nI k &&& 31) &&& 1 = 1) = 0 then qbN M x k else f_X12_builds (qbN M x k) (nI k) := by rw [qbN]
theorem qbN_off {M : Im} {x : Int32} {e : Nat} (h : e ≠ 217) : ∀ k, qbN M x k e = M e := by
  intro k
  induction k with
  | zero => rw [qbN_0]
  | succ k ih =>
    rw [qbN_s]
    split
    · exact ih
    · rw [bd_off h, ih]
def WjS (I : Im) : Prop := ∀ q, q < 5 → vp_in (I 222 (4 * q + 1)) 16
theorem wj_v {M : Im} {k : Nat} (h : WjS M) (hk : k < 5) : vp_in (M 222 (4 * nI k + 1).toNatClampNeg) 16 := by
  rw [show (4 * nI k + 1 : Int32) = nI (4 * k + 1) by rw [show (4 : Int32) = nI 4 from rfl, pk_mul, nI_1], nI_clamp (by omega)]
  exact h k hk
theorem qbN_keep {M : Im} {x : Int32} {p : Nat} (hj : WjS M) (h2 : p ≠ 2) (h4 : p ≠ 4) (h5 : p < 5 ∨ 21 ≤ p) : ∀ k, k ≤ 5 → qbN M x k 217 (500 + p) = M 217 (500 + p) := by
  intro k
  induction k with
  | zero => intro _; rw [qbN_0]
  | succ k ih =>
    intro hk
    rw [qbN_s]
    split
    · exact ih (by omega)
    · rw [bd_keep (wj_v (M := qbN M x k) (by unfold WjS; rw [qbN_off (by decide)]; exact hj) (by omega)) h2 h4 h5, ih (by omega)]
def qb0 (I : Im) (q : Nat) : Im := nw (lkI I 4) 500 (wnd (rdw (lkI I 4) 500) 0 21 (fun j => I 208 (21 * q + j)))
def qbM (I : Im) (q : Nat) (x : Int32) : Im := qbN (qb0 I q) x (I 200 37).toNatClampNeg
def qwD (I : Im) (q z : Nat) (x : Int32) : Nat → Int32 := secI (wbN I (cut (rdw (qbM I q x) 500)) z) (I 208 (21 * q)).toNatClampNeg (I 208 (21 * q + 1)).toNatClampNeg (I 210 z).toNatClampNeg 300
def qwI (I : Im) (q z : Nat) (x : Int32) : Im := nw (qbM I q x) 500 (qwD I q z x)
def qwV (I : Im) (q z : Nat) (x : Int32) : Int32 := rgM (qwD I q z x) (wildN (rgM (qwD I q z x)) ((I 208 (21 * q)).toNatClampNeg - 1))
theorem qb0_off {q e : Nat} (h : e ≠ 217) (h2 : e ≠ 200) : qb0 I q e = I e := by
  unfold qb0
  rw [nw_off h, lk_off h2]
theorem qb0_200 {q j : Nat} (h : j ≠ 24) : qb0 I q 200 j = I 200 j := by
  unfold qb0 lkI
  rw [nw_off (by decide), u2_j h]
theorem qb0_b {q : Nat} : qb0 I q 200 24 = nI 500 := by
  unfold qb0
  rw [nw_off (by decide)]
  exact lk_4
theorem qb0_p {q p : Nat} (h : p < 21) : qb0 I q 217 (500 + p) = I 208 (21 * q + p) := by
  unfold qb0
  have e := wnd_in (N := rdw (lkI I 4) 500) (g := fun j => I 208 (21 * q + j)) (o := 0) h
  rw [Nat.zero_add] at e
  rw [nw_in (by omega), e]
theorem qbM_off {q e : Nat} {x : Int32} (h : e ≠ 217) (h2 : e ≠ 200) : qbM I q x e = I e := by
  unfold qbM
  rw [qbN_off h, qb0_off h h2]
theorem qbM_b {q : Nat} {x : Int32} : qbM I q x 200 24 = nI 500 := by
  unfold qbM
  rw [qbN_off (by decide), qb0_b]
theorem qwI_off {q z e : Nat} {x : Int32} (h : e ≠ 217) (h2 : e ≠ 200) : qwI I q z x e = I e := by
  unfold qwI
  rw [nw_off h, qbM_off h h2]
theorem qwI_200 {q z j : Nat} {x : Int32} (h : j ≠ 24) : qwI I q z x 200 j = I 200 j := by
  unfold qwI qbM
  rw [nw_off (by decide), qbN_off (by decide), qb0_200 h]
theorem qw_w {q z : Nat} {x : Int32} (hH : HmS I) (hq : q < 4) (hh : ¬ I 207 q = 0) (hS : SbS I) (hz : z < 4) (hj : WjS I) (hM : WmS I) : WfN (wbN I (cut (rdw (qbM I q x) 500)) z) (I 208 (21 * q)).toNatClampNeg (I 208 (21 * q + 1)).toNatClampNeg (I 210 z).toNatClampNeg := by
  obtain ⟨n, mo, h3, hn, hm, e0, e1⟩ := hH q hq hh
  obtain ⟨m, m4, em, hbt⟩ := hS z hz
  obtain ⟨mm, hmm, emm⟩ := hM
  have hj0 : WjS (qb0 I q) := by unfold WjS; rw [qb0_off (by decide) (by decide)]; exact hj
  have k0 : ∀ p, p < 2 → cut (rdw (qbM I q x) 500) p = I 208 (21 * q + p) := by
    intro p hp
    unfold cut
    rw [if_pos (by omega)]
    show qbM I q x 217 (500 + p) = _
    unfold qbM
    rw [qbN_keep hj0 (by omega) (by omega) (by omega) _ (by rw [emm, nI_clamp (by omega)]; exact hmm), qb0_p (by omega)]
  rw [e0, e1, em, nI_clamp (by omega), nI_clamp (by omega), nI_clamp (by omega)]
  refine ⟨⟨h3, hn⟩, ?_, ⟨hm, ?_⟩, ⟨m4, ?_, fun i hi => ?_⟩, fun s hs h => ?_⟩
  · unfold wbN
    rw [wnd_out (by omega), wnd_out (by omega), upn_n (by omega), k0 0 (by omega)]
    exact e0
  · unfold wbN
    rw [wnd_out (by omega), wnd_out (by omega), upn_n (by omega), k0 1 (by omega)]
    exact e1
  · unfold wbN
    rw [wnd_out (by omega), wnd_out (by omega), upn_s]
    exact em
  · unfold wbN
    rw [wnd_out (by omega), wnd_in (by omega)]
    exact hbt i hi
  · have e := wnd_in (N := wnd (upn (cut (rdw (qbM I q x) 500)) 21 (I 210 z)) 22 8 (fun j => I 211 (8 * z + j))) (g := fun _ => (0 : Int32)) (o := 30) (k := 95) (j := 65 + 10 * s) (by omega)
    unfold wbN at h
    rw [show 95 + 10 * s = 30 + (65 + 10 * s) by omega, e] at h
    exact absurd h (by decide)
set_option maxRecDepth 100000 in
set_option maxHeartbeats 4000000 in
theorem lm_qb {P : Option Value → Mem → Prop} {y z x : Int32} {m : Nat} (h5 : m ≤ 5) (hm : I 200 37 = nI m) (hj : WjS I) (hb : I 200 24 = nI 500) (kont : Ex G mdX12_quietWith 43 [some (.ref 200), some (.int y), some (.int z), some (.int x), some (.int (nI m))] [] (mk (qbN I x m) L t) 0 0 P) : Ex G mdX12_quietWith 13 [some (.ref 200), some (.int y), some (.int z), some (.int x), some (.int (nI 0))] [] (mk (qbN I x 0) L t) 0 0 P := by
  refine loop_up (G := G) (d := mdX12_quietWith) (pc := 13) (st := []) (uc := 0) (us := 0) (P := P) m (fun k => mk (qbN I x k) L t) (fun k => [some (.ref 200), some (.int y), some (.int z), some (.int x), some (.int (nI k))]) ?_ ?_ 0 (Nat.zero_le _)
  · intro k hk ih
    refine ex_iload dX12_quietWith_13 rfl ?_
    refine ex_aload_n dX12_quietWith_15 rfl ?_
    refine g_12_37 dX12_quietWith_16 rfl wf_X12_337 (by first | assumption | rfl) ?_
    rw [qbN_off (by decide), hm]
    refine ex_icmp_ge 43 dX12_quietWith_19 (by decide) (fun h19 => ?_) (fun h19 => ?_)
    · exact absurd h19 (nI_ge hk (by omega))
    · skip
      refine ex_iload_n dX12_quietWith_22 rfl ?_
      refine ex_iload dX12_quietWith_23 rfl ?_
      refine rx_cS dX12_quietWith_25 rfl lk_X12_186 ⟨⟨rfl, rfl⟩, by decide, by decide⟩ rfl (Nat.le_of_ble_eq_true rfl) rfl s_X12_has (Rs.k ?_)
      refine ex_if_eq 37 dX12_quietWith_28 (by decide) (fun h28 => ?_) (fun h28 => ?_)
      · have hc : qbN I x (k + 1) = qbN I x k := qbN_s.trans (if_pos h28)
        refine inc4 (v := _ + 1) dX12_quietWith_37 (by rfl) (by first | exact rfl | exact trivial) ?_
        refine ex_goto 13 dX12_quietWith_40 (by decide) ?_
        rw [nI_1]
        rw [hc] at ih
        exact ih
      · have hc : qbN I x (k + 1) = f_X12_builds (qbN I x k) (nI k) := qbN_s.trans (if_neg h28)
        refine ex_aload_n dX12_quietWith_31 rfl ?_
        refine ex_iload dX12_quietWith_32 rfl ?_
        refine rx_cV (kd := 12) dX12_quietWith_34 rfl lk_X12_340 rfl (by decide) (by first | assumption | rfl) ⟨⟨rfl, rfl⟩, by decide, by decide⟩ rfl (Nat.le_of_ble_eq_true rfl) rfl (s_X12_builds (vp_in_nI (by omega) (by decide)) (wj_v (by unfold WjS; rw [qbN_off (by decide)]; exact hj) (by omega)) (by rw [qbN_off (by decide)]; exact hb)) (Rv.k ?_)
        refine inc4 (v := _ + 1) dX12_quietWith_37 (by rfl) (by first | exact rfl | exact trivial) ?_
        refine ex_goto 13 dX12_quietWith_40 (by decide) ?_
        rw [nI_1]
        rw [hc] at ih
        exact ih
  · skip
    refine ex_iload dX12_quietWith_13 rfl ?_
    refine ex_aload_n dX12_quietWith_15 rfl ?_
    refine g_12_37 dX12_quietWith_16 rfl wf_X12_337 (by first | assumption | rfl) ?_
    rw [qbN_off (by decide), hm]
    refine ex_icmp_ge 43 dX12_quietWith_19 (by decide) (fun h19 => ?_) (fun h19 => ?_)
    · skip
      exact kont
    · exact absurd (Int32.le_refl _) h19
set_option maxRecDepth 100000 in
set_option maxHeartbeats 4000000 in
theorem s_X12_quietWith {y z x : Int32} (vy : vp_in y 4) (vz : vp_in z 4) (hH : HmS I) (hh : ¬ I 207 y.toNatClampNeg = 0) (hS : SbS I) (hj : WjS I) (hM : WmS I) : Ca G mdX12_quietWith [.ref 200, .int y, .int z, .int x] (mk I L t) (Rs (.int (qwV I y.toNatClampNeg z.toNatClampNeg x)) (mk (qwI I y.toNatClampNeg z.toNatClampNeg x) L t)) := by
  refine Ca.intro [some (.ref 200), some (.int y), some (.int z), some (.int x), none] (by decide) (Nat.le_of_ble_eq_true rfl) rfl rfl ?_
  refine ex_aload_n dX12_quietWith_0 rfl ?_
  refine ex_iconst (v := 4) dX12_quietWith_1 (by decide) ?_
  refine rx_cV (kd := 12) dX12_quietWith_2 rfl lk_X12_167 rfl (by decide) (by first | assumption | rfl) ⟨⟨rfl, rfl⟩, by decide, by decide⟩ rfl (Nat.le_of_ble_eq_true rfl) rfl s_X12_look (Rv.k ?_)
  rw [← nw_rd (I := lkI I 4) (B := 500)]
  refine ex_aload_n dX12_quietWith_5 rfl ?_
  refine ex_iload_n dX12_quietWith_6 rfl ?_
  refine rx_cV (kd := 12) dX12_quietWith_7 rfl lk_X12_171 rfl (by decide) (by first | assumption | rfl) ⟨⟨rfl, rfl⟩, by decide, by decide⟩ rfl (Nat.le_of_ble_eq_true rfl) rfl (s_X12_layHarbour vy lk_4 (by decide)) (Rv.k ?_)
  rw [show nw (lkI I 4) 500 (wnd (rdw (lkI I 4) 500) 0 21 (fun j => lkI I 4 208 (21 * y.toNatClampNeg + j))) = (qb0 I y.toNatClampNeg) from rfl]
  refine ex_iconst (v := 0) dX12_quietWith_10 (by decide) ?_
  refine st_i4 dX12_quietWith_11 (by first | exact rfl | exact trivial) ?_
  obtain ⟨m, h5, em⟩ := hM
  have key := lm_qb (G := G) (I := (qb0 I y.toNatClampNeg)) (L := L) (t := t) (y := y) (z := z) (x := x) (P := Rs (.int (qwV I y.toNatClampNeg z.toNatClampNeg x)) (mk (qwI I y.toNatClampNeg z.toNatClampNeg x) L t)) h5 ((qb0_200 (by decide)).trans em) (by unfold WjS; rw [qb0_off (by decide) (by decide)]; exact hj) qb0_b ?_
  · rw [qbN_0] at key
    exact key
  have hM : WmS I := ⟨m, h5, em⟩
  rw [show qbN (qb0 I y.toNatClampNeg) x m = qbM I y.toNatClampNeg x by unfold qbM; rw [em, nI_clamp (by omega)]]
  refine fg4 ?_
  rw [← nw_rd (I := qbM I y.toNatClampNeg x) (B := 500), nw_cut]
  have ew : wbN (qbM I y.toNatClampNeg x) (cut (rdw (qbM I y.toNatClampNeg x) 500)) z.toNatClampNeg = wbN I (cut (rdw (qbM I y.toNatClampNeg x) 500)) z.toNatClampNeg := by
    unfold wbN
    rw [qbM_off (e := 210) (by decide) (by decide), qbM_off (e := 211) (by decide) (by decide)]
  have hw := qw_w (x := x) hH (vpn vy).1 hh hS (vpn vz).1 hj hM
  refine ex_aload_n dX12_quietWith_43 rfl ?_
  refine ex_iload_n dX12_quietWith_44 rfl ?_
  refine rx_cV (kd := 12) dX12_quietWith_45 rfl lk_X12_299 rfl (by decide) (by first | assumption | rfl) ⟨⟨rfl, rfl⟩, by decide, by decide⟩ rfl (Nat.le_of_ble_eq_true rfl) rfl (s_X12_wakesBy (n := (I 208 (21 * y.toNatClampNeg)).toNatClampNeg) (mo := (I 208 (21 * y.toNatClampNeg + 1)).toNatClampNeg) (c := (I 210 z.toNatClampNeg).toNatClampNeg) vz (by rw [ew]; exact hw) qbM_b (by decide)) (Rv.k ?_)
  refine ex_aload_n dX12_quietWith_48 rfl ?_
  refine ex_aload_n dX12_quietWith_49 rfl ?_
  refine rx_cV (kd := 12) dX12_quietWith_50 rfl lk_X12_308 rfl (by decide) (by first | assumption | rfl) ⟨⟨rfl, rfl⟩, by decide, by decide⟩ rfl (Nat.le_of_ble_eq_true rfl) rfl (s_loudG (WfN_i (by rw [ew]; exact hw) 300) qbM_b) (Rs.k ?_)
  refine rx_cV (kd := 12) dX12_quietWith_53 rfl lk_X12_223 rfl (by decide) (by first | assumption | rfl) ⟨⟨rfl, rfl⟩, by decide, by decide⟩ rfl (Nat.le_of_ble_eq_true rfl) rfl (s_rangeG (wl16 (WfN_i (by rw [ew]; exact hw) 300)).1 qbM_b) (Rs.k ?_)
  refine ex_iret dX12_quietWith_56 rfl rfl ⟨rfl, Nat.le_refl _⟩ ?_
  refine ⟨?_, ?_⟩
  · rw [ew, nI_clamp (by have := (wl16 (WfN_i hw 300)).1; omega)]
    rfl
  · rw [ew]
    rfl
end M19
