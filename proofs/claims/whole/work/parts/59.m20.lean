section M20
variable {G : Gp} {I : Im} {L : Nat → Nat → Int64} {t : Nat}
def cmN (I : Im) (x : Int32) (k : Nat) : Int32 :=
  match k with
  | 0 => 0
  | k + 1 => cmN I x k + (if b2i (x >>> (nI k &&& 31) &&& 1 = 1) = 0 then 0 else I 222 (4 * k + 3))
termination_by k
theorem cmN_0 {x : Int32} : cmN I x 0 = 0 := by rw [cmN]
theorem cmN_s {x : Int32} {k : Nat} : cmN I x (k + 1) = cmN I x k + (if b2i (x >>> (nI k &&& 31) &&& 1 = 1) = 0 then 0 else I 222 (4 * k + 3)) := by rw [cmN]
set_option maxRecDepth 100000 in
set_option maxHeartbeats 4000000 in
theorem s_X12_costOf {x : Int32} {m : Nat} (h5 : m ≤ 5) (hm : I 200 37 = nI m) : Ca G mdX12_costOf [.ref 200, .int x] (mk I L t) (Rs (.int (cmN I x m)) (mk I L t)) := by
  refine Ca.intro [some (.ref 200), some (.int x), none, none] (by decide) (Nat.le_of_ble_eq_true rfl) rfl rfl ?_
  refine ex_iconst (v := 0) dX12_costOf_0 (by decide) ?_
  refine st_i2 dX12_costOf_1 (by first | exact rfl | exact trivial) ?_
  refine ex_iconst (v := 0) dX12_costOf_2 (by decide) ?_
  refine st_i3 dX12_costOf_3 (by first | exact rfl | exact trivial) ?_
  have key := loop_up (G := G) (d := mdX12_costOf) (pc := 4) (st := []) (uc := 0) (us := 0) (P := Rs (.int (cmN I x m)) (mk I L t)) m (fun k => mk I L t) (fun k => [some (.ref 200), some (.int x), some (.int (cmN I x k)), some (.int (nI k))]) ?_ ?_ 0 (Nat.zero_le _)
  · rw [cmN_0] at key
    exact key
  · intro k hk ih
    refine ex_iload_n dX12_costOf_4 rfl ?_
    refine ex_aload_n dX12_costOf_5 rfl ?_
    refine g_12_37 dX12_costOf_6 rfl wf_X12_337 (by first | assumption | rfl) ?_
    rw [hm]
    refine ex_icmp_ge 43 dX12_costOf_9 (by decide) (fun h9 => ?_) (fun h9 => ?_)
    · exact absurd h9 (nI_ge hk (by omega))
    · skip
      refine ex_iload_n dX12_costOf_12 rfl ?_
      refine ex_iload_n dX12_costOf_13 rfl ?_
      refine ex_iload_n dX12_costOf_14 rfl ?_
      refine rx_cS dX12_costOf_15 rfl lk_X12_186 ⟨⟨rfl, rfl⟩, by decide, by decide⟩ rfl (Nat.le_of_ble_eq_true rfl) rfl s_X12_has (Rs.k ?_)
      refine ex_if_eq 34 dX12_costOf_18 (by decide) (fun h18 => ?_) (fun h18 => ?_)
      · have hc : cmN I x (k + 1) = cmN I x k + 0 := by rw [cmN_s, if_pos h18]
        refine ex_iconst (v := 0) dX12_costOf_34 (by decide) ?_
        refine ex_iadd dX12_costOf_35 ?_
        refine st_i2 dX12_costOf_36 (by first | exact rfl | exact trivial) ?_
        refine inc3 (v := _ + 1) dX12_costOf_37 (by rfl) (by first | exact rfl | exact trivial) ?_
        refine ex_goto 4 dX12_costOf_40 (by decide) ?_
        rw [nI_1]
        rw [hc] at ih
        exact ih
      · have hc : cmN I x (k + 1) = cmN I x k + I 222 (4 * k + 3) := by rw [cmN_s, if_neg h18]
        refine ex_aload_n dX12_costOf_21 rfl ?_
        refine g_12_38 dX12_costOf_22 rfl wf_X12_75 (by first | assumption | rfl) (show Rt _ 200 38 = some 222 from rfl) ?_
        refine ex_iconst (v := 4) dX12_costOf_25 (by decide) ?_
        refine ex_iload_n dX12_costOf_26 rfl ?_
        refine ex_imul dX12_costOf_27 ?_
        refine ex_iconst (v := 3) dX12_costOf_28 (by decide) ?_
        refine ex_iadd dX12_costOf_29 ?_
        refine rx_iald dX12_costOf_30 (by first | assumption | rfl) (ixm (c := 4) (C := 4) (R := 5) rfl (vp_in_nI (show k < 5 by omega) (by decide)) (i := 3) (by unfold vp_in; decide) (by decide)).1 ?_
        rw [(ixm (c := 4) (C := 4) (R := 5) rfl (vp_in_nI (show k < 5 by omega) (by decide)) (i := 3) (by unfold vp_in; decide) (by decide)).2, nI_clamp (show k < 2 ^ 31 by omega), show (3 : Int32).toNatClampNeg = 3 from rfl]
        refine ex_goto 35 dX12_costOf_31 (by decide) ?_
        refine ex_iadd dX12_costOf_35 ?_
        refine st_i2 dX12_costOf_36 (by first | exact rfl | exact trivial) ?_
        refine inc3 (v := _ + 1) dX12_costOf_37 (by rfl) (by first | exact rfl | exact trivial) ?_
        refine ex_goto 4 dX12_costOf_40 (by decide) ?_
        rw [nI_1]
        rw [hc] at ih
        exact ih
  · skip
    refine ex_iload_n dX12_costOf_4 rfl ?_
    refine ex_aload_n dX12_costOf_5 rfl ?_
    refine g_12_37 dX12_costOf_6 rfl wf_X12_337 (by first | assumption | rfl) ?_
    rw [hm]
    refine ex_icmp_ge 43 dX12_costOf_9 (by decide) (fun h9 => ?_) (fun h9 => ?_)
    · skip
      refine ex_iload_n dX12_costOf_43 rfl ?_
      refine ex_iret dX12_costOf_44 rfl rfl ⟨rfl, Nat.le_refl _⟩ ?_
      exact ⟨rfl, rfl⟩
    · exact absurd (Int32.le_refl _) h9
theorem s_cmG {x : Int32} (hM : WmS I) : Ca G mdX12_costOf [.ref 200, .int x] (mk I L t) (Rs (.int (cmN I x (I 200 37).toNatClampNeg)) (mk I L t)) := by
  obtain ⟨m, h5, e⟩ := hM
  rw [e, nI_clamp (by omega)]
  exact s_X12_costOf h5 e
theorem qwI_M {q z : Nat} {x : Int32} (h : WmS I) : WmS (qwI I q z x) := by
  unfold WmS
  rw [qwI_200 (by decide)]
  exact h
theorem WjS_of {J : Im} (h2 : J 222 = I 222) (h : WjS I) : WjS J := by
  unfold WjS
  rw [h2]
  exact h
def f_X12_does (I : Im) (k : Int32) (z : Int32) (x : Int32) : Int32 × Im :=
  if (b2i (0 ≤ x ∧ x ≤ ((1 <<< ((I 200 37) &&& 31)) - 1))) = 0 then
    ((-1), I)
  else
    let I1 : Im := (f_X12_needWoken I k z).2
    if 0 ≤ ((f_X12_needWoken I k z).1) then
      let I2 : Im := qwI I1 k.toNatClampNeg z.toNatClampNeg x
      let I3 : Im := up2 I2 200 2 (cmN I1 x (I1 200 37).toNatClampNeg)
      ((qwV I1 k.toNatClampNeg z.toNatClampNeg x), I3)
    else
      ((f_X12_needWoken I k z).1, I1)
set_option maxRecDepth 100000 in
set_option maxHeartbeats 4000000 in
theorem s_X12_does  {k : Int32} {z : Int32} {x : Int32} (hH : HmS I) (hS : SbS I) (hj : WjS I) (hM : WmS I) : Ca G mdX12_does [.ref 200, .int k, .int z, .int x] (mk I L t) (Rs (.int (f_X12_does I k z x).1) (mk ((f_X12_does I k z x).2) L t)) := by
  refine Ca.intro [some (.ref 200), some (.int k), some (.int z), some (.int x), none] (by decide) (Nat.le_of_ble_eq_true rfl) rfl rfl ?_
  refine ex_iload_n dX12_does_0 rfl ?_
  refine ex_iconst (v := 0) dX12_does_1 (by decide) ?_
  refine ex_iconst (v := 1) dX12_does_2 (by decide) ?_
  refine ex_aload_n dX12_does_3 rfl ?_
  refine g_12_37 dX12_does_4 rfl wf_X12_337 (by first | assumption | rfl) ?_
  refine ex_ishl dX12_does_7 ?_
  refine ex_iconst (v := 1) dX12_does_8 (by decide) ?_
  refine ex_isub dX12_does_9 ?_
  refine rx_cS dX12_does_10 rfl lk_X12_86 ⟨⟨rfl, rfl⟩, by decide, by decide⟩ rfl (Nat.le_of_ble_eq_true rfl) rfl s_X12_in (Rs.k ?_)
  refine ex_if_ne 18 dX12_does_13 (by decide) (fun h13 => ?_) (fun h13 => ?_)
  · skip
    refine ex_aload_n dX12_does_18 rfl ?_
    refine ex_iload_n dX12_does_19 rfl ?_
    refine ex_iload_n dX12_does_20 rfl ?_
    refine rx_cV (kd := 12) dX12_does_21 rfl lk_X12_302 rfl (by decide) (by first | assumption | rfl) ⟨⟨rfl, rfl⟩, by decide, by decide⟩ rfl (Nat.le_of_ble_eq_true rfl) rfl s_X12_needWoken (Rs.k ?_)
    refine st_i4 dX12_does_24 (by first | exact rfl | exact trivial) ?_
    refine ex_iload dX12_does_26 rfl ?_
    refine ex_if_ge 36 dX12_does_28 (by decide) (fun h28 => ?_) (fun h28 => ?_)
    · obtain ⟨hJ, vk, vz, g1, g2⟩ := nwk0 h28
      have hH' : HmS (f_X12_needWoken I k z).2 := hJ.symm ▸ hH
      have hS' : SbS (f_X12_needWoken I k z).2 := hJ.symm ▸ hS
      have hj' : WjS (f_X12_needWoken I k z).2 := hJ.symm ▸ hj
      have hM' : WmS (f_X12_needWoken I k z).2 := hJ.symm ▸ hM
      have g1' : ¬ (f_X12_needWoken I k z).2 207 k.toNatClampNeg = 0 := by rw [hJ]; exact g1
      refine ex_aload_n dX12_does_36 rfl ?_
      refine ex_aload_n dX12_does_37 rfl ?_
      refine ex_iload_n dX12_does_38 rfl ?_
      refine rx_cV (kd := 12) dX12_does_39 rfl lk_X12_343 rfl (by decide) (by first | assumption | rfl) ⟨⟨rfl, rfl⟩, by decide, by decide⟩ rfl (Nat.le_of_ble_eq_true rfl) rfl (s_cmG hM') (Rs.k ?_)
      refine ex_aload_n dX12_does_42 rfl ?_
      refine ex_iload_n dX12_does_43 rfl ?_
      refine ex_iload_n dX12_does_44 rfl ?_
      refine ex_iload_n dX12_does_45 rfl ?_
      refine rx_cV (kd := 12) dX12_does_46 rfl lk_X12_346 rfl (by decide) (by first | assumption | rfl) ⟨⟨rfl, rfl⟩, by decide, by decide⟩ rfl (Nat.le_of_ble_eq_true rfl) rfl (s_X12_quietWith vk vz hH' g1' hS' hj' hM') (Rs.k ?_)
      refine rx_cV (kd := 12) dX12_does_49 rfl lk_X12_108 rfl (by decide) (by first | assumption | rfl) ⟨⟨rfl, rfl⟩, by decide, by decide⟩ rfl (Nat.le_of_ble_eq_true rfl) rfl s_X12_tells (Rs.k ?_)
      refine ex_iret dX12_does_52 rfl rfl ⟨rfl, Nat.le_refl _⟩ ?_
      exact ⟨(by simp only [f_X12_does, ↓eq_false h13, ↓h28, if_true, if_false, not_true_eq_false, not_false_eq_true]), (by simp only [f_X12_does, ↓eq_false h13, ↓h28, if_true, if_false, not_true_eq_false, not_false_eq_true])⟩
    · skip
      refine ex_iload dX12_does_31 rfl ?_
      refine ex_goto 52 dX12_does_33 (by decide) ?_
      refine ex_iret dX12_does_52 rfl rfl ⟨rfl, Nat.le_refl _⟩ ?_
      exact ⟨(by simp only [f_X12_does, ↓eq_false h13, ↓h28, if_true, if_false, not_true_eq_false, not_false_eq_true]), (by simp only [f_X12_does, ↓eq_false h13, ↓h28, if_true, if_false, not_true_eq_false, not_false_eq_true])⟩
  · skip
    refine ex_iconst (v := (-1)) dX12_does_16 (by decide) ?_
    refine ex_iret dX12_does_17 rfl rfl ⟨rfl, Nat.le_refl _⟩ ?_
    exact ⟨(by simp only [f_X12_does, ↓eq_true h13, if_true, if_false, not_true_eq_false, not_false_eq_true]), (by simp only [f_X12_does, ↓eq_true h13, if_true, if_false, not_true_eq_false, not_false_eq_true])⟩
def wsM (I : Im) (q z : Nat) (w : Int32) (k : Nat) : Int32 × Int32 × Im :=
  match k with
  | 0 => (0, 0, I)
  | k + 1 => ((wsM I q z w k).1 ||| (if w < (qwV (wsM I q z w k).2.2 q z (1 <<< (nI k &&& 31))) then (1 <<< (nI k &&& 31)) else 0), (wsM I q z w k).2.1 ||| (if (qwV (wsM I q z w k).2.2 q z (1 <<< (nI k &&& 31))) < w then (1 <<< (nI k &&& 31)) else 0), qwI (wsM I q z w k).2.2 q z (1 <<< (nI k &&& 31)))
termination_by k
theorem wsM_0 {q z : Nat} {w : Int32} : wsM I q z w 0 = (0, 0, I) := by rw [wsM]
theorem wsM_s {q z k : Nat} {w : Int32} : wsM I q z w (k + 1) = ((wsM I q z w k).1 ||| (if w < (qwV (wsM I q z w k).2.2 q z (1 <<< (nI k &&& 31))) then (1 <<< (nI k &&& 31)) else 0), (wsM I q z w k).2.1 ||| (if (qwV (wsM I q z w k).2.2 q z (1 <<< (nI k &&& 31))) < w then (1 <<< (nI k &&& 31)) else 0), qwI (wsM I q z w k).2.2 q z (1 <<< (nI k &&& 31))) := by rw [wsM]
theorem wsM_off {q z e : Nat} {w : Int32} (h : e ≠ 217) (h2 : e ≠ 200) : ∀ k, (wsM I q z w k).2.2 e = I e := by
  intro k
  induction k with
  | zero => rw [wsM_0]
  | succ k ih => rw [wsM_s]; exact (qwI_off h h2).trans ih
theorem wsM_200 {q z j : Nat} {w : Int32} (h : j ≠ 24) : ∀ k, (wsM I q z w k).2.2 200 j = I 200 j := by
  intro k
  induction k with
  | zero => rw [wsM_0]
  | succ k ih => rw [wsM_s]; exact (qwI_200 (z := z) h).trans ih
set_option maxRecDepth 100000 in
set_option maxHeartbeats 4000000 in
theorem lm_wse {P : Option Value → Mem → Prop} {y z v w : Int32} (vy : vp_in y 4) (vz : vp_in z 4) (hH : HmS I) (hS : SbS I) (hj : WjS I) (hh : ¬ I 207 y.toNatClampNeg = 0) {m : Nat} (h5 : m ≤ 5) (hm : I 200 37 = nI m) (kont : Ex G mdX12_worse 98 [some (.ref 200), some (.int y), some (.int z), some (.int v), some (.int w), some (.int (wsM I y.toNatClampNeg z.toNatClampNeg w m).1), some (.int (wsM I y.toNatClampNeg z.toNatClampNeg w m).2.1), some (.int (nI m)), none] [] (mk (wsM I y.toNatClampNeg z.toNatClampNeg w m).2.2 L t) 0 0 P) : Ex G mdX12_worse 31 [some (.ref 200), some (.int y), some (.int z), some (.int v), some (.int w), some (.int (wsM I y.toNatClampNeg z.toNatClampNeg w 0).1), some (.int (wsM I y.toNatClampNeg z.toNatClampNeg w 0).2.1), some (.int (nI 0)), none] [] (mk (wsM I y.toNatClampNeg z.toNatClampNeg w 0).2.2 L t) 0 0 P := by
  refine loop_up (G := G) (d := mdX12_worse) (pc := 31) (st := []) (uc := 0) (us := 0) (P := P) m (fun k => mk (wsM I y.toNatClampNeg z.toNatClampNeg w k).2.2 L t) (fun k => [some (.ref 200), some (.int y), some (.int z), some (.int v), some (.int w), some (.int (wsM I y.toNatClampNeg z.toNatClampNeg w k).1), some (.int (wsM I y.toNatClampNeg z.toNatClampNeg w k).2.1), some (.int (nI k)), none]) ?_ ?_ 0 (Nat.zero_le _)
  · intro k hk ih
    have hHk : HmS (wsM I y.toNatClampNeg z.toNatClampNeg w k).2.2 := HmS_of (wsM_off (by decide) (by decide) k) (wsM_off (by decide) (by decide) k) hH
    have hSk : SbS (wsM I y.toNatClampNeg z.toNatClampNeg w k).2.2 := SbS_of (wsM_off (by decide) (by decide) k) (wsM_off (by decide) (by decide) k) hS
    have hjk : WjS (wsM I y.toNatClampNeg z.toNatClampNeg w k).2.2 := WjS_of (wsM_off (by decide) (by decide) k) hj
    have gk : ¬ (wsM I y.toNatClampNeg z.toNatClampNeg w k).2.2 207 y.toNatClampNeg = 0 := by rw [wsM_off (by decide) (by decide) k]; exact hh
    have emk : (wsM I y.toNatClampNeg z.toNatClampNeg w k).2.2 200 37 = nI m := by rw [wsM_200 (by decide) k]; exact hm
    have hMk : WmS (wsM I y.toNatClampNeg z.toNatClampNeg w k).2.2 := ⟨m, h5, emk⟩
    refine ex_iload dX12_worse_31 rfl ?_
    refine ex_aload_n dX12_worse_33 rfl ?_
    refine g_12_37 dX12_worse_34 rfl wf_X12_337 (by first | assumption | rfl) ?_
    rw [emk]
    refine ex_icmp_ge 98 dX12_worse_37 (by decide) (fun h37 => ?_) (fun h37 => ?_)
    · exact absurd h37 (nI_ge hk (by omega))
    · skip
      refine ex_aload_n dX12_worse_40 rfl ?_
      refine ex_iload_n dX12_worse_41 rfl ?_
      refine ex_iload_n dX12_worse_42 rfl ?_
      refine ex_iconst (v := 1) dX12_worse_43 (by decide) ?_
      refine ex_iload dX12_worse_44 rfl ?_
      refine ex_ishl dX12_worse_46 ?_
      refine rx_cV (kd := 12) dX12_worse_47 rfl lk_X12_346 rfl (by decide) (by first | assumption | rfl) ⟨⟨rfl, rfl⟩, by decide, by decide⟩ rfl (Nat.le_of_ble_eq_true rfl) rfl (s_X12_quietWith vy vz hHk gk hSk hjk hMk) (Rs.k ?_)
      refine st_i8 dX12_worse_50 (by first | exact rfl | exact trivial) ?_
      refine ex_iload dX12_worse_52 rfl ?_
      refine ex_iload dX12_worse_54 rfl ?_
      refine ex_iload dX12_worse_56 rfl ?_
      refine ex_icmp_le 68 dX12_worse_58 (by decide) (fun h58 => ?_) (fun h58 => ?_)
      · have a1 : (if w < (qwV (wsM I y.toNatClampNeg z.toNatClampNeg w k).2.2 y.toNatClampNeg z.toNatClampNeg (1 <<< (nI k &&& 31))) then ((1 <<< (nI k &&& 31)) : Int32) else 0) = 0 := if_neg (Int32.not_lt.mpr h58)
        refine ex_iconst (v := 0) dX12_worse_68 (by decide) ?_
        refine ex_ior dX12_worse_69 ?_
        refine st_i5 dX12_worse_70 (by first | exact rfl | exact trivial) ?_
        refine ex_iload dX12_worse_72 rfl ?_
        refine ex_iload dX12_worse_74 rfl ?_
        refine ex_iload dX12_worse_76 rfl ?_
        refine ex_icmp_ge 88 dX12_worse_78 (by decide) (fun h78 => ?_) (fun h78 => ?_)
        · have a2 : (if (qwV (wsM I y.toNatClampNeg z.toNatClampNeg w k).2.2 y.toNatClampNeg z.toNatClampNeg (1 <<< (nI k &&& 31))) < w then ((1 <<< (nI k &&& 31)) : Int32) else 0) = 0 := if_neg (Int32.not_lt.mpr h78)
          refine ex_iconst (v := 0) dX12_worse_88 (by decide) ?_
          refine ex_ior dX12_worse_89 ?_
          refine st_i6 dX12_worse_90 (by first | exact rfl | exact trivial) ?_
          refine inc7 (v := _ + 1) dX12_worse_92 (by rfl) (by first | exact rfl | exact trivial) ?_
          refine ex_goto 31 dX12_worse_95 (by decide) ?_
          refine fg8 ?_
          rw [nI_1]
          rw [wsM_s, a1, a2] at ih
          exact ih
        · have a2 : (if (qwV (wsM I y.toNatClampNeg z.toNatClampNeg w k).2.2 y.toNatClampNeg z.toNatClampNeg (1 <<< (nI k &&& 31))) < w then ((1 <<< (nI k &&& 31)) : Int32) else 0) = (1 <<< (nI k &&& 31)) := if_pos (Int32.not_le.mp h78)
          refine ex_iconst (v := 1) dX12_worse_81 (by decide) ?_
          refine ex_iload dX12_worse_82 rfl ?_
          refine ex_ishl dX12_worse_84 ?_
          refine ex_goto 89 dX12_worse_85 (by decide) ?_
          refine ex_ior dX12_worse_89 ?_
          refine st_i6 dX12_worse_90 (by first | exact rfl | exact trivial) ?_
          refine inc7 (v := _ + 1) dX12_worse_92 (by rfl) (by first | exact rfl | exact trivial) ?_
          refine ex_goto 31 dX12_worse_95 (by decide) ?_
          refine fg8 ?_
          rw [nI_1]
          rw [wsM_s, a1, a2] at ih
          exact ih
      · have a1 : (if w < (qwV (wsM I y.toNatClampNeg z.toNatClampNeg w k).2.2 y.toNatClampNeg z.toNatClampNeg (1 <<< (nI k &&& 31))) then ((1 <<< (nI k &&& 31)) : Int32) else 0) = (1 <<< (nI k &&& 31)) := if_pos (Int32.not_le.mp h58)
        refine ex_iconst (v := 1) dX12_worse_61 (by decide) ?_
        refine ex_iload dX12_worse_62 rfl ?_
        refine ex_ishl dX12_worse_64 ?_
        refine ex_goto 69 dX12_worse_65 (by decide) ?_
        refine ex_ior dX12_worse_69 ?_
        refine st_i5 dX12_worse_70 (by first | exact rfl | exact trivial) ?_
        refine ex_iload dX12_worse_72 rfl ?_
        refine ex_iload dX12_worse_74 rfl ?_
        refine ex_iload dX12_worse_76 rfl ?_
        refine ex_icmp_ge 88 dX12_worse_78 (by decide) (fun h78 => ?_) (fun h78 => ?_)
        · have a2 : (if (qwV (wsM I y.toNatClampNeg z.toNatClampNeg w k).2.2 y.toNatClampNeg z.toNatClampNeg (1 <<< (nI k &&& 31))) < w then ((1 <<< (nI k &&& 31)) : Int32) else 0) = 0 := if_neg (Int32.not_lt.mpr h78)
          refine ex_iconst (v := 0) dX12_worse_88 (by decide) ?_
          refine ex_ior dX12_worse_89 ?_
          refine st_i6 dX12_worse_90 (by first | exact rfl | exact trivial) ?_
          refine inc7 (v := _ + 1) dX12_worse_92 (by rfl) (by first | exact rfl | exact trivial) ?_
          refine ex_goto 31 dX12_worse_95 (by decide) ?_
          refine fg8 ?_
          rw [nI_1]
          rw [wsM_s, a1, a2] at ih
          exact ih
        · have a2 : (if (qwV (wsM I y.toNatClampNeg z.toNatClampNeg w k).2.2 y.toNatClampNeg z.toNatClampNeg (1 <<< (nI k &&& 31))) < w then ((1 <<< (nI k &&& 31)) : Int32) else 0) = (1 <<< (nI k &&& 31)) := if_pos (Int32.not_le.mp h78)
          refine ex_iconst (v := 1) dX12_worse_81 (by decide) ?_
          refine ex_iload dX12_worse_82 rfl ?_
          refine ex_ishl dX12_worse_84 ?_
          refine ex_goto 89 dX12_worse_85 (by decide) ?_
          refine ex_ior dX12_worse_89 ?_
          refine st_i6 dX12_worse_90 (by first | exact rfl | exact trivial) ?_
          refine inc7 (v := _ + 1) dX12_worse_92 (by rfl) (by first | exact rfl | exact trivial) ?_
          refine ex_goto 31 dX12_worse_95 (by decide) ?_
          refine fg8 ?_
          rw [nI_1]
          rw [wsM_s, a1, a2] at ih
          exact ih
  · skip
    refine ex_iload dX12_worse_31 rfl ?_
    refine ex_aload_n dX12_worse_33 rfl ?_
    refine g_12_37 dX12_worse_34 rfl wf_X12_337 (by first | assumption | rfl) ?_
    rw [wsM_200 (by decide) m, hm]
    refine ex_icmp_ge 98 dX12_worse_37 (by decide) (fun h37 => ?_) (fun h37 => ?_)
    · skip
      exact kont
    · exact absurd (Int32.le_refl _) h37
theorem lm_wse0 {P : Option Value → Mem → Prop} {y z v w : Int32} (vy : vp_in y 4) (vz : vp_in z 4) (hH : HmS I) (hS : SbS I) (hj : WjS I) (hh : ¬ I 207 y.toNatClampNeg = 0) (hM : WmS I) (kont : Ex G mdX12_worse 98 [some (.ref 200), some (.int y), some (.int z), some (.int v), some (.int w), some (.int (wsM I y.toNatClampNeg z.toNatClampNeg w (I 200 37).toNatClampNeg).1), some (.int (wsM I y.toNatClampNeg z.toNatClampNeg w (I 200 37).toNatClampNeg).2.1), none, none] [] (mk (wsM I y.toNatClampNeg z.toNatClampNeg w (I 200 37).toNatClampNeg).2.2 L t) 0 0 P) : Ex G mdX12_worse 31 [some (.ref 200), some (.int y), some (.int z), some (.int v), some (.int w), some (.int 0), some (.int 0), some (.int 0), none] [] (mk I L t) 0 0 P := by
  obtain ⟨m, h5, e⟩ := hM
  rw [e, nI_clamp (by omega)] at kont
  have h := lm_wse (G := G) (I := I) (L := L) (v := v) (w := w) vy vz hH hS hj hh h5 e (P := P) (fg7 kont)
  rw [wsM_0] at h
  exact h
def f_X12_worse (I : Im) (k : Int32) (z : Int32) : Int32 × Im :=
  let I1 : Im := (f_X12_needWoken I k z).2
  if 0 ≤ ((f_X12_needWoken I k z).1) then
    let I2 : Im := qwI I1 k.toNatClampNeg z.toNatClampNeg 0
    let I3 : Im := (wsM I2 k.toNatClampNeg z.toNatClampNeg (qwV I1 k.toNatClampNeg z.toNatClampNeg 0) (I2 200 37).toNatClampNeg).2.2
    let I4 : Im := up2 I3 200 2 ((wsM I2 k.toNatClampNeg z.toNatClampNeg (qwV I1 k.toNatClampNeg z.toNatClampNeg 0) (I2 200 37).toNatClampNeg).2.1)
    (((wsM I2 k.toNatClampNeg z.toNatClampNeg (qwV I1 k.toNatClampNeg z.toNatClampNeg 0) (I2 200 37).toNatClampNeg).1), I4)
  else
    ((f_X12_needWoken I k z).1, I1)
set_option maxRecDepth 100000 in
set_option maxHeartbeats 4000000 in
theorem s_X12_worse  {k : Int32} {z : Int32} (hH : HmS I) (hS : SbS I) (hj : WjS I) (hM : WmS I) : Ca G mdX12_worse [.ref 200, .int k, .int z] (mk I L t) (Rs (.int (f_X12_worse I k z).1) (mk ((f_X12_worse I k z).2) L t)) := by
  refine Ca.intro [some (.ref 200), some (.int k), some (.int z), none, none, none, none, none, none] (by decide) (Nat.le_of_ble_eq_true rfl) rfl rfl ?_
  refine ex_aload_n dX12_worse_0 rfl ?_
  refine ex_iload_n dX12_worse_1 rfl ?_
  refine ex_iload_n dX12_worse_2 rfl ?_
  refine rx_cV (kd := 12) dX12_worse_3 rfl lk_X12_302 rfl (by decide) (by first | assumption | rfl) ⟨⟨rfl, rfl⟩, by decide, by decide⟩ rfl (Nat.le_of_ble_eq_true rfl) rfl s_X12_needWoken (Rs.k ?_)
  refine st_i3 dX12_worse_6 (by first | exact rfl | exact trivial) ?_
  refine ex_iload_n dX12_worse_7 rfl ?_
  refine ex_if_ge 13 dX12_worse_8 (by decide) (fun h8 => ?_) (fun h8 => ?_)
  · obtain ⟨hJ, vk, vz, g1, g2⟩ := nwk0 h8
    have hH' : HmS (f_X12_needWoken I k z).2 := hJ.symm ▸ hH
    have hS' : SbS (f_X12_needWoken I k z).2 := hJ.symm ▸ hS
    have hj' : WjS (f_X12_needWoken I k z).2 := hJ.symm ▸ hj
    have hM' : WmS (f_X12_needWoken I k z).2 := hJ.symm ▸ hM
    have g1' : ¬ (f_X12_needWoken I k z).2 207 k.toNatClampNeg = 0 := by rw [hJ]; exact g1
    refine ex_aload_n dX12_worse_13 rfl ?_
    refine ex_iload_n dX12_worse_14 rfl ?_
    refine ex_iload_n dX12_worse_15 rfl ?_
    refine ex_iconst (v := 0) dX12_worse_16 (by decide) ?_
    refine rx_cV (kd := 12) dX12_worse_17 rfl lk_X12_346 rfl (by decide) (by first | assumption | rfl) ⟨⟨rfl, rfl⟩, by decide, by decide⟩ rfl (Nat.le_of_ble_eq_true rfl) rfl (s_X12_quietWith vk vz hH' g1' hS' hj' hM') (Rs.k ?_)
    refine st_i4 dX12_worse_20 (by first | exact rfl | exact trivial) ?_
    refine ex_iconst (v := 0) dX12_worse_22 (by decide) ?_
    refine st_i5 dX12_worse_23 (by first | exact rfl | exact trivial) ?_
    refine ex_iconst (v := 0) dX12_worse_25 (by decide) ?_
    refine st_i6 dX12_worse_26 (by first | exact rfl | exact trivial) ?_
    refine ex_iconst (v := 0) dX12_worse_28 (by decide) ?_
    refine st_i7 dX12_worse_29 (by first | exact rfl | exact trivial) ?_
    refine (lm_wse0 vk vz (HmS_of (qwI_off (by decide) (by decide)) (qwI_off (by decide) (by decide)) hH') (SbS_of (qwI_off (by decide) (by decide)) (qwI_off (by decide) (by decide)) hS') (WjS_of (qwI_off (by decide) (by decide)) hj') (by rw [qwI_off (by decide) (by decide)]; exact g1') (qwI_M hM')) ?_
    refine ex_aload_n dX12_worse_98 rfl ?_
    refine ex_iload dX12_worse_99 rfl ?_
    refine ex_iload dX12_worse_101 rfl ?_
    refine rx_cV (kd := 12) dX12_worse_103 rfl lk_X12_108 rfl (by decide) (by first | assumption | rfl) ⟨⟨rfl, rfl⟩, by decide, by decide⟩ rfl (Nat.le_of_ble_eq_true rfl) rfl s_X12_tells (Rs.k ?_)
    refine ex_iret dX12_worse_106 rfl rfl ⟨rfl, Nat.le_refl _⟩ ?_
    exact ⟨(by simp only [f_X12_worse, ↓h8, if_true, if_false, not_true_eq_false, not_false_eq_true]), (by simp only [f_X12_worse, ↓h8, if_true, if_false, not_true_eq_false, not_false_eq_true])⟩
  · skip
    refine ex_iload_n dX12_worse_11 rfl ?_
    refine ex_iret dX12_worse_12 rfl rfl ⟨rfl, Nat.le_refl _⟩ ?_
    exact ⟨(by simp only [f_X12_worse, ↓h8, if_true, if_false, not_true_eq_false, not_false_eq_true]), (by simp only [f_X12_worse, ↓h8, if_true, if_false, not_true_eq_false, not_false_eq_true])⟩
def lsM (I : Im) (q z : Nat) (c : Int32) (m k : Nat) : Int32 × Int32 × Im :=
  match k with
  | 0 => (-9, 0, I)
  | k + 1 => if c < (cmN (lsM I q z c m k).2.2 (nI k) m) then (lsM I q z c m k) else if (lsM I q z c m k).1 = -9 ∨ (qwV (lsM I q z c m k).2.2 q z (nI k)) < (lsM I q z c m k).2.1 ∨ ((qwV (lsM I q z c m k).2.2 q z (nI k)) = (lsM I q z c m k).2.1 ∧ cmN (qwI (lsM I q z c m k).2.2 q z (nI k)) (nI k) m < cmN (qwI (lsM I q z c m k).2.2 q z (nI k)) (lsM I q z c m k).1 m) then (nI k, (qwV (lsM I q z c m k).2.2 q z (nI k)), (qwI (lsM I q z c m k).2.2 q z (nI k))) else ((lsM I q z c m k).1, (lsM I q z c m k).2.1, (qwI (lsM I q z c m k).2.2 q z (nI k)))
termination_by k
theorem lsM_0 {q z m : Nat} {c : Int32} : lsM I q z c m 0 = (-9, 0, I) := by rw [lsM]
theorem lsM_s {q z m k : Nat} {c : Int32} : lsM I q z c m (k + 1) = if c < (cmN (lsM I q z c m k).2.2 (nI k) m) then (lsM I q z c m k) else if (lsM I q z c m k).1 = -9 ∨ (qwV (lsM I q z c m k).2.2 q z (nI k)) < (lsM I q z c m k).2.1 ∨ ((qwV (lsM I q z c m k).2.2 q z (nI k)) = (lsM I q z c m k).2.1 ∧ cmN (qwI (lsM I q z c m k).2.2 q z (nI k)) (nI k) m < cmN (qwI (lsM I q z c m k).2.2 q z (nI k)) (lsM I q z c m k).1 m) then (nI k, (qwV (lsM I q z c m k).2.2 q z (nI k)), (qwI (lsM I q z c m k).2.2 q z (nI k))) else ((lsM I q z c m k).1, (lsM I q z c m k).2.1, (qwI (lsM I q z c m k).2.2 q z (nI k))) := by rw [lsM]
theorem lsM_off {q z m e : Nat} {c : Int32} (h : e ≠ 217) (h2 : e ≠ 200) : ∀ k, (lsM I q z c m k).2.2 e = I e := by
  intro k
  induction k with
  | zero => rw [lsM_0]
  | succ k ih =>
    rw [lsM_s]
    split
    · exact ih
    · split
      · exact (qwI_off h h2).trans ih
      · exact (qwI_off h h2).trans ih
theorem lsM_200 {q z m j : Nat} {c : Int32} (h : j ≠ 24) : ∀ k, (lsM I q z c m k).2.2 200 j = I 200 j := by
  intro k
  induction k with
  | zero => rw [lsM_0]
  | succ k ih =>
    rw [lsM_s]
    split
    · exact ih
    · split
      · exact (qwI_200 (z := z) h).trans ih
      · exact (qwI_200 (z := z) h).trans ih
theorem sh_m {m : Nat} (hm : m ≤ 5) : (1 : Int32) <<< (nI m &&& 31) = nI (2 ^ m) := by
  rcases (by omega : m = 0 ∨ m = 1 ∨ m = 2 ∨ m = 3 ∨ m = 4 ∨ m = 5) with rfl | rfl | rfl | rfl | rfl | rfl
  all_goals decide
set_option maxRecDepth 100000 in
set_option maxHeartbeats 4000000 in
theorem lm_lst {P : Option Value → Mem → Prop} {y z c v : Int32} (vy : vp_in y 4) (vz : vp_in z 4) (hH : HmS I) (hS : SbS I) (hj : WjS I) (hh : ¬ I 207 y.toNatClampNeg = 0) {m : Nat} (h5 : m ≤ 5) (hm : I 200 37 = nI m) (kont : Ex G mdX12_least 120 [some (.ref 200), some (.int y), some (.int z), some (.int c), some (.int v), some (.int (lsM I y.toNatClampNeg z.toNatClampNeg c m (2 ^ m)).1), some (.int (lsM I y.toNatClampNeg z.toNatClampNeg c m (2 ^ m)).2.1), some (.int (nI (2 ^ m))), none] [] (mk (lsM I y.toNatClampNeg z.toNatClampNeg c m (2 ^ m)).2.2 L t) 0 0 P) : Ex G mdX12_least 39 [some (.ref 200), some (.int y), some (.int z), some (.int c), some (.int v), some (.int (lsM I y.toNatClampNeg z.toNatClampNeg c m 0).1), some (.int (lsM I y.toNatClampNeg z.toNatClampNeg c m 0).2.1), some (.int (nI 0)), none] [] (mk (lsM I y.toNatClampNeg z.toNatClampNeg c m 0).2.2 L t) 0 0 P := by
  have h32 : 2 ^ m ≤ 2 ^ 5 := Nat.pow_le_pow_right (by decide) h5
  refine loop_up (G := G) (d := mdX12_least) (pc := 39) (st := []) (uc := 0) (us := 0) (P := P) (2 ^ m) (fun k => mk (lsM I y.toNatClampNeg z.toNatClampNeg c m k).2.2 L t) (fun k => [some (.ref 200), some (.int y), some (.int z), some (.int c), some (.int v), some (.int (lsM I y.toNatClampNeg z.toNatClampNeg c m k).1), some (.int (lsM I y.toNatClampNeg z.toNatClampNeg c m k).2.1), some (.int (nI k)), none]) ?_ ?_ 0 (Nat.zero_le _)
  · intro k hk ih
    have hHk : HmS (lsM I y.toNatClampNeg z.toNatClampNeg c m k).2.2 := HmS_of (lsM_off (by decide) (by decide) k) (lsM_off (by decide) (by decide) k) hH
    have hSk : SbS (lsM I y.toNatClampNeg z.toNatClampNeg c m k).2.2 := SbS_of (lsM_off (by decide) (by decide) k) (lsM_off (by decide) (by decide) k) hS
    have hjk : WjS (lsM I y.toNatClampNeg z.toNatClampNeg c m k).2.2 := WjS_of (lsM_off (by decide) (by decide) k) hj
    have gk : ¬ (lsM I y.toNatClampNeg z.toNatClampNeg c m k).2.2 207 y.toNatClampNeg = 0 := by rw [lsM_off (by decide) (by decide) k]; exact hh
    have emk : (lsM I y.toNatClampNeg z.toNatClampNeg c m k).2.2 200 37 = nI m := by rw [lsM_200 (by decide) k]; exact hm
    have hMk : WmS (lsM I y.toNatClampNeg z.toNatClampNeg c m k).2.2 := ⟨m, h5, emk⟩
    refine ex_iload dX12_least_39 rfl ?_
    refine ex_iconst (v := 1) dX12_least_41 (by decide) ?_
    refine ex_aload_n dX12_least_42 rfl ?_
    refine g_12_37 dX12_least_43 rfl wf_X12_337 (by first | assumption | rfl) ?_
    rw [emk]
    refine ex_ishl dX12_least_46 ?_
    rw [sh_m h5]
    refine ex_icmp_ge 120 dX12_least_47 (by decide) (fun h47 => ?_) (fun h47 => ?_)
    · exact absurd h47 (nI_ge hk (by omega))
    · skip
      refine ex_aload_n dX12_least_50 rfl ?_
      refine ex_iload dX12_least_51 rfl ?_
      refine rx_cV (kd := 12) dX12_least_53 rfl lk_X12_343 rfl (by decide) (by first | assumption | rfl) ⟨⟨rfl, rfl⟩, by decide, by decide⟩ rfl (Nat.le_of_ble_eq_true rfl) rfl (s_X12_costOf h5 emk) (Rs.k ?_)
      refine ex_iload_n dX12_least_56 rfl ?_
      refine ex_icmp_gt 114 dX12_least_57 (by decide) (fun h57 => ?_) (fun h57 => ?_)
      · have hc : lsM I y.toNatClampNeg z.toNatClampNeg c m (k + 1) = (lsM I y.toNatClampNeg z.toNatClampNeg c m k) := lsM_s.trans (if_pos h57)
        refine inc7 (v := _ + 1) dX12_least_114 (by rfl) (by first | exact rfl | exact trivial) ?_
        refine ex_goto 39 dX12_least_117 (by decide) ?_
        refine fg8 ?_
        rw [nI_1]
        rw [hc] at ih
        exact ih
      · skip
        refine ex_aload_n dX12_least_60 rfl ?_
        refine ex_iload_n dX12_least_61 rfl ?_
        refine ex_iload_n dX12_least_62 rfl ?_
        refine ex_iload dX12_least_63 rfl ?_
        refine rx_cV (kd := 12) dX12_least_65 rfl lk_X12_346 rfl (by decide) (by first | assumption | rfl) ⟨⟨rfl, rfl⟩, by decide, by decide⟩ rfl (Nat.le_of_ble_eq_true rfl) rfl (s_X12_quietWith vy vz hHk gk hSk hjk hMk) (Rs.k ?_)
        refine st_i8 dX12_least_68 (by first | exact rfl | exact trivial) ?_
        refine ex_iload dX12_least_70 rfl ?_
        refine ex_bipush (v := (-9)) dX12_least_72 (by decide) ?_
        refine ex_icmp_eq 106 dX12_least_74 (by decide) (fun h74 => ?_) (fun h74 => ?_)
        · have hc : lsM I y.toNatClampNeg z.toNatClampNeg c m (k + 1) = (nI k, (qwV (lsM I y.toNatClampNeg z.toNatClampNeg c m k).2.2 y.toNatClampNeg z.toNatClampNeg (nI k)), (qwI (lsM I y.toNatClampNeg z.toNatClampNeg c m k).2.2 y.toNatClampNeg z.toNatClampNeg (nI k))) := lsM_s.trans ((if_neg h57).trans (if_pos (Or.inl h74)))
          refine ex_iload dX12_least_106 rfl ?_
          refine st_i5 dX12_least_108 (by first | exact rfl | exact trivial) ?_
          refine ex_iload dX12_least_110 rfl ?_
          refine st_i6 dX12_least_112 (by first | exact rfl | exact trivial) ?_
          refine inc7 (v := _ + 1) dX12_least_114 (by rfl) (by first | exact rfl | exact trivial) ?_
          refine ex_goto 39 dX12_least_117 (by decide) ?_
          refine fg8 ?_
          rw [nI_1]
          rw [hc] at ih
          exact ih
        · skip
          refine ex_iload dX12_least_77 rfl ?_
          refine ex_iload dX12_least_79 rfl ?_
          refine ex_icmp_lt 106 dX12_least_81 (by decide) (fun h81 => ?_) (fun h81 => ?_)
          · have hc : lsM I y.toNatClampNeg z.toNatClampNeg c m (k + 1) = (nI k, (qwV (lsM I y.toNatClampNeg z.toNatClampNeg c m k).2.2 y.toNatClampNeg z.toNatClampNeg (nI k)), (qwI (lsM I y.toNatClampNeg z.toNatClampNeg c m k).2.2 y.toNatClampNeg z.toNatClampNeg (nI k))) := lsM_s.trans ((if_neg h57).trans (if_pos (Or.inr (Or.inl h81))))
            refine ex_iload dX12_least_106 rfl ?_
            refine st_i5 dX12_least_108 (by first | exact rfl | exact trivial) ?_
            refine ex_iload dX12_least_110 rfl ?_
            refine st_i6 dX12_least_112 (by first | exact rfl | exact trivial) ?_
            refine inc7 (v := _ + 1) dX12_least_114 (by rfl) (by first | exact rfl | exact trivial) ?_
            refine ex_goto 39 dX12_least_117 (by decide) ?_
            refine fg8 ?_
            rw [nI_1]
            rw [hc] at ih
            exact ih
          · skip
            refine ex_iload dX12_least_84 rfl ?_
            refine ex_iload dX12_least_86 rfl ?_
            refine ex_icmp_ne 114 dX12_least_88 (by decide) (fun h88 => ?_) (fun h88 => ?_)
            · have hc : lsM I y.toNatClampNeg z.toNatClampNeg c m (k + 1) = ((lsM I y.toNatClampNeg z.toNatClampNeg c m k).1, (lsM I y.toNatClampNeg z.toNatClampNeg c m k).2.1, (qwI (lsM I y.toNatClampNeg z.toNatClampNeg c m k).2.2 y.toNatClampNeg z.toNatClampNeg (nI k))) := lsM_s.trans ((if_neg h57).trans (if_neg (fun z => z.elim h74 (fun y => y.elim (fun y => absurd y h81) (fun y => h88 y.1)))))
              refine inc7 (v := _ + 1) dX12_least_114 (by rfl) (by first | exact rfl | exact trivial) ?_
              refine ex_goto 39 dX12_least_117 (by decide) ?_
              refine fg8 ?_
              rw [nI_1]
              rw [hc] at ih
              exact ih
            · skip
              refine ex_aload_n dX12_least_91 rfl ?_
              refine ex_iload dX12_least_92 rfl ?_
              refine rx_cV (kd := 12) dX12_least_94 rfl lk_X12_343 rfl (by decide) (by first | assumption | rfl) ⟨⟨rfl, rfl⟩, by decide, by decide⟩ rfl (Nat.le_of_ble_eq_true rfl) rfl (s_X12_costOf h5 ((qwI_200 (by decide)).trans emk)) (Rs.k ?_)
              refine ex_aload_n dX12_least_97 rfl ?_
              refine ex_iload dX12_least_98 rfl ?_
              refine rx_cV (kd := 12) dX12_least_100 rfl lk_X12_343 rfl (by decide) (by first | assumption | rfl) ⟨⟨rfl, rfl⟩, by decide, by decide⟩ rfl (Nat.le_of_ble_eq_true rfl) rfl (s_X12_costOf h5 ((qwI_200 (by decide)).trans emk)) (Rs.k ?_)
              refine ex_icmp_ge 114 dX12_least_103 (by decide) (fun h103 => ?_) (fun h103 => ?_)
              · have hc : lsM I y.toNatClampNeg z.toNatClampNeg c m (k + 1) = ((lsM I y.toNatClampNeg z.toNatClampNeg c m k).1, (lsM I y.toNatClampNeg z.toNatClampNeg c m k).2.1, (qwI (lsM I y.toNatClampNeg z.toNatClampNeg c m k).2.2 y.toNatClampNeg z.toNatClampNeg (nI k))) := lsM_s.trans ((if_neg h57).trans (if_neg (fun z => z.elim h74 (fun y => y.elim (fun y => absurd y h81) (fun y => absurd y.2 (Int32.not_lt.mpr h103))))))
                refine inc7 (v := _ + 1) dX12_least_114 (by rfl) (by first | exact rfl | exact trivial) ?_
                refine ex_goto 39 dX12_least_117 (by decide) ?_
                refine fg8 ?_
                rw [nI_1]
                rw [hc] at ih
                exact ih
              · have hc : lsM I y.toNatClampNeg z.toNatClampNeg c m (k + 1) = (nI k, (qwV (lsM I y.toNatClampNeg z.toNatClampNeg c m k).2.2 y.toNatClampNeg z.toNatClampNeg (nI k)), (qwI (lsM I y.toNatClampNeg z.toNatClampNeg c m k).2.2 y.toNatClampNeg z.toNatClampNeg (nI k))) := lsM_s.trans ((if_neg h57).trans (if_pos (Or.inr (Or.inr ⟨h88, Int32.not_le.mp h103⟩))))
                refine ex_iload dX12_least_106 rfl ?_
                refine st_i5 dX12_least_108 (by first | exact rfl | exact trivial) ?_
                refine ex_iload dX12_least_110 rfl ?_
                refine st_i6 dX12_least_112 (by first | exact rfl | exact trivial) ?_
                refine inc7 (v := _ + 1) dX12_least_114 (by rfl) (by first | exact rfl | exact trivial) ?_
                refine ex_goto 39 dX12_least_117 (by decide) ?_
                refine fg8 ?_
                rw [nI_1]
                rw [hc] at ih
                exact ih
  · skip
    refine ex_iload dX12_least_39 rfl ?_
    refine ex_iconst (v := 1) dX12_least_41 (by decide) ?_
    refine ex_aload_n dX12_least_42 rfl ?_
    refine g_12_37 dX12_least_43 rfl wf_X12_337 (by first | assumption | rfl) ?_
    rw [lsM_200 (by decide) (2 ^ m), hm]
    refine ex_ishl dX12_least_46 ?_
    rw [sh_m h5]
    refine ex_icmp_ge 120 dX12_least_47 (by decide) (fun h47 => ?_) (fun h47 => ?_)
    · skip
      exact kont
    · exact absurd (Int32.le_refl _) h47
theorem lm_lst0 {P : Option Value → Mem → Prop} {y z c v : Int32} (vy : vp_in y 4) (vz : vp_in z 4) (hH : HmS I) (hS : SbS I) (hj : WjS I) (hh : ¬ I 207 y.toNatClampNeg = 0) (hM : WmS I) (kont : Ex G mdX12_least 120 [some (.ref 200), some (.int y), some (.int z), some (.int c), some (.int v), some (.int (lsM I y.toNatClampNeg z.toNatClampNeg c (I 200 37).toNatClampNeg (2 ^ (I 200 37).toNatClampNeg)).1), some (.int (lsM I y.toNatClampNeg z.toNatClampNeg c (I 200 37).toNatClampNeg (2 ^ (I 200 37).toNatClampNeg)).2.1), none, none] [] (mk (lsM I y.toNatClampNeg z.toNatClampNeg c (I 200 37).toNatClampNeg (2 ^ (I 200 37).toNatClampNeg)).2.2 L t) 0 0 P) : Ex G mdX12_least 39 [some (.ref 200), some (.int y), some (.int z), some (.int c), some (.int v), some (.int (-9)), some (.int 0), some (.int 0), none] [] (mk I L t) 0 0 P := by
  obtain ⟨m, h5, e⟩ := hM
  rw [e, nI_clamp (by omega)] at kont
  have h := lm_lst (G := G) (I := I) (L := L) (v := v) (c := c) vy vz hH hS hj hh h5 e (P := P) (fg7 kont)
  rw [lsM_0] at h
  exact h
def f_X12_least (I : Im) (k : Int32) (z : Int32) (c : Int32) : Int32 × Im :=
  if (b2i (0 ≤ c ∧ c ≤ 500)) = 0 then
    ((-1), I)
  else
    let I1 : Im := (f_X12_needWoken I k z).2
    if 0 ≤ ((f_X12_needWoken I k z).1) then
      let I2 : Im := (lsM I1 k.toNatClampNeg z.toNatClampNeg c (I1 200 37).toNatClampNeg (2 ^ (I1 200 37).toNatClampNeg)).2.2
      let I3 : Im := up2 I2 200 2 ((lsM I1 k.toNatClampNeg z.toNatClampNeg c (I1 200 37).toNatClampNeg (2 ^ (I1 200 37).toNatClampNeg)).2.1)
      (((lsM I1 k.toNatClampNeg z.toNatClampNeg c (I1 200 37).toNatClampNeg (2 ^ (I1 200 37).toNatClampNeg)).1), I3)
    else
      ((f_X12_needWoken I k z).1, I1)
set_option maxRecDepth 100000 in
set_option maxHeartbeats 4000000 in
theorem s_X12_least  {k : Int32} {z : Int32} {c : Int32} (hH : HmS I) (hS : SbS I) (hj : WjS I) (hM : WmS I) : Ca G mdX12_least [.ref 200, .int k, .int z, .int c] (mk I L t) (Rs (.int (f_X12_least I k z c).1) (mk ((f_X12_least I k z c).2) L t)) := by
  refine Ca.intro [some (.ref 200), some (.int k), some (.int z), some (.int c), none, none, none, none, none] (by decide) (Nat.le_of_ble_eq_true rfl) rfl rfl ?_
  refine ex_iload_n dX12_least_0 rfl ?_
  refine ex_iconst (v := 0) dX12_least_1 (by decide) ?_
  refine ex_sipush (v := 500) dX12_least_2 (by decide) ?_
  refine rx_cS dX12_least_5 rfl lk_X12_86 ⟨⟨rfl, rfl⟩, by decide, by decide⟩ rfl (Nat.le_of_ble_eq_true rfl) rfl s_X12_in (Rs.k ?_)
  refine ex_if_ne 13 dX12_least_8 (by decide) (fun h8 => ?_) (fun h8 => ?_)
  · skip
    refine ex_aload_n dX12_least_13 rfl ?_
    refine ex_iload_n dX12_least_14 rfl ?_
    refine ex_iload_n dX12_least_15 rfl ?_
    refine rx_cV (kd := 12) dX12_least_16 rfl lk_X12_302 rfl (by decide) (by first | assumption | rfl) ⟨⟨rfl, rfl⟩, by decide, by decide⟩ rfl (Nat.le_of_ble_eq_true rfl) rfl s_X12_needWoken (Rs.k ?_)
    refine st_i4 dX12_least_19 (by first | exact rfl | exact trivial) ?_
    refine ex_iload dX12_least_21 rfl ?_
    refine ex_if_ge 29 dX12_least_23 (by decide) (fun h23 => ?_) (fun h23 => ?_)
    · obtain ⟨hJ, vk, vz, g1, g2⟩ := nwk0 h23
      have hH' : HmS (f_X12_needWoken I k z).2 := hJ.symm ▸ hH
      have hS' : SbS (f_X12_needWoken I k z).2 := hJ.symm ▸ hS
      have hj' : WjS (f_X12_needWoken I k z).2 := hJ.symm ▸ hj
      have hM' : WmS (f_X12_needWoken I k z).2 := hJ.symm ▸ hM
      have g1' : ¬ (f_X12_needWoken I k z).2 207 k.toNatClampNeg = 0 := by rw [hJ]; exact g1
      refine ex_bipush (v := (-9)) dX12_least_29 (by decide) ?_
      refine st_i5 dX12_least_31 (by first | exact rfl | exact trivial) ?_
      refine ex_iconst (v := 0) dX12_least_33 (by decide) ?_
      refine st_i6 dX12_least_34 (by first | exact rfl | exact trivial) ?_
      refine ex_iconst (v := 0) dX12_least_36 (by decide) ?_
      refine st_i7 dX12_least_37 (by first | exact rfl | exact trivial) ?_
      refine (lm_lst0 vk vz hH' hS' hj' g1' hM') ?_
      refine ex_aload_n dX12_least_120 rfl ?_
      refine ex_iload dX12_least_121 rfl ?_
      refine ex_iload dX12_least_123 rfl ?_
      refine rx_cV (kd := 12) dX12_least_125 rfl lk_X12_108 rfl (by decide) (by first | assumption | rfl) ⟨⟨rfl, rfl⟩, by decide, by decide⟩ rfl (Nat.le_of_ble_eq_true rfl) rfl s_X12_tells (Rs.k ?_)
      refine ex_iret dX12_least_128 rfl rfl ⟨rfl, Nat.le_refl _⟩ ?_
      exact ⟨(by simp only [f_X12_least, ↓eq_false h8, ↓h23, if_true, if_false, not_true_eq_false, not_false_eq_true]), (by simp only [f_X12_least, ↓eq_false h8, ↓h23, if_true, if_false, not_true_eq_false, not_false_eq_true])⟩
    · skip
      refine ex_iload dX12_least_26 rfl ?_
      refine ex_iret dX12_least_28 rfl rfl ⟨rfl, Nat.le_refl _⟩ ?_
      exact ⟨(by simp only [f_X12_least, ↓eq_false h8, ↓h23, if_true, if_false, not_true_eq_false, not_false_eq_true]), (by simp only [f_X12_least, ↓eq_false h8, ↓h23, if_true, if_false, not_true_eq_false, not_false_eq_true])⟩
  · skip
    refine ex_iconst (v := (-1)) dX12_least_11 (by decide) ?_
    refine ex_iret dX12_least_12 rfl rfl ⟨rfl, Nat.le_refl _⟩ ?_
    exact ⟨(by simp only [f_X12_least, ↓eq_true h8, if_true, if_false, not_true_eq_false, not_false_eq_true]), (by simp only [f_X12_least, ↓eq_true h8, if_true, if_false, not_true_eq_false, not_false_eq_true])⟩
end M20
