section M6
variable {G : Gp} {I : Im} {L : Nat → Nat → Int64} {t : Nat}
def BtS (I : Im) : Prop := ∀ j, j < 400 → -128 ≤ I 206 j ∧ I 206 j ≤ 127
theorem tq_of {x : Int32} (hT : TzS I) (hB : BtS I) (q4 : x.toNatClampNeg < 4) (h : ¬ I 205 x.toNatClampNeg < 0) : TqS I x.toNatClampNeg (I 205 x.toNatClampNeg).toNatClampNeg := by
  rcases hT _ q4 with e | ⟨m, hm, e⟩
  · rw [e] at h
    exact absurd (by decide) h
  · rw [e, nI_clamp (by omega)]
    exact ⟨q4, hm, e, hB⟩
def mHar (I : Im) (q : Nat) : Int32 × Nat × Im := mhF (byF (I 206) q (I 205 q).toNatClampNeg) (I 205 q).toNatClampNeg 100 0 (flw (up2 I 200 15 0) 212 0 21 rhG)
def mSea (I : Im) (q : Nat) : Int32 × Nat × Nat × Im := msF (byF (I 206) q (I 205 q).toNatClampNeg) (I 205 q).toNatClampNeg 100 0 0 (up2 (up2 I 200 15 0) 200 17 0)
theorem s_hfG {x : Int32} (vx : vp_in x 4) (h : TqS I x.toNatClampNeg (I 205 x.toNatClampNeg).toNatClampNeg) : Ca G mdX12_harbourFault [.ref 200, .int x] (mk I L t) (RxH (mHar I x.toNatClampNeg) L t) := by
  have e := (vpn vx).2
  have key := s_X12_harbourFault (G := G) (L := L) (t := t) h
  rw [← e] at key
  exact key
theorem s_sfG {x : Int32} (vx : vp_in x 4) (h : TqS I x.toNatClampNeg (I 205 x.toNatClampNeg).toNatClampNeg) : Ca G mdX12_seaFault [.ref 200, .int x] (mk I L t) (RxT (mSea I x.toNatClampNeg) L t) := by
  have e := (vpn vx).2
  have key := s_X12_seaFault (G := G) (L := L) (t := t) h
  rw [← e] at key
  exact key
set_option maxRecDepth 100000 in
set_option maxHeartbeats 4000000 in
theorem s_X12_faultB {y z : Int32} (hT : TzS I) (hB : BtS I) (h1 : b2i (0 ≤ y ∧ y ≤ 3) = 0) : Ca G mdX12_fault [.ref 200, .int y, .int z] (mk I L t) (Rs (.int (-1)) (mk I L t)) := by
  refine Ca.intro [some (.ref 200), some (.int y), some (.int z)] (by decide) (Nat.le_of_ble_eq_true rfl) rfl rfl ?_
  refine ex_iload_n dX12_fault_0 rfl ?_
  refine rx_cS dX12_fault_1 rfl lk_X12_111 ⟨⟨rfl, rfl⟩, by decide, by decide⟩ rfl (Nat.le_of_ble_eq_true rfl) rfl s_X12_isText (Rs.k ?_)
  refine ex_if_ne 9 dX12_fault_4 (by decide) (fun h4 => ?_) (fun h4 => ?_)
  · exact absurd h1 h4
  · skip
    refine ex_iconst (v := (-1)) dX12_fault_7 (by decide) ?_
    refine ex_iret dX12_fault_8 rfl rfl ⟨rfl, Nat.le_refl _⟩ ?_
    exact ⟨rfl, rfl⟩
set_option maxRecDepth 100000 in
set_option maxHeartbeats 4000000 in
theorem s_X12_faultN {y z : Int32} (hT : TzS I) (hB : BtS I) (h1 : ¬ b2i (0 ≤ y ∧ y ≤ 3) = 0) (h3 : I 205 y.toNatClampNeg < 0) : Ca G mdX12_fault [.ref 200, .int y, .int z] (mk I L t) (Rs (.int (-3)) (mk (meI I 1) L t)) := by
  refine Ca.intro [some (.ref 200), some (.int y), some (.int z)] (by decide) (Nat.le_of_ble_eq_true rfl) rfl rfl ?_
  refine ex_iload_n dX12_fault_0 rfl ?_
  refine rx_cS dX12_fault_1 rfl lk_X12_111 ⟨⟨rfl, rfl⟩, by decide, by decide⟩ rfl (Nat.le_of_ble_eq_true rfl) rfl s_X12_isText (Rs.k ?_)
  refine ex_if_ne 9 dX12_fault_4 (by decide) (fun h4 => ?_) (fun h4 => ?_)
  · have qy := (cl_lt (N := 4) (by decide) h1).1
    have vy := (cl_lt (N := 4) (by decide) h1).2
    refine ex_aload_n dX12_fault_9 rfl ?_
    refine g_12_8 dX12_fault_10 rfl wf_X12_22 (by first | assumption | rfl) (show Rt _ 200 8 = some 205 from rfl) ?_
    refine ex_iload_n dX12_fault_13 rfl ?_
    refine rx_iald dX12_fault_14 (by first | assumption | rfl) (by first | assumption | (unfold vp_in; decide)) ?_
    refine ex_if_ge 26 dX12_fault_15 (by decide) (fun h15 => ?_) (fun h15 => ?_)
    · exact absurd h3 (Int32.not_lt.mpr h15)
    · skip
      refine ex_aload_n dX12_fault_18 rfl ?_
      refine ex_iconst (v := 1) dX12_fault_19 (by decide) ?_
      refine rx_cV (kd := 12) dX12_fault_20 rfl lk_X12_100 rfl (by decide) (by first | assumption | rfl) ⟨⟨rfl, rfl⟩, by decide, by decide⟩ rfl (Nat.le_of_ble_eq_true rfl) rfl (s_X12_meets (by unfold vp_in; decide)) (Rs.k ?_)
      refine ex_goto 43 dX12_fault_23 (by decide) ?_
      refine ex_iret dX12_fault_43 rfl rfl ⟨rfl, Nat.le_refl _⟩ ?_
      exact ⟨rfl, rfl⟩
  · exact absurd h4 h1
set_option maxRecDepth 100000 in
set_option maxHeartbeats 4000000 in
theorem s_X12_faultS {y z : Int32} (hT : TzS I) (hB : BtS I) (h1 : ¬ b2i (0 ≤ y ∧ y ≤ 3) = 0) (h3 : ¬ I 205 y.toNatClampNeg < 0) (h5 : ¬ z = 0) : Ca G mdX12_fault [.ref 200, .int y, .int z] (mk I L t) (RxT (mSea I y.toNatClampNeg) L t) := by
  refine Ca.intro [some (.ref 200), some (.int y), some (.int z)] (by decide) (Nat.le_of_ble_eq_true rfl) rfl rfl ?_
  refine ex_iload_n dX12_fault_0 rfl ?_
  refine rx_cS dX12_fault_1 rfl lk_X12_111 ⟨⟨rfl, rfl⟩, by decide, by decide⟩ rfl (Nat.le_of_ble_eq_true rfl) rfl s_X12_isText (Rs.k ?_)
  refine ex_if_ne 9 dX12_fault_4 (by decide) (fun h4 => ?_) (fun h4 => ?_)
  · have qy := (cl_lt (N := 4) (by decide) h1).1
    have vy := (cl_lt (N := 4) (by decide) h1).2
    refine ex_aload_n dX12_fault_9 rfl ?_
    refine g_12_8 dX12_fault_10 rfl wf_X12_22 (by first | assumption | rfl) (show Rt _ 200 8 = some 205 from rfl) ?_
    refine ex_iload_n dX12_fault_13 rfl ?_
    refine rx_iald dX12_fault_14 (by first | assumption | rfl) (by first | assumption | (unfold vp_in; decide)) ?_
    refine ex_if_ge 26 dX12_fault_15 (by decide) (fun h15 => ?_) (fun h15 => ?_)
    · skip
      refine ex_iload_n dX12_fault_26 rfl ?_
      refine ex_if_eq 38 dX12_fault_27 (by decide) (fun h27 => ?_) (fun h27 => ?_)
      · exact absurd h27 h5
      · skip
        refine ex_aload_n dX12_fault_30 rfl ?_
        refine ex_iload_n dX12_fault_31 rfl ?_
        refine rx_cV (kd := 12) dX12_fault_32 rfl lk_X12_145 rfl (by decide) (by first | assumption | rfl) ⟨⟨rfl, rfl⟩, by decide, by decide⟩ rfl (Nat.le_of_ble_eq_true rfl) rfl (s_sfG vy (tq_of hT hB qy h3)) ?_
        refine Rx.k ?_
        intro x1
        refine ex_goto 43 dX12_fault_35 (by decide) ?_
        refine ex_iret dX12_fault_43 rfl rfl ⟨rfl, Nat.le_refl _⟩ ?_
        exact ⟨rfl, _, rfl⟩
    · exact absurd (Int32.not_lt.mp h3) h15
  · exact absurd h4 h1
set_option maxRecDepth 100000 in
set_option maxHeartbeats 4000000 in
theorem s_X12_faultH {y z : Int32} (hT : TzS I) (hB : BtS I) (h1 : ¬ b2i (0 ≤ y ∧ y ≤ 3) = 0) (h3 : ¬ I 205 y.toNatClampNeg < 0) (h5 : z = 0) : Ca G mdX12_fault [.ref 200, .int y, .int z] (mk I L t) (RxH (mHar I y.toNatClampNeg) L t) := by
  refine Ca.intro [some (.ref 200), some (.int y), some (.int z)] (by decide) (Nat.le_of_ble_eq_true rfl) rfl rfl ?_
  refine ex_iload_n dX12_fault_0 rfl ?_
  refine rx_cS dX12_fault_1 rfl lk_X12_111 ⟨⟨rfl, rfl⟩, by decide, by decide⟩ rfl (Nat.le_of_ble_eq_true rfl) rfl s_X12_isText (Rs.k ?_)
  refine ex_if_ne 9 dX12_fault_4 (by decide) (fun h4 => ?_) (fun h4 => ?_)
  · have qy := (cl_lt (N := 4) (by decide) h1).1
    have vy := (cl_lt (N := 4) (by decide) h1).2
    refine ex_aload_n dX12_fault_9 rfl ?_
    refine g_12_8 dX12_fault_10 rfl wf_X12_22 (by first | assumption | rfl) (show Rt _ 200 8 = some 205 from rfl) ?_
    refine ex_iload_n dX12_fault_13 rfl ?_
    refine rx_iald dX12_fault_14 (by first | assumption | rfl) (by first | assumption | (unfold vp_in; decide)) ?_
    refine ex_if_ge 26 dX12_fault_15 (by decide) (fun h15 => ?_) (fun h15 => ?_)
    · skip
      refine ex_iload_n dX12_fault_26 rfl ?_
      refine ex_if_eq 38 dX12_fault_27 (by decide) (fun h27 => ?_) (fun h27 => ?_)
      · skip
        refine ex_aload_n dX12_fault_38 rfl ?_
        refine ex_iload_n dX12_fault_39 rfl ?_
        refine rx_cV (kd := 12) dX12_fault_40 rfl lk_X12_148 rfl (by decide) (by first | assumption | rfl) ⟨⟨rfl, rfl⟩, by decide, by decide⟩ rfl (Nat.le_of_ble_eq_true rfl) rfl (s_hfG vy (tq_of hT hB qy h3)) ?_
        refine Rx.k ?_
        intro x1
        refine ex_iret dX12_fault_43 rfl rfl ⟨rfl, Nat.le_refl _⟩ ?_
        exact ⟨rfl, _, rfl⟩
      · exact absurd h5 h27
    · exact absurd (Int32.not_lt.mp h3) h15
  · exact absurd h4 h1
set_option maxRecDepth 100000 in
set_option maxHeartbeats 4000000 in
theorem lm_har {P : Option Value → Mem → Prop} {y z : Int32} (vk : vp_in y 4) (kont : Ex G mdX12_harbour 75 [some (.ref 200), some (.int y), some (.int z), some (.int (nI 21))] [] (mk (flw I 208 (21 * y.toNatClampNeg) 21 (I 212)) L t) 0 0 P) : Ex G mdX12_harbour 46 [some (.ref 200), some (.int y), some (.int z), some (.int (nI 0))] [] (mk (flw I 208 (21 * y.toNatClampNeg) 0 (I 212)) L t) 0 0 P := by
  refine loop_up (G := G) (d := mdX12_harbour) (pc := 46) (st := []) (uc := 0) (us := 0) (P := P) 21 (fun k => mk (flw I 208 (21 * y.toNatClampNeg) k (I 212)) L t) (fun k => [some (.ref 200), some (.int y), some (.int z), some (.int (nI k))]) ?_ ?_ 0 (Nat.zero_le _)
  · intro k hk ih
    refine ex_iload_n dX12_harbour_46 rfl ?_
    refine ex_bipush (v := 21) dX12_harbour_47 (by decide) ?_
    refine ex_icmp_ge 75 dX12_harbour_49 (by decide) (fun h49 => ?_) (fun h49 => ?_)
    · exact absurd h49 (nI_ge hk (by decide))
    · skip
      refine ex_aload_n dX12_harbour_52 rfl ?_
      refine g_12_11 dX12_harbour_53 rfl wf_X12_33 (by first | assumption | rfl) (show Rt _ 200 11 = some 208 from rfl) ?_
      refine ex_bipush (v := 21) dX12_harbour_56 (by decide) ?_
      refine ex_iload_n dX12_harbour_58 rfl ?_
      refine ex_imul dX12_harbour_59 ?_
      refine ex_iload_n dX12_harbour_60 rfl ?_
      refine ex_iadd dX12_harbour_61 ?_
      refine ex_aload_n dX12_harbour_62 rfl ?_
      refine g_12_18 dX12_harbour_63 rfl wf_X12_45 (by first | assumption | rfl) (show Rt _ 200 18 = some 212 from rfl) ?_
      refine ex_iload_n dX12_harbour_66 rfl ?_
      refine rx_iald dX12_harbour_67 (by first | assumption | rfl) (vp_in_nI hk (by decide)) ?_
      refine rx_iast dX12_harbour_68 (by first | assumption | rfl) (ixm (C := 21) (R := 4) rfl vk (vp_in_nI hk (by decide)) (by decide)).1 ?_
      refine inc3 (v := _ + 1) dX12_harbour_69 (by rfl) (by first | exact rfl | exact trivial) ?_
      refine ex_goto 46 dX12_harbour_72 (by decide) ?_
      rw [(ixm (c := 21) (C := 21) (R := 4) rfl vk (vp_in_nI hk (by decide)) (by decide)).2, nI_clamp (by omega), flw_off (by decide), nI_1]
      rw [← flw_s] at ih
      exact ih
  · skip
    refine ex_iload_n dX12_harbour_46 rfl ?_
    refine ex_bipush (v := 21) dX12_harbour_47 (by decide) ?_
    refine ex_icmp_ge 75 dX12_harbour_49 (by decide) (fun h49 => ?_) (fun h49 => ?_)
    · skip
      exact kont
    · exact absurd (by decide : nI 21 ≤ nI 21) h49
theorem lm_har0 {P : Option Value → Mem → Prop} {y z : Int32} (vk : vp_in y 4) (kont : Ex G mdX12_harbour 75 [some (.ref 200), some (.int y), some (.int z), none] [] (mk (flw I 208 (21 * y.toNatClampNeg) 21 (I 212)) L t) 0 0 P) : Ex G mdX12_harbour 46 [some (.ref 200), some (.int y), some (.int z), some (.int 0)] [] (mk I L t) 0 0 P := by
  have h := lm_har (G := G) (I := I) (L := L) (z := z) vk (P := P) (fg3 kont)
  rw [flw_0] at h
  exact h
set_option maxRecDepth 100000 in
set_option maxHeartbeats 4000000 in
theorem lm_sea {P : Option Value → Mem → Prop} {y z : Int32} (vk : vp_in y 4) (kont : Ex G mdX12_sea 75 [some (.ref 200), some (.int y), some (.int z), some (.int (nI 8))] [] (mk (flw I 211 (8 * y.toNatClampNeg) 8 (I 213)) L t) 0 0 P) : Ex G mdX12_sea 46 [some (.ref 200), some (.int y), some (.int z), some (.int (nI 0))] [] (mk (flw I 211 (8 * y.toNatClampNeg) 0 (I 213)) L t) 0 0 P := by
  refine loop_up (G := G) (d := mdX12_sea) (pc := 46) (st := []) (uc := 0) (us := 0) (P := P) 8 (fun k => mk (flw I 211 (8 * y.toNatClampNeg) k (I 213)) L t) (fun k => [some (.ref 200), some (.int y), some (.int z), some (.int (nI k))]) ?_ ?_ 0 (Nat.zero_le _)
  · intro k hk ih
    refine ex_iload_n dX12_sea_46 rfl ?_
    refine ex_bipush (v := 8) dX12_sea_47 (by decide) ?_
    refine ex_icmp_ge 75 dX12_sea_49 (by decide) (fun h49 => ?_) (fun h49 => ?_)
    · exact absurd h49 (nI_ge hk (by decide))
    · skip
      refine ex_aload_n dX12_sea_52 rfl ?_
      refine g_12_14 dX12_sea_53 rfl wf_X12_42 (by first | assumption | rfl) (show Rt _ 200 14 = some 211 from rfl) ?_
      refine ex_bipush (v := 8) dX12_sea_56 (by decide) ?_
      refine ex_iload_n dX12_sea_58 rfl ?_
      refine ex_imul dX12_sea_59 ?_
      refine ex_iload_n dX12_sea_60 rfl ?_
      refine ex_iadd dX12_sea_61 ?_
      refine ex_aload_n dX12_sea_62 rfl ?_
      refine g_12_19 dX12_sea_63 rfl wf_X12_48 (by first | assumption | rfl) (show Rt _ 200 19 = some 213 from rfl) ?_
      refine ex_iload_n dX12_sea_66 rfl ?_
      refine rx_iald dX12_sea_67 (by first | assumption | rfl) (vp_in_nI hk (by decide)) ?_
      refine rx_iast dX12_sea_68 (by first | assumption | rfl) (ixm (C := 8) (R := 4) rfl vk (vp_in_nI hk (by decide)) (by decide)).1 ?_
      refine inc3 (v := _ + 1) dX12_sea_69 (by rfl) (by first | exact rfl | exact trivial) ?_
      refine ex_goto 46 dX12_sea_72 (by decide) ?_
      rw [(ixm (c := 8) (C := 8) (R := 4) rfl vk (vp_in_nI hk (by decide)) (by decide)).2, nI_clamp (by omega), flw_off (by decide), nI_1]
      rw [← flw_s] at ih
      exact ih
  · skip
    refine ex_iload_n dX12_sea_46 rfl ?_
    refine ex_bipush (v := 8) dX12_sea_47 (by decide) ?_
    refine ex_icmp_ge 75 dX12_sea_49 (by decide) (fun h49 => ?_) (fun h49 => ?_)
    · skip
      exact kont
    · exact absurd (by decide : nI 8 ≤ nI 8) h49
theorem lm_sea0 {P : Option Value → Mem → Prop} {y z : Int32} (vk : vp_in y 4) (kont : Ex G mdX12_sea 75 [some (.ref 200), some (.int y), some (.int z), none] [] (mk (flw I 211 (8 * y.toNatClampNeg) 8 (I 213)) L t) 0 0 P) : Ex G mdX12_sea 46 [some (.ref 200), some (.int y), some (.int z), some (.int 0)] [] (mk I L t) 0 0 P := by
  have h := lm_sea (G := G) (I := I) (L := L) (z := z) vk (P := P) (fg3 kont)
  rw [flw_0] at h
  exact h
def RxK (a : Int32) (J : Im) (p : Nat) (g : Im → Im) (L : Nat → Nat → Int64) (t : Nat) : Option Value → Mem → Prop := fun r M => r = some (.int a) ∧ ∃ x, M = mk (g (rm J p x)) L t
def harW (k : Nat) (M : Im) : Im := up2 (flw M 208 (21 * k) 21 (M 212)) 207 k 1
def seaW (k : Nat) (M : Im) : Im := up2 (up2 (flw M 211 (8 * k) 8 (M 213)) 210 k (M 200 17)) 209 k 1
set_option maxRecDepth 100000 in
set_option maxHeartbeats 4000000 in
theorem s_X12_harbourB {y z : Int32} (hT : TzS I) (hB : BtS I) (h1 : b2i (0 ≤ y ∧ y ≤ 3) = 0 ∨ b2i (0 ≤ z ∧ z ≤ 3) = 0) : Ca G mdX12_harbour [.ref 200, .int y, .int z] (mk I L t) (Rs (.int (-1)) (mk I L t)) := by
  refine Ca.intro [some (.ref 200), some (.int y), some (.int z), none] (by decide) (Nat.le_of_ble_eq_true rfl) rfl rfl ?_
  refine ex_iload_n dX12_harbour_0 rfl ?_
  refine rx_cS dX12_harbour_1 rfl lk_X12_151 ⟨⟨rfl, rfl⟩, by decide, by decide⟩ rfl (Nat.le_of_ble_eq_true rfl) rfl s_X12_isPlace (Rs.k ?_)
  refine ex_if_eq 14 dX12_harbour_4 (by decide) (fun h4 => ?_) (fun h4 => ?_)
  · skip
    refine ex_iconst (v := (-1)) dX12_harbour_14 (by decide) ?_
    refine ex_iret dX12_harbour_15 rfl rfl ⟨rfl, Nat.le_refl _⟩ ?_
    exact ⟨rfl, rfl⟩
  · skip
    refine ex_iload_n dX12_harbour_7 rfl ?_
    refine rx_cS dX12_harbour_8 rfl lk_X12_111 ⟨⟨rfl, rfl⟩, by decide, by decide⟩ rfl (Nat.le_of_ble_eq_true rfl) rfl s_X12_isText (Rs.k ?_)
    refine ex_if_ne 16 dX12_harbour_11 (by decide) (fun h11 => ?_) (fun h11 => ?_)
    · exact absurd h1 (fun q => q.elim h4 h11)
    · skip
      refine ex_iconst (v := (-1)) dX12_harbour_14 (by decide) ?_
      refine ex_iret dX12_harbour_15 rfl rfl ⟨rfl, Nat.le_refl _⟩ ?_
      exact ⟨rfl, rfl⟩
set_option maxRecDepth 100000 in
set_option maxHeartbeats 4000000 in
theorem s_X12_harbourN {y z : Int32} (hT : TzS I) (hB : BtS I) (h1 : ¬ b2i (0 ≤ y ∧ y ≤ 3) = 0) (h2 : ¬ b2i (0 ≤ z ∧ z ≤ 3) = 0) (h3 : I 205 z.toNatClampNeg < 0) : Ca G mdX12_harbour [.ref 200, .int y, .int z] (mk I L t) (Rs (.int (-3)) (mk (meI I 1) L t)) := by
  refine Ca.intro [some (.ref 200), some (.int y), some (.int z), none] (by decide) (Nat.le_of_ble_eq_true rfl) rfl rfl ?_
  refine ex_iload_n dX12_harbour_0 rfl ?_
  refine rx_cS dX12_harbour_1 rfl lk_X12_151 ⟨⟨rfl, rfl⟩, by decide, by decide⟩ rfl (Nat.le_of_ble_eq_true rfl) rfl s_X12_isPlace (Rs.k ?_)
  refine ex_if_eq 14 dX12_harbour_4 (by decide) (fun h4 => ?_) (fun h4 => ?_)
  · exact absurd h4 h1
  · skip
    refine ex_iload_n dX12_harbour_7 rfl ?_
    refine rx_cS dX12_harbour_8 rfl lk_X12_111 ⟨⟨rfl, rfl⟩, by decide, by decide⟩ rfl (Nat.le_of_ble_eq_true rfl) rfl s_X12_isText (Rs.k ?_)
    refine ex_if_ne 16 dX12_harbour_11 (by decide) (fun h11 => ?_) (fun h11 => ?_)
    · have qk := (cl_lt (N := 4) (by decide) h1).1
      have vk := (cl_lt (N := 4) (by decide) h1).2
      have qz := (cl_lt (N := 4) (by decide) h2).1
      have vz := (cl_lt (N := 4) (by decide) h2).2
      refine ex_aload_n dX12_harbour_16 rfl ?_
      refine g_12_8 dX12_harbour_17 rfl wf_X12_22 (by first | assumption | rfl) (show Rt _ 200 8 = some 205 from rfl) ?_
      refine ex_iload_n dX12_harbour_20 rfl ?_
      refine rx_iald dX12_harbour_21 (by first | assumption | rfl) (by first | assumption | (unfold vp_in; decide)) ?_
      refine ex_if_ge 31 dX12_harbour_22 (by decide) (fun h22 => ?_) (fun h22 => ?_)
      · exact absurd h3 (Int32.not_lt.mpr h22)
      · skip
        refine ex_aload_n dX12_harbour_25 rfl ?_
        refine ex_iconst (v := 1) dX12_harbour_26 (by decide) ?_
        refine rx_cV (kd := 12) dX12_harbour_27 rfl lk_X12_100 rfl (by decide) (by first | assumption | rfl) ⟨⟨rfl, rfl⟩, by decide, by decide⟩ rfl (Nat.le_of_ble_eq_true rfl) rfl (s_X12_meets (by unfold vp_in; decide)) (Rs.k ?_)
        refine ex_iret dX12_harbour_30 rfl rfl ⟨rfl, Nat.le_refl _⟩ ?_
        exact ⟨rfl, rfl⟩
    · exact absurd h11 h2
set_option maxRecDepth 100000 in
set_option maxHeartbeats 4000000 in
theorem s_X12_harbourF {y z : Int32} (hT : TzS I) (hB : BtS I) (h1 : ¬ b2i (0 ≤ y ∧ y ≤ 3) = 0) (h2 : ¬ b2i (0 ≤ z ∧ z ≤ 3) = 0) (hh4 : ¬ I 205 z.toNatClampNeg < 0) (h5 : ¬ (mHar I z.toNatClampNeg).1 = -9) : Ca G mdX12_harbour [.ref 200, .int y, .int z] (mk I L t) (Rx (.int (-4)) (mHar I z.toNatClampNeg).2.2 (mHar I z.toNatClampNeg).2.1 L t) := by
  refine Ca.intro [some (.ref 200), some (.int y), some (.int z), none] (by decide) (Nat.le_of_ble_eq_true rfl) rfl rfl ?_
  refine ex_iload_n dX12_harbour_0 rfl ?_
  refine rx_cS dX12_harbour_1 rfl lk_X12_151 ⟨⟨rfl, rfl⟩, by decide, by decide⟩ rfl (Nat.le_of_ble_eq_true rfl) rfl s_X12_isPlace (Rs.k ?_)
  refine ex_if_eq 14 dX12_harbour_4 (by decide) (fun h4 => ?_) (fun h4 => ?_)
  · exact absurd h4 h1
  · skip
    refine ex_iload_n dX12_harbour_7 rfl ?_
    refine rx_cS dX12_harbour_8 rfl lk_X12_111 ⟨⟨rfl, rfl⟩, by decide, by decide⟩ rfl (Nat.le_of_ble_eq_true rfl) rfl s_X12_isText (Rs.k ?_)
    refine ex_if_ne 16 dX12_harbour_11 (by decide) (fun h11 => ?_) (fun h11 => ?_)
    · have qk := (cl_lt (N := 4) (by decide) h1).1
      have vk := (cl_lt (N := 4) (by decide) h1).2
      have qz := (cl_lt (N := 4) (by decide) h2).1
      have vz := (cl_lt (N := 4) (by decide) h2).2
      have h4 := hh4
      refine ex_aload_n dX12_harbour_16 rfl ?_
      refine g_12_8 dX12_harbour_17 rfl wf_X12_22 (by first | assumption | rfl) (show Rt _ 200 8 = some 205 from rfl) ?_
      refine ex_iload_n dX12_harbour_20 rfl ?_
      refine rx_iald dX12_harbour_21 (by first | assumption | rfl) (by first | assumption | (unfold vp_in; decide)) ?_
      refine ex_if_ge 31 dX12_harbour_22 (by decide) (fun h22 => ?_) (fun h22 => ?_)
      · skip
        refine ex_aload_n dX12_harbour_31 rfl ?_
        refine ex_iload_n dX12_harbour_32 rfl ?_
        refine rx_cV (kd := 12) dX12_harbour_33 rfl lk_X12_148 rfl (by decide) (by first | assumption | rfl) ⟨⟨rfl, rfl⟩, by decide, by decide⟩ rfl (Nat.le_of_ble_eq_true rfl) rfl (s_hfG vz (tq_of hT hB qz h4)) ?_
        refine Rx.k ?_
        intro x1
        refine ex_bipush (v := (-9)) dX12_harbour_36 (by decide) ?_
        refine ex_icmp_eq 44 dX12_harbour_38 (by decide) (fun h38 => ?_) (fun h38 => ?_)
        · exact absurd h38 h5
        · skip
          refine ex_bipush (v := (-4)) dX12_harbour_41 (by decide) ?_
          refine ex_iret dX12_harbour_43 rfl rfl ⟨rfl, Nat.le_refl _⟩ ?_
          exact ⟨rfl, _, rfl⟩
      · exact absurd (Int32.not_lt.mp hh4) h22
    · exact absurd h11 h2
set_option maxRecDepth 100000 in
set_option maxHeartbeats 4000000 in
theorem s_X12_harbourK {y z : Int32} (hT : TzS I) (hB : BtS I) (h1 : ¬ b2i (0 ≤ y ∧ y ≤ 3) = 0) (h2 : ¬ b2i (0 ≤ z ∧ z ≤ 3) = 0) (hh4 : ¬ I 205 z.toNatClampNeg < 0) (h5 : (mHar I z.toNatClampNeg).1 = -9) : Ca G mdX12_harbour [.ref 200, .int y, .int z] (mk I L t) (RxK ((mHar I z.toNatClampNeg).2.2 212 0) (mHar I z.toNatClampNeg).2.2 (mHar I z.toNatClampNeg).2.1 (harW y.toNatClampNeg) L t) := by
  refine Ca.intro [some (.ref 200), some (.int y), some (.int z), none] (by decide) (Nat.le_of_ble_eq_true rfl) rfl rfl ?_
  refine ex_iload_n dX12_harbour_0 rfl ?_
  refine rx_cS dX12_harbour_1 rfl lk_X12_151 ⟨⟨rfl, rfl⟩, by decide, by decide⟩ rfl (Nat.le_of_ble_eq_true rfl) rfl s_X12_isPlace (Rs.k ?_)
  refine ex_if_eq 14 dX12_harbour_4 (by decide) (fun h4 => ?_) (fun h4 => ?_)
  · exact absurd h4 h1
  · skip
    refine ex_iload_n dX12_harbour_7 rfl ?_
    refine rx_cS dX12_harbour_8 rfl lk_X12_111 ⟨⟨rfl, rfl⟩, by decide, by decide⟩ rfl (Nat.le_of_ble_eq_true rfl) rfl s_X12_isText (Rs.k ?_)
    refine ex_if_ne 16 dX12_harbour_11 (by decide) (fun h11 => ?_) (fun h11 => ?_)
    · have qk := (cl_lt (N := 4) (by decide) h1).1
      have vk := (cl_lt (N := 4) (by decide) h1).2
      have qz := (cl_lt (N := 4) (by decide) h2).1
      have vz := (cl_lt (N := 4) (by decide) h2).2
      have h4 := hh4
      refine ex_aload_n dX12_harbour_16 rfl ?_
      refine g_12_8 dX12_harbour_17 rfl wf_X12_22 (by first | assumption | rfl) (show Rt _ 200 8 = some 205 from rfl) ?_
      refine ex_iload_n dX12_harbour_20 rfl ?_
      refine rx_iald dX12_harbour_21 (by first | assumption | rfl) (by first | assumption | (unfold vp_in; decide)) ?_
      refine ex_if_ge 31 dX12_harbour_22 (by decide) (fun h22 => ?_) (fun h22 => ?_)
      · skip
        refine ex_aload_n dX12_harbour_31 rfl ?_
        refine ex_iload_n dX12_harbour_32 rfl ?_
        refine rx_cV (kd := 12) dX12_harbour_33 rfl lk_X12_148 rfl (by decide) (by first | assumption | rfl) ⟨⟨rfl, rfl⟩, by decide, by decide⟩ rfl (Nat.le_of_ble_eq_true rfl) rfl (s_hfG vz (tq_of hT hB qz h4)) ?_
        refine Rx.k ?_
        intro x1
        refine ex_bipush (v := (-9)) dX12_harbour_36 (by decide) ?_
        refine ex_icmp_eq 44 dX12_harbour_38 (by decide) (fun h38 => ?_) (fun h38 => ?_)
        · skip
          refine ex_iconst (v := 0) dX12_harbour_44 (by decide) ?_
          refine st_i3 dX12_harbour_45 (by first | exact rfl | exact trivial) ?_
          refine (lm_har0 vk) ?_
          refine ex_aload_n dX12_harbour_75 rfl ?_
          refine g_12_10 dX12_harbour_76 rfl wf_X12_29 (by first | assumption | rfl) (show Rt _ 200 10 = some 207 from rfl) ?_
          refine ex_iload_n dX12_harbour_79 rfl ?_
          refine ex_iconst (v := 1) dX12_harbour_80 (by decide) ?_
          refine rx_zast dX12_harbour_81 (by first | assumption | rfl) (by first | assumption | (unfold vp_in; decide)) rfl ?_
          refine ex_aload_n dX12_harbour_82 rfl ?_
          refine g_12_18 dX12_harbour_83 rfl wf_X12_45 (by first | assumption | rfl) (show Rt _ 200 18 = some 212 from rfl) ?_
          refine ex_iconst (v := 0) dX12_harbour_86 (by decide) ?_
          refine rx_iald dX12_harbour_87 (by first | assumption | rfl) (by first | assumption | (unfold vp_in; decide)) ?_
          refine ex_iret dX12_harbour_88 rfl rfl ⟨rfl, Nat.le_refl _⟩ ?_
          refine ⟨?_, x1, rfl⟩
          rw [up2_off (by decide), flw_off (by decide), rm_off (by decide)]
          rfl
        · exact absurd h5 h38
      · exact absurd (Int32.not_lt.mp hh4) h22
    · exact absurd h11 h2
set_option maxRecDepth 100000 in
set_option maxHeartbeats 4000000 in
theorem s_X12_seaB {y z : Int32} (hT : TzS I) (hB : BtS I) (h1 : b2i (0 ≤ y ∧ y ≤ 3) = 0 ∨ b2i (0 ≤ z ∧ z ≤ 3) = 0) : Ca G mdX12_sea [.ref 200, .int y, .int z] (mk I L t) (Rs (.int (-1)) (mk I L t)) := by
  refine Ca.intro [some (.ref 200), some (.int y), some (.int z), none] (by decide) (Nat.le_of_ble_eq_true rfl) rfl rfl ?_
  refine ex_iload_n dX12_sea_0 rfl ?_
  refine rx_cS dX12_sea_1 rfl lk_X12_151 ⟨⟨rfl, rfl⟩, by decide, by decide⟩ rfl (Nat.le_of_ble_eq_true rfl) rfl s_X12_isPlace (Rs.k ?_)
  refine ex_if_eq 14 dX12_sea_4 (by decide) (fun h4 => ?_) (fun h4 => ?_)
  · skip
    refine ex_iconst (v := (-1)) dX12_sea_14 (by decide) ?_
    refine ex_iret dX12_sea_15 rfl rfl ⟨rfl, Nat.le_refl _⟩ ?_
    exact ⟨rfl, rfl⟩
  · skip
    refine ex_iload_n dX12_sea_7 rfl ?_
    refine rx_cS dX12_sea_8 rfl lk_X12_111 ⟨⟨rfl, rfl⟩, by decide, by decide⟩ rfl (Nat.le_of_ble_eq_true rfl) rfl s_X12_isText (Rs.k ?_)
    refine ex_if_ne 16 dX12_sea_11 (by decide) (fun h11 => ?_) (fun h11 => ?_)
    · exact absurd h1 (fun q => q.elim h4 h11)
    · skip
      refine ex_iconst (v := (-1)) dX12_sea_14 (by decide) ?_
      refine ex_iret dX12_sea_15 rfl rfl ⟨rfl, Nat.le_refl _⟩ ?_
      exact ⟨rfl, rfl⟩
set_option maxRecDepth 100000 in
set_option maxHeartbeats 4000000 in
theorem s_X12_seaN {y z : Int32} (hT : TzS I) (hB : BtS I) (h1 : ¬ b2i (0 ≤ y ∧ y ≤ 3) = 0) (h2 : ¬ b2i (0 ≤ z ∧ z ≤ 3) = 0) (h3 : I 205 z.toNatClampNeg < 0) : Ca G mdX12_sea [.ref 200, .int y, .int z] (mk I L t) (Rs (.int (-3)) (mk (meI I 1) L t)) := by
  refine Ca.intro [some (.ref 200), some (.int y), some (.int z), none] (by decide) (Nat.le_of_ble_eq_true rfl) rfl rfl ?_
  refine ex_iload_n dX12_sea_0 rfl ?_
  refine rx_cS dX12_sea_1 rfl lk_X12_151 ⟨⟨rfl, rfl⟩, by decide, by decide⟩ rfl (Nat.le_of_ble_eq_true rfl) rfl s_X12_isPlace (Rs.k ?_)
  refine ex_if_eq 14 dX12_sea_4 (by decide) (fun h4 => ?_) (fun h4 => ?_)
  · exact absurd h4 h1
  · skip
    refine ex_iload_n dX12_sea_7 rfl ?_
    refine rx_cS dX12_sea_8 rfl lk_X12_111 ⟨⟨rfl, rfl⟩, by decide, by decide⟩ rfl (Nat.le_of_ble_eq_true rfl) rfl s_X12_isText (Rs.k ?_)
    refine ex_if_ne 16 dX12_sea_11 (by decide) (fun h11 => ?_) (fun h11 => ?_)
    · have qk := (cl_lt (N := 4) (by decide) h1).1
      have vk := (cl_lt (N := 4) (by decide) h1).2
      have qz := (cl_lt (N := 4) (by decide) h2).1
      have vz := (cl_lt (N := 4) (by decide) h2).2
      refine ex_aload_n dX12_sea_16 rfl ?_
      refine g_12_8 dX12_sea_17 rfl wf_X12_22 (by first | assumption | rfl) (show Rt _ 200 8 = some 205 from rfl) ?_
      refine ex_iload_n dX12_sea_20 rfl ?_
      refine rx_iald dX12_sea_21 (by first | assumption | rfl) (by first | assumption | (unfold vp_in; decide)) ?_
      refine ex_if_ge 31 dX12_sea_22 (by decide) (fun h22 => ?_) (fun h22 => ?_)
      · exact absurd h3 (Int32.not_lt.mpr h22)
      · skip
        refine ex_aload_n dX12_sea_25 rfl ?_
        refine ex_iconst (v := 1) dX12_sea_26 (by decide) ?_
        refine rx_cV (kd := 12) dX12_sea_27 rfl lk_X12_100 rfl (by decide) (by first | assumption | rfl) ⟨⟨rfl, rfl⟩, by decide, by decide⟩ rfl (Nat.le_of_ble_eq_true rfl) rfl (s_X12_meets (by unfold vp_in; decide)) (Rs.k ?_)
        refine ex_iret dX12_sea_30 rfl rfl ⟨rfl, Nat.le_refl _⟩ ?_
        exact ⟨rfl, rfl⟩
    · exact absurd h11 h2
set_option maxRecDepth 100000 in
set_option maxHeartbeats 4000000 in
theorem s_X12_seaF {y z : Int32} (hT : TzS I) (hB : BtS I) (h1 : ¬ b2i (0 ≤ y ∧ y ≤ 3) = 0) (h2 : ¬ b2i (0 ≤ z ∧ z ≤ 3) = 0) (hh4 : ¬ I 205 z.toNatClampNeg < 0) (h5 : ¬ (mSea I z.toNatClampNeg).1 = -9) : Ca G mdX12_sea [.ref 200, .int y, .int z] (mk I L t) (Rx (.int (-4)) (mSea I z.toNatClampNeg).2.2.2 (mSea I z.toNatClampNeg).2.1 L t) := by
  refine Ca.intro [some (.ref 200), some (.int y), some (.int z), none] (by decide) (Nat.le_of_ble_eq_true rfl) rfl rfl ?_
  refine ex_iload_n dX12_sea_0 rfl ?_
  refine rx_cS dX12_sea_1 rfl lk_X12_151 ⟨⟨rfl, rfl⟩, by decide, by decide⟩ rfl (Nat.le_of_ble_eq_true rfl) rfl s_X12_isPlace (Rs.k ?_)
  refine ex_if_eq 14 dX12_sea_4 (by decide) (fun h4 => ?_) (fun h4 => ?_)
  · exact absurd h4 h1
  · skip
    refine ex_iload_n dX12_sea_7 rfl ?_
    refine rx_cS dX12_sea_8 rfl lk_X12_111 ⟨⟨rfl, rfl⟩, by decide, by decide⟩ rfl (Nat.le_of_ble_eq_true rfl) rfl s_X12_isText (Rs.k ?_)
    refine ex_if_ne 16 dX12_sea_11 (by decide) (fun h11 => ?_) (fun h11 => ?_)
    · have qk := (cl_lt (N := 4) (by decide) h1).1
      have vk := (cl_lt (N := 4) (by decide) h1).2
      have qz := (cl_lt (N := 4) (by decide) h2).1
      have vz := (cl_lt (N := 4) (by decide) h2).2
      have h4 := hh4
      refine ex_aload_n dX12_sea_16 rfl ?_
      refine g_12_8 dX12_sea_17 rfl wf_X12_22 (by first | assumption | rfl) (show Rt _ 200 8 = some 205 from rfl) ?_
      refine ex_iload_n dX12_sea_20 rfl ?_
      refine rx_iald dX12_sea_21 (by first | assumption | rfl) (by first | assumption | (unfold vp_in; decide)) ?_
      refine ex_if_ge 31 dX12_sea_22 (by decide) (fun h22 => ?_) (fun h22 => ?_)
      · skip
        refine ex_aload_n dX12_sea_31 rfl ?_
        refine ex_iload_n dX12_sea_32 rfl ?_
        refine rx_cV (kd := 12) dX12_sea_33 rfl lk_X12_145 rfl (by decide) (by first | assumption | rfl) ⟨⟨rfl, rfl⟩, by decide, by decide⟩ rfl (Nat.le_of_ble_eq_true rfl) rfl (s_sfG vz (tq_of hT hB qz h4)) ?_
        refine Rx.k ?_
        intro x1
        refine ex_bipush (v := (-9)) dX12_sea_36 (by decide) ?_
        refine ex_icmp_eq 44 dX12_sea_38 (by decide) (fun h38 => ?_) (fun h38 => ?_)
        · exact absurd h38 h5
        · skip
          refine ex_bipush (v := (-4)) dX12_sea_41 (by decide) ?_
          refine ex_iret dX12_sea_43 rfl rfl ⟨rfl, Nat.le_refl _⟩ ?_
          exact ⟨rfl, _, rfl⟩
      · exact absurd (Int32.not_lt.mp hh4) h22
    · exact absurd h11 h2
set_option maxRecDepth 100000 in
set_option maxHeartbeats 4000000 in
theorem s_X12_seaK {y z : Int32} (hT : TzS I) (hB : BtS I) (h1 : ¬ b2i (0 ≤ y ∧ y ≤ 3) = 0) (h2 : ¬ b2i (0 ≤ z ∧ z ≤ 3) = 0) (hh4 : ¬ I 205 z.toNatClampNeg < 0) (h5 : (mSea I z.toNatClampNeg).1 = -9) : Ca G mdX12_sea [.ref 200, .int y, .int z] (mk I L t) (RxK ((mSea I z.toNatClampNeg).2.2.2 200 17) (mSea I z.toNatClampNeg).2.2.2 (mSea I z.toNatClampNeg).2.1 (seaW y.toNatClampNeg) L t) := by
  refine Ca.intro [some (.ref 200), some (.int y), some (.int z), none] (by decide) (Nat.le_of_ble_eq_true rfl) rfl rfl ?_
  refine ex_iload_n dX12_sea_0 rfl ?_
  refine rx_cS dX12_sea_1 rfl lk_X12_151 ⟨⟨rfl, rfl⟩, by decide, by decide⟩ rfl (Nat.le_of_ble_eq_true rfl) rfl s_X12_isPlace (Rs.k ?_)
  refine ex_if_eq 14 dX12_sea_4 (by decide) (fun h4 => ?_) (fun h4 => ?_)
  · exact absurd h4 h1
  · skip
    refine ex_iload_n dX12_sea_7 rfl ?_
    refine rx_cS dX12_sea_8 rfl lk_X12_111 ⟨⟨rfl, rfl⟩, by decide, by decide⟩ rfl (Nat.le_of_ble_eq_true rfl) rfl s_X12_isText (Rs.k ?_)
    refine ex_if_ne 16 dX12_sea_11 (by decide) (fun h11 => ?_) (fun h11 => ?_)
    · have qk := (cl_lt (N := 4) (by decide) h1).1
      have vk := (cl_lt (N := 4) (by decide) h1).2
      have qz := (cl_lt (N := 4) (by decide) h2).1
      have vz := (cl_lt (N := 4) (by decide) h2).2
      have h4 := hh4
      refine ex_aload_n dX12_sea_16 rfl ?_
      refine g_12_8 dX12_sea_17 rfl wf_X12_22 (by first | assumption | rfl) (show Rt _ 200 8 = some 205 from rfl) ?_
      refine ex_iload_n dX12_sea_20 rfl ?_
      refine rx_iald dX12_sea_21 (by first | assumption | rfl) (by first | assumption | (unfold vp_in; decide)) ?_
      refine ex_if_ge 31 dX12_sea_22 (by decide) (fun h22 => ?_) (fun h22 => ?_)
      · skip
        refine ex_aload_n dX12_sea_31 rfl ?_
        refine ex_iload_n dX12_sea_32 rfl ?_
        refine rx_cV (kd := 12) dX12_sea_33 rfl lk_X12_145 rfl (by decide) (by first | assumption | rfl) ⟨⟨rfl, rfl⟩, by decide, by decide⟩ rfl (Nat.le_of_ble_eq_true rfl) rfl (s_sfG vz (tq_of hT hB qz h4)) ?_
        refine Rx.k ?_
        intro x1
        refine ex_bipush (v := (-9)) dX12_sea_36 (by decide) ?_
        refine ex_icmp_eq 44 dX12_sea_38 (by decide) (fun h38 => ?_) (fun h38 => ?_)
        · skip
          refine ex_iconst (v := 0) dX12_sea_44 (by decide) ?_
          refine st_i3 dX12_sea_45 (by first | exact rfl | exact trivial) ?_
          refine (lm_sea0 vk) ?_
          refine ex_aload_n dX12_sea_75 rfl ?_
          refine g_12_13 dX12_sea_76 rfl wf_X12_39 (by first | assumption | rfl) (show Rt _ 200 13 = some 210 from rfl) ?_
          refine ex_iload_n dX12_sea_79 rfl ?_
          refine ex_aload_n dX12_sea_80 rfl ?_
          refine g_12_17 dX12_sea_81 rfl wf_X12_139 (by first | assumption | rfl) ?_
          refine rx_iast dX12_sea_84 (by first | assumption | rfl) (by first | assumption | (unfold vp_in; decide)) ?_
          refine ex_aload_n dX12_sea_85 rfl ?_
          refine g_12_12 dX12_sea_86 rfl wf_X12_36 (by first | assumption | rfl) (show Rt _ 200 12 = some 209 from rfl) ?_
          refine ex_iload_n dX12_sea_89 rfl ?_
          refine ex_iconst (v := 1) dX12_sea_90 (by decide) ?_
          refine rx_zast dX12_sea_91 (by first | assumption | rfl) (by first | assumption | (unfold vp_in; decide)) rfl ?_
          refine ex_aload_n dX12_sea_92 rfl ?_
          refine g_12_17 dX12_sea_93 rfl wf_X12_139 (by first | assumption | rfl) ?_
          refine ex_iret dX12_sea_96 rfl rfl ⟨rfl, Nat.le_refl _⟩ ?_
          refine ⟨?_, x1, ?_⟩
          · rw [up2_off (by decide), up2_off (by decide), flw_off (by decide), rm_o (by decide) (by decide)]
          · unfold seaW
            rw [flw_off (by decide)]
        · exact absurd h5 h38
      · exact absurd (Int32.not_lt.mp hh4) h22
    · exact absurd h11 h2
end M6
