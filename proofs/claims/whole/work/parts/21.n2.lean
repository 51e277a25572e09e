section N2
variable {G : Gp} {I : Im} {L : Nat → Nat → Int64} {t : Nat}
def CalmS (I : Im) : Prop := (I 95 2 = 0 ∨ I 95 2 = 1) ∧ I 95 3 = 0
def hrI (J : Im) (n q i : Nat) : Im :=
  match i with
  | 0 => J
  | i + 1 => up2 (waPass (hrI J n q i) 25 n 0) 100 i (waPass (hrI J n q i) 25 n 0 31 q)
termination_by i
theorem hrI_0 {J : Im} {n q : Nat} : hrI J n q 0 = J := by rw [hrI]
theorem hrI_s {J : Im} {n q i : Nat} : hrI J n q (i + 1) = up2 (waPass (hrI J n q i) 25 n 0) 100 i (waPass (hrI J n q i) 25 n 0 31 q) := by rw [hrI]
theorem hrI_off {J : Im} {n q e : Nat} (h : e ≠ 25 ∧ e ≠ 31 ∧ e ≠ 32 ∧ e ≠ 34 ∧ e ≠ 35 ∧ e ≠ 100) : ∀ i, hrI J n q i e = J e := by
  intro i
  induction i with
  | zero => rw [hrI_0]
  | succ i ih =>
    rw [hrI_s, up2_off (by omega), waPass_off (by omega) (by omega) (by omega) (by omega) (by omega), ih]
theorem waLift_off {a e : Nat} {k h : Int32} (he : e ≠ a + 6) : waLift I a k h e = I e := by
  unfold waLift
  split
  · exact up2_off he
  · rfl
def heJ (I : Im) (b q : Nat) : Im := waLift (waBegin I 25 b 95) 25 (nI q) 1000
def hearF (I : Im) (b q : Nat) : Im :=
  let J := hrI (heJ I b q) (I b 2).toNatClampNeg q 400
  crW J (crN (J 100) 399)
def roI (J : Im) (i : Nat) : Im :=
  match i with
  | 0 => J
  | i + 1 => up2 (boRide (roI J i) 98 0 (nI i)) 100 i (boRide (roI J i) 98 0 (nI i) 98 6)
termination_by i
theorem roI_0 {J : Im} : roI J 0 = J := by rw [roI]
theorem roI_s {J : Im} {i : Nat} : roI J (i + 1) = up2 (boRide (roI J i) 98 0 (nI i)) 100 i (boRide (roI J i) 98 0 (nI i) 98 6) := by rw [roI]
def roJ (I : Im) (s : Nat) : Im := up2 (boRest (boTake I 98 s) 98) 98 6 (boRest (boTake I 98 s) 98 98 4 + 100)
def rollF (I : Im) (s : Nat) : Im := crW (roI (roJ I s) 400) (crN (roI (roJ I s) 400 100) 399)
set_option maxRecDepth 100000 in
set_option maxHeartbeats 4000000 in
theorem s_X11_hearRing {b : Nat} {k : Int32} (hb : K0 b = (0, 7)) (hb9 : 90 < b) (hC : CalmS I) (hz : I b 1 = 0 ∨ I b 1 = 1) (he : ∃ n, 3 ≤ n ∧ n ≤ 16 ∧ I b 2 = nI n) (hk : ¬ b2i (0 ≤ k ∧ k < I b 2 ∧ k < 16) = 0) : Ca G mdX11_hearRing [.ref 0, .ref b, .int k] (mk I L t) (Rv (mk (hearF I b k.toNatClampNeg) L t)) := by
  obtain ⟨n, h3, hn, e⟩ := he
  obtain ⟨q, hq, rfl⟩ := hc_q e hn hk
  have hf : hearF I b (nI q).toNatClampNeg = crW (hrI (heJ I b q) n q 400) (crN (hrI (heJ I b q) n q 400 100) 399) := by
    unfold hearF
    dsimp only
    rw [e, nI_clamp (by omega), nI_clamp (by omega)]
  rw [hf]
  have e1 : heJ I b q 26 2 = nI n := by
    unfold heJ
    rw [waLift_off (by decide), show (26 : Nat) = 25 + 1 from rfl, waBegin_bas (by omega) (by omega) (by omega) (by omega) 2 (by decide) (by decide)]
    exact e
  have e2 : heJ I b q 28 3 = nI 0 := by
    unfold heJ
    rw [waLift_off (by decide), show (28 : Nat) = 25 + 3 from rfl, waBegin_sw (by decide) (by decide) (by decide)]
    exact hC.2
  refine Ca.intro [some (.ref 0), some (.ref b), some (.int (nI q)), none, none] (by decide) (Nat.le_of_ble_eq_true rfl) rfl rfl ?_
  refine ex_aload_n dX11_hearRing_0 rfl ?_
  refine g_11_8 dX11_hearRing_1 rfl wf_X11_58 (by first | assumption | rfl) (show Rt _ 0 8 = some 24 from rfl) ?_
  refine g_5_0 dX11_hearRing_4 rfl wf_X11_251 (by first | assumption | rfl) (show Rt _ 24 0 = some 25 from rfl) ?_
  refine st_a3 dX11_hearRing_7 (by first | exact rfl | exact trivial) ?_
  refine ex_aload_n dX11_hearRing_8 rfl ?_
  refine ex_aload_n dX11_hearRing_9 rfl ?_
  refine ex_aload_n dX11_hearRing_10 rfl ?_
  refine g_11_11 dX11_hearRing_11 rfl wf_X11_74 (by first | assumption | rfl) (show Rt _ 0 11 = some 95 from rfl) ?_
  refine rx_cV (kd := 9) dX11_hearRing_14 rfl lk_X11_338 rfl (by decide) (by first | assumption | rfl) ⟨⟨rfl, rfl⟩, by decide, by decide⟩ rfl (Nat.le_of_ble_eq_true rfl) rfl (s_X9_begin (a := 25) (s := 95) rfl hb rfl hz hC.1) (Rv.k ?_)
  refine ex_aload_n dX11_hearRing_17 rfl ?_
  refine ex_iload_n dX11_hearRing_18 rfl ?_
  refine ex_sipush (v := 1000) dX11_hearRing_19 (by decide) ?_
  refine rx_cV (kd := 9) dX11_hearRing_22 rfl lk_X11_339 rfl (by decide) (by first | assumption | rfl) ⟨⟨rfl, rfl⟩, by decide, by decide⟩ rfl (Nat.le_of_ble_eq_true rfl) rfl (s_X9_lift (a := 25) rfl) (Rv.k ?_)
  refine ex_iconst (v := 0) dX11_hearRing_25 (by decide) ?_
  refine st_i4 dX11_hearRing_26 (by first | exact rfl | exact trivial) ?_
  have key := loop_up (G := G) (d := mdX11_hearRing) (pc := 28) (st := []) (uc := 0) (us := 0) (P := Rv (mk (crW (hrI (heJ I b q) n q 400) (crN (hrI (heJ I b q) n q 400 100) 399)) L t)) 400 (fun k => mk (hrI (heJ I b q) n q k) L t) (fun k => [some (.ref 0), some (.ref b), some (.int (nI q)), some (.ref 25), some (.int (nI k))]) ?_ ?_ 0 (Nat.zero_le _)
  · rw [hrI_0] at key
    exact key
  · intro k hk ih
    refine ex_iload dX11_hearRing_28 rfl ?_
    refine ex_sipush (v := 400) dX11_hearRing_30 (by decide) ?_
    refine ex_icmp_ge 62 dX11_hearRing_33 (by decide) (fun h33 => ?_) (fun h33 => ?_)
    · exact absurd h33 (nI_ge (by omega) (by decide))
    · skip
      refine ex_aload_n dX11_hearRing_36 rfl ?_
      refine rx_cV (kd := 9) dX11_hearRing_37 rfl lk_X11_342 rfl (by decide) (by first | assumption | rfl) ⟨⟨rfl, rfl⟩, by decide, by decide⟩ rfl (Nat.le_of_ble_eq_true rfl) rfl (s_X9_pass (a := 25) (n := n) (c := 0) rfl h3 hn (by rw [hrI_off (by decide)]; exact e1) (by rw [hrI_off (by decide)]; exact e2) (by decide)) (Rv.k ?_)
      refine ex_aload_n dX11_hearRing_40 rfl ?_
      refine g_11_13 dX11_hearRing_41 rfl wf_X11_86 (by first | assumption | rfl) (show Rt _ 0 13 = some 99 from rfl) ?_
      refine g_2_0 dX11_hearRing_44 rfl wf_X11_344 (by first | assumption | rfl) (show Rt _ 99 0 = some 100 from rfl) ?_
      refine ex_iload dX11_hearRing_47 rfl ?_
      refine ex_aload_n dX11_hearRing_49 rfl ?_
      refine ex_iload_n dX11_hearRing_50 rfl ?_
      refine ex_iconst (v := 0) dX11_hearRing_51 (by decide) ?_
      refine rx_cV (kd := 9) dX11_hearRing_52 rfl lk_X11_264 rfl (by decide) (by first | assumption | rfl) ⟨⟨rfl, rfl⟩, by decide, by decide⟩ rfl (Nat.le_of_ble_eq_true rfl) rfl (s_X9_fact0 (a := 25) (n := n) rfl hn (by rw [waPass_off (by decide) (by decide) (by decide) (by decide) (by decide), hrI_off (by decide)]; exact e1) hq) (Rs.k ?_)
      refine rx_iast dX11_hearRing_55 (by first | assumption | rfl) (vp_in_nI (by omega) (by decide)) ?_
      rw [nI_clamp (by omega)]
      refine inc4 (v := _ + 1) dX11_hearRing_56 (by rfl) (by first | exact rfl | exact trivial) ?_
      refine ex_goto 28 dX11_hearRing_59 (by decide) ?_
      rw [nI_1]
      rw [hrI_s] at ih
      exact ih
  · skip
    refine ex_iload dX11_hearRing_28 rfl ?_
    refine ex_sipush (v := 400) dX11_hearRing_30 (by decide) ?_
    refine ex_icmp_ge 62 dX11_hearRing_33 (by decide) (fun h33 => ?_) (fun h33 => ?_)
    · skip
      refine ex_aload_n dX11_hearRing_62 rfl ?_
      refine g_11_13 dX11_hearRing_63 rfl wf_X11_86 (by first | assumption | rfl) (show Rt _ 0 13 = some 99 from rfl) ?_
      refine ex_aload_n dX11_hearRing_66 rfl ?_
      refine g_11_13 dX11_hearRing_67 rfl wf_X11_86 (by first | assumption | rfl) (show Rt _ 0 13 = some 99 from rfl) ?_
      refine g_2_0 dX11_hearRing_70 rfl wf_X11_344 (by first | assumption | rfl) (show Rt _ 99 0 = some 100 from rfl) ?_
      refine ex_sipush (v := 400) dX11_hearRing_73 (by decide) ?_
      refine rx_cV (kd := 2) dX11_hearRing_76 rfl lk_X11_283 rfl (by decide) (by first | assumption | rfl) ⟨⟨rfl, rfl⟩, by decide, by decide⟩ rfl (Nat.le_of_ble_eq_true rfl) rfl (s_X2_look (N := 399) (n := 400) rfl (by decide) (by decide) (by decide)) (Rv.k ?_)
      refine ex_vret dX11_hearRing_79 rfl ⟨rfl, Nat.le_refl _⟩ ?_
      exact ⟨rfl, rfl⟩
    · exact absurd (by decide : nI 400 ≤ nI 400) h33
set_option maxRecDepth 100000 in
set_option maxHeartbeats 4000000 in
theorem s_X11_hearRoll {s : Nat} (hs : K0 s = (1, 10)) (hz : I s 0 = 0 ∨ I s 0 = 1) : Ca G mdX11_hearRoll [.ref 0, .ref s] (mk I L t) (Rv (mk (rollF I s) L t)) := by
  refine Ca.intro [some (.ref 0), some (.ref s), none] (by decide) (Nat.le_of_ble_eq_true rfl) rfl rfl ?_
  unfold rollF
  refine ex_aload_n dX11_hearRoll_0 rfl ?_
  refine g_11_12 dX11_hearRoll_1 rfl wf_X11_79 (by first | assumption | rfl) (show Rt _ 0 12 = some 98 from rfl) ?_
  refine ex_aload_n dX11_hearRoll_4 rfl ?_
  refine rx_cV (kd := 1) dX11_hearRoll_5 rfl lk_X11_347 rfl (by decide) (by first | assumption | rfl) ⟨⟨rfl, rfl⟩, by decide, by decide⟩ rfl (Nat.le_of_ble_eq_true rfl) rfl (s_X1_take (a := 98) rfl hs hz) (Rv.k ?_)
  refine ex_aload_n dX11_hearRoll_8 rfl ?_
  refine g_11_12 dX11_hearRoll_9 rfl wf_X11_79 (by first | assumption | rfl) (show Rt _ 0 12 = some 98 from rfl) ?_
  refine rx_cV (kd := 1) dX11_hearRoll_12 rfl lk_X11_349 rfl (by decide) (by first | assumption | rfl) ⟨⟨rfl, rfl⟩, by decide, by decide⟩ rfl (Nat.le_of_ble_eq_true rfl) rfl (s_X1_rest (a := 98) rfl) (Rv.k ?_)
  refine ex_aload_n dX11_hearRoll_15 rfl ?_
  refine g_11_12 dX11_hearRoll_16 rfl wf_X11_79 (by first | assumption | rfl) (show Rt _ 0 12 = some 98 from rfl) ?_
  refine ex_aload_n dX11_hearRoll_19 rfl ?_
  refine g_11_12 dX11_hearRoll_20 rfl wf_X11_79 (by first | assumption | rfl) (show Rt _ 0 12 = some 98 from rfl) ?_
  refine g_1_4 dX11_hearRoll_23 rfl wf_X11_352 (by first | assumption | rfl) ?_
  refine ex_bipush (v := 100) dX11_hearRoll_26 (by decide) ?_
  refine ex_iadd dX11_hearRoll_28 ?_
  refine p_1_6 dX11_hearRoll_29 rfl wf_X11_355 (by first | assumption | rfl) ?_
  refine ex_iconst (v := 0) dX11_hearRoll_32 (by decide) ?_
  refine st_i2 dX11_hearRoll_33 (by first | exact rfl | exact trivial) ?_
  have key := loop_up (G := G) (d := mdX11_hearRoll) (pc := 34) (st := []) (uc := 0) (us := 0) (P := Rv (mk (crW (roI (roJ I s) 400) (crN (roI (roJ I s) 400 100) 399)) L t)) 400 (fun k => mk (roI (roJ I s) k) L t) (fun k => [some (.ref 0), some (.ref s), some (.int (nI k))]) ?_ ?_ 0 (Nat.zero_le _)
  · rw [roI_0] at key
    exact key
  · intro k hk ih
    refine ex_iload_n dX11_hearRoll_34 rfl ?_
    refine ex_sipush (v := 400) dX11_hearRoll_35 (by decide) ?_
    refine ex_icmp_ge 72 dX11_hearRoll_38 (by decide) (fun h38 => ?_) (fun h38 => ?_)
    · exact absurd h38 (nI_ge (by omega) (by decide))
    · skip
      refine ex_aload_n dX11_hearRoll_41 rfl ?_
      refine g_11_12 dX11_hearRoll_42 rfl wf_X11_79 (by first | assumption | rfl) (show Rt _ 0 12 = some 98 from rfl) ?_
      refine ex_iconst (v := 0) dX11_hearRoll_45 (by decide) ?_
      refine ex_iload_n dX11_hearRoll_46 rfl ?_
      refine rx_cV (kd := 1) dX11_hearRoll_47 rfl lk_X11_358 rfl (by decide) (by first | assumption | rfl) ⟨⟨rfl, rfl⟩, by decide, by decide⟩ rfl (Nat.le_of_ble_eq_true rfl) rfl (s_X1_ride (a := 98) rfl) (Rv.k ?_)
      refine ex_aload_n dX11_hearRoll_50 rfl ?_
      refine g_11_13 dX11_hearRoll_51 rfl wf_X11_86 (by first | assumption | rfl) (show Rt _ 0 13 = some 99 from rfl) ?_
      refine g_2_0 dX11_hearRoll_54 rfl wf_X11_344 (by first | assumption | rfl) (show Rt _ 99 0 = some 100 from rfl) ?_
      refine ex_iload_n dX11_hearRoll_57 rfl ?_
      refine ex_aload_n dX11_hearRoll_58 rfl ?_
      refine g_11_12 dX11_hearRoll_59 rfl wf_X11_79 (by first | assumption | rfl) (show Rt _ 0 12 = some 98 from rfl) ?_
      refine g_1_6 dX11_hearRoll_62 rfl wf_X11_355 (by first | assumption | rfl) ?_
      refine rx_iast dX11_hearRoll_65 (by first | assumption | rfl) (vp_in_nI (by omega) (by decide)) ?_
      rw [nI_clamp (by omega)]
      refine inc2 (v := _ + 1) dX11_hearRoll_66 (by rfl) (by first | exact rfl | exact trivial) ?_
      refine ex_goto 34 dX11_hearRoll_69 (by decide) ?_
      rw [nI_1]
      rw [roI_s] at ih
      exact ih
  · skip
    refine ex_iload_n dX11_hearRoll_34 rfl ?_
    refine ex_sipush (v := 400) dX11_hearRoll_35 (by decide) ?_
    refine ex_icmp_ge 72 dX11_hearRoll_38 (by decide) (fun h38 => ?_) (fun h38 => ?_)
    · skip
      refine ex_aload_n dX11_hearRoll_72 rfl ?_
      refine g_11_13 dX11_hearRoll_73 rfl wf_X11_86 (by first | assumption | rfl) (show Rt _ 0 13 = some 99 from rfl) ?_
      refine ex_aload_n dX11_hearRoll_76 rfl ?_
      refine g_11_13 dX11_hearRoll_77 rfl wf_X11_86 (by first | assumption | rfl) (show Rt _ 0 13 = some 99 from rfl) ?_
      refine g_2_0 dX11_hearRoll_80 rfl wf_X11_344 (by first | assumption | rfl) (show Rt _ 99 0 = some 100 from rfl) ?_
      refine ex_sipush (v := 400) dX11_hearRoll_83 (by decide) ?_
      refine rx_cV (kd := 2) dX11_hearRoll_86 rfl lk_X11_283 rfl (by decide) (by first | assumption | rfl) ⟨⟨rfl, rfl⟩, by decide, by decide⟩ rfl (Nat.le_of_ble_eq_true rfl) rfl (s_X2_look (N := 399) (n := 400) rfl (by decide) (by decide) (by decide)) (Rv.k ?_)
      refine ex_vret dX11_hearRoll_89 rfl ⟨rfl, Nat.le_refl _⟩ ?_
      exact ⟨rfl, rfl⟩
    · exact absurd (by decide : nI 400 ≤ nI 400) h38
theorem crG_h {b q : Nat} : CrG (hearF I b q) := by
  unfold hearF
  exact crG (by decide)
theorem crG_r {s : Nat} : CrG (rollF I s) := by
  unfold rollF
  exact crG (by decide)
def f_X11_ring (I : Im) (L : Nat → Nat → Int64) (k : Int32) (c : Int32) : Int32 × Im × (Nat → Nat → Int64) :=
  if (b2i (0 ≤ k ∧ k ≤ 3)) = 0 then
    ((-1), I, L)
  else
    if (b2i (0 ≤ c ∧ c ≤ 15)) = 0 then
      ((-1), I, L)
    else
      if (I (124 + 2 * k.toNatClampNeg) 1) = 0 then
        let I5 : Im := (f_X11_refuse I 1).2
        ((f_X11_refuse I 1).1, I5, L)
      else
        if (b2i (0 ≤ c ∧ c < I (124 + 2 * k.toNatClampNeg) 2 ∧ c < 16)) = 0 then
          let I4 : Im := (f_X11_refuse I 2).2
          ((f_X11_refuse I 2).1, I4, L)
        else
          let I1 : Im := hearF I (124 + 2 * k.toNatClampNeg) c.toNatClampNeg
          let I2 : Im := (f_X11_tellBeat I1 L).2.1
          let L3 : Nat → Nat → Int64 := (f_X11_tellBeat I1 L).2.2
          ((f_X11_tellBeat I1 L).1, I2, L3)
set_option maxRecDepth 100000 in
set_option maxHeartbeats 4000000 in
theorem s_X11_ring  {k : Int32} {c : Int32} (hHar : HarS I) (hC : CalmS I) : Ca G mdX11_ring [.ref 0, .int k, .int c] (mk I L t) (Rs (.int (f_X11_ring I L k c).1) (mk ((f_X11_ring I L k c).2.1) ((f_X11_ring I L k c).2.2) t)) := by
  refine Ca.intro [some (.ref 0), some (.int k), some (.int c)] (by decide) (Nat.le_of_ble_eq_true rfl) rfl rfl ?_
  refine ex_iload_n dX11_ring_0 rfl ?_
  refine rx_cS dX11_ring_1 rfl lk_X11_181 ⟨⟨rfl, rfl⟩, by decide, by decide⟩ rfl (Nat.le_of_ble_eq_true rfl) rfl s_X11_isHarbour (Rs.k ?_)
  refine ex_if_eq 14 dX11_ring_4 (by decide) (fun h4 => ?_) (fun h4 => ?_)
  · skip
    refine ex_iconst (v := (-1)) dX11_ring_14 (by decide) ?_
    refine ex_iret dX11_ring_15 rfl rfl ⟨rfl, Nat.le_refl _⟩ ?_
    exact ⟨(by simp only [f_X11_ring, ↓eq_true h4, if_true, if_false, not_true_eq_false, not_false_eq_true]), (by simp only [f_X11_ring, ↓eq_true h4, if_true, if_false, not_true_eq_false, not_false_eq_true])⟩
  · have qk := (cl_lt (N := 4) (by decide) h4).1
    have vk := (cl_lt (N := 4) (by decide) h4).2
    have kk := ky_har qk
    have lk := ly_har (t := t) qk
    refine ex_iload_n dX11_ring_7 rfl ?_
    refine rx_cS dX11_ring_8 rfl lk_X11_225 ⟨⟨rfl, rfl⟩, by decide, by decide⟩ rfl (Nat.le_of_ble_eq_true rfl) rfl s_X11_isCell (Rs.k ?_)
    refine ex_if_ne 16 dX11_ring_11 (by decide) (fun h11 => ?_) (fun h11 => ?_)
    · skip
      refine ex_aload_n dX11_ring_16 rfl ?_
      refine g_11_2 dX11_ring_17 rfl wf_X11_23 (by first | assumption | rfl) (show Rt _ 0 2 = some 3 from rfl) ?_
      refine ex_iload_n dX11_ring_20 rfl ?_
      refine rx_aald dX11_ring_21 (by first | assumption | rfl) (by decide) rfl (by first | assumption | (unfold vp_in; decide)) (by first | assumption | rfl) ?_
      refine g_0_1 dX11_ring_22 rfl wf_X11_206 (by first | assumption | rfl) ?_
      refine ex_if_ne 34 dX11_ring_25 (by decide) (fun h25 => ?_) (fun h25 => ?_)
      · skip
        refine ex_aload_n dX11_ring_34 rfl ?_
        refine g_11_2 dX11_ring_35 rfl wf_X11_23 (by first | assumption | rfl) (show Rt _ 0 2 = some 3 from rfl) ?_
        refine ex_iload_n dX11_ring_38 rfl ?_
        refine rx_aald dX11_ring_39 (by first | assumption | rfl) (by decide) rfl (by first | assumption | (unfold vp_in; decide)) (by first | assumption | rfl) ?_
        refine ex_iload_n dX11_ring_40 rfl ?_
        refine rx_cV (kd := 0) dX11_ring_41 rfl lk_X11_207 rfl (by decide) (by first | assumption | rfl) ⟨⟨rfl, rfl⟩, by decide, by decide⟩ rfl (Nat.le_of_ble_eq_true rfl) rfl (s_X0_hasCell kk) (Rs.k ?_)
        refine ex_if_ne 53 dX11_ring_44 (by decide) (fun h44 => ?_) (fun h44 => ?_)
        · skip
          refine ex_aload_n dX11_ring_53 rfl ?_
          refine ex_aload_n dX11_ring_54 rfl ?_
          refine g_11_2 dX11_ring_55 rfl wf_X11_23 (by first | assumption | rfl) (show Rt _ 0 2 = some 3 from rfl) ?_
          refine ex_iload_n dX11_ring_58 rfl ?_
          refine rx_aald dX11_ring_59 (by first | assumption | rfl) (by decide) rfl (by first | assumption | (unfold vp_in; decide)) (by first | assumption | rfl) ?_
          refine ex_iload_n dX11_ring_60 rfl ?_
          refine rx_cV (kd := 11) dX11_ring_61 rfl lk_X11_300 rfl (by decide) (by first | assumption | rfl) ⟨⟨rfl, rfl⟩, by decide, by decide⟩ rfl (Nat.le_of_ble_eq_true rfl) rfl (s_X11_hearRing kk (by omega) hC (hHar _ qk).1 ((hHar _ qk).2 h25) h44) (Rv.k ?_)
          refine ex_aload_n dX11_ring_64 rfl ?_
          refine rx_cV (kd := 11) dX11_ring_65 rfl lk_X11_287 rfl (by decide) (by first | assumption | rfl) ⟨⟨rfl, rfl⟩, by decide, by decide⟩ rfl (Nat.le_of_ble_eq_true rfl) rfl (s_X11_tellBeat crG_h) (Rs.k ?_)
          refine ex_iret dX11_ring_68 rfl rfl ⟨rfl, Nat.le_refl _⟩ ?_
          exact ⟨(by simp only [f_X11_ring, ↓eq_false h4, ↓eq_false h11, ↓eq_false h25, ↓eq_false h44, if_true, if_false, not_true_eq_false, not_false_eq_true]), (by simp only [f_X11_ring, ↓eq_false h4, ↓eq_false h11, ↓eq_false h25, ↓eq_false h44, if_true, if_false, not_true_eq_false, not_false_eq_true])⟩
        · skip
          refine ex_aload_n dX11_ring_47 rfl ?_
          refine ex_iconst (v := 2) dX11_ring_48 (by decide) ?_
          refine rx_cV (kd := 11) dX11_ring_49 rfl lk_X11_129 rfl (by decide) (by first | assumption | rfl) ⟨⟨rfl, rfl⟩, by decide, by decide⟩ rfl (Nat.le_of_ble_eq_true rfl) rfl (s_X11_refuse (by unfold vp_in; decide)) (Rs.k ?_)
          refine ex_iret dX11_ring_52 rfl rfl ⟨rfl, Nat.le_refl _⟩ ?_
          exact ⟨(by simp only [f_X11_ring, ↓eq_false h4, ↓eq_false h11, ↓eq_false h25, ↓eq_true h44, if_true, if_false, not_true_eq_false, not_false_eq_true]), (by simp only [f_X11_ring, ↓eq_false h4, ↓eq_false h11, ↓eq_false h25, ↓eq_true h44, if_true, if_false, not_true_eq_false, not_false_eq_true])⟩
      · skip
        refine ex_aload_n dX11_ring_28 rfl ?_
        refine ex_iconst (v := 1) dX11_ring_29 (by decide) ?_
        refine rx_cV (kd := 11) dX11_ring_30 rfl lk_X11_129 rfl (by decide) (by first | assumption | rfl) ⟨⟨rfl, rfl⟩, by decide, by decide⟩ rfl (Nat.le_of_ble_eq_true rfl) rfl (s_X11_refuse (by unfold vp_in; decide)) (Rs.k ?_)
        refine ex_iret dX11_ring_33 rfl rfl ⟨rfl, Nat.le_refl _⟩ ?_
        exact ⟨(by simp only [f_X11_ring, ↓eq_false h4, ↓eq_false h11, ↓eq_true h25, if_true, if_false, not_true_eq_false, not_false_eq_true]), (by simp only [f_X11_ring, ↓eq_false h4, ↓eq_false h11, ↓eq_true h25, if_true, if_false, not_true_eq_false, not_false_eq_true])⟩
    · skip
      refine ex_iconst (v := (-1)) dX11_ring_14 (by decide) ?_
      refine ex_iret dX11_ring_15 rfl rfl ⟨rfl, Nat.le_refl _⟩ ?_
      exact ⟨(by simp only [f_X11_ring, ↓eq_false h4, ↓eq_true h11, if_true, if_false, not_true_eq_false, not_false_eq_true]), (by simp only [f_X11_ring, ↓eq_false h4, ↓eq_true h11, if_true, if_false, not_true_eq_false, not_false_eq_true])⟩
def f_X11_kindOfRing (I : Im) (k : Int32) (c : Int32) : Int32 × Im :=
  if (b2i (0 ≤ k ∧ k ≤ 3)) = 0 then
    ((-1), I)
  else
    if (b2i (0 ≤ c ∧ c ≤ 15)) = 0 then
      ((-1), I)
    else
      if (I (124 + 2 * k.toNatClampNeg) 1) = 0 then
        let I4 : Im := (f_X11_refuse I 1).2
        ((f_X11_refuse I 1).1, I4)
      else
        if (b2i (0 ≤ c ∧ c < I (124 + 2 * k.toNatClampNeg) 2 ∧ c < 16)) = 0 then
          let I3 : Im := (f_X11_refuse I 2).2
          ((f_X11_refuse I 2).1, I3)
        else
          let I1 : Im := hearF I (124 + 2 * k.toNatClampNeg) c.toNatClampNeg
          if (b2i (2 ≤ I1 99 1)) = 0 then
            let I2 : Im := (f_X11_refuse I1 4).2
            ((f_X11_refuse I1 4).1, I2)
          else
            if 300 < (nI (lastL (I1 100) 400)) then
              (1, I1)
            else
              (5, I1)
set_option maxRecDepth 100000 in
set_option maxHeartbeats 4000000 in
theorem s_X11_kindOfRing  {k : Int32} {c : Int32} (hHar : HarS I) (hC : CalmS I) : Ca G mdX11_kindOfRing [.ref 0, .int k, .int c] (mk I L t) (Rs (.int (f_X11_kindOfRing I k c).1) (mk ((f_X11_kindOfRing I k c).2) L t)) := by
  refine Ca.intro [some (.ref 0), some (.int k), some (.int c)] (by decide) (Nat.le_of_ble_eq_true rfl) rfl rfl ?_
  refine ex_iload_n dX11_kindOfRing_0 rfl ?_
  refine rx_cS dX11_kindOfRing_1 rfl lk_X11_181 ⟨⟨rfl, rfl⟩, by decide, by decide⟩ rfl (Nat.le_of_ble_eq_true rfl) rfl s_X11_isHarbour (Rs.k ?_)
  refine ex_if_eq 14 dX11_kindOfRing_4 (by decide) (fun h4 => ?_) (fun h4 => ?_)
  · skip
    refine ex_iconst (v := (-1)) dX11_kindOfRing_14 (by decide) ?_
    refine ex_iret dX11_kindOfRing_15 rfl rfl ⟨rfl, Nat.le_refl _⟩ ?_
    exact ⟨(by simp only [f_X11_kindOfRing, ↓eq_true h4, if_true, if_false, not_true_eq_false, not_false_eq_true]), (by simp only [f_X11_kindOfRing, ↓eq_true h4, if_true, if_false, not_true_eq_false, not_false_eq_true])⟩
  · have qk := (cl_lt (N := 4) (by decide) h4).1
    have vk := (cl_lt (N := 4) (by decide) h4).2
    have kk := ky_har qk
    have lk := ly_har (t := t) qk
    refine ex_iload_n dX11_kindOfRing_7 rfl ?_
    refine rx_cS dX11_kindOfRing_8 rfl lk_X11_225 ⟨⟨rfl, rfl⟩, by decide, by decide⟩ rfl (Nat.le_of_ble_eq_true rfl) rfl s_X11_isCell (Rs.k ?_)
    refine ex_if_ne 16 dX11_kindOfRing_11 (by decide) (fun h11 => ?_) (fun h11 => ?_)
    · skip
      refine ex_aload_n dX11_kindOfRing_16 rfl ?_
      refine g_11_2 dX11_kindOfRing_17 rfl wf_X11_23 (by first | assumption | rfl) (show Rt _ 0 2 = some 3 from rfl) ?_
      refine ex_iload_n dX11_kindOfRing_20 rfl ?_
      refine rx_aald dX11_kindOfRing_21 (by first | assumption | rfl) (by decide) rfl (by first | assumption | (unfold vp_in; decide)) (by first | assumption | rfl) ?_
      refine g_0_1 dX11_kindOfRing_22 rfl wf_X11_206 (by first | assumption | rfl) ?_
      refine ex_if_ne 34 dX11_kindOfRing_25 (by decide) (fun h25 => ?_) (fun h25 => ?_)
      · skip
        refine ex_aload_n dX11_kindOfRing_34 rfl ?_
        refine g_11_2 dX11_kindOfRing_35 rfl wf_X11_23 (by first | assumption | rfl) (show Rt _ 0 2 = some 3 from rfl) ?_
        refine ex_iload_n dX11_kindOfRing_38 rfl ?_
        refine rx_aald dX11_kindOfRing_39 (by first | assumption | rfl) (by decide) rfl (by first | assumption | (unfold vp_in; decide)) (by first | assumption | rfl) ?_
        refine ex_iload_n dX11_kindOfRing_40 rfl ?_
        refine rx_cV (kd := 0) dX11_kindOfRing_41 rfl lk_X11_207 rfl (by decide) (by first | assumption | rfl) ⟨⟨rfl, rfl⟩, by decide, by decide⟩ rfl (Nat.le_of_ble_eq_true rfl) rfl (s_X0_hasCell kk) (Rs.k ?_)
        refine ex_if_ne 53 dX11_kindOfRing_44 (by decide) (fun h44 => ?_) (fun h44 => ?_)
        · skip
          refine ex_aload_n dX11_kindOfRing_53 rfl ?_
          refine ex_aload_n dX11_kindOfRing_54 rfl ?_
          refine g_11_2 dX11_kindOfRing_55 rfl wf_X11_23 (by first | assumption | rfl) (show Rt _ 0 2 = some 3 from rfl) ?_
          refine ex_iload_n dX11_kindOfRing_58 rfl ?_
          refine rx_aald dX11_kindOfRing_59 (by first | assumption | rfl) (by decide) rfl (by first | assumption | (unfold vp_in; decide)) (by first | assumption | rfl) ?_
          refine ex_iload_n dX11_kindOfRing_60 rfl ?_
          refine rx_cV (kd := 11) dX11_kindOfRing_61 rfl lk_X11_300 rfl (by decide) (by first | assumption | rfl) ⟨⟨rfl, rfl⟩, by decide, by decide⟩ rfl (Nat.le_of_ble_eq_true rfl) rfl (s_X11_hearRing kk (by omega) hC (hHar _ qk).1 ((hHar _ qk).2 h25) h44) (Rv.k ?_)
          refine ex_aload_n dX11_kindOfRing_64 rfl ?_
          refine g_11_13 dX11_kindOfRing_65 rfl wf_X11_86 (by first | assumption | rfl) (show Rt _ 0 13 = some 99 from rfl) ?_
          refine rx_cV (kd := 2) dX11_kindOfRing_68 rfl lk_X11_290 rfl (by decide) (by first | assumption | rfl) ⟨⟨rfl, rfl⟩, by decide, by decide⟩ rfl (Nat.le_of_ble_eq_true rfl) rfl s_X2_haveBeat (Rs.k ?_)
          refine ex_if_ne 80 dX11_kindOfRing_71 (by decide) (fun h71 => ?_) (fun h71 => ?_)
          · skip
            refine ex_aload_n dX11_kindOfRing_80 rfl ?_
            refine g_11_13 dX11_kindOfRing_81 rfl wf_X11_86 (by first | assumption | rfl) (show Rt _ 0 13 = some 99 from rfl) ?_
            refine rx_cV (kd := 2) dX11_kindOfRing_84 rfl lk_X11_323 rfl (by decide) (by first | assumption | rfl) ⟨⟨rfl, rfl⟩, by decide, by decide⟩ rfl (Nat.le_of_ble_eq_true rfl) rfl s_X2_lastLoud (Rs.k ?_)
            refine ex_sipush (v := 300) dX11_kindOfRing_87 (by decide) ?_
            refine ex_icmp_gt 97 dX11_kindOfRing_90 (by decide) (fun h90 => ?_) (fun h90 => ?_)
            · skip
              refine ex_iconst (v := 1) dX11_kindOfRing_97 (by decide) ?_
              refine ex_iret dX11_kindOfRing_98 rfl rfl ⟨rfl, Nat.le_refl _⟩ ?_
              exact ⟨(by simp only [f_X11_kindOfRing, ↓eq_false h4, ↓eq_false h11, ↓eq_false h25, ↓eq_false h44, ↓eq_false h71, ↓h90, if_true, if_false, not_true_eq_false, not_false_eq_true]), (by simp only [f_X11_kindOfRing, ↓eq_false h4, ↓eq_false h11, ↓eq_false h25, ↓eq_false h44, ↓eq_false h71, ↓h90, if_true, if_false, not_true_eq_false, not_false_eq_true])⟩
            · skip
              refine ex_iconst (v := 5) dX11_kindOfRing_93 (by decide) ?_
              refine ex_goto 98 dX11_kindOfRing_94 (by decide) ?_
              refine ex_iret dX11_kindOfRing_98 rfl rfl ⟨rfl, Nat.le_refl _⟩ ?_
              exact ⟨(by simp only [f_X11_kindOfRing, ↓eq_false h4, ↓eq_false h11, ↓eq_false h25, ↓eq_false h44, ↓eq_false h71, ↓h90, if_true, if_false, not_true_eq_false, not_false_eq_true]), (by simp only [f_X11_kindOfRing, ↓eq_false h4, ↓eq_false h11, ↓eq_false h25, ↓eq_false h44, ↓eq_false h71, ↓h90, if_true, if_false, not_true_eq_false, not_false_eq_true])⟩
          · skip
            refine ex_aload_n dX11_kindOfRing_74 rfl ?_
            refine ex_iconst (v := 4) dX11_kindOfRing_75 (by decide) ?_
            refine rx_cV (kd := 11) dX11_kindOfRing_76 rfl lk_X11_129 rfl (by decide) (by first | assumption | rfl) ⟨⟨rfl, rfl⟩, by decide, by decide⟩ rfl (Nat.le_of_ble_eq_true rfl) rfl (s_X11_refuse (by unfold vp_in; decide)) (Rs.k ?_)
            refine ex_iret dX11_kindOfRing_79 rfl rfl ⟨rfl, Nat.le_refl _⟩ ?_
            exact ⟨(by simp only [f_X11_kindOfRing, ↓eq_false h4, ↓eq_false h11, ↓eq_false h25, ↓eq_false h44, ↓eq_true h71, if_true, if_false, not_true_eq_false, not_false_eq_true]), (by simp only [f_X11_kindOfRing, ↓eq_false h4, ↓eq_false h11, ↓eq_false h25, ↓eq_false h44, ↓eq_true h71, if_true, if_false, not_true_eq_false, not_false_eq_true])⟩
        · skip
          refine ex_aload_n dX11_kindOfRing_47 rfl ?_
          refine ex_iconst (v := 2) dX11_kindOfRing_48 (by decide) ?_
          refine rx_cV (kd := 11) dX11_kindOfRing_49 rfl lk_X11_129 rfl (by decide) (by first | assumption | rfl) ⟨⟨rfl, rfl⟩, by decide, by decide⟩ rfl (Nat.le_of_ble_eq_true rfl) rfl (s_X11_refuse (by unfold vp_in; decide)) (Rs.k ?_)
          refine ex_iret dX11_kindOfRing_52 rfl rfl ⟨rfl, Nat.le_refl _⟩ ?_
          exact ⟨(by simp only [f_X11_kindOfRing, ↓eq_false h4, ↓eq_false h11, ↓eq_false h25, ↓eq_true h44, if_true, if_false, not_true_eq_false, not_false_eq_true]), (by simp only [f_X11_kindOfRing, ↓eq_false h4, ↓eq_false h11, ↓eq_false h25, ↓eq_true h44, if_true, if_false, not_true_eq_false, not_false_eq_true])⟩
      · skip
        refine ex_aload_n dX11_kindOfRing_28 rfl ?_
        refine ex_iconst (v := 1) dX11_kindOfRing_29 (by decide) ?_
        refine rx_cV (kd := 11) dX11_kindOfRing_30 rfl lk_X11_129 rfl (by decide) (by first | assumption | rfl) ⟨⟨rfl, rfl⟩, by decide, by decide⟩ rfl (Nat.le_of_ble_eq_true rfl) rfl (s_X11_refuse (by unfold vp_in; decide)) (Rs.k ?_)
        refine ex_iret dX11_kindOfRing_33 rfl rfl ⟨rfl, Nat.le_refl _⟩ ?_
        exact ⟨(by simp only [f_X11_kindOfRing, ↓eq_false h4, ↓eq_false h11, ↓eq_true h25, if_true, if_false, not_true_eq_false, not_false_eq_true]), (by simp only [f_X11_kindOfRing, ↓eq_false h4, ↓eq_false h11, ↓eq_true h25, if_true, if_false, not_true_eq_false, not_false_eq_true])⟩
    · skip
      refine ex_iconst (v := (-1)) dX11_kindOfRing_14 (by decide) ?_
      refine ex_iret dX11_kindOfRing_15 rfl rfl ⟨rfl, Nat.le_refl _⟩ ?_
      exact ⟨(by simp only [f_X11_kindOfRing, ↓eq_false h4, ↓eq_true h11, if_true, if_false, not_true_eq_false, not_false_eq_true]), (by simp only [f_X11_kindOfRing, ↓eq_false h4, ↓eq_true h11, if_true, if_false, not_true_eq_false, not_false_eq_true])⟩
def f_X11_roll (I : Im) (L : Nat → Nat → Int64) (s : Int32) : Int32 × Im × (Nat → Nat → Int64) :=
  if (b2i (0 ≤ s ∧ s ≤ 2)) = 0 then
    ((-1), I, L)
  else
    if (I (144 + s.toNatClampNeg) 0) = 0 then
      ((-4), I, L)
    else
      let I1 : Im := rollF I (144 + s.toNatClampNeg)
      let I2 : Im := (f_X11_tellBeat I1 L).2.1
      let L3 : Nat → Nat → Int64 := (f_X11_tellBeat I1 L).2.2
      ((f_X11_tellBeat I1 L).1, I2, L3)
set_option maxRecDepth 100000 in
set_option maxHeartbeats 4000000 in
theorem s_X11_roll  {s : Int32} (hShp : ShpS I) : Ca G mdX11_roll [.ref 0, .int s] (mk I L t) (Rs (.int (f_X11_roll I L s).1) (mk ((f_X11_roll I L s).2.1) ((f_X11_roll I L s).2.2) t)) := by
  refine Ca.intro [some (.ref 0), some (.int s)] (by decide) (Nat.le_of_ble_eq_true rfl) rfl rfl ?_
  refine ex_iload_n dX11_roll_0 rfl ?_
  refine rx_cS dX11_roll_1 rfl lk_X11_222 ⟨⟨rfl, rfl⟩, by decide, by decide⟩ rfl (Nat.le_of_ble_eq_true rfl) rfl s_X11_isShip (Rs.k ?_)
  refine ex_if_ne 9 dX11_roll_4 (by decide) (fun h4 => ?_) (fun h4 => ?_)
  · have qs := (cl_lt (N := 3) (by decide) h4).1
    have vs := (cl_lt (N := 3) (by decide) h4).2
    have ks := ky_shp qs
    have ls := ly_shp (t := t) qs
    refine ex_aload_n dX11_roll_9 rfl ?_
    refine g_11_4 dX11_roll_10 rfl wf_X11_35 (by first | assumption | rfl) (show Rt _ 0 4 = some 5 from rfl) ?_
    refine ex_iload_n dX11_roll_13 rfl ?_
    refine rx_aald dX11_roll_14 (by first | assumption | rfl) (by decide) rfl (by first | assumption | (unfold vp_in; decide)) (by first | assumption | rfl) ?_
    refine g_1_0 dX11_roll_15 rfl wf_X11_232 (by first | assumption | rfl) ?_
    refine ex_if_ne 24 dX11_roll_18 (by decide) (fun h18 => ?_) (fun h18 => ?_)
    · skip
      refine ex_aload_n dX11_roll_24 rfl ?_
      refine ex_aload_n dX11_roll_25 rfl ?_
      refine g_11_4 dX11_roll_26 rfl wf_X11_35 (by first | assumption | rfl) (show Rt _ 0 4 = some 5 from rfl) ?_
      refine ex_iload_n dX11_roll_29 rfl ?_
      refine rx_aald dX11_roll_30 (by first | assumption | rfl) (by decide) rfl (by first | assumption | (unfold vp_in; decide)) (by first | assumption | rfl) ?_
      refine rx_cV (kd := 11) dX11_roll_31 rfl lk_X11_304 rfl (by decide) (by first | assumption | rfl) ⟨⟨rfl, rfl⟩, by decide, by decide⟩ rfl (Nat.le_of_ble_eq_true rfl) rfl (s_X11_hearRoll ks (hShp _ qs)) (Rv.k ?_)
      refine ex_aload_n dX11_roll_34 rfl ?_
      refine rx_cV (kd := 11) dX11_roll_35 rfl lk_X11_287 rfl (by decide) (by first | assumption | rfl) ⟨⟨rfl, rfl⟩, by decide, by decide⟩ rfl (Nat.le_of_ble_eq_true rfl) rfl (s_X11_tellBeat crG_r) (Rs.k ?_)
      refine ex_iret dX11_roll_38 rfl rfl ⟨rfl, Nat.le_refl _⟩ ?_
      exact ⟨(by simp only [f_X11_roll, ↓eq_false h4, ↓eq_false h18, if_true, if_false, not_true_eq_false, not_false_eq_true]), (by simp only [f_X11_roll, ↓eq_false h4, ↓eq_false h18, if_true, if_false, not_true_eq_false, not_false_eq_true])⟩
    · skip
      refine ex_bipush (v := (-4)) dX11_roll_21 (by decide) ?_
      refine ex_iret dX11_roll_23 rfl rfl ⟨rfl, Nat.le_refl _⟩ ?_
      exact ⟨(by simp only [f_X11_roll, ↓eq_false h4, ↓eq_true h18, if_true, if_false, not_true_eq_false, not_false_eq_true]), (by simp only [f_X11_roll, ↓eq_false h4, ↓eq_true h18, if_true, if_false, not_true_eq_false, not_false_eq_true])⟩
  · skip
    refine ex_iconst (v := (-1)) dX11_roll_7 (by decide) ?_
    refine ex_iret dX11_roll_8 rfl rfl ⟨rfl, Nat.le_refl _⟩ ?_
    exact ⟨(by simp only [f_X11_roll, ↓eq_true h4, if_true, if_false, not_true_eq_false, not_false_eq_true]), (by simp only [f_X11_roll, ↓eq_true h4, if_true, if_false, not_true_eq_false, not_false_eq_true])⟩
def f_X11_kindOfRoll (I : Im) (s : Int32) : Int32 × Im :=
  if (b2i (0 ≤ s ∧ s ≤ 2)) = 0 then
    ((-1), I)
  else
    if (I (144 + s.toNatClampNeg) 0) = 0 then
      ((-4), I)
    else
      let I1 : Im := rollF I (144 + s.toNatClampNeg)
      if (b2i (2 ≤ I1 99 1)) = 0 then
        let I2 : Im := (f_X11_refuse I1 4).2
        ((f_X11_refuse I1 4).1, I2)
      else
        (3, I1)
set_option maxRecDepth 100000 in
set_option maxHeartbeats 4000000 in
theorem s_X11_kindOfRoll  {s : Int32} (hShp : ShpS I) : Ca G mdX11_kindOfRoll [.ref 0, .int s] (mk I L t) (Rs (.int (f_X11_kindOfRoll I s).1) (mk ((f_X11_kindOfRoll I s).2) L t)) := by
  refine Ca.intro [some (.ref 0), some (.int s)] (by decide) (Nat.le_of_ble_eq_true rfl) rfl rfl ?_
  refine ex_iload_n dX11_kindOfRoll_0 rfl ?_
  refine rx_cS dX11_kindOfRoll_1 rfl lk_X11_222 ⟨⟨rfl, rfl⟩, by decide, by decide⟩ rfl (Nat.le_of_ble_eq_true rfl) rfl s_X11_isShip (Rs.k ?_)
  refine ex_if_ne 9 dX11_kindOfRoll_4 (by decide) (fun h4 => ?_) (fun h4 => ?_)
  · have qs := (cl_lt (N := 3) (by decide) h4).1
    have vs := (cl_lt (N := 3) (by decide) h4).2
    have ks := ky_shp qs
    have ls := ly_shp (t := t) qs
    refine ex_aload_n dX11_kindOfRoll_9 rfl ?_
    refine g_11_4 dX11_kindOfRoll_10 rfl wf_X11_35 (by first | assumption | rfl) (show Rt _ 0 4 = some 5 from rfl) ?_
    refine ex_iload_n dX11_kindOfRoll_13 rfl ?_
    refine rx_aald dX11_kindOfRoll_14 (by first | assumption | rfl) (by decide) rfl (by first | assumption | (unfold vp_in; decide)) (by first | assumption | rfl) ?_
    refine g_1_0 dX11_kindOfRoll_15 rfl wf_X11_232 (by first | assumption | rfl) ?_
    refine ex_if_ne 24 dX11_kindOfRoll_18 (by decide) (fun h18 => ?_) (fun h18 => ?_)
    · skip
      refine ex_aload_n dX11_kindOfRoll_24 rfl ?_
      refine ex_aload_n dX11_kindOfRoll_25 rfl ?_
      refine g_11_4 dX11_kindOfRoll_26 rfl wf_X11_35 (by first | assumption | rfl) (show Rt _ 0 4 = some 5 from rfl) ?_
      refine ex_iload_n dX11_kindOfRoll_29 rfl ?_
      refine rx_aald dX11_kindOfRoll_30 (by first | assumption | rfl) (by decide) rfl (by first | assumption | (unfold vp_in; decide)) (by first | assumption | rfl) ?_
      refine rx_cV (kd := 11) dX11_kindOfRoll_31 rfl lk_X11_304 rfl (by decide) (by first | assumption | rfl) ⟨⟨rfl, rfl⟩, by decide, by decide⟩ rfl (Nat.le_of_ble_eq_true rfl) rfl (s_X11_hearRoll ks (hShp _ qs)) (Rv.k ?_)
      refine ex_aload_n dX11_kindOfRoll_34 rfl ?_
      refine g_11_13 dX11_kindOfRoll_35 rfl wf_X11_86 (by first | assumption | rfl) (show Rt _ 0 13 = some 99 from rfl) ?_
      refine rx_cV (kd := 2) dX11_kindOfRoll_38 rfl lk_X11_290 rfl (by decide) (by first | assumption | rfl) ⟨⟨rfl, rfl⟩, by decide, by decide⟩ rfl (Nat.le_of_ble_eq_true rfl) rfl s_X2_haveBeat (Rs.k ?_)
      refine ex_if_eq 48 dX11_kindOfRoll_41 (by decide) (fun h41 => ?_) (fun h41 => ?_)
      · skip
        refine ex_aload_n dX11_kindOfRoll_48 rfl ?_
        refine ex_iconst (v := 4) dX11_kindOfRoll_49 (by decide) ?_
        refine rx_cV (kd := 11) dX11_kindOfRoll_50 rfl lk_X11_129 rfl (by decide) (by first | assumption | rfl) ⟨⟨rfl, rfl⟩, by decide, by decide⟩ rfl (Nat.le_of_ble_eq_true rfl) rfl (s_X11_refuse (by unfold vp_in; decide)) (Rs.k ?_)
        refine ex_iret dX11_kindOfRoll_53 rfl rfl ⟨rfl, Nat.le_refl _⟩ ?_
        exact ⟨(by simp only [f_X11_kindOfRoll, ↓eq_false h4, ↓eq_false h18, ↓eq_true h41, if_true, if_false, not_true_eq_false, not_false_eq_true]), (by simp only [f_X11_kindOfRoll, ↓eq_false h4, ↓eq_false h18, ↓eq_true h41, if_true, if_false, not_true_eq_false, not_false_eq_true])⟩
      · skip
        refine ex_iconst (v := 3) dX11_kindOfRoll_44 (by decide) ?_
        refine ex_goto 53 dX11_kindOfRoll_45 (by decide) ?_
        refine ex_iret dX11_kindOfRoll_53 rfl rfl ⟨rfl, Nat.le_refl _⟩ ?_
        exact ⟨(by simp only [f_X11_kindOfRoll, ↓eq_false h4, ↓eq_false h18, ↓eq_false h41, if_true, if_false, not_true_eq_false, not_false_eq_true]), (by simp only [f_X11_kindOfRoll, ↓eq_false h4, ↓eq_false h18, ↓eq_false h41, if_true, if_false, not_true_eq_false, not_false_eq_true])⟩
    · skip
      refine ex_bipush (v := (-4)) dX11_kindOfRoll_21 (by decide) ?_
      refine ex_iret dX11_kindOfRoll_23 rfl rfl ⟨rfl, Nat.le_refl _⟩ ?_
      exact ⟨(by simp only [f_X11_kindOfRoll, ↓eq_false h4, ↓eq_true h18, if_true, if_false, not_true_eq_false, not_false_eq_true]), (by simp only [f_X11_kindOfRoll, ↓eq_false h4, ↓eq_true h18, if_true, if_false, not_true_eq_false, not_false_eq_true])⟩
  · skip
    refine ex_iconst (v := (-1)) dX11_kindOfRoll_7 (by decide) ?_
    refine ex_iret dX11_kindOfRoll_8 rfl rfl ⟨rfl, Nat.le_refl _⟩ ?_
    exact ⟨(by simp only [f_X11_kindOfRoll, ↓eq_true h4, if_true, if_false, not_true_eq_false, not_false_eq_true]), (by simp only [f_X11_kindOfRoll, ↓eq_true h4, if_true, if_false, not_true_eq_false, not_false_eq_true])⟩
def f_X11_beatOfSet (I : Im) (k : Int32) (i : Int32) : Int32 :=
  if (b2i (0 ≤ k ∧ k ≤ 3)) = 0 then
    0
  else
    if (b2i (0 ≤ i ∧ i < I (132 + 3 * k.toNatClampNeg) 3 ∧ i < 4)) = 0 then
      0
    else
      I (132 + 3 * k.toNatClampNeg + 1) i.toNatClampNeg
set_option maxRecDepth 100000 in
set_option maxHeartbeats 4000000 in
theorem s_X11_beatOfSet  {k : Int32} {i : Int32}  : Ca G mdX11_beatOfSet [.ref 0, .int k, .int i] (mk I L t) (Rs (.int (f_X11_beatOfSet I k i)) (mk I L t)) := by
  refine Ca.intro [some (.ref 0), some (.int k), some (.int i)] (by decide) (Nat.le_of_ble_eq_true rfl) rfl rfl ?_
  refine ex_iload_n dX11_beatOfSet_0 rfl ?_
  refine rx_cS dX11_beatOfSet_1 rfl lk_X11_194 ⟨⟨rfl, rfl⟩, by decide, by decide⟩ rfl (Nat.le_of_ble_eq_true rfl) rfl s_X11_isSea (Rs.k ?_)
  refine ex_if_eq 34 dX11_beatOfSet_4 (by decide) (fun h4 => ?_) (fun h4 => ?_)
  · skip
    refine ex_iconst (v := 0) dX11_beatOfSet_34 (by decide) ?_
    refine ex_iret dX11_beatOfSet_35 rfl rfl ⟨rfl, Nat.le_refl _⟩ ?_
    exact ⟨(by simp only [f_X11_beatOfSet, ↓eq_true h4, if_true, if_false, not_true_eq_false, not_false_eq_true]), rfl⟩
  · have qk := (cl_lt (N := 4) (by decide) h4).1
    have vk := (cl_lt (N := 4) (by decide) h4).2
    have kk := ky_sea qk
    have lk := ly_sea (t := t) qk
    have kb := (lay8 kk).2.2.1
    refine ex_aload_n dX11_beatOfSet_7 rfl ?_
    refine g_11_3 dX11_beatOfSet_8 rfl wf_X11_29 (by first | assumption | rfl) (show Rt _ 0 3 = some 4 from rfl) ?_
    refine ex_iload_n dX11_beatOfSet_11 rfl ?_
    refine rx_aald dX11_beatOfSet_12 (by first | assumption | rfl) (by decide) rfl (by first | assumption | (unfold vp_in; decide)) (by first | assumption | rfl) ?_
    refine ex_iload_n dX11_beatOfSet_13 rfl ?_
    refine rx_cV (kd := 8) dX11_beatOfSet_14 rfl lk_X11_213 rfl (by decide) (by first | assumption | rfl) ⟨⟨rfl, rfl⟩, by decide, by decide⟩ rfl (Nat.le_of_ble_eq_true rfl) rfl (s_X8_hasSet (by assumption)) (Rs.k ?_)
    refine ex_if_eq 34 dX11_beatOfSet_17 (by decide) (fun h17 => ?_) (fun h17 => ?_)
    · skip
      refine ex_iconst (v := 0) dX11_beatOfSet_34 (by decide) ?_
      refine ex_iret dX11_beatOfSet_35 rfl rfl ⟨rfl, Nat.le_refl _⟩ ?_
      exact ⟨(by simp only [f_X11_beatOfSet, ↓eq_false h4, ↓eq_true h17, if_true, if_false, not_true_eq_false, not_false_eq_true]), rfl⟩
    · have vi := in4 h17
      refine ex_aload_n dX11_beatOfSet_20 rfl ?_
      refine g_11_3 dX11_beatOfSet_21 rfl wf_X11_29 (by first | assumption | rfl) (show Rt _ 0 3 = some 4 from rfl) ?_
      refine ex_iload_n dX11_beatOfSet_24 rfl ?_
      refine rx_aald dX11_beatOfSet_25 (by first | assumption | rfl) (by decide) rfl (by first | assumption | (unfold vp_in; decide)) (by first | assumption | rfl) ?_
      refine g_8_0 dX11_beatOfSet_26 rfl wf_X11_219 (by first | assumption | rfl) (layR_8_0 (by first | assumption | rfl)) ?_
      refine ex_iload_n dX11_beatOfSet_29 rfl ?_
      refine rx_iald dX11_beatOfSet_30 (by first | assumption | rfl) (by first | assumption | (unfold vp_in; decide)) ?_
      refine ex_goto 35 dX11_beatOfSet_31 (by decide) ?_
      refine ex_iret dX11_beatOfSet_35 rfl rfl ⟨rfl, Nat.le_refl _⟩ ?_
      exact ⟨(by simp only [f_X11_beatOfSet, ↓eq_false h4, ↓eq_false h17, if_true, if_false, not_true_eq_false, not_false_eq_true]), rfl⟩
def HarM (I : Im) : Prop := ∀ q, q < 4 → ¬ I (124 + 2 * q) 1 = 0 → ¬ b2i (0 ≤ I (124 + 2 * q) 3 ∧ I (124 + 2 * q) 3 < I (124 + 2 * q) 2 ∧ I (124 + 2 * q) 3 < 16) = 0
def f_X11_kindOfSet (I : Im) (k : Int32) (i : Int32) (h : Int32) : Int32 × Im :=
  if (b2i (0 ≤ k ∧ k ≤ 3)) = 0 then
    ((-1), I)
  else
    if (b2i (0 ≤ h ∧ h ≤ 3)) = 0 then
      ((-1), I)
    else
      if (I (132 + 3 * k.toNatClampNeg) 2) = 0 then
        let I1 : Im := (f_X11_refuse I 1).2
        ((f_X11_refuse I 1).1, I1)
      else
        if (I (124 + 2 * h.toNatClampNeg) 1) = 0 then
          let I4 : Im := (f_X11_refuse I 1).2
          ((f_X11_refuse I 1).1, I4)
        else
          if (b2i (0 ≤ i ∧ i < I (132 + 3 * k.toNatClampNeg) 3 ∧ i < 4)) = 0 then
            let I3 : Im := (f_X11_refuse I 2).2
            ((f_X11_refuse I 2).1, I3)
          else
            let I2 : Im := hearF I (124 + 2 * h.toNatClampNeg) (I (124 + 2 * h.toNatClampNeg) 3).toNatClampNeg
            if (b2i (2 ≤ I2 99 1)) = 0 then
              (2, I2)
            else
              if 2 < (if 0 ≤ (((f_X11_beatOfSet I2 k i)) - (cutB I2)) then (((f_X11_beatOfSet I2 k i)) - (cutB I2)) else 0 - (((f_X11_beatOfSet I2 k i)) - (cutB I2))) then
                (2, I2)
              else
                (4, I2)
set_option maxRecDepth 100000 in
set_option maxHeartbeats 4000000 in
theorem s_X11_kindOfSet  {k : Int32} {i : Int32} {h : Int32} (hHar : HarS I) (hC : CalmS I) (hM : HarM I) : Ca G mdX11_kindOfSet [.ref 0, .int k, .int i, .int h] (mk I L t) (Rs (.int (f_X11_kindOfSet I k i h).1) (mk ((f_X11_kindOfSet I k i h).2) L t)) := by
  refine Ca.intro [some (.ref 0), some (.int k), some (.int i), some (.int h), none] (by decide) (Nat.le_of_ble_eq_true rfl) rfl rfl ?_
  refine ex_iload_n dX11_kindOfSet_0 rfl ?_
  refine rx_cS dX11_kindOfSet_1 rfl lk_X11_194 ⟨⟨rfl, rfl⟩, by decide, by decide⟩ rfl (Nat.le_of_ble_eq_true rfl) rfl s_X11_isSea (Rs.k ?_)
  refine ex_if_eq 14 dX11_kindOfSet_4 (by decide) (fun h4 => ?_) (fun h4 => ?_)
  · skip
    refine ex_iconst (v := (-1)) dX11_kindOfSet_14 (by decide) ?_
    refine ex_iret dX11_kindOfSet_15 rfl rfl ⟨rfl, Nat.le_refl _⟩ ?_
    exact ⟨(by simp only [f_X11_kindOfSet, ↓eq_true h4, if_true, if_false, not_true_eq_false, not_false_eq_true]), (by simp only [f_X11_kindOfSet, ↓eq_true h4, if_true, if_false, not_true_eq_false, not_false_eq_true])⟩
  · have qk := (cl_lt (N := 4) (by decide) h4).1
    have vk := (cl_lt (N := 4) (by decide) h4).2
    have kk := ky_sea qk
    have lk := ly_sea (t := t) qk
    refine ex_iload_n dX11_kindOfSet_7 rfl ?_
    refine rx_cS dX11_kindOfSet_8 rfl lk_X11_181 ⟨⟨rfl, rfl⟩, by decide, by decide⟩ rfl (Nat.le_of_ble_eq_true rfl) rfl s_X11_isHarbour (Rs.k ?_)
    refine ex_if_ne 16 dX11_kindOfSet_11 (by decide) (fun h11 => ?_) (fun h11 => ?_)
    · have qh := (cl_lt (N := 4) (by decide) h11).1
      have vh := (cl_lt (N := 4) (by decide) h11).2
      have kh := ky_har qh
      have lh := ly_har (t := t) qh
      refine ex_aload_n dX11_kindOfSet_16 rfl ?_
      refine g_11_3 dX11_kindOfSet_17 rfl wf_X11_29 (by first | assumption | rfl) (show Rt _ 0 3 = some 4 from rfl) ?_
      refine ex_iload_n dX11_kindOfSet_20 rfl ?_
      refine rx_aald dX11_kindOfSet_21 (by first | assumption | rfl) (by decide) rfl (by first | assumption | (unfold vp_in; decide)) (by first | assumption | rfl) ?_
      refine g_8_2 dX11_kindOfSet_22 rfl wf_X11_121 (by first | assumption | rfl) ?_
      refine ex_if_eq 40 dX11_kindOfSet_25 (by decide) (fun h25 => ?_) (fun h25 => ?_)
      · skip
        refine ex_aload_n dX11_kindOfSet_40 rfl ?_
        refine ex_iconst (v := 1) dX11_kindOfSet_41 (by decide) ?_
        refine rx_cV (kd := 11) dX11_kindOfSet_42 rfl lk_X11_129 rfl (by decide) (by first | assumption | rfl) ⟨⟨rfl, rfl⟩, by decide, by decide⟩ rfl (Nat.le_of_ble_eq_true rfl) rfl (s_X11_refuse (by unfold vp_in; decide)) (Rs.k ?_)
        refine ex_iret dX11_kindOfSet_45 rfl rfl ⟨rfl, Nat.le_refl _⟩ ?_
        exact ⟨(by simp only [f_X11_kindOfSet, ↓eq_false h4, ↓eq_false h11, ↓eq_true h25, if_true, if_false, not_true_eq_false, not_false_eq_true]), (by simp only [f_X11_kindOfSet, ↓eq_false h4, ↓eq_false h11, ↓eq_true h25, if_true, if_false, not_true_eq_false, not_false_eq_true])⟩
      · skip
        refine ex_aload_n dX11_kindOfSet_28 rfl ?_
        refine g_11_2 dX11_kindOfSet_29 rfl wf_X11_23 (by first | assumption | rfl) (show Rt _ 0 2 = some 3 from rfl) ?_
        refine ex_iload_n dX11_kindOfSet_32 rfl ?_
        refine rx_aald dX11_kindOfSet_33 (by first | assumption | rfl) (by decide) rfl (by first | assumption | (unfold vp_in; decide)) (by first | assumption | rfl) ?_
        refine g_0_1 dX11_kindOfSet_34 rfl wf_X11_206 (by first | assumption | rfl) ?_
        refine ex_if_ne 46 dX11_kindOfSet_37 (by decide) (fun h37 => ?_) (fun h37 => ?_)
        · skip
          refine ex_aload_n dX11_kindOfSet_46 rfl ?_
          refine g_11_3 dX11_kindOfSet_47 rfl wf_X11_29 (by first | assumption | rfl) (show Rt _ 0 3 = some 4 from rfl) ?_
          refine ex_iload_n dX11_kindOfSet_50 rfl ?_
          refine rx_aald dX11_kindOfSet_51 (by first | assumption | rfl) (by decide) rfl (by first | assumption | (unfold vp_in; decide)) (by first | assumption | rfl) ?_
          refine ex_iload_n dX11_kindOfSet_52 rfl ?_
          refine rx_cV (kd := 8) dX11_kindOfSet_53 rfl lk_X11_213 rfl (by decide) (by first | assumption | rfl) ⟨⟨rfl, rfl⟩, by decide, by decide⟩ rfl (Nat.le_of_ble_eq_true rfl) rfl (s_X8_hasSet kk) (Rs.k ?_)
          refine ex_if_ne 65 dX11_kindOfSet_56 (by decide) (fun h56 => ?_) (fun h56 => ?_)
          · skip
            refine ex_aload_n dX11_kindOfSet_65 rfl ?_
            refine ex_aload_n dX11_kindOfSet_66 rfl ?_
            refine g_11_2 dX11_kindOfSet_67 rfl wf_X11_23 (by first | assumption | rfl) (show Rt _ 0 2 = some 3 from rfl) ?_
            refine ex_iload_n dX11_kindOfSet_70 rfl ?_
            refine rx_aald dX11_kindOfSet_71 (by first | assumption | rfl) (by decide) rfl (by first | assumption | (unfold vp_in; decide)) (by first | assumption | rfl) ?_
            refine ex_aload_n dX11_kindOfSet_72 rfl ?_
            refine g_11_2 dX11_kindOfSet_73 rfl wf_X11_23 (by first | assumption | rfl) (show Rt _ 0 2 = some 3 from rfl) ?_
            refine ex_iload_n dX11_kindOfSet_76 rfl ?_
            refine rx_aald dX11_kindOfSet_77 (by first | assumption | rfl) (by decide) rfl (by first | assumption | (unfold vp_in; decide)) (by first | assumption | rfl) ?_
            refine g_0_3 dX11_kindOfSet_78 rfl wf_X11_371 (by first | assumption | rfl) ?_
            refine rx_cV (kd := 11) dX11_kindOfSet_81 rfl lk_X11_300 rfl (by decide) (by first | assumption | rfl) ⟨⟨rfl, rfl⟩, by decide, by decide⟩ rfl (Nat.le_of_ble_eq_true rfl) rfl (s_X11_hearRing kh (by omega) hC (hHar _ qh).1 ((hHar _ qh).2 h37) (hM _ qh h37)) (Rv.k ?_)
            refine ex_aload_n dX11_kindOfSet_84 rfl ?_
            refine g_11_13 dX11_kindOfSet_85 rfl wf_X11_86 (by first | assumption | rfl) (show Rt _ 0 13 = some 99 from rfl) ?_
            refine rx_cV (kd := 2) dX11_kindOfSet_88 rfl lk_X11_290 rfl (by decide) (by first | assumption | rfl) ⟨⟨rfl, rfl⟩, by decide, by decide⟩ rfl (Nat.le_of_ble_eq_true rfl) rfl s_X2_haveBeat (Rs.k ?_)
            refine ex_if_eq 119 dX11_kindOfSet_91 (by decide) (fun h91 => ?_) (fun h91 => ?_)
            · skip
              refine ex_iconst (v := 0) dX11_kindOfSet_119 (by decide) ?_
              refine st_i4 dX11_kindOfSet_120 (by first | exact rfl | exact trivial) ?_
              refine ex_iload dX11_kindOfSet_122 rfl ?_
              refine ex_if_eq 131 dX11_kindOfSet_124 (by decide) (fun h124 => ?_) (fun h124 => ?_)
              · skip
                refine ex_iconst (v := 2) dX11_kindOfSet_131 (by decide) ?_
                refine ex_iret dX11_kindOfSet_132 rfl rfl ⟨rfl, Nat.le_refl _⟩ ?_
                exact ⟨(by simp only [f_X11_kindOfSet, ↓eq_false h4, ↓eq_false h11, ↓eq_false h25, ↓eq_false h37, ↓eq_false h56, ↓eq_true h91, if_true, if_false, not_true_eq_false, not_false_eq_true]), (by simp only [f_X11_kindOfSet, ↓eq_false h4, ↓eq_false h11, ↓eq_false h25, ↓eq_false h37, ↓eq_false h56, ↓eq_true h91, if_true, if_false, not_true_eq_false, not_false_eq_true])⟩
              · exact absurd h124 (by decide)
            · skip
              refine ex_aload_n dX11_kindOfSet_94 rfl ?_
              refine ex_iload_n dX11_kindOfSet_95 rfl ?_
              refine ex_iload_n dX11_kindOfSet_96 rfl ?_
              refine rx_cV (kd := 11) dX11_kindOfSet_97 rfl lk_X11_312 rfl (by decide) (by first | assumption | rfl) ⟨⟨rfl, rfl⟩, by decide, by decide⟩ rfl (Nat.le_of_ble_eq_true rfl) rfl s_X11_beatOfSet (Rs.k ?_)
              refine ex_aload_n dX11_kindOfSet_100 rfl ?_
              refine g_11_13 dX11_kindOfSet_101 rfl wf_X11_86 (by first | assumption | rfl) (show Rt _ 0 13 = some 99 from rfl) ?_
              refine rx_cV (kd := 2) dX11_kindOfSet_104 rfl lk_X11_315 rfl (by decide) (by first | assumption | rfl) ⟨⟨rfl, rfl⟩, by decide, by decide⟩ rfl (Nat.le_of_ble_eq_true rfl) rfl s_X2_cutBeat (Rs.k ?_)
              refine ex_isub dX11_kindOfSet_107 ?_
              refine ex_mabs dX11_kindOfSet_108 rfl lk_X11_318 wj_abs wj_m wj_absc ⟨by decide, by decide⟩ ⟨by decide, by decide⟩ (Nat.le_of_ble_eq_true rfl) ?_
              refine ex_iconst (v := 2) dX11_kindOfSet_111 (by decide) ?_
              refine ex_icmp_gt 119 dX11_kindOfSet_112 (by decide) (fun h112 => ?_) (fun h112 => ?_)
              · skip
                refine ex_iconst (v := 0) dX11_kindOfSet_119 (by decide) ?_
                refine st_i4 dX11_kindOfSet_120 (by first | exact rfl | exact trivial) ?_
                refine ex_iload dX11_kindOfSet_122 rfl ?_
                refine ex_if_eq 131 dX11_kindOfSet_124 (by decide) (fun h124 => ?_) (fun h124 => ?_)
                · skip
                  refine ex_iconst (v := 2) dX11_kindOfSet_131 (by decide) ?_
                  refine ex_iret dX11_kindOfSet_132 rfl rfl ⟨rfl, Nat.le_refl _⟩ ?_
                  exact ⟨(by simp only [f_X11_kindOfSet, ↓eq_false h4, ↓eq_false h11, ↓eq_false h25, ↓eq_false h37, ↓eq_false h56, ↓eq_false h91, ↓h112, if_true, if_false, not_true_eq_false, not_false_eq_true]), (by simp only [f_X11_kindOfSet, ↓eq_false h4, ↓eq_false h11, ↓eq_false h25, ↓eq_false h37, ↓eq_false h56, ↓eq_false h91, ↓h112, if_true, if_false, not_true_eq_false, not_false_eq_true])⟩
                · exact absurd h124 (by decide)
              · skip
                refine ex_iconst (v := 1) dX11_kindOfSet_115 (by decide) ?_
                refine ex_goto 120 dX11_kindOfSet_116 (by decide) ?_
                refine st_i4 dX11_kindOfSet_120 (by first | exact rfl | exact trivial) ?_
                refine ex_iload dX11_kindOfSet_122 rfl ?_
                refine ex_if_eq 131 dX11_kindOfSet_124 (by decide) (fun h124 => ?_) (fun h124 => ?_)
                · exact absurd h124 (by decide)
                · skip
                  refine ex_iconst (v := 4) dX11_kindOfSet_127 (by decide) ?_
                  refine ex_goto 132 dX11_kindOfSet_128 (by decide) ?_
                  refine ex_iret dX11_kindOfSet_132 rfl rfl ⟨rfl, Nat.le_refl _⟩ ?_
                  exact ⟨(by simp only [f_X11_kindOfSet, ↓eq_false h4, ↓eq_false h11, ↓eq_false h25, ↓eq_false h37, ↓eq_false h56, ↓eq_false h91, ↓h112, if_true, if_false, not_true_eq_false, not_false_eq_true]), (by simp only [f_X11_kindOfSet, ↓eq_false h4, ↓eq_false h11, ↓eq_false h25, ↓eq_false h37, ↓eq_false h56, ↓eq_false h91, ↓h112, if_true, if_false, not_true_eq_false, not_false_eq_true])⟩
          · skip
            refine ex_aload_n dX11_kindOfSet_59 rfl ?_
            refine ex_iconst (v := 2) dX11_kindOfSet_60 (by decide) ?_
            refine rx_cV (kd := 11) dX11_kindOfSet_61 rfl lk_X11_129 rfl (by decide) (by first | assumption | rfl) ⟨⟨rfl, rfl⟩, by decide, by decide⟩ rfl (Nat.le_of_ble_eq_true rfl) rfl (s_X11_refuse (by unfold vp_in; decide)) (Rs.k ?_)
            refine ex_iret dX11_kindOfSet_64 rfl rfl ⟨rfl, Nat.le_refl _⟩ ?_
            exact ⟨(by simp only [f_X11_kindOfSet, ↓eq_false h4, ↓eq_false h11, ↓eq_false h25, ↓eq_false h37, ↓eq_true h56, if_true, if_false, not_true_eq_false, not_false_eq_true]), (by simp only [f_X11_kindOfSet, ↓eq_false h4, ↓eq_false h11, ↓eq_false h25, ↓eq_false h37, ↓eq_true h56, if_true, if_false, not_true_eq_false, not_false_eq_true])⟩
        · skip
          refine ex_aload_n dX11_kindOfSet_40 rfl ?_
          refine ex_iconst (v := 1) dX11_kindOfSet_41 (by decide) ?_
          refine rx_cV (kd := 11) dX11_kindOfSet_42 rfl lk_X11_129 rfl (by decide) (by first | assumption | rfl) ⟨⟨rfl, rfl⟩, by decide, by decide⟩ rfl (Nat.le_of_ble_eq_true rfl) rfl (s_X11_refuse (by unfold vp_in; decide)) (Rs.k ?_)
          refine ex_iret dX11_kindOfSet_45 rfl rfl ⟨rfl, Nat.le_refl _⟩ ?_
          exact ⟨(by simp only [f_X11_kindOfSet, ↓eq_false h4, ↓eq_false h11, ↓eq_false h25, ↓eq_true h37, if_true, if_false, not_true_eq_false, not_false_eq_true]), (by simp only [f_X11_kindOfSet, ↓eq_false h4, ↓eq_false h11, ↓eq_false h25, ↓eq_true h37, if_true, if_false, not_true_eq_false, not_false_eq_true])⟩
    · skip
      refine ex_iconst (v := (-1)) dX11_kindOfSet_14 (by decide) ?_
      refine ex_iret dX11_kindOfSet_15 rfl rfl ⟨rfl, Nat.le_refl _⟩ ?_
      exact ⟨(by simp only [f_X11_kindOfSet, ↓eq_false h4, ↓eq_true h11, if_true, if_false, not_true_eq_false, not_false_eq_true]), (by simp only [f_X11_kindOfSet, ↓eq_false h4, ↓eq_true h11, if_true, if_false, not_true_eq_false, not_false_eq_true])⟩
def f_X11_kindOf (I : Im) (w : Int32) (a : Int32) (b : Int32) (c : Int32) : Int32 × Im :=
  if w = 0 then
    let I1 : Im := (f_X11_kindOfRing I a b).2
    ((f_X11_kindOfRing I a b).1, I1)
  else if w = 1 then
    let I2 : Im := (f_X11_kindOfSet I a b c).2
    ((f_X11_kindOfSet I a b c).1, I2)
  else if w = 2 then
    let I3 : Im := (f_X11_kindOfRoll I a).2
    ((f_X11_kindOfRoll I a).1, I3)
  else 
    ((-1), I)
set_option maxRecDepth 100000 in
set_option maxHeartbeats 4000000 in
theorem s_X11_kindOf  {w : Int32} {a : Int32} {b : Int32} {c : Int32} (hHar : HarS I) (hC : CalmS I) (hM : HarM I) (hShp : ShpS I) : Ca G mdX11_kindOf [.ref 0, .int w, .int a, .int b, .int c] (mk I L t) (Rs (.int (f_X11_kindOf I w a b c).1) (mk ((f_X11_kindOf I w a b c).2) L t)) := by
  refine Ca.intro [some (.ref 0), some (.int w), some (.int a), some (.int b), some (.int c)] (by decide) (Nat.le_of_ble_eq_true rfl) rfl rfl ?_
  refine ex_iload_n dX11_kindOf_0 rfl ?_
  refine ex_tsw 0 2 [28, 35, 44] 50 dX11_kindOf_1 (by decide) (by decide) (by decide) (by decide) (by decide) (fun i hi hs => ?_) (fun hs => ?_)
  · rcases (by omega : i = 0 ∨ i = 1 ∨ i = 2) with rfl | rfl | rfl
    · show Ex G _ 28 _ _ _ _ _ _
      have w1_0 := eq_true (show _ = (0 : Int32) from hs)
      refine ex_aload_n dX11_kindOf_28 rfl ?_
      refine ex_iload_n dX11_kindOf_29 rfl ?_
      refine ex_iload_n dX11_kindOf_30 rfl ?_
      refine rx_cV (kd := 11) dX11_kindOf_31 rfl lk_X11_361 rfl (by decide) (by first | assumption | rfl) ⟨⟨rfl, rfl⟩, by decide, by decide⟩ rfl (Nat.le_of_ble_eq_true rfl) rfl (s_X11_kindOfRing hHar hC) (Rs.k ?_)
      refine ex_iret dX11_kindOf_34 rfl rfl ⟨rfl, Nat.le_refl _⟩ ?_
      exact ⟨(by simp only [f_X11_kindOf, w1_0, if_true, if_false, not_true_eq_false, not_false_eq_true]), (by simp only [f_X11_kindOf, w1_0, if_true, if_false, not_true_eq_false, not_false_eq_true])⟩
    · show Ex G _ 35 _ _ _ _ _ _
      have w1_0 := eq_false (fun z : _ = (0 : Int32) => absurd (hs.symm.trans z) (by decide))
      have w1_1 := eq_true (show _ = (1 : Int32) from hs)
      refine ex_aload_n dX11_kindOf_35 rfl ?_
      refine ex_iload_n dX11_kindOf_36 rfl ?_
      refine ex_iload_n dX11_kindOf_37 rfl ?_
      refine ex_iload dX11_kindOf_38 rfl ?_
      refine rx_cV (kd := 11) dX11_kindOf_40 rfl lk_X11_364 rfl (by decide) (by first | assumption | rfl) ⟨⟨rfl, rfl⟩, by decide, by decide⟩ rfl (Nat.le_of_ble_eq_true rfl) rfl (s_X11_kindOfSet hHar hC hM) (Rs.k ?_)
      refine ex_iret dX11_kindOf_43 rfl rfl ⟨rfl, Nat.le_refl _⟩ ?_
      exact ⟨(by simp only [f_X11_kindOf, w1_0, w1_1, if_true, if_false, not_true_eq_false, not_false_eq_true]), (by simp only [f_X11_kindOf, w1_0, w1_1, if_true, if_false, not_true_eq_false, not_false_eq_true])⟩
    · show Ex G _ 44 _ _ _ _ _ _
      have w1_0 := eq_false (fun z : _ = (0 : Int32) => absurd (hs.symm.trans z) (by decide))
      have w1_1 := eq_false (fun z : _ = (1 : Int32) => absurd (hs.symm.trans z) (by decide))
      have w1_2 := eq_true (show _ = (2 : Int32) from hs)
      refine ex_aload_n dX11_kindOf_44 rfl ?_
      refine ex_iload_n dX11_kindOf_45 rfl ?_
      refine rx_cV (kd := 11) dX11_kindOf_46 rfl lk_X11_368 rfl (by decide) (by first | assumption | rfl) ⟨⟨rfl, rfl⟩, by decide, by decide⟩ rfl (Nat.le_of_ble_eq_true rfl) rfl (s_X11_kindOfRoll hShp) (Rs.k ?_)
      refine ex_iret dX11_kindOf_49 rfl rfl ⟨rfl, Nat.le_refl _⟩ ?_
      exact ⟨(by simp only [f_X11_kindOf, w1_0, w1_1, w1_2, if_true, if_false, not_true_eq_false, not_false_eq_true]), (by simp only [f_X11_kindOf, w1_0, w1_1, w1_2, if_true, if_false, not_true_eq_false, not_false_eq_true])⟩
  · skip
    have w1_0 := eq_false (show ¬ _ = (0 : Int32) from hs 0 (by decide))
    have w1_1 := eq_false (show ¬ _ = (1 : Int32) from hs 1 (by decide))
    have w1_2 := eq_false (show ¬ _ = (2 : Int32) from hs 2 (by decide))
    refine ex_iconst (v := (-1)) dX11_kindOf_50 (by decide) ?_
    refine ex_iret dX11_kindOf_51 rfl rfl ⟨rfl, Nat.le_refl _⟩ ?_
    exact ⟨(by simp only [f_X11_kindOf, w1_0, w1_1, w1_2, if_true, if_false, not_true_eq_false, not_false_eq_true]), (by simp only [f_X11_kindOf, w1_0, w1_1, w1_2, if_true, if_false, not_true_eq_false, not_false_eq_true])⟩
def f_X11_kind (I : Im) (w : Int32) (a : Int32) (b : Int32) (c : Int32) : Int32 × Im :=
  let I1 : Im := (f_X11_kindOf I w a b c).2
  ((f_X11_kindOf I w a b c).1, I1)
set_option maxRecDepth 100000 in
set_option maxHeartbeats 4000000 in
theorem s_X11_kind  {w : Int32} {a : Int32} {b : Int32} {c : Int32} (hHar : HarS I) (hC : CalmS I) (hM : HarM I) (hShp : ShpS I) : Ca G mdX11_kind [.ref 0, .int w, .int a, .int b, .int c] (mk I L t) (Rs (.int (f_X11_kind I w a b c).1) (mk ((f_X11_kind I w a b c).2) L t)) := by
  refine Ca.intro [some (.ref 0), some (.int w), some (.int a), some (.int b), some (.int c)] (by decide) (Nat.le_of_ble_eq_true rfl) rfl rfl ?_
  refine ex_aload_n dX11_kind_0 rfl ?_
  refine ex_iload_n dX11_kind_1 rfl ?_
  refine ex_iload_n dX11_kind_2 rfl ?_
  refine ex_iload_n dX11_kind_3 rfl ?_
  refine ex_iload dX11_kind_4 rfl ?_
  refine rx_cV (kd := 11) dX11_kind_6 rfl lk_X11_308 rfl (by decide) (by first | assumption | rfl) ⟨⟨rfl, rfl⟩, by decide, by decide⟩ rfl (Nat.le_of_ble_eq_true rfl) rfl (s_X11_kindOf hHar hC hM hShp) (Rs.k ?_)
  refine ex_iret dX11_kind_9 rfl rfl ⟨rfl, Nat.le_refl _⟩ ?_
  exact ⟨(by simp only [f_X11_kind, if_true, if_false, not_true_eq_false, not_false_eq_true]), (by simp only [f_X11_kind, if_true, if_false, not_true_eq_false, not_false_eq_true])⟩
def f_X11_mark (I : Im) (w : Int32) (a : Int32) (b : Int32) (c : Int32) (k : Int32) : Int32 × Im :=
  if (b2i (1 ≤ k ∧ k ≤ 5)) = 0 then
    ((-1), I)
  else
    let I1 : Im := (f_X11_kindOf I w a b c).2
    if 0 ≤ ((f_X11_kindOf I w a b c).1) then
      if ((f_X11_kindOf I w a b c).1) = k then
        if k = 2 then
          ((f_X11_beatOfSet I1 a b), I1)
        else if k = 3 then
          (cutB I1, I1)
        else if k = 4 then
          (if 0 ≤ (((f_X11_beatOfSet I1 a b)) - (cutB I1)) then (((f_X11_beatOfSet I1 a b)) - (cutB I1)) else 0 - (((f_X11_beatOfSet I1 a b)) - (cutB I1)), I1)
        else if k = 5 then
          (nI (lastL (I1 100) 400), I1)
        else 
          (cutB I1, I1)
      else
        if ((f_X11_kindOf I w a b c).1) = 4 then
          if k = 2 then
            if k = 2 then
              ((f_X11_beatOfSet I1 a b), I1)
            else if k = 3 then
              (cutB I1, I1)
            else if k = 4 then
              (if 0 ≤ (((f_X11_beatOfSet I1 a b)) - (cutB I1)) then (((f_X11_beatOfSet I1 a b)) - (cutB I1)) else 0 - (((f_X11_beatOfSet I1 a b)) - (cutB I1)), I1)
            else if k = 5 then
              (nI (lastL (I1 100) 400), I1)
            else 
              (cutB I1, I1)
          else
            if ((f_X11_kindOf I w a b c).1) = 5 then
              if k = 1 then
                if k = 2 then
                  ((f_X11_beatOfSet I1 a b), I1)
                else if k = 3 then
                  (cutB I1, I1)
                else if k = 4 then
                  (if 0 ≤ (((f_X11_beatOfSet I1 a b)) - (cutB I1)) then (((f_X11_beatOfSet I1 a b)) - (cutB I1)) else 0 - (((f_X11_beatOfSet I1 a b)) - (cutB I1)), I1)
                else if k = 5 then
                  (nI (lastL (I1 100) 400), I1)
                else 
                  (cutB I1, I1)
              else
                let I5 : Im := (f_X11_refuse I1 3).2
                ((f_X11_refuse I1 3).1, I5)
            else
              let I4 : Im := (f_X11_refuse I1 3).2
              ((f_X11_refuse I1 3).1, I4)
        else
          if ((f_X11_kindOf I w a b c).1) = 5 then
            if k = 1 then
              if k = 2 then
                ((f_X11_beatOfSet I1 a b), I1)
              else if k = 3 then
                (cutB I1, I1)
              else if k = 4 then
                (if 0 ≤ (((f_X11_beatOfSet I1 a b)) - (cutB I1)) then (((f_X11_beatOfSet I1 a b)) - (cutB I1)) else 0 - (((f_X11_beatOfSet I1 a b)) - (cutB I1)), I1)
              else if k = 5 then
                (nI (lastL (I1 100) 400), I1)
              else 
                (cutB I1, I1)
            else
              let I3 : Im := (f_X11_refuse I1 3).2
              ((f_X11_refuse I1 3).1, I3)
          else
            let I2 : Im := (f_X11_refuse I1 3).2
            ((f_X11_refuse I1 3).1, I2)
    else
      ((f_X11_kindOf I w a b c).1, I1)
set_option maxRecDepth 100000 in
set_option maxHeartbeats 4000000 in
theorem s_X11_mark  {w : Int32} {a : Int32} {b : Int32} {c : Int32} {k : Int32} (hHar : HarS I) (hC : CalmS I) (hM : HarM I) (hShp : ShpS I) : Ca G mdX11_mark [.ref 0, .int w, .int a, .int b, .int c, .int k] (mk I L t) (Rs (.int (f_X11_mark I w a b c k).1) (mk ((f_X11_mark I w a b c k).2) L t)) := by
  refine Ca.intro [some (.ref 0), some (.int w), some (.int a), some (.int b), some (.int c), some (.int k), none, none] (by decide) (Nat.le_of_ble_eq_true rfl) rfl rfl ?_
  refine ex_iload dX11_mark_0 rfl ?_
  refine ex_iconst (v := 1) dX11_mark_2 (by decide) ?_
  refine ex_iconst (v := 5) dX11_mark_3 (by decide) ?_
  refine rx_cS dX11_mark_4 rfl lk_X11_117 ⟨⟨rfl, rfl⟩, by decide, by decide⟩ rfl (Nat.le_of_ble_eq_true rfl) rfl s_X11_within (Rs.k ?_)
  refine ex_if_ne 12 dX11_mark_7 (by decide) (fun h7 => ?_) (fun h7 => ?_)
  · skip
    refine ex_aload_n dX11_mark_12 rfl ?_
    refine ex_iload_n dX11_mark_13 rfl ?_
    refine ex_iload_n dX11_mark_14 rfl ?_
    refine ex_iload_n dX11_mark_15 rfl ?_
    refine ex_iload dX11_mark_16 rfl ?_
    refine rx_cV (kd := 11) dX11_mark_18 rfl lk_X11_308 rfl (by decide) (by first | assumption | rfl) ⟨⟨rfl, rfl⟩, by decide, by decide⟩ rfl (Nat.le_of_ble_eq_true rfl) rfl (s_X11_kindOf hHar hC hM hShp) (Rs.k ?_)
    refine st_i6 dX11_mark_21 (by first | exact rfl | exact trivial) ?_
    refine ex_iload dX11_mark_23 rfl ?_
    refine ex_if_ge 31 dX11_mark_25 (by decide) (fun h25 => ?_) (fun h25 => ?_)
    · skip
      refine ex_iload dX11_mark_31 rfl ?_
      refine ex_iload dX11_mark_33 rfl ?_
      refine ex_icmp_eq 62 dX11_mark_35 (by decide) (fun h35 => ?_) (fun h35 => ?_)
      · skip
        refine ex_iconst (v := 1) dX11_mark_62 (by decide) ?_
        refine ex_goto 67 dX11_mark_63 (by decide) ?_
        refine st_i7 dX11_mark_67 (by first | exact rfl | exact trivial) ?_
        refine ex_iload dX11_mark_69 rfl ?_
        refine ex_if_ne 80 dX11_mark_71 (by decide) (fun h71 => ?_) (fun h71 => ?_)
        · skip
          refine ex_iload dX11_mark_80 rfl ?_
          refine ex_tsw 2 3 [112, 145, 119, 137] 145 dX11_mark_82 (by decide) (by decide) (by decide) (by decide) (by decide) (fun i hi hs => ?_) (fun hs => ?_)
          · rcases (by omega : i = 0 ∨ i = 1 ∨ i = 2 ∨ i = 3) with rfl | rfl | rfl | rfl
            · show Ex G _ 112 _ _ _ _ _ _
              have w82_0 := eq_true (show _ = (2 : Int32) from hs)
              refine ex_aload_n dX11_mark_112 rfl ?_
              refine ex_iload_n dX11_mark_113 rfl ?_
              refine ex_iload_n dX11_mark_114 rfl ?_
              refine rx_cV (kd := 11) dX11_mark_115 rfl lk_X11_312 rfl (by decide) (by first | assumption | rfl) ⟨⟨rfl, rfl⟩, by decide, by decide⟩ rfl (Nat.le_of_ble_eq_true rfl) rfl s_X11_beatOfSet (Rs.k ?_)
              refine ex_iret dX11_mark_118 rfl rfl ⟨rfl, Nat.le_refl _⟩ ?_
              exact ⟨(by first | (simp only [f_X11_mark, ↓eq_false h7, ↓h25, ↓eq_true h35, w82_0, if_true, if_false, not_true_eq_false, not_false_eq_true]; done) | (exfalso; simp_all; done)), (by first | (simp only [f_X11_mark, ↓eq_false h7, ↓h25, ↓eq_true h35, w82_0, if_true, if_false, not_true_eq_false, not_false_eq_true]; done) | (exfalso; simp_all; done))⟩
            · show Ex G _ 145 _ _ _ _ _ _
              have w82_0 := eq_false (fun z : _ = (2 : Int32) => absurd (hs.symm.trans z) (by decide))
              have w82_1 := eq_true (show _ = (3 : Int32) from hs)
              refine ex_aload_n dX11_mark_145 rfl ?_
              refine g_11_13 dX11_mark_146 rfl wf_X11_86 (by first | assumption | rfl) (show Rt _ 0 13 = some 99 from rfl) ?_
              refine rx_cV (kd := 2) dX11_mark_149 rfl lk_X11_315 rfl (by decide) (by first | assumption | rfl) ⟨⟨rfl, rfl⟩, by decide, by decide⟩ rfl (Nat.le_of_ble_eq_true rfl) rfl s_X2_cutBeat (Rs.k ?_)
              refine ex_iret dX11_mark_152 rfl rfl ⟨rfl, Nat.le_refl _⟩ ?_
              exact ⟨(by first | (simp only [f_X11_mark, ↓eq_false h7, ↓h25, ↓eq_true h35, w82_0, w82_1, if_true, if_false, not_true_eq_false, not_false_eq_true]; done) | (exfalso; simp_all; done)), (by first | (simp only [f_X11_mark, ↓eq_false h7, ↓h25, ↓eq_true h35, w82_0, w82_1, if_true, if_false, not_true_eq_false, not_false_eq_true]; done) | (exfalso; simp_all; done))⟩
            · show Ex G _ 119 _ _ _ _ _ _
              have w82_0 := eq_false (fun z : _ = (2 : Int32) => absurd (hs.symm.trans z) (by decide))
              have w82_1 := eq_false (fun z : _ = (3 : Int32) => absurd (hs.symm.trans z) (by decide))
              have w82_2 := eq_true (show _ = (4 : Int32) from hs)
              refine ex_aload_n dX11_mark_119 rfl ?_
              refine ex_iload_n dX11_mark_120 rfl ?_
              refine ex_iload_n dX11_mark_121 rfl ?_
              refine rx_cV (kd := 11) dX11_mark_122 rfl lk_X11_312 rfl (by decide) (by first | assumption | rfl) ⟨⟨rfl, rfl⟩, by decide, by decide⟩ rfl (Nat.le_of_ble_eq_true rfl) rfl s_X11_beatOfSet (Rs.k ?_)
              refine ex_aload_n dX11_mark_125 rfl ?_
              refine g_11_13 dX11_mark_126 rfl wf_X11_86 (by first | assumption | rfl) (show Rt _ 0 13 = some 99 from rfl) ?_
              refine rx_cV (kd := 2) dX11_mark_129 rfl lk_X11_315 rfl (by decide) (by first | assumption | rfl) ⟨⟨rfl, rfl⟩, by decide, by decide⟩ rfl (Nat.le_of_ble_eq_true rfl) rfl s_X2_cutBeat (Rs.k ?_)
              refine ex_isub dX11_mark_132 ?_
              refine ex_mabs dX11_mark_133 rfl lk_X11_318 wj_abs wj_m wj_absc ⟨by decide, by decide⟩ ⟨by decide, by decide⟩ (Nat.le_of_ble_eq_true rfl) ?_
              refine ex_iret dX11_mark_136 rfl rfl ⟨rfl, Nat.le_refl _⟩ ?_
              exact ⟨(by first | (simp only [f_X11_mark, ↓eq_false h7, ↓h25, ↓eq_true h35, w82_0, w82_1, w82_2, if_true, if_false, not_true_eq_false, not_false_eq_true]; done) | (exfalso; simp_all; done)), (by first | (simp only [f_X11_mark, ↓eq_false h7, ↓h25, ↓eq_true h35, w82_0, w82_1, w82_2, if_true, if_false, not_true_eq_false, not_false_eq_true]; done) | (exfalso; simp_all; done))⟩
            · show Ex G _ 137 _ _ _ _ _ _
              have w82_0 := eq_false (fun z : _ = (2 : Int32) => absurd (hs.symm.trans z) (by decide))
              have w82_1 := eq_false (fun z : _ = (3 : Int32) => absurd (hs.symm.trans z) (by decide))
              have w82_2 := eq_false (fun z : _ = (4 : Int32) => absurd (hs.symm.trans z) (by decide))
              have w82_3 := eq_true (show _ = (5 : Int32) from hs)
              refine ex_aload_n dX11_mark_137 rfl ?_
              refine g_11_13 dX11_mark_138 rfl wf_X11_86 (by first | assumption | rfl) (show Rt _ 0 13 = some 99 from rfl) ?_
              refine rx_cV (kd := 2) dX11_mark_141 rfl lk_X11_323 rfl (by decide) (by first | assumption | rfl) ⟨⟨rfl, rfl⟩, by decide, by decide⟩ rfl (Nat.le_of_ble_eq_true rfl) rfl s_X2_lastLoud (Rs.k ?_)
              refine ex_iret dX11_mark_144 rfl rfl ⟨rfl, Nat.le_refl _⟩ ?_
              exact ⟨(by first | (simp only [f_X11_mark, ↓eq_false h7, ↓h25, ↓eq_true h35, w82_0, w82_1, w82_2, w82_3, if_true, if_false, not_true_eq_false, not_false_eq_true]; done) | (exfalso; simp_all; done)), (by first | (simp only [f_X11_mark, ↓eq_false h7, ↓h25, ↓eq_true h35, w82_0, w82_1, w82_2, w82_3, if_true, if_false, not_true_eq_false, not_false_eq_true]; done) | (exfalso; simp_all; done))⟩
          · skip
            have w82_0 := eq_false (show ¬ _ = (2 : Int32) from hs 0 (by decide))
            have w82_1 := eq_false (show ¬ _ = (3 : Int32) from hs 1 (by decide))
            have w82_2 := eq_false (show ¬ _ = (4 : Int32) from hs 2 (by decide))
            have w82_3 := eq_false (show ¬ _ = (5 : Int32) from hs 3 (by decide))
            refine ex_aload_n dX11_mark_145 rfl ?_
            refine g_11_13 dX11_mark_146 rfl wf_X11_86 (by first | assumption | rfl) (show Rt _ 0 13 = some 99 from rfl) ?_
            refine rx_cV (kd := 2) dX11_mark_149 rfl lk_X11_315 rfl (by decide) (by first | assumption | rfl) ⟨⟨rfl, rfl⟩, by decide, by decide⟩ rfl (Nat.le_of_ble_eq_true rfl) rfl s_X2_cutBeat (Rs.k ?_)
            refine ex_iret dX11_mark_152 rfl rfl ⟨rfl, Nat.le_refl _⟩ ?_
            exact ⟨(by first | (simp only [f_X11_mark, ↓eq_false h7, ↓h25, ↓eq_true h35, w82_0, w82_1, w82_2, w82_3, if_true, if_false, not_true_eq_false, not_false_eq_true]; done) | (exfalso; simp_all; done)), (by first | (simp only [f_X11_mark, ↓eq_false h7, ↓h25, ↓eq_true h35, w82_0, w82_1, w82_2, w82_3, if_true, if_false, not_true_eq_false, not_false_eq_true]; done) | (exfalso; simp_all; done))⟩
        · exact absurd h71 (by decide)
      · skip
        refine ex_iload dX11_mark_38 rfl ?_
        refine ex_iconst (v := 4) dX11_mark_40 (by decide) ?_
        refine ex_icmp_ne 50 dX11_mark_41 (by decide) (fun h41 => ?_) (fun h41 => ?_)
        · skip
          refine ex_iload dX11_mark_50 rfl ?_
          refine ex_iconst (v := 5) dX11_mark_52 (by decide) ?_
          refine ex_icmp_ne 66 dX11_mark_53 (by decide) (fun h53 => ?_) (fun h53 => ?_)
          · skip
            refine ex_iconst (v := 0) dX11_mark_66 (by decide) ?_
            refine st_i7 dX11_mark_67 (by first | exact rfl | exact trivial) ?_
            refine ex_iload dX11_mark_69 rfl ?_
            refine ex_if_ne 80 dX11_mark_71 (by decide) (fun h71 => ?_) (fun h71 => ?_)
            · exact absurd h71 (by decide)
            · skip
              refine ex_aload_n dX11_mark_74 rfl ?_
              refine ex_iconst (v := 3) dX11_mark_75 (by decide) ?_
              refine rx_cV (kd := 11) dX11_mark_76 rfl lk_X11_129 rfl (by decide) (by first | assumption | rfl) ⟨⟨rfl, rfl⟩, by decide, by decide⟩ rfl (Nat.le_of_ble_eq_true rfl) rfl (s_X11_refuse (by unfold vp_in; decide)) (Rs.k ?_)
              refine ex_iret dX11_mark_79 rfl rfl ⟨rfl, Nat.le_refl _⟩ ?_
              exact ⟨(by first | (simp only [f_X11_mark, ↓eq_false h7, ↓h25, ↓eq_false h35, ↓eq_false h41, ↓eq_false h53, if_true, if_false, not_true_eq_false, not_false_eq_true]; done) | (exfalso; simp_all; done)), (by first | (simp only [f_X11_mark, ↓eq_false h7, ↓h25, ↓eq_false h35, ↓eq_false h41, ↓eq_false h53, if_true, if_false, not_true_eq_false, not_false_eq_true]; done) | (exfalso; simp_all; done))⟩
          · skip
            refine ex_iload dX11_mark_56 rfl ?_
            refine ex_iconst (v := 1) dX11_mark_58 (by decide) ?_
            refine ex_icmp_ne 66 dX11_mark_59 (by decide) (fun h59 => ?_) (fun h59 => ?_)
            · skip
              refine ex_iconst (v := 0) dX11_mark_66 (by decide) ?_
              refine st_i7 dX11_mark_67 (by first | exact rfl | exact trivial) ?_
              refine ex_iload dX11_mark_69 rfl ?_
              refine ex_if_ne 80 dX11_mark_71 (by decide) (fun h71 => ?_) (fun h71 => ?_)
              · exact absurd h71 (by decide)
              · skip
                refine ex_aload_n dX11_mark_74 rfl ?_
                refine ex_iconst (v := 3) dX11_mark_75 (by decide) ?_
                refine rx_cV (kd := 11) dX11_mark_76 rfl lk_X11_129 rfl (by decide) (by first | assumption | rfl) ⟨⟨rfl, rfl⟩, by decide, by decide⟩ rfl (Nat.le_of_ble_eq_true rfl) rfl (s_X11_refuse (by unfold vp_in; decide)) (Rs.k ?_)
                refine ex_iret dX11_mark_79 rfl rfl ⟨rfl, Nat.le_refl _⟩ ?_
                exact ⟨(by first | (simp only [f_X11_mark, ↓eq_false h7, ↓h25, ↓eq_false h35, ↓eq_false h41, ↓eq_true h53, ↓eq_false h59, if_true, if_false, not_true_eq_false, not_false_eq_true]; done) | (exfalso; simp_all; done)), (by first | (simp only [f_X11_mark, ↓eq_false h7, ↓h25, ↓eq_false h35, ↓eq_false h41, ↓eq_true h53, ↓eq_false h59, if_true, if_false, not_true_eq_false, not_false_eq_true]; done) | (exfalso; simp_all; done))⟩
            · skip
              refine ex_iconst (v := 1) dX11_mark_62 (by decide) ?_
              refine ex_goto 67 dX11_mark_63 (by decide) ?_
              refine st_i7 dX11_mark_67 (by first | exact rfl | exact trivial) ?_
              refine ex_iload dX11_mark_69 rfl ?_
              refine ex_if_ne 80 dX11_mark_71 (by decide) (fun h71 => ?_) (fun h71 => ?_)
              · skip
                refine ex_iload dX11_mark_80 rfl ?_
                refine ex_tsw 2 3 [112, 145, 119, 137] 145 dX11_mark_82 (by decide) (by decide) (by decide) (by decide) (by decide) (fun i hi hs => ?_) (fun hs => ?_)
                · rcases (by omega : i = 0 ∨ i = 1 ∨ i = 2 ∨ i = 3) with rfl | rfl | rfl | rfl
                  · show Ex G _ 112 _ _ _ _ _ _
                    have w82_0 := eq_true (show _ = (2 : Int32) from hs)
                    refine ex_aload_n dX11_mark_112 rfl ?_
                    refine ex_iload_n dX11_mark_113 rfl ?_
                    refine ex_iload_n dX11_mark_114 rfl ?_
                    refine rx_cV (kd := 11) dX11_mark_115 rfl lk_X11_312 rfl (by decide) (by first | assumption | rfl) ⟨⟨rfl, rfl⟩, by decide, by decide⟩ rfl (Nat.le_of_ble_eq_true rfl) rfl s_X11_beatOfSet (Rs.k ?_)
                    refine ex_iret dX11_mark_118 rfl rfl ⟨rfl, Nat.le_refl _⟩ ?_
                    exact ⟨(by first | (simp only [f_X11_mark, ↓eq_false h7, ↓h25, ↓eq_false h35, ↓eq_false h41, ↓eq_true h53, ↓eq_true h59, w82_0, if_true, if_false, not_true_eq_false, not_false_eq_true]; done) | (exfalso; simp_all; done)), (by first | (simp only [f_X11_mark, ↓eq_false h7, ↓h25, ↓eq_false h35, ↓eq_false h41, ↓eq_true h53, ↓eq_true h59, w82_0, if_true, if_false, not_true_eq_false, not_false_eq_true]; done) | (exfalso; simp_all; done))⟩
                  · show Ex G _ 145 _ _ _ _ _ _
                    have w82_0 := eq_false (fun z : _ = (2 : Int32) => absurd (hs.symm.trans z) (by decide))
                    have w82_1 := eq_true (show _ = (3 : Int32) from hs)
                    refine ex_aload_n dX11_mark_145 rfl ?_
                    refine g_11_13 dX11_mark_146 rfl wf_X11_86 (by first | assumption | rfl) (show Rt _ 0 13 = some 99 from rfl) ?_
                    refine rx_cV (kd := 2) dX11_mark_149 rfl lk_X11_315 rfl (by decide) (by first | assumption | rfl) ⟨⟨rfl, rfl⟩, by decide, by decide⟩ rfl (Nat.le_of_ble_eq_true rfl) rfl s_X2_cutBeat (Rs.k ?_)
                    refine ex_iret dX11_mark_152 rfl rfl ⟨rfl, Nat.le_refl _⟩ ?_
                    exact ⟨(by first | (simp only [f_X11_mark, ↓eq_false h7, ↓h25, ↓eq_false h35, ↓eq_false h41, ↓eq_true h53, ↓eq_true h59, w82_0, w82_1, if_true, if_false, not_true_eq_false, not_false_eq_true]; done) | (exfalso; simp_all; done)), (by first | (simp only [f_X11_mark, ↓eq_false h7, ↓h25, ↓eq_false h35, ↓eq_false h41, ↓eq_true h53, ↓eq_true h59, w82_0, w82_1, if_true, if_false, not_true_eq_false, not_false_eq_true]; done) | (exfalso; simp_all; done))⟩
                  · show Ex G _ 119 _ _ _ _ _ _
                    have w82_0 := eq_false (fun z : _ = (2 : Int32) => absurd (hs.symm.trans z) (by decide))
                    have w82_1 := eq_false (fun z : _ = (3 : Int32) => absurd (hs.symm.trans z) (by decide))
                    have w82_2 := eq_true (show _ = (4 : Int32) from hs)
                    refine ex_aload_n dX11_mark_119 rfl ?_
                    refine ex_iload_n dX11_mark_120 rfl ?_
                    refine ex_iload_n dX11_mark_121 rfl ?_
                    refine rx_cV (kd := 11) dX11_mark_122 rfl lk_X11_312 rfl (by decide) (by first | assumption | rfl) ⟨⟨rfl, rfl⟩, by decide, by decide⟩ rfl (Nat.le_of_ble_eq_true rfl) rfl s_X11_beatOfSet (Rs.k ?_)
                    refine ex_aload_n dX11_mark_125 rfl ?_
                    refine g_11_13 dX11_mark_126 rfl wf_X11_86 (by first | assumption | rfl) (show Rt _ 0 13 = some 99 from rfl) ?_
                    refine rx_cV (kd := 2) dX11_mark_129 rfl lk_X11_315 rfl (by decide) (by first | assumption | rfl) ⟨⟨rfl, rfl⟩, by decide, by decide⟩ rfl (Nat.le_of_ble_eq_true rfl) rfl s_X2_cutBeat (Rs.k ?_)
                    refine ex_isub dX11_mark_132 ?_
                    refine ex_mabs dX11_mark_133 rfl lk_X11_318 wj_abs wj_m wj_absc ⟨by decide, by decide⟩ ⟨by decide, by decide⟩ (Nat.le_of_ble_eq_true rfl) ?_
                    refine ex_iret dX11_mark_136 rfl rfl ⟨rfl, Nat.le_refl _⟩ ?_
                    exact ⟨(by first | (simp only [f_X11_mark, ↓eq_false h7, ↓h25, ↓eq_false h35, ↓eq_false h41, ↓eq_true h53, ↓eq_true h59, w82_0, w82_1, w82_2, if_true, if_false, not_true_eq_false, not_false_eq_true]; done) | (exfalso; simp_all; done)), (by first | (simp only [f_X11_mark, ↓eq_false h7, ↓h25, ↓eq_false h35, ↓eq_false h41, ↓eq_true h53, ↓eq_true h59, w82_0, w82_1, w82_2, if_true, if_false, not_true_eq_false, not_false_eq_true]; done) | (exfalso; simp_all; done))⟩
                  · show Ex G _ 137 _ _ _ _ _ _
                    have w82_0 := eq_false (fun z : _ = (2 : Int32) => absurd (hs.symm.trans z) (by decide))
                    have w82_1 := eq_false (fun z : _ = (3 : Int32) => absurd (hs.symm.trans z) (by decide))
                    have w82_2 := eq_false (fun z : _ = (4 : Int32) => absurd (hs.symm.trans z) (by decide))
                    have w82_3 := eq_true (show _ = (5 : Int32) from hs)
                    refine ex_aload_n dX11_mark_137 rfl ?_
                    refine g_11_13 dX11_mark_138 rfl wf_X11_86 (by first | assumption | rfl) (show Rt _ 0 13 = some 99 from rfl) ?_
                    refine rx_cV (kd := 2) dX11_mark_141 rfl lk_X11_323 rfl (by decide) (by first | assumption | rfl) ⟨⟨rfl, rfl⟩, by decide, by decide⟩ rfl (Nat.le_of_ble_eq_true rfl) rfl s_X2_lastLoud (Rs.k ?_)
                    refine ex_iret dX11_mark_144 rfl rfl ⟨rfl, Nat.le_refl _⟩ ?_
                    exact ⟨(by first | (simp only [f_X11_mark, ↓eq_false h7, ↓h25, ↓eq_false h35, ↓eq_false h41, ↓eq_true h53, ↓eq_true h59, w82_0, w82_1, w82_2, w82_3, if_true, if_false, not_true_eq_false, not_false_eq_true]; done) | (exfalso; simp_all; done)), (by first | (simp only [f_X11_mark, ↓eq_false h7, ↓h25, ↓eq_false h35, ↓eq_false h41, ↓eq_true h53, ↓eq_true h59, w82_0, w82_1, w82_2, w82_3, if_true, if_false, not_true_eq_false, not_false_eq_true]; done) | (exfalso; simp_all; done))⟩
                · skip
                  have w82_0 := eq_false (show ¬ _ = (2 : Int32) from hs 0 (by decide))
                  have w82_1 := eq_false (show ¬ _ = (3 : Int32) from hs 1 (by decide))
                  have w82_2 := eq_false (show ¬ _ = (4 : Int32) from hs 2 (by decide))
                  have w82_3 := eq_false (show ¬ _ = (5 : Int32) from hs 3 (by decide))
                  refine ex_aload_n dX11_mark_145 rfl ?_
                  refine g_11_13 dX11_mark_146 rfl wf_X11_86 (by first | assumption | rfl) (show Rt _ 0 13 = some 99 from rfl) ?_
                  refine rx_cV (kd := 2) dX11_mark_149 rfl lk_X11_315 rfl (by decide) (by first | assumption | rfl) ⟨⟨rfl, rfl⟩, by decide, by decide⟩ rfl (Nat.le_of_ble_eq_true rfl) rfl s_X2_cutBeat (Rs.k ?_)
                  refine ex_iret dX11_mark_152 rfl rfl ⟨rfl, Nat.le_refl _⟩ ?_
                  exact ⟨(by first | (simp only [f_X11_mark, ↓eq_false h7, ↓h25, ↓eq_false h35, ↓eq_false h41, ↓eq_true h53, ↓eq_true h59, w82_0, w82_1, w82_2, w82_3, if_true, if_false, not_true_eq_false, not_false_eq_true]; done) | (exfalso; simp_all; done)), (by first | (simp only [f_X11_mark, ↓eq_false h7, ↓h25, ↓eq_false h35, ↓eq_false h41, ↓eq_true h53, ↓eq_true h59, w82_0, w82_1, w82_2, w82_3, if_true, if_false, not_true_eq_false, not_false_eq_true]; done) | (exfalso; simp_all; done))⟩
              · exact absurd h71 (by decide)
        · skip
          refine ex_iload dX11_mark_44 rfl ?_
          refine ex_iconst (v := 2) dX11_mark_46 (by decide) ?_
          refine ex_icmp_eq 62 dX11_mark_47 (by decide) (fun h47 => ?_) (fun h47 => ?_)
          · skip
            refine ex_iconst (v := 1) dX11_mark_62 (by decide) ?_
            refine ex_goto 67 dX11_mark_63 (by decide) ?_
            refine st_i7 dX11_mark_67 (by first | exact rfl | exact trivial) ?_
            refine ex_iload dX11_mark_69 rfl ?_
            refine ex_if_ne 80 dX11_mark_71 (by decide) (fun h71 => ?_) (fun h71 => ?_)
            · skip
              refine ex_iload dX11_mark_80 rfl ?_
              refine ex_tsw 2 3 [112, 145, 119, 137] 145 dX11_mark_82 (by decide) (by decide) (by decide) (by decide) (by decide) (fun i hi hs => ?_) (fun hs => ?_)
              · rcases (by omega : i = 0 ∨ i = 1 ∨ i = 2 ∨ i = 3) with rfl | rfl | rfl | rfl
                · show Ex G _ 112 _ _ _ _ _ _
                  have w82_0 := eq_true (show _ = (2 : Int32) from hs)
                  refine ex_aload_n dX11_mark_112 rfl ?_
                  refine ex_iload_n dX11_mark_113 rfl ?_
                  refine ex_iload_n dX11_mark_114 rfl ?_
                  refine rx_cV (kd := 11) dX11_mark_115 rfl lk_X11_312 rfl (by decide) (by first | assumption | rfl) ⟨⟨rfl, rfl⟩, by decide, by decide⟩ rfl (Nat.le_of_ble_eq_true rfl) rfl s_X11_beatOfSet (Rs.k ?_)
                  refine ex_iret dX11_mark_118 rfl rfl ⟨rfl, Nat.le_refl _⟩ ?_
                  exact ⟨(by first | (simp only [f_X11_mark, ↓eq_false h7, ↓h25, ↓eq_false h35, ↓eq_true h41, ↓eq_true h47, w82_0, if_true, if_false, not_true_eq_false, not_false_eq_true]; done) | (exfalso; simp_all; done)), (by first | (simp only [f_X11_mark, ↓eq_false h7, ↓h25, ↓eq_false h35, ↓eq_true h41, ↓eq_true h47, w82_0, if_true, if_false, not_true_eq_false, not_false_eq_true]; done) | (exfalso; simp_all; done))⟩
                · show Ex G _ 145 _ _ _ _ _ _
                  have w82_0 := eq_false (fun z : _ = (2 : Int32) => absurd (hs.symm.trans z) (by decide))
                  have w82_1 := eq_true (show _ = (3 : Int32) from hs)
                  refine ex_aload_n dX11_mark_145 rfl ?_
                  refine g_11_13 dX11_mark_146 rfl wf_X11_86 (by first | assumption | rfl) (show Rt _ 0 13 = some 99 from rfl) ?_
                  refine rx_cV (kd := 2) dX11_mark_149 rfl lk_X11_315 rfl (by decide) (by first | assumption | rfl) ⟨⟨rfl, rfl⟩, by decide, by decide⟩ rfl (Nat.le_of_ble_eq_true rfl) rfl s_X2_cutBeat (Rs.k ?_)
                  refine ex_iret dX11_mark_152 rfl rfl ⟨rfl, Nat.le_refl _⟩ ?_
                  exact ⟨(by first | (simp only [f_X11_mark, ↓eq_false h7, ↓h25, ↓eq_false h35, ↓eq_true h41, ↓eq_true h47, w82_0, w82_1, if_true, if_false, not_true_eq_false, not_false_eq_true]; done) | (exfalso; simp_all; done)), (by first | (simp only [f_X11_mark, ↓eq_false h7, ↓h25, ↓eq_false h35, ↓eq_true h41, ↓eq_true h47, w82_0, w82_1, if_true, if_false, not_true_eq_false, not_false_eq_true]; done) | (exfalso; simp_all; done))⟩
                · show Ex G _ 119 _ _ _ _ _ _
                  have w82_0 := eq_false (fun z : _ = (2 : Int32) => absurd (hs.symm.trans z) (by decide))
                  have w82_1 := eq_false (fun z : _ = (3 : Int32) => absurd (hs.symm.trans z) (by decide))
                  have w82_2 := eq_true (show _ = (4 : Int32) from hs)
                  refine ex_aload_n dX11_mark_119 rfl ?_
                  refine ex_iload_n dX11_mark_120 rfl ?_
                  refine ex_iload_n dX11_mark_121 rfl ?_
                  refine rx_cV (kd := 11) dX11_mark_122 rfl lk_X11_312 rfl (by decide) (by first | assumption | rfl) ⟨⟨rfl, rfl⟩, by decide, by decide⟩ rfl (Nat.le_of_ble_eq_true rfl) rfl s_X11_beatOfSet (Rs.k ?_)
                  refine ex_aload_n dX11_mark_125 rfl ?_
                  refine g_11_13 dX11_mark_126 rfl wf_X11_86 (by first | assumption | rfl) (show Rt _ 0 13 = some 99 from rfl) ?_
                  refine rx_cV (kd := 2) dX11_mark_129 rfl lk_X11_315 rfl (by decide) (by first | assumption | rfl) ⟨⟨rfl, rfl⟩, by decide, by decide⟩ rfl (Nat.le_of_ble_eq_true rfl) rfl s_X2_cutBeat (Rs.k ?_)
                  refine ex_isub dX11_mark_132 ?_
                  refine ex_mabs dX11_mark_133 rfl lk_X11_318 wj_abs wj_m wj_absc ⟨by decide, by decide⟩ ⟨by decide, by decide⟩ (Nat.le_of_ble_eq_true rfl) ?_
                  refine ex_iret dX11_mark_136 rfl rfl ⟨rfl, Nat.le_refl _⟩ ?_
                  exact ⟨(by first | (simp only [f_X11_mark, ↓eq_false h7, ↓h25, ↓eq_false h35, ↓eq_true h41, ↓eq_true h47, w82_0, w82_1, w82_2, if_true, if_false, not_true_eq_false, not_false_eq_true]; done) | (exfalso; simp_all; done)), (by first | (simp only [f_X11_mark, ↓eq_false h7, ↓h25, ↓eq_false h35, ↓eq_true h41, ↓eq_true h47, w82_0, w82_1, w82_2, if_true, if_false, not_true_eq_false, not_false_eq_true]; done) | (exfalso; simp_all; done))⟩
                · show Ex G _ 137 _ _ _ _ _ _
                  have w82_0 := eq_false (fun z : _ = (2 : Int32) => absurd (hs.symm.trans z) (by decide))
                  have w82_1 := eq_false (fun z : _ = (3 : Int32) => absurd (hs.symm.trans z) (by decide))
                  have w82_2 := eq_false (fun z : _ = (4 : Int32) => absurd (hs.symm.trans z) (by decide))
                  have w82_3 := eq_true (show _ = (5 : Int32) from hs)
                  refine ex_aload_n dX11_mark_137 rfl ?_
                  refine g_11_13 dX11_mark_138 rfl wf_X11_86 (by first | assumption | rfl) (show Rt _ 0 13 = some 99 from rfl) ?_
                  refine rx_cV (kd := 2) dX11_mark_141 rfl lk_X11_323 rfl (by decide) (by first | assumption | rfl) ⟨⟨rfl, rfl⟩, by decide, by decide⟩ rfl (Nat.le_of_ble_eq_true rfl) rfl s_X2_lastLoud (Rs.k ?_)
                  refine ex_iret dX11_mark_144 rfl rfl ⟨rfl, Nat.le_refl _⟩ ?_
                  exact ⟨(by first | (simp only [f_X11_mark, ↓eq_false h7, ↓h25, ↓eq_false h35, ↓eq_true h41, ↓eq_true h47, w82_0, w82_1, w82_2, w82_3, if_true, if_false, not_true_eq_false, not_false_eq_true]; done) | (exfalso; simp_all; done)), (by first | (simp only [f_X11_mark, ↓eq_false h7, ↓h25, ↓eq_false h35, ↓eq_true h41, ↓eq_true h47, w82_0, w82_1, w82_2, w82_3, if_true, if_false, not_true_eq_false, not_false_eq_true]; done) | (exfalso; simp_all; done))⟩
              · skip
                have w82_0 := eq_false (show ¬ _ = (2 : Int32) from hs 0 (by decide))
                have w82_1 := eq_false (show ¬ _ = (3 : Int32) from hs 1 (by decide))
                have w82_2 := eq_false (show ¬ _ = (4 : Int32) from hs 2 (by decide))
                have w82_3 := eq_false (show ¬ _ = (5 : Int32) from hs 3 (by decide))
                refine ex_aload_n dX11_mark_145 rfl ?_
                refine g_11_13 dX11_mark_146 rfl wf_X11_86 (by first | assumption | rfl) (show Rt _ 0 13 = some 99 from rfl) ?_
                refine rx_cV (kd := 2) dX11_mark_149 rfl lk_X11_315 rfl (by decide) (by first | assumption | rfl) ⟨⟨rfl, rfl⟩, by decide, by decide⟩ rfl (Nat.le_of_ble_eq_true rfl) rfl s_X2_cutBeat (Rs.k ?_)
                refine ex_iret dX11_mark_152 rfl rfl ⟨rfl, Nat.le_refl _⟩ ?_
                exact ⟨(by first | (simp only [f_X11_mark, ↓eq_false h7, ↓h25, ↓eq_false h35, ↓eq_true h41, ↓eq_true h47, w82_0, w82_1, w82_2, w82_3, if_true, if_false, not_true_eq_false, not_false_eq_true]; done) | (exfalso; simp_all; done)), (by first | (simp only [f_X11_mark, ↓eq_false h7, ↓h25, ↓eq_false h35, ↓eq_true h41, ↓eq_true h47, w82_0, w82_1, w82_2, w82_3, if_true, if_false, not_true_eq_false, not_false_eq_true]; done) | (exfalso; simp_all; done))⟩
            · exact absurd h71 (by decide)
          · skip
            refine ex_iload dX11_mark_50 rfl ?_
            refine ex_iconst (v := 5) dX11_mark_52 (by decide) ?_
            refine ex_icmp_ne 66 dX11_mark_53 (by decide) (fun h53 => ?_) (fun h53 => ?_)
            · skip
              refine ex_iconst (v := 0) dX11_mark_66 (by decide) ?_
              refine st_i7 dX11_mark_67 (by first | exact rfl | exact trivial) ?_
              refine ex_iload dX11_mark_69 rfl ?_
              refine ex_if_ne 80 dX11_mark_71 (by decide) (fun h71 => ?_) (fun h71 => ?_)
              · exact absurd h71 (by decide)
              · skip
                refine ex_aload_n dX11_mark_74 rfl ?_
                refine ex_iconst (v := 3) dX11_mark_75 (by decide) ?_
                refine rx_cV (kd := 11) dX11_mark_76 rfl lk_X11_129 rfl (by decide) (by first | assumption | rfl) ⟨⟨rfl, rfl⟩, by decide, by decide⟩ rfl (Nat.le_of_ble_eq_true rfl) rfl (s_X11_refuse (by unfold vp_in; decide)) (Rs.k ?_)
                refine ex_iret dX11_mark_79 rfl rfl ⟨rfl, Nat.le_refl _⟩ ?_
                exact ⟨(by first | (simp only [f_X11_mark, ↓eq_false h7, ↓h25, ↓eq_false h35, ↓eq_true h41, ↓eq_false h47, ↓eq_false h53, if_true, if_false, not_true_eq_false, not_false_eq_true]; done) | (exfalso; simp_all; done)), (by first | (simp only [f_X11_mark, ↓eq_false h7, ↓h25, ↓eq_false h35, ↓eq_true h41, ↓eq_false h47, ↓eq_false h53, if_true, if_false, not_true_eq_false, not_false_eq_true]; done) | (exfalso; simp_all; done))⟩
            · skip
              refine ex_iload dX11_mark_56 rfl ?_
              refine ex_iconst (v := 1) dX11_mark_58 (by decide) ?_
              refine ex_icmp_ne 66 dX11_mark_59 (by decide) (fun h59 => ?_) (fun h59 => ?_)
              · skip
                refine ex_iconst (v := 0) dX11_mark_66 (by decide) ?_
                refine st_i7 dX11_mark_67 (by first | exact rfl | exact trivial) ?_
                refine ex_iload dX11_mark_69 rfl ?_
                refine ex_if_ne 80 dX11_mark_71 (by decide) (fun h71 => ?_) (fun h71 => ?_)
                · exact absurd h71 (by decide)
                · skip
                  refine ex_aload_n dX11_mark_74 rfl ?_
                  refine ex_iconst (v := 3) dX11_mark_75 (by decide) ?_
                  refine rx_cV (kd := 11) dX11_mark_76 rfl lk_X11_129 rfl (by decide) (by first | assumption | rfl) ⟨⟨rfl, rfl⟩, by decide, by decide⟩ rfl (Nat.le_of_ble_eq_true rfl) rfl (s_X11_refuse (by unfold vp_in; decide)) (Rs.k ?_)
                  refine ex_iret dX11_mark_79 rfl rfl ⟨rfl, Nat.le_refl _⟩ ?_
                  exact ⟨(by first | (simp only [f_X11_mark, ↓eq_false h7, ↓h25, ↓eq_false h35, ↓eq_true h41, ↓eq_false h47, ↓eq_true h53, ↓eq_false h59, if_true, if_false, not_true_eq_false, not_false_eq_true]; done) | (exfalso; simp_all; done)), (by first | (simp only [f_X11_mark, ↓eq_false h7, ↓h25, ↓eq_false h35, ↓eq_true h41, ↓eq_false h47, ↓eq_true h53, ↓eq_false h59, if_true, if_false, not_true_eq_false, not_false_eq_true]; done) | (exfalso; simp_all; done))⟩
              · skip
                refine ex_iconst (v := 1) dX11_mark_62 (by decide) ?_
                refine ex_goto 67 dX11_mark_63 (by decide) ?_
                refine st_i7 dX11_mark_67 (by first | exact rfl | exact trivial) ?_
                refine ex_iload dX11_mark_69 rfl ?_
                refine ex_if_ne 80 dX11_mark_71 (by decide) (fun h71 => ?_) (fun h71 => ?_)
                · skip
                  refine ex_iload dX11_mark_80 rfl ?_
                  refine ex_tsw 2 3 [112, 145, 119, 137] 145 dX11_mark_82 (by decide) (by decide) (by decide) (by decide) (by decide) (fun i hi hs => ?_) (fun hs => ?_)
                  · rcases (by omega : i = 0 ∨ i = 1 ∨ i = 2 ∨ i = 3) with rfl | rfl | rfl | rfl
                    · show Ex G _ 112 _ _ _ _ _ _
                      have w82_0 := eq_true (show _ = (2 : Int32) from hs)
                      refine ex_aload_n dX11_mark_112 rfl ?_
                      refine ex_iload_n dX11_mark_113 rfl ?_
                      refine ex_iload_n dX11_mark_114 rfl ?_
                      refine rx_cV (kd := 11) dX11_mark_115 rfl lk_X11_312 rfl (by decide) (by first | assumption | rfl) ⟨⟨rfl, rfl⟩, by decide, by decide⟩ rfl (Nat.le_of_ble_eq_true rfl) rfl s_X11_beatOfSet (Rs.k ?_)
                      refine ex_iret dX11_mark_118 rfl rfl ⟨rfl, Nat.le_refl _⟩ ?_
                      exact ⟨(by first | (simp only [f_X11_mark, ↓eq_false h7, ↓h25, ↓eq_false h35, ↓eq_true h41, ↓eq_false h47, ↓eq_true h53, ↓eq_true h59, w82_0, if_true, if_false, not_true_eq_false, not_false_eq_true]; done) | (exfalso; simp_all; done)), (by first | (simp only [f_X11_mark, ↓eq_false h7, ↓h25, ↓eq_false h35, ↓eq_true h41, ↓eq_false h47, ↓eq_true h53, ↓eq_true h59, w82_0, if_true, if_false, not_true_eq_false, not_false_eq_true]; done) | (exfalso; simp_all; done))⟩
                    · show Ex G _ 145 _ _ _ _ _ _
                      have w82_0 := eq_false (fun z : _ = (2 : Int32) => absurd (hs.symm.trans z) (by decide))
                      have w82_1 := eq_true (show _ = (3 : Int32) from hs)
                      refine ex_aload_n dX11_mark_145 rfl ?_
                      refine g_11_13 dX11_mark_146 rfl wf_X11_86 (by first | assumption | rfl) (show Rt _ 0 13 = some 99 from rfl) ?_
                      refine rx_cV (kd := 2) dX11_mark_149 rfl lk_X11_315 rfl (by decide) (by first | assumption | rfl) ⟨⟨rfl, rfl⟩, by decide, by decide⟩ rfl (Nat.le_of_ble_eq_true rfl) rfl s_X2_cutBeat (Rs.k ?_)
                      refine ex_iret dX11_mark_152 rfl rfl ⟨rfl, Nat.le_refl _⟩ ?_
                      exact ⟨(by first | (simp only [f_X11_mark, ↓eq_false h7, ↓h25, ↓eq_false h35, ↓eq_true h41, ↓eq_false h47, ↓eq_true h53, ↓eq_true h59, w82_0, w82_1, if_true, if_false, not_true_eq_false, not_false_eq_true]; done) | (exfalso; simp_all; done)), (by first | (simp only [f_X11_mark, ↓eq_false h7, ↓h25, ↓eq_false h35, ↓eq_true h41, ↓eq_false h47, ↓eq_true h53, ↓eq_true h59, w82_0, w82_1, if_true, if_false, not_true_eq_false, not_false_eq_true]; done) | (exfalso; simp_all; done))⟩
                    · show Ex G _ 119 _ _ _ _ _ _
                      have w82_0 := eq_false (fun z : _ = (2 : Int32) => absurd (hs.symm.trans z) (by decide))
                      have w82_1 := eq_false (fun z : _ = (3 : Int32) => absurd (hs.symm.trans z) (by decide))
                      have w82_2 := eq_true (show _ = (4 : Int32) from hs)
                      refine ex_aload_n dX11_mark_119 rfl ?_
                      refine ex_iload_n dX11_mark_120 rfl ?_
                      refine ex_iload_n dX11_mark_121 rfl ?_
                      refine rx_cV (kd := 11) dX11_mark_122 rfl lk_X11_312 rfl (by decide) (by first | assumption | rfl) ⟨⟨rfl, rfl⟩, by decide, by decide⟩ rfl (Nat.le_of_ble_eq_true rfl) rfl s_X11_beatOfSet (Rs.k ?_)
                      refine ex_aload_n dX11_mark_125 rfl ?_
                      refine g_11_13 dX11_mark_126 rfl wf_X11_86 (by first | assumption | rfl) (show Rt _ 0 13 = some 99 from rfl) ?_
                      refine rx_cV (kd := 2) dX11_mark_129 rfl lk_X11_315 rfl (by decide) (by first | assumption | rfl) ⟨⟨rfl, rfl⟩, by decide, by decide⟩ rfl (Nat.le_of_ble_eq_true rfl) rfl s_X2_cutBeat (Rs.k ?_)
                      refine ex_isub dX11_mark_132 ?_
                      refine ex_mabs dX11_mark_133 rfl lk_X11_318 wj_abs wj_m wj_absc ⟨by decide, by decide⟩ ⟨by decide, by decide⟩ (Nat.le_of_ble_eq_true rfl) ?_
                      refine ex_iret dX11_mark_136 rfl rfl ⟨rfl, Nat.le_refl _⟩ ?_
                      exact ⟨(by first | (simp only [f_X11_mark, ↓eq_false h7, ↓h25, ↓eq_false h35, ↓eq_true h41, ↓eq_false h47, ↓eq_true h53, ↓eq_true h59, w82_0, w82_1, w82_2, if_true, if_false, not_true_eq_false, not_false_eq_true]; done) | (exfalso; simp_all; done)), (by first | (simp only [f_X11_mark, ↓eq_false h7, ↓h25, ↓eq_false h35, ↓eq_true h41, ↓eq_false h47, ↓eq_true h53, ↓eq_true h59, w82_0, w82_1, w82_2, if_true, if_false, not_true_eq_false, not_false_eq_true]; done) | (exfalso; simp_all; done))⟩
                    · show Ex G _ 137 _ _ _ _ _ _
                      have w82_0 := eq_false (fun z : _ = (2 : Int32) => absurd (hs.symm.trans z) (by decide))
                      have w82_1 := eq_false (fun z : _ = (3 : Int32) => absurd (hs.symm.trans z) (by decide))
                      have w82_2 := eq_false (fun z : _ = (4 : Int32) => absurd (hs.symm.trans z) (by decide))
                      have w82_3 := eq_true (show _ = (5 : Int32) from hs)
                      refine ex_aload_n dX11_mark_137 rfl ?_
                      refine g_11_13 dX11_mark_138 rfl wf_X11_86 (by first | assumption | rfl) (show Rt _ 0 13 = some 99 from rfl) ?_
                      refine rx_cV (kd := 2) dX11_mark_141 rfl lk_X11_323 rfl (by decide) (by first | assumption | rfl) ⟨⟨rfl, rfl⟩, by decide, by decide⟩ rfl (Nat.le_of_ble_eq_true rfl) rfl s_X2_lastLoud (Rs.k ?_)
                      refine ex_iret dX11_mark_144 rfl rfl ⟨rfl, Nat.le_refl _⟩ ?_
                      exact ⟨(by first | (simp only [f_X11_mark, ↓eq_false h7, ↓h25, ↓eq_false h35, ↓eq_true h41, ↓eq_false h47, ↓eq_true h53, ↓eq_true h59, w82_0, w82_1, w82_2, w82_3, if_true, if_false, not_true_eq_false, not_false_eq_true]; done) | (exfalso; simp_all; done)), (by first | (simp only [f_X11_mark, ↓eq_false h7, ↓h25, ↓eq_false h35, ↓eq_true h41, ↓eq_false h47, ↓eq_true h53, ↓eq_true h59, w82_0, w82_1, w82_2, w82_3, if_true, if_false, not_true_eq_false, not_false_eq_true]; done) | (exfalso; simp_all; done))⟩
                  · skip
                    have w82_0 := eq_false (show ¬ _ = (2 : Int32) from hs 0 (by decide))
                    have w82_1 := eq_false (show ¬ _ = (3 : Int32) from hs 1 (by decide))
                    have w82_2 := eq_false (show ¬ _ = (4 : Int32) from hs 2 (by decide))
                    have w82_3 := eq_false (show ¬ _ = (5 : Int32) from hs 3 (by decide))
                    refine ex_aload_n dX11_mark_145 rfl ?_
                    refine g_11_13 dX11_mark_146 rfl wf_X11_86 (by first | assumption | rfl) (show Rt _ 0 13 = some 99 from rfl) ?_
                    refine rx_cV (kd := 2) dX11_mark_149 rfl lk_X11_315 rfl (by decide) (by first | assumption | rfl) ⟨⟨rfl, rfl⟩, by decide, by decide⟩ rfl (Nat.le_of_ble_eq_true rfl) rfl s_X2_cutBeat (Rs.k ?_)
                    refine ex_iret dX11_mark_152 rfl rfl ⟨rfl, Nat.le_refl _⟩ ?_
                    exact ⟨(by first | (simp only [f_X11_mark, ↓eq_false h7, ↓h25, ↓eq_false h35, ↓eq_true h41, ↓eq_false h47, ↓eq_true h53, ↓eq_true h59, w82_0, w82_1, w82_2, w82_3, if_true, if_false, not_true_eq_false, not_false_eq_true]; done) | (exfalso; simp_all; done)), (by first | (simp only [f_X11_mark, ↓eq_false h7, ↓h25, ↓eq_false h35, ↓eq_true h41, ↓eq_false h47, ↓eq_true h53, ↓eq_true h59, w82_0, w82_1, w82_2, w82_3, if_true, if_false, not_true_eq_false, not_false_eq_true]; done) | (exfalso; simp_all; done))⟩
                · exact absurd h71 (by decide)
    · skip
      refine ex_iload dX11_mark_28 rfl ?_
      refine ex_iret dX11_mark_30 rfl rfl ⟨rfl, Nat.le_refl _⟩ ?_
      exact ⟨(by first | (simp only [f_X11_mark, ↓eq_false h7, ↓h25, if_true, if_false, not_true_eq_false, not_false_eq_true]; done) | (exfalso; simp_all; done)), (by first | (simp only [f_X11_mark, ↓eq_false h7, ↓h25, if_true, if_false, not_true_eq_false, not_false_eq_true]; done) | (exfalso; simp_all; done))⟩
  · skip
    refine ex_iconst (v := (-1)) dX11_mark_10 (by decide) ?_
    refine ex_iret dX11_mark_11 rfl rfl ⟨rfl, Nat.le_refl _⟩ ?_
    exact ⟨(by first | (simp only [f_X11_mark, ↓eq_true h7, if_true, if_false, not_true_eq_false, not_false_eq_true]; done) | (exfalso; simp_all; done)), (by first | (simp only [f_X11_mark, ↓eq_true h7, if_true, if_false, not_true_eq_false, not_false_eq_true]; done) | (exfalso; simp_all; done))⟩
end N2
