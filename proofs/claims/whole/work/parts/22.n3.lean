section N3
variable {G : Gp} {I : Im} {L : Nat → Nat → Int64} {t : Nat}
def wkI (J : Im) (a n c m i : Nat) : Im :=
  match i with
  | 0 => J
  | i + 1 => niStep (wkI J a n c m i) a n c m
termination_by i
theorem wkI_eq {J : Im} {a n c m : Nat} : ∀ i, wkI J a n c m i = niPass J a n c m i := by
  intro i
  induction i with
  | zero => rw [wkI]; rfl
  | succ i ih => rw [wkI, ih]; rfl
def wakeI (I : Im) (b s : Nat) : Im := wkI (niBegin I 24 b s) 24 (I b 2).toNatClampNeg (I s 3).toNatClampNeg (I 24 2).toNatClampNeg 300
def BOk (I : Im) (b : Nat) : Prop := K0 b = (0, 7) ∧ 90 < b ∧ (I b 1 = 0 ∨ I b 1 = 1) ∧ ∃ n, 3 ≤ n ∧ n ≤ 16 ∧ I b 2 = nI n
def SOk (I : Im) (s : Nat) : Prop := K0 s = (8, 4) ∧ 90 < s ∧ (I s 2 = 0 ∨ I s 2 = 1) ∧ ∃ c, c ≤ 4 ∧ I s 3 = nI c
def TOk (I : Im) : Prop := ∃ m, m ≤ 48 ∧ I 24 2 = nI m
theorem BOk_of {J : Im} {b : Nat} (e : J b = I b) (h : BOk I b) : BOk J b := by
  unfold BOk at h ⊢
  rw [e]
  exact h
theorem SOk_of {J : Im} {b : Nat} (e : J b = I b) (h : SOk I b) : SOk J b := by
  unfold SOk at h ⊢
  rw [e]
  exact h
theorem BOk_h {q : Nat} (hHar : HarS I) (h : q < 4) (ht : ¬ I (124 + 2 * q) 1 = 0) : BOk I (124 + 2 * q) := ⟨ky_har h, by omega, (hHar q h).1, (hHar q h).2 ht⟩
theorem SOk_s {q : Nat} (hSea : SeaS I) (h : q < 4) : SOk I (132 + 3 * q) := ⟨ky_sea h, by omega, (hSea q h).1, (hSea q h).2⟩
theorem s_wakeT {b s : Nat} (hb : BOk I b) (hs : SOk I s) (hm : TOk I) : Ca G mdX5_wake [.ref 24, .ref b, .ref s] (mk I L t) (Rv (mk (wakeI I b s) L t)) := by
  obtain ⟨k1, b9, z1, n, h3, hn, e⟩ := hb
  obtain ⟨k2, s9, z2, c, hc, ec⟩ := hs
  obtain ⟨m, hm, em⟩ := hm
  unfold wakeI
  rw [wkI_eq]
  simp only [e, ec, em, nI_clamp (show n < 2 ^ 31 by omega), nI_clamp (show c < 2 ^ 31 by omega), nI_clamp (show m < 2 ^ 31 by omega)]
  exact s_X5_wake (a := 24) (B := 47) rfl rfl (by decide) em hm k1 k2 z1 z2 h3 hn e ec hc (by omega) (by omega)
theorem wakeI_off {b s e : Nat} (hm : TOk I) (h : e < 24 ∨ 84 < e) : wakeI I b s e = I e := by
  obtain ⟨m, hm, em⟩ := hm
  unfold wakeI
  rw [wkI_eq, em, nI_clamp (by omega), niPass_off (by omega) (by omega) (by omega) (by omega) (by omega) (fun i hi => by omega)]
  unfold niBegin
  rw [waBegin_off (by omega), up2_off (by omega)]
theorem wakeI_m {b s : Nat} (hm : TOk I) : wakeI I b s 24 2 = I 24 2 := by
  obtain ⟨m, hm, em⟩ := hm
  unfold wakeI
  rw [wkI_eq, em, nI_clamp (by omega), niPass_off (by omega) (by omega) (by omega) (by omega) (by omega) (fun i hi => by omega)]
  unfold niBegin
  rw [waBegin_off (by omega), u2_n (by omega)]
  exact em
theorem wakeI_t {b s : Nat} (hm : TOk I) : TOk (wakeI I b s) := by
  unfold TOk
  rw [wakeI_m hm]
  exact hm
theorem wakeI_e {b s : Nat} (hb : BOk I b) (hm : TOk I) : ∃ n, 3 ≤ n ∧ n ≤ 16 ∧ wakeI I b s 26 2 = nI n := by
  obtain ⟨k1, b9, z1, n, h3, hn, e⟩ := hb
  obtain ⟨m, hm, em⟩ := hm
  refine ⟨n, h3, hn, ?_⟩
  unfold wakeI
  rw [wkI_eq, em, nI_clamp (by omega), niPass_off (by omega) (by omega) (by omega) (by omega) (by omega) (fun i hi => by omega)]
  unfold niBegin
  rw [show (26 : Nat) = 24 + 1 + 1 from rfl, waBegin_bas (by omega) (by omega) (by omega) (by omega) 2 (by decide) (by decide), up2_off (by omega)]
  exact e
theorem s_wildT {a : Nat} (ha : K0 a = (9, 8)) (he : ∃ n, 3 ≤ n ∧ n ≤ 16 ∧ I (a + 1) 2 = nI n) : Ca G mdX9_wildest [.ref a] (mk I L t) (Rs (.int (nI (wildN (rng I a) ((I (a + 1) 2).toNatClampNeg - 1)))) (mk I L t)) := by
  obtain ⟨n, h3, hn, e⟩ := he
  rw [e, nI_clamp (by omega)]
  exact s_X9_wildest ha h3 hn e
theorem s_calmT {a : Nat} (ha : K0 a = (9, 8)) (he : ∃ n, 3 ≤ n ∧ n ≤ 16 ∧ I (a + 1) 2 = nI n) : Ca G mdX9_stillest [.ref a] (mk I L t) (Rs (.int (nI (calmN (rng I a) ((I (a + 1) 2).toNatClampNeg - 1)))) (mk I L t)) := by
  obtain ⟨n, h3, hn, e⟩ := he
  rw [e, nI_clamp (by omega)]
  exact s_X9_stillest ha h3 hn e
theorem s_rangeT {a q : Nat} (ha : K0 a = (9, 8)) (he : ∃ n, 3 ≤ n ∧ n ≤ 16 ∧ I (a + 1) 2 = nI n) (hq : q ≤ (I (a + 1) 2).toNatClampNeg - 1) : Ca G mdX9_range [.ref a, .int (nI q)] (mk I L t) (Rs (.int (rng I a (nI q).toNatClampNeg)) (mk I L t)) := by
  obtain ⟨n, h3, hn, e⟩ := he
  rw [e, nI_clamp (by omega)] at hq
  rw [nI_clamp (by omega)]
  exact s_X9_range ha hn e (by omega)
def partV (I : Im) (a m q : Nat) : Int32 := if q < m ∧ ¬ I (a + 13 + q) 0 = 0 then I (a + 13 + q) 9 else -9
theorem s_pullT {q : Nat} (hm : TOk I) (hq : q < 2 ^ 31) : Ca G mdX5_pullOf [.ref 24, .int (nI q)] (mk I L t) (Rs (.int (pullV I 24 (I 24 2).toNatClampNeg (nI q).toNatClampNeg)) (mk I L t)) := by
  obtain ⟨m, hm, em⟩ := hm
  rw [em, nI_clamp (by omega), nI_clamp hq]
  exact s_X5_pullOf (a := 24) (B := 47) rfl rfl (by decide) em hm hq
theorem s_partT {q : Nat} (hm : TOk I) (hq : q < 2 ^ 31) : Ca G mdX5_partedOf [.ref 24, .int (nI q)] (mk I L t) (Rs (.int (partV I 24 (I 24 2).toNatClampNeg (nI q).toNatClampNeg)) (mk I L t)) := by
  obtain ⟨m, hm, em⟩ := hm
  rw [em, nI_clamp (by omega), nI_clamp hq]
  exact s_X5_partedOf (a := 24) (B := 47) rfl rfl (by decide) em hm hq
theorem s_leastT (hm : TOk I) (h1 : 1 ≤ (I 24 2).toNatClampNeg) : Ca G mdX5_leastPulled [.ref 24] (mk I L t) (Rs (.int (nI (calmN (pullV I 24 (I 24 2).toNatClampNeg) ((I 24 2).toNatClampNeg - 1)))) (mk I L t)) := by
  obtain ⟨m, hm, em⟩ := hm
  rw [em, nI_clamp (by omega)] at h1 ⊢
  exact s_X5_leastPulled (a := 24) (B := 47) rfl rfl (by decide) em h1 hm
theorem s_moorT {s : Nat} {c g : Int32} (hm : ∃ m, m < 48 ∧ I 24 2 = nI m) (hs : K0 s = (1, 10)) (hz : I s 0 = 0 ∨ I s 0 = 1) : Ca G mdX5_moor [.ref 24, .ref s, .int c, .int g] (mk I L t) (Rv (mk (moorI I 24 (I 24 2).toNatClampNeg s c g) L t)) := by
  obtain ⟨m, hm, em⟩ := hm
  rw [em, nI_clamp (by omega)]
  exact s_X5_moor (a := 24) (B := 47) rfl rfl (by decide) em hm hs hz
theorem moorI_m {m s : Nat} {c g : Int32} : moorI I 24 m s c g 24 2 = nI (m + 1) := by
  unfold moorI
  exact u2_s
theorem moorI_off {m s e : Nat} {c g : Int32} (h : e ≠ 24) (h2 : e ≠ 37 + m) : moorI I 24 m s c g e = I e := by
  unfold moorI
  rw [up2_off h, boRest_off (by omega), up2_off (by omega), up2_off (by omega), boTake_off (by omega)]
theorem clr {e : Nat} (h : e ≠ 24) : up2 I 24 2 0 e = I e := up2_off h
theorem clr_t : TOk (up2 I 24 2 0) := ⟨0, by omega, u2_s⟩
def f_X11_quietOf (I : Im) (b : Nat) (s : Nat) : Int32 × Im :=
  let I1 : Im := up2 I 24 2 0
  let I2 : Im := wakeI I1 b s
  (rng I2 25 (nI (wildN (rng I2 25) ((I2 26 2).toNatClampNeg - 1))).toNatClampNeg, I2)
set_option maxRecDepth 100000 in
set_option maxHeartbeats 4000000 in
theorem s_X11_quietOf  {b : Nat} {s : Nat} (hb : BOk I b) (hs : SOk I s) : Ca G mdX11_quietOf [.ref 0, .ref b, .ref s] (mk I L t) (Rs (.int (f_X11_quietOf I b s).1) (mk ((f_X11_quietOf I b s).2) L t)) := by
  refine Ca.intro [some (.ref 0), some (.ref b), some (.ref s)] (by decide) (Nat.le_of_ble_eq_true rfl) rfl rfl ?_
  refine ex_aload_n dX11_quietOf_0 rfl ?_
  refine g_11_8 dX11_quietOf_1 rfl wf_X11_58 (by first | assumption | rfl) (show Rt _ 0 8 = some 24 from rfl) ?_
  refine rx_cV (kd := 5) dX11_quietOf_4 rfl lk_X11_236 rfl (by decide) (by first | assumption | rfl) ⟨⟨rfl, rfl⟩, by decide, by decide⟩ rfl (Nat.le_of_ble_eq_true rfl) rfl (s_X5_clear (a := 24) rfl) (Rv.k ?_)
  refine ex_aload_n dX11_quietOf_7 rfl ?_
  refine g_11_8 dX11_quietOf_8 rfl wf_X11_58 (by first | assumption | rfl) (show Rt _ 0 8 = some 24 from rfl) ?_
  refine ex_aload_n dX11_quietOf_11 rfl ?_
  refine ex_aload_n dX11_quietOf_12 rfl ?_
  refine rx_cV (kd := 5) dX11_quietOf_13 rfl lk_X11_381 rfl (by decide) (by first | assumption | rfl) ⟨⟨rfl, rfl⟩, by decide, by decide⟩ rfl (Nat.le_of_ble_eq_true rfl) rfl (s_wakeT (BOk_of (clr (by have := hb.2.1; omega)) hb) (SOk_of (clr (by have := hs.2.1; omega)) hs) clr_t) (Rv.k ?_)
  refine ex_aload_n dX11_quietOf_16 rfl ?_
  refine g_11_8 dX11_quietOf_17 rfl wf_X11_58 (by first | assumption | rfl) (show Rt _ 0 8 = some 24 from rfl) ?_
  refine g_5_0 dX11_quietOf_20 rfl wf_X11_251 (by first | assumption | rfl) (show Rt _ 24 0 = some 25 from rfl) ?_
  refine ex_aload_n dX11_quietOf_23 rfl ?_
  refine g_11_8 dX11_quietOf_24 rfl wf_X11_58 (by first | assumption | rfl) (show Rt _ 0 8 = some 24 from rfl) ?_
  refine g_5_0 dX11_quietOf_27 rfl wf_X11_251 (by first | assumption | rfl) (show Rt _ 24 0 = some 25 from rfl) ?_
  refine rx_cV (kd := 9) dX11_quietOf_30 rfl lk_X11_378 rfl (by decide) (by first | assumption | rfl) ⟨⟨rfl, rfl⟩, by decide, by decide⟩ rfl (Nat.le_of_ble_eq_true rfl) rfl (s_wildT (a := 25) rfl (wakeI_e (BOk_of (clr (by have := hb.2.1; omega)) hb) clr_t)) (Rs.k ?_)
  refine rx_cV (kd := 9) dX11_quietOf_33 rfl lk_X11_387 rfl (by decide) (by first | assumption | rfl) ⟨⟨rfl, rfl⟩, by decide, by decide⟩ rfl (Nat.le_of_ble_eq_true rfl) rfl (s_rangeT (a := 25) rfl (wakeI_e (BOk_of (clr (by have := hb.2.1; omega)) hb) clr_t) (wildN_le _ _)) (Rs.k ?_)
  refine ex_iret dX11_quietOf_36 rfl rfl ⟨rfl, Nat.le_refl _⟩ ?_
  exact ⟨(by simp only [f_X11_quietOf, if_true, if_false, not_true_eq_false, not_false_eq_true]), (by simp only [f_X11_quietOf, if_true, if_false, not_true_eq_false, not_false_eq_true])⟩
theorem quiet_e {b s : Nat} (hb : BOk I b) : ∃ n, 3 ≤ n ∧ n ≤ 16 ∧ (f_X11_quietOf I b s).2 26 2 = nI n := wakeI_e (BOk_of (clr (by have := hb.2.1; omega)) hb) clr_t
theorem quiet_off {b s e : Nat} (h : e < 24 ∨ 84 < e) : (f_X11_quietOf I b s).2 e = I e := by
  unfold f_X11_quietOf
  dsimp only
  rw [wakeI_off clr_t h, clr (by omega)]
def f_X11_quiet (I : Im) (k : Int32) (s : Int32) : Int32 × Im :=
  if (b2i (0 ≤ k ∧ k ≤ 3)) = 0 then
    ((-1), I)
  else
    if (b2i (0 ≤ s ∧ s ≤ 3)) = 0 then
      ((-1), I)
    else
      if (I (124 + 2 * k.toNatClampNeg) 1) = 0 then
        let I1 : Im := (f_X11_refuse I 1).2
        ((f_X11_refuse I 1).1, I1)
      else
        if (I (132 + 3 * s.toNatClampNeg) 2) = 0 then
          let I4 : Im := (f_X11_refuse I 1).2
          ((f_X11_refuse I 1).1, I4)
        else
          let I2 : Im := (f_X11_quietOf I (124 + 2 * k.toNatClampNeg) (132 + 3 * s.toNatClampNeg)).2
          let I3 : Im := (f_X11_tell I2 (nI (wildN (rng I2 25) ((I2 26 2).toNatClampNeg - 1))) ((f_X11_quietOf I (124 + 2 * k.toNatClampNeg) (132 + 3 * s.toNatClampNeg)).1)).2
          ((f_X11_tell I2 (nI (wildN (rng I2 25) ((I2 26 2).toNatClampNeg - 1))) ((f_X11_quietOf I (124 + 2 * k.toNatClampNeg) (132 + 3 * s.toNatClampNeg)).1)).1, I3)
set_option maxRecDepth 100000 in
set_option maxHeartbeats 4000000 in
theorem s_X11_quiet  {k : Int32} {s : Int32} (hHar : HarS I) (hSea : SeaS I) : Ca G mdX11_quiet [.ref 0, .int k, .int s] (mk I L t) (Rs (.int (f_X11_quiet I k s).1) (mk ((f_X11_quiet I k s).2) L t)) := by
  refine Ca.intro [some (.ref 0), some (.int k), some (.int s), none] (by decide) (Nat.le_of_ble_eq_true rfl) rfl rfl ?_
  refine ex_iload_n dX11_quiet_0 rfl ?_
  refine rx_cS dX11_quiet_1 rfl lk_X11_181 ⟨⟨rfl, rfl⟩, by decide, by decide⟩ rfl (Nat.le_of_ble_eq_true rfl) rfl s_X11_isHarbour (Rs.k ?_)
  refine ex_if_eq 14 dX11_quiet_4 (by decide) (fun h4 => ?_) (fun h4 => ?_)
  · skip
    refine ex_iconst (v := (-1)) dX11_quiet_14 (by decide) ?_
    refine ex_iret dX11_quiet_15 rfl rfl ⟨rfl, Nat.le_refl _⟩ ?_
    exact ⟨(by simp only [f_X11_quiet, ↓eq_true h4, if_true, if_false, not_true_eq_false, not_false_eq_true]), (by simp only [f_X11_quiet, ↓eq_true h4, if_true, if_false, not_true_eq_false, not_false_eq_true])⟩
  · have qk := (cl_lt (N := 4) (by decide) h4).1
    have vk := (cl_lt (N := 4) (by decide) h4).2
    have kk := ky_har qk
    have lk := ly_har (t := t) qk
    refine ex_iload_n dX11_quiet_7 rfl ?_
    refine rx_cS dX11_quiet_8 rfl lk_X11_194 ⟨⟨rfl, rfl⟩, by decide, by decide⟩ rfl (Nat.le_of_ble_eq_true rfl) rfl s_X11_isSea (Rs.k ?_)
    refine ex_if_ne 16 dX11_quiet_11 (by decide) (fun h11 => ?_) (fun h11 => ?_)
    · have qs := (cl_lt (N := 4) (by decide) h11).1
      have vs := (cl_lt (N := 4) (by decide) h11).2
      have ks := ky_sea qs
      have ls := ly_sea (t := t) qs
      refine ex_aload_n dX11_quiet_16 rfl ?_
      refine g_11_2 dX11_quiet_17 rfl wf_X11_23 (by first | assumption | rfl) (show Rt _ 0 2 = some 3 from rfl) ?_
      refine ex_iload_n dX11_quiet_20 rfl ?_
      refine rx_aald dX11_quiet_21 (by first | assumption | rfl) (by decide) rfl (by first | assumption | (unfold vp_in; decide)) (by first | assumption | rfl) ?_
      refine g_0_1 dX11_quiet_22 rfl wf_X11_206 (by first | assumption | rfl) ?_
      refine ex_if_eq 40 dX11_quiet_25 (by decide) (fun h25 => ?_) (fun h25 => ?_)
      · skip
        refine ex_aload_n dX11_quiet_40 rfl ?_
        refine ex_iconst (v := 1) dX11_quiet_41 (by decide) ?_
        refine rx_cV (kd := 11) dX11_quiet_42 rfl lk_X11_129 rfl (by decide) (by first | assumption | rfl) ⟨⟨rfl, rfl⟩, by decide, by decide⟩ rfl (Nat.le_of_ble_eq_true rfl) rfl (s_X11_refuse (by unfold vp_in; decide)) (Rs.k ?_)
        refine ex_iret dX11_quiet_45 rfl rfl ⟨rfl, Nat.le_refl _⟩ ?_
        exact ⟨(by simp only [f_X11_quiet, ↓eq_false h4, ↓eq_false h11, ↓eq_true h25, if_true, if_false, not_true_eq_false, not_false_eq_true]), (by simp only [f_X11_quiet, ↓eq_false h4, ↓eq_false h11, ↓eq_true h25, if_true, if_false, not_true_eq_false, not_false_eq_true])⟩
      · skip
        refine ex_aload_n dX11_quiet_28 rfl ?_
        refine g_11_3 dX11_quiet_29 rfl wf_X11_29 (by first | assumption | rfl) (show Rt _ 0 3 = some 4 from rfl) ?_
        refine ex_iload_n dX11_quiet_32 rfl ?_
        refine rx_aald dX11_quiet_33 (by first | assumption | rfl) (by decide) rfl (by first | assumption | (unfold vp_in; decide)) (by first | assumption | rfl) ?_
        refine g_8_2 dX11_quiet_34 rfl wf_X11_121 (by first | assumption | rfl) ?_
        refine ex_if_ne 46 dX11_quiet_37 (by decide) (fun h37 => ?_) (fun h37 => ?_)
        · have hb := BOk_h hHar qk h25
          have hs := SOk_s hSea qs
          refine ex_aload_n dX11_quiet_46 rfl ?_
          refine ex_aload_n dX11_quiet_47 rfl ?_
          refine g_11_2 dX11_quiet_48 rfl wf_X11_23 (by first | assumption | rfl) (show Rt _ 0 2 = some 3 from rfl) ?_
          refine ex_iload_n dX11_quiet_51 rfl ?_
          refine rx_aald dX11_quiet_52 (by first | assumption | rfl) (by decide) rfl (by first | assumption | (unfold vp_in; decide)) (by first | assumption | rfl) ?_
          refine ex_aload_n dX11_quiet_53 rfl ?_
          refine g_11_3 dX11_quiet_54 rfl wf_X11_29 (by first | assumption | rfl) (show Rt _ 0 3 = some 4 from rfl) ?_
          refine ex_iload_n dX11_quiet_57 rfl ?_
          refine rx_aald dX11_quiet_58 (by first | assumption | rfl) (by decide) rfl (by first | assumption | (unfold vp_in; decide)) (by first | assumption | rfl) ?_
          refine rx_cV (kd := 11) dX11_quiet_59 rfl lk_X11_374 rfl (by decide) (by first | assumption | rfl) ⟨⟨rfl, rfl⟩, by decide, by decide⟩ rfl (Nat.le_of_ble_eq_true rfl) rfl (s_X11_quietOf hb hs) (Rs.k ?_)
          refine st_i3 dX11_quiet_62 (by first | exact rfl | exact trivial) ?_
          refine ex_aload_n dX11_quiet_63 rfl ?_
          refine ex_aload_n dX11_quiet_64 rfl ?_
          refine g_11_8 dX11_quiet_65 rfl wf_X11_58 (by first | assumption | rfl) (show Rt _ 0 8 = some 24 from rfl) ?_
          refine g_5_0 dX11_quiet_68 rfl wf_X11_251 (by first | assumption | rfl) (show Rt _ 24 0 = some 25 from rfl) ?_
          refine rx_cV (kd := 9) dX11_quiet_71 rfl lk_X11_378 rfl (by decide) (by first | assumption | rfl) ⟨⟨rfl, rfl⟩, by decide, by decide⟩ rfl (Nat.le_of_ble_eq_true rfl) rfl (s_wildT (a := 25) rfl (quiet_e hb)) (Rs.k ?_)
          refine ex_iload_n dX11_quiet_74 rfl ?_
          refine rx_cV (kd := 11) dX11_quiet_75 rfl lk_X11_143 rfl (by decide) (by first | assumption | rfl) ⟨⟨rfl, rfl⟩, by decide, by decide⟩ rfl (Nat.le_of_ble_eq_true rfl) rfl s_X11_tell (Rs.k ?_)
          refine ex_iret dX11_quiet_78 rfl rfl ⟨rfl, Nat.le_refl _⟩ ?_
          exact ⟨(by simp only [f_X11_quiet, ↓eq_false h4, ↓eq_false h11, ↓eq_false h25, ↓eq_false h37, if_true, if_false, not_true_eq_false, not_false_eq_true]), (by simp only [f_X11_quiet, ↓eq_false h4, ↓eq_false h11, ↓eq_false h25, ↓eq_false h37, if_true, if_false, not_true_eq_false, not_false_eq_true])⟩
        · skip
          refine ex_aload_n dX11_quiet_40 rfl ?_
          refine ex_iconst (v := 1) dX11_quiet_41 (by decide) ?_
          refine rx_cV (kd := 11) dX11_quiet_42 rfl lk_X11_129 rfl (by decide) (by first | assumption | rfl) ⟨⟨rfl, rfl⟩, by decide, by decide⟩ rfl (Nat.le_of_ble_eq_true rfl) rfl (s_X11_refuse (by unfold vp_in; decide)) (Rs.k ?_)
          refine ex_iret dX11_quiet_45 rfl rfl ⟨rfl, Nat.le_refl _⟩ ?_
          exact ⟨(by simp only [f_X11_quiet, ↓eq_false h4, ↓eq_false h11, ↓eq_false h25, ↓eq_true h37, if_true, if_false, not_true_eq_false, not_false_eq_true]), (by simp only [f_X11_quiet, ↓eq_false h4, ↓eq_false h11, ↓eq_false h25, ↓eq_true h37, if_true, if_false, not_true_eq_false, not_false_eq_true])⟩
    · skip
      refine ex_iconst (v := (-1)) dX11_quiet_14 (by decide) ?_
      refine ex_iret dX11_quiet_15 rfl rfl ⟨rfl, Nat.le_refl _⟩ ?_
      exact ⟨(by simp only [f_X11_quiet, ↓eq_false h4, ↓eq_true h11, if_true, if_false, not_true_eq_false, not_false_eq_true]), (by simp only [f_X11_quiet, ↓eq_false h4, ↓eq_true h11, if_true, if_false, not_true_eq_false, not_false_eq_true])⟩
def f_X11_still (I : Im) (k : Int32) (s : Int32) : Int32 × Im :=
  if (b2i (0 ≤ k ∧ k ≤ 3)) = 0 then
    ((-1), I)
  else
    if (b2i (0 ≤ s ∧ s ≤ 3)) = 0 then
      ((-1), I)
    else
      if (I (124 + 2 * k.toNatClampNeg) 1) = 0 then
        let I1 : Im := (f_X11_refuse I 1).2
        ((f_X11_refuse I 1).1, I1)
      else
        if (I (132 + 3 * s.toNatClampNeg) 2) = 0 then
          let I5 : Im := (f_X11_refuse I 1).2
          ((f_X11_refuse I 1).1, I5)
        else
          let I2 : Im := up2 I 24 2 0
          let I3 : Im := wakeI I2 (124 + 2 * k.toNatClampNeg) (132 + 3 * s.toNatClampNeg)
          let I4 : Im := (f_X11_tell I3 (rng I3 25 (nI (calmN (rng I3 25) ((I3 26 2).toNatClampNeg - 1))).toNatClampNeg) (nI (calmN (rng I3 25) ((I3 26 2).toNatClampNeg - 1)))).2
          ((f_X11_tell I3 (rng I3 25 (nI (calmN (rng I3 25) ((I3 26 2).toNatClampNeg - 1))).toNatClampNeg) (nI (calmN (rng I3 25) ((I3 26 2).toNatClampNeg - 1)))).1, I4)
set_option maxRecDepth 100000 in
set_option maxHeartbeats 4000000 in
theorem s_X11_still  {k : Int32} {s : Int32} (hHar : HarS I) (hSea : SeaS I) : Ca G mdX11_still [.ref 0, .int k, .int s] (mk I L t) (Rs (.int (f_X11_still I k s).1) (mk ((f_X11_still I k s).2) L t)) := by
  refine Ca.intro [some (.ref 0), some (.int k), some (.int s), none] (by decide) (Nat.le_of_ble_eq_true rfl) rfl rfl ?_
  refine ex_iload_n dX11_still_0 rfl ?_
  refine rx_cS dX11_still_1 rfl lk_X11_181 ⟨⟨rfl, rfl⟩, by decide, by decide⟩ rfl (Nat.le_of_ble_eq_true rfl) rfl s_X11_isHarbour (Rs.k ?_)
  refine ex_if_eq 14 dX11_still_4 (by decide) (fun h4 => ?_) (fun h4 => ?_)
  · skip
    refine ex_iconst (v := (-1)) dX11_still_14 (by decide) ?_
    refine ex_iret dX11_still_15 rfl rfl ⟨rfl, Nat.le_refl _⟩ ?_
    exact ⟨(by simp only [f_X11_still, ↓eq_true h4, if_true, if_false, not_true_eq_false, not_false_eq_true]), (by simp only [f_X11_still, ↓eq_true h4, if_true, if_false, not_true_eq_false, not_false_eq_true])⟩
  · have qk := (cl_lt (N := 4) (by decide) h4).1
    have vk := (cl_lt (N := 4) (by decide) h4).2
    have kk := ky_har qk
    have lk := ly_har (t := t) qk
    refine ex_iload_n dX11_still_7 rfl ?_
    refine rx_cS dX11_still_8 rfl lk_X11_194 ⟨⟨rfl, rfl⟩, by decide, by decide⟩ rfl (Nat.le_of_ble_eq_true rfl) rfl s_X11_isSea (Rs.k ?_)
    refine ex_if_ne 16 dX11_still_11 (by decide) (fun h11 => ?_) (fun h11 => ?_)
    · have qs := (cl_lt (N := 4) (by decide) h11).1
      have vs := (cl_lt (N := 4) (by decide) h11).2
      have ks := ky_sea qs
      have ls := ly_sea (t := t) qs
      refine ex_aload_n dX11_still_16 rfl ?_
      refine g_11_2 dX11_still_17 rfl wf_X11_23 (by first | assumption | rfl) (show Rt _ 0 2 = some 3 from rfl) ?_
      refine ex_iload_n dX11_still_20 rfl ?_
      refine rx_aald dX11_still_21 (by first | assumption | rfl) (by decide) rfl (by first | assumption | (unfold vp_in; decide)) (by first | assumption | rfl) ?_
      refine g_0_1 dX11_still_22 rfl wf_X11_206 (by first | assumption | rfl) ?_
      refine ex_if_eq 40 dX11_still_25 (by decide) (fun h25 => ?_) (fun h25 => ?_)
      · skip
        refine ex_aload_n dX11_still_40 rfl ?_
        refine ex_iconst (v := 1) dX11_still_41 (by decide) ?_
        refine rx_cV (kd := 11) dX11_still_42 rfl lk_X11_129 rfl (by decide) (by first | assumption | rfl) ⟨⟨rfl, rfl⟩, by decide, by decide⟩ rfl (Nat.le_of_ble_eq_true rfl) rfl (s_X11_refuse (by unfold vp_in; decide)) (Rs.k ?_)
        refine ex_iret dX11_still_45 rfl rfl ⟨rfl, Nat.le_refl _⟩ ?_
        exact ⟨(by simp only [f_X11_still, ↓eq_false h4, ↓eq_false h11, ↓eq_true h25, if_true, if_false, not_true_eq_false, not_false_eq_true]), (by simp only [f_X11_still, ↓eq_false h4, ↓eq_false h11, ↓eq_true h25, if_true, if_false, not_true_eq_false, not_false_eq_true])⟩
      · skip
        refine ex_aload_n dX11_still_28 rfl ?_
        refine g_11_3 dX11_still_29 rfl wf_X11_29 (by first | assumption | rfl) (show Rt _ 0 3 = some 4 from rfl) ?_
        refine ex_iload_n dX11_still_32 rfl ?_
        refine rx_aald dX11_still_33 (by first | assumption | rfl) (by decide) rfl (by first | assumption | (unfold vp_in; decide)) (by first | assumption | rfl) ?_
        refine g_8_2 dX11_still_34 rfl wf_X11_121 (by first | assumption | rfl) ?_
        refine ex_if_ne 46 dX11_still_37 (by decide) (fun h37 => ?_) (fun h37 => ?_)
        · have hb := BOk_h hHar qk h25
          have hs := SOk_s hSea qs
          refine ex_aload_n dX11_still_46 rfl ?_
          refine g_11_8 dX11_still_47 rfl wf_X11_58 (by first | assumption | rfl) (show Rt _ 0 8 = some 24 from rfl) ?_
          refine rx_cV (kd := 5) dX11_still_50 rfl lk_X11_236 rfl (by decide) (by first | assumption | rfl) ⟨⟨rfl, rfl⟩, by decide, by decide⟩ rfl (Nat.le_of_ble_eq_true rfl) rfl (s_X5_clear (a := 24) rfl) (Rv.k ?_)
          refine ex_aload_n dX11_still_53 rfl ?_
          refine g_11_8 dX11_still_54 rfl wf_X11_58 (by first | assumption | rfl) (show Rt _ 0 8 = some 24 from rfl) ?_
          refine ex_aload_n dX11_still_57 rfl ?_
          refine g_11_2 dX11_still_58 rfl wf_X11_23 (by first | assumption | rfl) (show Rt _ 0 2 = some 3 from rfl) ?_
          refine ex_iload_n dX11_still_61 rfl ?_
          refine rx_aald dX11_still_62 (by first | assumption | rfl) (by decide) rfl (by first | assumption | (unfold vp_in; decide)) (by first | assumption | rfl) ?_
          refine ex_aload_n dX11_still_63 rfl ?_
          refine g_11_3 dX11_still_64 rfl wf_X11_29 (by first | assumption | rfl) (show Rt _ 0 3 = some 4 from rfl) ?_
          refine ex_iload_n dX11_still_67 rfl ?_
          refine rx_aald dX11_still_68 (by first | assumption | rfl) (by decide) rfl (by first | assumption | (unfold vp_in; decide)) (by first | assumption | rfl) ?_
          refine rx_cV (kd := 5) dX11_still_69 rfl lk_X11_381 rfl (by decide) (by first | assumption | rfl) ⟨⟨rfl, rfl⟩, by decide, by decide⟩ rfl (Nat.le_of_ble_eq_true rfl) rfl (s_wakeT (BOk_of (clr (by have := hb.2.1; omega)) hb) (SOk_of (clr (by have := hs.2.1; omega)) hs) clr_t) (Rv.k ?_)
          refine ex_aload_n dX11_still_72 rfl ?_
          refine g_11_8 dX11_still_73 rfl wf_X11_58 (by first | assumption | rfl) (show Rt _ 0 8 = some 24 from rfl) ?_
          refine g_5_0 dX11_still_76 rfl wf_X11_251 (by first | assumption | rfl) (show Rt _ 24 0 = some 25 from rfl) ?_
          refine rx_cV (kd := 9) dX11_still_79 rfl lk_X11_384 rfl (by decide) (by first | assumption | rfl) ⟨⟨rfl, rfl⟩, by decide, by decide⟩ rfl (Nat.le_of_ble_eq_true rfl) rfl (s_calmT (a := 25) rfl (wakeI_e (BOk_of (clr (by have := hb.2.1; omega)) hb) clr_t)) (Rs.k ?_)
          refine st_i3 dX11_still_82 (by first | exact rfl | exact trivial) ?_
          refine ex_aload_n dX11_still_83 rfl ?_
          refine ex_aload_n dX11_still_84 rfl ?_
          refine g_11_8 dX11_still_85 rfl wf_X11_58 (by first | assumption | rfl) (show Rt _ 0 8 = some 24 from rfl) ?_
          refine g_5_0 dX11_still_88 rfl wf_X11_251 (by first | assumption | rfl) (show Rt _ 24 0 = some 25 from rfl) ?_
          refine ex_iload_n dX11_still_91 rfl ?_
          refine rx_cV (kd := 9) dX11_still_92 rfl lk_X11_387 rfl (by decide) (by first | assumption | rfl) ⟨⟨rfl, rfl⟩, by decide, by decide⟩ rfl (Nat.le_of_ble_eq_true rfl) rfl (s_rangeT (a := 25) rfl (wakeI_e (BOk_of (clr (by have := hb.2.1; omega)) hb) clr_t) (calmN_le _ _)) (Rs.k ?_)
          refine ex_iload_n dX11_still_95 rfl ?_
          refine rx_cV (kd := 11) dX11_still_96 rfl lk_X11_143 rfl (by decide) (by first | assumption | rfl) ⟨⟨rfl, rfl⟩, by decide, by decide⟩ rfl (Nat.le_of_ble_eq_true rfl) rfl s_X11_tell (Rs.k ?_)
          refine ex_iret dX11_still_99 rfl rfl ⟨rfl, Nat.le_refl _⟩ ?_
          exact ⟨(by simp only [f_X11_still, ↓eq_false h4, ↓eq_false h11, ↓eq_false h25, ↓eq_false h37, if_true, if_false, not_true_eq_false, not_false_eq_true]), (by simp only [f_X11_still, ↓eq_false h4, ↓eq_false h11, ↓eq_false h25, ↓eq_false h37, if_true, if_false, not_true_eq_false, not_false_eq_true])⟩
        · skip
          refine ex_aload_n dX11_still_40 rfl ?_
          refine ex_iconst (v := 1) dX11_still_41 (by decide) ?_
          refine rx_cV (kd := 11) dX11_still_42 rfl lk_X11_129 rfl (by decide) (by first | assumption | rfl) ⟨⟨rfl, rfl⟩, by decide, by decide⟩ rfl (Nat.le_of_ble_eq_true rfl) rfl (s_X11_refuse (by unfold vp_in; decide)) (Rs.k ?_)
          refine ex_iret dX11_still_45 rfl rfl ⟨rfl, Nat.le_refl _⟩ ?_
          exact ⟨(by simp only [f_X11_still, ↓eq_false h4, ↓eq_false h11, ↓eq_false h25, ↓eq_true h37, if_true, if_false, not_true_eq_false, not_false_eq_true]), (by simp only [f_X11_still, ↓eq_false h4, ↓eq_false h11, ↓eq_false h25, ↓eq_true h37, if_true, if_false, not_true_eq_false, not_false_eq_true])⟩
    · skip
      refine ex_iconst (v := (-1)) dX11_still_14 (by decide) ?_
      refine ex_iret dX11_still_15 rfl rfl ⟨rfl, Nat.le_refl _⟩ ?_
      exact ⟨(by simp only [f_X11_still, ↓eq_false h4, ↓eq_true h11, if_true, if_false, not_true_eq_false, not_false_eq_true]), (by simp only [f_X11_still, ↓eq_false h4, ↓eq_true h11, if_true, if_false, not_true_eq_false, not_false_eq_true])⟩
def f_X11_anySea (I : Im) : Int32 :=
  if (I 132 2) = 0 then
    if (I 135 2) = 0 then
      if (I 138 2) = 0 then
        if (I 141 2) = 0 then
          0
        else
          1
      else
        1
    else
      1
  else
    1
set_option maxRecDepth 100000 in
set_option maxHeartbeats 4000000 in
theorem s_X11_anySea   : Ca G mdX11_anySea [.ref 0] (mk I L t) (Rs (.int (f_X11_anySea I)) (mk I L t)) := by
  refine Ca.intro [some (.ref 0), none] (by decide) (Nat.le_of_ble_eq_true rfl) rfl rfl ?_
  refine ex_iconst (v := 0) dX11_anySea_0 (by decide) ?_
  refine st_i1 dX11_anySea_1 (by first | exact rfl | exact trivial) ?_
  refine ex_iload_n dX11_anySea_2 rfl ?_
  refine ex_iconst (v := 4) dX11_anySea_3 (by decide) ?_
  refine ex_icmp_ge 27 dX11_anySea_4 (by decide) (fun h4 => ?_) (fun h4 => ?_)
  · exact absurd h4 (by decide)
  · skip
    refine ex_aload_n dX11_anySea_7 rfl ?_
    refine g_11_3 dX11_anySea_8 rfl wf_X11_29 (by first | assumption | rfl) (show Rt _ 0 3 = some 4 from rfl) ?_
    refine ex_iload_n dX11_anySea_11 rfl ?_
    refine rx_aald dX11_anySea_12 (by first | assumption | rfl) (by decide) rfl (by unfold vp_in; decide) (show Rt _ 4 _ = some 132 from rfl) ?_
    refine g_8_2 dX11_anySea_13 rfl wf_X11_121 (by first | assumption | rfl) ?_
    refine ex_if_eq 21 dX11_anySea_16 (by decide) (fun h16 => ?_) (fun h16 => ?_)
    · skip
      refine inc1 (v := _ + 1) dX11_anySea_21 (by rfl) (by first | exact rfl | exact trivial) ?_
      refine ex_goto 2 dX11_anySea_24 (by decide) ?_
      refine ex_iload_n dX11_anySea_2 rfl ?_
      refine ex_iconst (v := 4) dX11_anySea_3 (by decide) ?_
      refine ex_icmp_ge 27 dX11_anySea_4 (by decide) (fun h4_1 => ?_) (fun h4_1 => ?_)
      · exact absurd h4_1 (by decide)
      · skip
        refine ex_aload_n dX11_anySea_7 rfl ?_
        refine g_11_3 dX11_anySea_8 rfl wf_X11_29 (by first | assumption | rfl) (show Rt _ 0 3 = some 4 from rfl) ?_
        refine ex_iload_n dX11_anySea_11 rfl ?_
        refine rx_aald dX11_anySea_12 (by first | assumption | rfl) (by decide) rfl (by unfold vp_in; decide) (show Rt _ 4 _ = some 135 from rfl) ?_
        refine g_8_2 dX11_anySea_13 rfl wf_X11_121 (by first | assumption | rfl) ?_
        refine ex_if_eq 21 dX11_anySea_16 (by decide) (fun h16_1 => ?_) (fun h16_1 => ?_)
        · skip
          refine inc1 (v := _ + 1) dX11_anySea_21 (by rfl) (by first | exact rfl | exact trivial) ?_
          refine ex_goto 2 dX11_anySea_24 (by decide) ?_
          refine ex_iload_n dX11_anySea_2 rfl ?_
          refine ex_iconst (v := 4) dX11_anySea_3 (by decide) ?_
          refine ex_icmp_ge 27 dX11_anySea_4 (by decide) (fun h4_2 => ?_) (fun h4_2 => ?_)
          · exact absurd h4_2 (by decide)
          · skip
            refine ex_aload_n dX11_anySea_7 rfl ?_
            refine g_11_3 dX11_anySea_8 rfl wf_X11_29 (by first | assumption | rfl) (show Rt _ 0 3 = some 4 from rfl) ?_
            refine ex_iload_n dX11_anySea_11 rfl ?_
            refine rx_aald dX11_anySea_12 (by first | assumption | rfl) (by decide) rfl (by unfold vp_in; decide) (show Rt _ 4 _ = some 138 from rfl) ?_
            refine g_8_2 dX11_anySea_13 rfl wf_X11_121 (by first | assumption | rfl) ?_
            refine ex_if_eq 21 dX11_anySea_16 (by decide) (fun h16_2 => ?_) (fun h16_2 => ?_)
            · skip
              refine inc1 (v := _ + 1) dX11_anySea_21 (by rfl) (by first | exact rfl | exact trivial) ?_
              refine ex_goto 2 dX11_anySea_24 (by decide) ?_
              refine ex_iload_n dX11_anySea_2 rfl ?_
              refine ex_iconst (v := 4) dX11_anySea_3 (by decide) ?_
              refine ex_icmp_ge 27 dX11_anySea_4 (by decide) (fun h4_3 => ?_) (fun h4_3 => ?_)
              · exact absurd h4_3 (by decide)
              · skip
                refine ex_aload_n dX11_anySea_7 rfl ?_
                refine g_11_3 dX11_anySea_8 rfl wf_X11_29 (by first | assumption | rfl) (show Rt _ 0 3 = some 4 from rfl) ?_
                refine ex_iload_n dX11_anySea_11 rfl ?_
                refine rx_aald dX11_anySea_12 (by first | assumption | rfl) (by decide) rfl (by unfold vp_in; decide) (show Rt _ 4 _ = some 141 from rfl) ?_
                refine g_8_2 dX11_anySea_13 rfl wf_X11_121 (by first | assumption | rfl) ?_
                refine ex_if_eq 21 dX11_anySea_16 (by decide) (fun h16_3 => ?_) (fun h16_3 => ?_)
                · skip
                  refine inc1 (v := _ + 1) dX11_anySea_21 (by rfl) (by first | exact rfl | exact trivial) ?_
                  refine ex_goto 2 dX11_anySea_24 (by decide) ?_
                  refine ex_iload_n dX11_anySea_2 rfl ?_
                  refine ex_iconst (v := 4) dX11_anySea_3 (by decide) ?_
                  refine ex_icmp_ge 27 dX11_anySea_4 (by decide) (fun h4_4 => ?_) (fun h4_4 => ?_)
                  · skip
                    refine ex_iconst (v := 0) dX11_anySea_27 (by decide) ?_
                    refine ex_iret dX11_anySea_28 rfl rfl ⟨rfl, Nat.le_refl _⟩ ?_
                    exact ⟨(by simp only [f_X11_anySea, ↓eq_true h16, ↓eq_true h16_1, ↓eq_true h16_2, ↓eq_true h16_3, if_true, if_false, not_true_eq_false, not_false_eq_true]), rfl⟩
                  · exact absurd h4_4 (by decide)
                · skip
                  refine ex_iconst (v := 1) dX11_anySea_19 (by decide) ?_
                  refine ex_iret dX11_anySea_20 rfl rfl ⟨rfl, Nat.le_refl _⟩ ?_
                  exact ⟨(by simp only [f_X11_anySea, ↓eq_true h16, ↓eq_true h16_1, ↓eq_true h16_2, ↓eq_false h16_3, if_true, if_false, not_true_eq_false, not_false_eq_true]), rfl⟩
            · skip
              refine ex_iconst (v := 1) dX11_anySea_19 (by decide) ?_
              refine ex_iret dX11_anySea_20 rfl rfl ⟨rfl, Nat.le_refl _⟩ ?_
              exact ⟨(by simp only [f_X11_anySea, ↓eq_true h16, ↓eq_true h16_1, ↓eq_false h16_2, if_true, if_false, not_true_eq_false, not_false_eq_true]), rfl⟩
        · skip
          refine ex_iconst (v := 1) dX11_anySea_19 (by decide) ?_
          refine ex_iret dX11_anySea_20 rfl rfl ⟨rfl, Nat.le_refl _⟩ ?_
          exact ⟨(by simp only [f_X11_anySea, ↓eq_true h16, ↓eq_false h16_1, if_true, if_false, not_true_eq_false, not_false_eq_true]), rfl⟩
    · skip
      refine ex_iconst (v := 1) dX11_anySea_19 (by decide) ?_
      refine ex_iret dX11_anySea_20 rfl rfl ⟨rfl, Nat.le_refl _⟩ ?_
      exact ⟨(by simp only [f_X11_anySea, ↓eq_false h16, if_true, if_false, not_true_eq_false, not_false_eq_true]), rfl⟩
theorem z_X11_anySea {I : Im} : f_X11_anySea I = 0 ∨ f_X11_anySea I = 1 := by
  unfold f_X11_anySea
  repeat' split
  all_goals first | exact Or.inl rfl | exact Or.inr rfl | assumption
def f_X11_refusedShip (I : Im) (s : Int32) (k : Int32) (z : Int32) : Int32 × Im :=
  if (b2i (0 ≤ s ∧ s ≤ 2)) = 0 then
    ((-1), I)
  else
    if (b2i (0 ≤ k ∧ k ≤ 3)) = 0 then
      ((-1), I)
    else
      if (b2i (0 ≤ z ∧ z ≤ 3)) = 0 then
        ((-1), I)
      else
        if (I (144 + s.toNatClampNeg) 0) = 0 then
          ((-4), I)
        else
          if (I (124 + 2 * k.toNatClampNeg) 1) = 0 then
            let I1 : Im := (f_X11_refuse I 1).2
            ((f_X11_refuse I 1).1, I1)
          else
            if (I (132 + 3 * z.toNatClampNeg) 2) = 0 then
              let I2 : Im := (f_X11_refuse I 1).2
              ((f_X11_refuse I 1).1, I2)
            else
              (0, I)
set_option maxRecDepth 100000 in
set_option maxHeartbeats 4000000 in
theorem s_X11_refusedShip  {s : Int32} {k : Int32} {z : Int32}  : Ca G mdX11_refusedShip [.ref 0, .int s, .int k, .int z] (mk I L t) (Rs (.int (f_X11_refusedShip I s k z).1) (mk ((f_X11_refusedShip I s k z).2) L t)) := by
  refine Ca.intro [some (.ref 0), some (.int s), some (.int k), some (.int z)] (by decide) (Nat.le_of_ble_eq_true rfl) rfl rfl ?_
  refine ex_iload_n dX11_refusedShip_0 rfl ?_
  refine rx_cS dX11_refusedShip_1 rfl lk_X11_222 ⟨⟨rfl, rfl⟩, by decide, by decide⟩ rfl (Nat.le_of_ble_eq_true rfl) rfl s_X11_isShip (Rs.k ?_)
  refine ex_if_eq 21 dX11_refusedShip_4 (by decide) (fun h4 => ?_) (fun h4 => ?_)
  · skip
    refine ex_iconst (v := (-1)) dX11_refusedShip_21 (by decide) ?_
    refine ex_iret dX11_refusedShip_22 rfl rfl ⟨rfl, Nat.le_refl _⟩ ?_
    exact ⟨(by simp only [f_X11_refusedShip, ↓eq_true h4, if_true, if_false, not_true_eq_false, not_false_eq_true]), (by simp only [f_X11_refusedShip, ↓eq_true h4, if_true, if_false, not_true_eq_false, not_false_eq_true])⟩
  · have qs := (cl_lt (N := 3) (by decide) h4).1
    have vs := (cl_lt (N := 3) (by decide) h4).2
    have ks := ky_shp qs
    have ls := ly_shp (t := t) qs
    refine ex_iload_n dX11_refusedShip_7 rfl ?_
    refine rx_cS dX11_refusedShip_8 rfl lk_X11_181 ⟨⟨rfl, rfl⟩, by decide, by decide⟩ rfl (Nat.le_of_ble_eq_true rfl) rfl s_X11_isHarbour (Rs.k ?_)
    refine ex_if_eq 21 dX11_refusedShip_11 (by decide) (fun h11 => ?_) (fun h11 => ?_)
    · skip
      refine ex_iconst (v := (-1)) dX11_refusedShip_21 (by decide) ?_
      refine ex_iret dX11_refusedShip_22 rfl rfl ⟨rfl, Nat.le_refl _⟩ ?_
      exact ⟨(by simp only [f_X11_refusedShip, ↓eq_false h4, ↓eq_true h11, if_true, if_false, not_true_eq_false, not_false_eq_true]), (by simp only [f_X11_refusedShip, ↓eq_false h4, ↓eq_true h11, if_true, if_false, not_true_eq_false, not_false_eq_true])⟩
    · have qk := (cl_lt (N := 4) (by decide) h11).1
      have vk := (cl_lt (N := 4) (by decide) h11).2
      have kk := ky_har qk
      have lk := ly_har (t := t) qk
      refine ex_iload_n dX11_refusedShip_14 rfl ?_
      refine rx_cS dX11_refusedShip_15 rfl lk_X11_194 ⟨⟨rfl, rfl⟩, by decide, by decide⟩ rfl (Nat.le_of_ble_eq_true rfl) rfl s_X11_isSea (Rs.k ?_)
      refine ex_if_ne 23 dX11_refusedShip_18 (by decide) (fun h18 => ?_) (fun h18 => ?_)
      · have qz := (cl_lt (N := 4) (by decide) h18).1
        have vz := (cl_lt (N := 4) (by decide) h18).2
        have kz := ky_sea qz
        have lz := ly_sea (t := t) qz
        refine ex_aload_n dX11_refusedShip_23 rfl ?_
        refine g_11_4 dX11_refusedShip_24 rfl wf_X11_35 (by first | assumption | rfl) (show Rt _ 0 4 = some 5 from rfl) ?_
        refine ex_iload_n dX11_refusedShip_27 rfl ?_
        refine rx_aald dX11_refusedShip_28 (by first | assumption | rfl) (by decide) rfl (by first | assumption | (unfold vp_in; decide)) (by first | assumption | rfl) ?_
        refine g_1_0 dX11_refusedShip_29 rfl wf_X11_232 (by first | assumption | rfl) ?_
        refine ex_if_ne 38 dX11_refusedShip_32 (by decide) (fun h32 => ?_) (fun h32 => ?_)
        · skip
          refine ex_aload_n dX11_refusedShip_38 rfl ?_
          refine g_11_2 dX11_refusedShip_39 rfl wf_X11_23 (by first | assumption | rfl) (show Rt _ 0 2 = some 3 from rfl) ?_
          refine ex_iload_n dX11_refusedShip_42 rfl ?_
          refine rx_aald dX11_refusedShip_43 (by first | assumption | rfl) (by decide) rfl (by first | assumption | (unfold vp_in; decide)) (by first | assumption | rfl) ?_
          refine g_0_1 dX11_refusedShip_44 rfl wf_X11_206 (by first | assumption | rfl) ?_
          refine ex_if_eq 62 dX11_refusedShip_47 (by decide) (fun h47 => ?_) (fun h47 => ?_)
          · skip
            refine ex_aload_n dX11_refusedShip_62 rfl ?_
            refine ex_iconst (v := 1) dX11_refusedShip_63 (by decide) ?_
            refine rx_cV (kd := 11) dX11_refusedShip_64 rfl lk_X11_129 rfl (by decide) (by first | assumption | rfl) ⟨⟨rfl, rfl⟩, by decide, by decide⟩ rfl (Nat.le_of_ble_eq_true rfl) rfl (s_X11_refuse (by unfold vp_in; decide)) (Rs.k ?_)
            refine ex_iret dX11_refusedShip_67 rfl rfl ⟨rfl, Nat.le_refl _⟩ ?_
            exact ⟨(by simp only [f_X11_refusedShip, ↓eq_false h4, ↓eq_false h11, ↓eq_false h18, ↓eq_false h32, ↓eq_true h47, if_true, if_false, not_true_eq_false, not_false_eq_true]), (by simp only [f_X11_refusedShip, ↓eq_false h4, ↓eq_false h11, ↓eq_false h18, ↓eq_false h32, ↓eq_true h47, if_true, if_false, not_true_eq_false, not_false_eq_true])⟩
          · skip
            refine ex_aload_n dX11_refusedShip_50 rfl ?_
            refine g_11_3 dX11_refusedShip_51 rfl wf_X11_29 (by first | assumption | rfl) (show Rt _ 0 3 = some 4 from rfl) ?_
            refine ex_iload_n dX11_refusedShip_54 rfl ?_
            refine rx_aald dX11_refusedShip_55 (by first | assumption | rfl) (by decide) rfl (by first | assumption | (unfold vp_in; decide)) (by first | assumption | rfl) ?_
            refine g_8_2 dX11_refusedShip_56 rfl wf_X11_121 (by first | assumption | rfl) ?_
            refine ex_if_ne 68 dX11_refusedShip_59 (by decide) (fun h59 => ?_) (fun h59 => ?_)
            · skip
              refine ex_iconst (v := 0) dX11_refusedShip_68 (by decide) ?_
              refine ex_iret dX11_refusedShip_69 rfl rfl ⟨rfl, Nat.le_refl _⟩ ?_
              exact ⟨(by simp only [f_X11_refusedShip, ↓eq_false h4, ↓eq_false h11, ↓eq_false h18, ↓eq_false h32, ↓eq_false h47, ↓eq_false h59, if_true, if_false, not_true_eq_false, not_false_eq_true]), (by simp only [f_X11_refusedShip, ↓eq_false h4, ↓eq_false h11, ↓eq_false h18, ↓eq_false h32, ↓eq_false h47, ↓eq_false h59, if_true, if_false, not_true_eq_false, not_false_eq_true])⟩
            · skip
              refine ex_aload_n dX11_refusedShip_62 rfl ?_
              refine ex_iconst (v := 1) dX11_refusedShip_63 (by decide) ?_
              refine rx_cV (kd := 11) dX11_refusedShip_64 rfl lk_X11_129 rfl (by decide) (by first | assumption | rfl) ⟨⟨rfl, rfl⟩, by decide, by decide⟩ rfl (Nat.le_of_ble_eq_true rfl) rfl (s_X11_refuse (by unfold vp_in; decide)) (Rs.k ?_)
              refine ex_iret dX11_refusedShip_67 rfl rfl ⟨rfl, Nat.le_refl _⟩ ?_
              exact ⟨(by simp only [f_X11_refusedShip, ↓eq_false h4, ↓eq_false h11, ↓eq_false h18, ↓eq_false h32, ↓eq_false h47, ↓eq_true h59, if_true, if_false, not_true_eq_false, not_false_eq_true]), (by simp only [f_X11_refusedShip, ↓eq_false h4, ↓eq_false h11, ↓eq_false h18, ↓eq_false h32, ↓eq_false h47, ↓eq_true h59, if_true, if_false, not_true_eq_false, not_false_eq_true])⟩
        · skip
          refine ex_bipush (v := (-4)) dX11_refusedShip_35 (by decide) ?_
          refine ex_iret dX11_refusedShip_37 rfl rfl ⟨rfl, Nat.le_refl _⟩ ?_
          exact ⟨(by simp only [f_X11_refusedShip, ↓eq_false h4, ↓eq_false h11, ↓eq_false h18, ↓eq_true h32, if_true, if_false, not_true_eq_false, not_false_eq_true]), (by simp only [f_X11_refusedShip, ↓eq_false h4, ↓eq_false h11, ↓eq_false h18, ↓eq_true h32, if_true, if_false, not_true_eq_false, not_false_eq_true])⟩
      · skip
        refine ex_iconst (v := (-1)) dX11_refusedShip_21 (by decide) ?_
        refine ex_iret dX11_refusedShip_22 rfl rfl ⟨rfl, Nat.le_refl _⟩ ?_
        exact ⟨(by simp only [f_X11_refusedShip, ↓eq_false h4, ↓eq_false h11, ↓eq_true h18, if_true, if_false, not_true_eq_false, not_false_eq_true]), (by simp only [f_X11_refusedShip, ↓eq_false h4, ↓eq_false h11, ↓eq_true h18, if_true, if_false, not_true_eq_false, not_false_eq_true])⟩
def f_X11_wakeShip (I : Im) (p : Nat) (b : Nat) (s : Nat) : Im :=
  let I1 : Im := up2 I 24 2 0
  let I2 : Im := moorI I1 24 (I1 24 2).toNatClampNeg p (I1 p 1) (I1 p 3)
  let I3 : Im := wakeI I2 b s
  I3
set_option maxRecDepth 100000 in
set_option maxHeartbeats 4000000 in
theorem s_X11_wakeShip  {p : Nat} {b : Nat} {s : Nat} (hb : BOk I b) (hs : SOk I s) (hp : K0 p = (1, 10)) (hz : I p 0 = 0 ∨ I p 0 = 1) (hp9 : 90 < p) : Ca G mdX11_wakeShip [.ref 0, .ref p, .ref b, .ref s] (mk I L t) (Rv (mk ((f_X11_wakeShip I p b s)) L t)) := by
  refine Ca.intro [some (.ref 0), some (.ref p), some (.ref b), some (.ref s)] (by decide) (Nat.le_of_ble_eq_true rfl) rfl rfl ?_
  refine ex_aload_n dX11_wakeShip_0 rfl ?_
  refine g_11_8 dX11_wakeShip_1 rfl wf_X11_58 (by first | assumption | rfl) (show Rt _ 0 8 = some 24 from rfl) ?_
  refine rx_cV (kd := 5) dX11_wakeShip_4 rfl lk_X11_236 rfl (by decide) (by first | assumption | rfl) ⟨⟨rfl, rfl⟩, by decide, by decide⟩ rfl (Nat.le_of_ble_eq_true rfl) rfl (s_X5_clear (a := 24) rfl) (Rv.k ?_)
  refine ex_aload_n dX11_wakeShip_7 rfl ?_
  refine g_11_8 dX11_wakeShip_8 rfl wf_X11_58 (by first | assumption | rfl) (show Rt _ 0 8 = some 24 from rfl) ?_
  refine ex_aload_n dX11_wakeShip_11 rfl ?_
  refine ex_aload_n dX11_wakeShip_12 rfl ?_
  refine g_1_1 dX11_wakeShip_13 rfl wf_X11_233 (by first | assumption | rfl) ?_
  refine ex_aload_n dX11_wakeShip_16 rfl ?_
  refine g_1_3 dX11_wakeShip_17 rfl wf_X11_239 (by first | assumption | rfl) ?_
  refine rx_cV (kd := 5) dX11_wakeShip_20 rfl lk_X11_242 rfl (by decide) (by first | assumption | rfl) ⟨⟨rfl, rfl⟩, by decide, by decide⟩ rfl (Nat.le_of_ble_eq_true rfl) rfl (s_moorT ⟨0, by decide, u2_s⟩ hp (by rw [clr (by omega)]; exact hz)) (Rv.k ?_)
  refine ex_aload_n dX11_wakeShip_23 rfl ?_
  refine g_11_8 dX11_wakeShip_24 rfl wf_X11_58 (by first | assumption | rfl) (show Rt _ 0 8 = some 24 from rfl) ?_
  refine ex_aload_n dX11_wakeShip_27 rfl ?_
  refine ex_aload_n dX11_wakeShip_28 rfl ?_
  refine rx_cV (kd := 5) dX11_wakeShip_29 rfl lk_X11_381 rfl (by decide) (by first | assumption | rfl) ⟨⟨rfl, rfl⟩, by decide, by decide⟩ rfl (Nat.le_of_ble_eq_true rfl) rfl (s_wakeT (BOk_of (by rw [moorI_off (by have := hb.2.1; omega) (by have := hb.2.1; rw [u2_s]; show b ≠ 37 + 0; omega), clr (by have := hb.2.1; omega)]) hb) (SOk_of (by rw [moorI_off (by have := hs.2.1; omega) (by have := hs.2.1; rw [u2_s]; show s ≠ 37 + 0; omega), clr (by have := hs.2.1; omega)]) hs) ⟨1, by decide, by rw [moorI_m, u2_s]; rfl⟩) (Rv.k ?_)
  refine ex_vret dX11_wakeShip_32 rfl ⟨rfl, Nat.le_refl _⟩ ?_
  exact ⟨rfl, (by simp only [f_X11_wakeShip, if_true, if_false, not_true_eq_false, not_false_eq_true])⟩
end N3
