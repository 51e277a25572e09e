section N4
variable {G : Gp} {I : Im} {L : Nat → Nat → Int64} {t : Nat}
def mrN (J : Im) (s : Nat) (c g : Nat → Int32) (i : Nat) : Im :=
  match i with
  | 0 => J
  | k + 1 => moorI (mrN J s c g k) 24 (mrN J s c g k 24 2).toNatClampNeg s (c k) (g k)
termination_by i
theorem mrN_0 {J : Im} {s : Nat} {c g : Nat → Int32} : mrN J s c g 0 = J := by rw [mrN]
theorem mrN_s {J : Im} {s k : Nat} {c g : Nat → Int32} : mrN J s c g (k + 1) = moorI (mrN J s c g k) 24 (mrN J s c g k 24 2).toNatClampNeg s (c k) (g k) := by rw [mrN]
theorem mrN_m {J : Im} {s m0 : Nat} {c g : Nat → Int32} (h : J 24 2 = nI m0) : ∀ k, m0 + k < 2 ^ 31 → mrN J s c g k 24 2 = nI (m0 + k) := by
  intro k
  induction k with
  | zero => intro _; rw [mrN_0]; exact h
  | succ k ih =>
    intro hk
    rw [mrN_s, moorI_m, ih (by omega), nI_clamp (by omega)]
    rfl
theorem mrN_off {J : Im} {s m0 e : Nat} {c g : Nat → Int32} (h : J 24 2 = nI m0) (he : e < 24 ∨ 84 < e) : ∀ k, m0 + k ≤ 48 → mrN J s c g k e = J e := by
  intro k
  induction k with
  | zero => intro _; rw [mrN_0]
  | succ k ih =>
    intro hk
    rw [mrN_s, moorI_off (by omega) (by rw [mrN_m h k (by omega), nI_clamp (by omega)]; omega), ih (by omega)]
theorem ref_1 {f : Int32} : (f_X11_refuse I f).1 = -3 := by
  unfold f_X11_refuse
  dsimp only
  split <;> rfl
theorem refShip0 {s k z : Int32} (h : (f_X11_refusedShip I s k z).1 = 0) : (f_X11_refusedShip I s k z).2 = I ∧ ¬ b2i (0 ≤ s ∧ s ≤ 2) = 0 ∧ ¬ b2i (0 ≤ k ∧ k ≤ 3) = 0 ∧ ¬ b2i (0 ≤ z ∧ z ≤ 3) = 0 ∧ ¬ I (144 + s.toNatClampNeg) 0 = 0 ∧ ¬ I (124 + 2 * k.toNatClampNeg) 1 = 0 ∧ ¬ I (132 + 3 * z.toNatClampNeg) 2 = 0 := by
  unfold f_X11_refusedShip at h ⊢
  by_cases c0 : b2i (0 ≤ s ∧ s ≤ 2) = 0
  · rw [if_pos c0] at h
    exact absurd (show (-1 : Int32) = 0 from h) (by decide)
  rw [if_neg c0] at h ⊢
  by_cases c1 : b2i (0 ≤ k ∧ k ≤ 3) = 0
  · rw [if_pos c1] at h
    exact absurd (show (-1 : Int32) = 0 from h) (by decide)
  rw [if_neg c1] at h ⊢
  by_cases c2 : b2i (0 ≤ z ∧ z ≤ 3) = 0
  · rw [if_pos c2] at h
    exact absurd (show (-1 : Int32) = 0 from h) (by decide)
  rw [if_neg c2] at h ⊢
  by_cases c3 : I (144 + s.toNatClampNeg) 0 = 0
  · rw [if_pos c3] at h
    exact absurd (show (-4 : Int32) = 0 from h) (by decide)
  rw [if_neg c3] at h ⊢
  by_cases c4 : I (124 + 2 * k.toNatClampNeg) 1 = 0
  · rw [if_pos c4] at h
    exact absurd ((ref_1 (I := I) (f := 1)).symm.trans h) (by decide)
  rw [if_neg c4] at h ⊢
  by_cases c5 : I (132 + 3 * z.toNatClampNeg) 2 = 0
  · rw [if_pos c5] at h
    exact absurd ((ref_1 (I := I) (f := 1)).symm.trans h) (by decide)
  rw [if_neg c5] at h ⊢
  exact ⟨rfl, c0, c1, c2, c3, c4, c5⟩
theorem u2_j {f : Im} {a j j' : Nat} {v : Int32} (h : j' ≠ j) : up2 f a j v a j' = f a j' := u2_n (fun q => h q.2)
theorem u20 : up2 I 24 2 0 24 2 = nI 0 := by
  rw [u2_s]
  rfl
theorem s_pull0 (hm : TOk I) : Ca G mdX5_pullOf [.ref 24, .int 0] (mk I L t) (Rs (.int (pullV I 24 (I 24 2).toNatClampNeg (0 : Int32).toNatClampNeg)) (mk I L t)) := s_pullT (q := 0) hm (by decide)
theorem s_part0 (hm : TOk I) : Ca G mdX5_partedOf [.ref 24, .int 0] (mk I L t) (Rs (.int (partV I 24 (I 24 2).toNatClampNeg (0 : Int32).toNatClampNeg)) (mk I L t)) := s_partT (q := 0) hm (by decide)
theorem wship_t {p b s : Nat} : TOk (f_X11_wakeShip I p b s) := wakeI_t ⟨1, by decide, by rw [moorI_m, u2_s]; rfl⟩
def f_X11_pull (I : Im) (s : Int32) (k : Int32) (z : Int32) : Int32 × Im :=
  let I1 : Im := (f_X11_refusedShip I s k z).2
  if ((f_X11_refusedShip I s k z).1) = 0 then
    if (b2i (0 ≤ (I1 (144 + s.toNatClampNeg) 1) ∧ (I1 (144 + s.toNatClampNeg) 1) < I1 (124 + 2 * k.toNatClampNeg) 2 ∧ (I1 (144 + s.toNatClampNeg) 1) < 16)) = 0 then
      let I4 : Im := (f_X11_refuse I1 2).2
      ((f_X11_refuse I1 2).1, I4)
    else
      let I2 : Im := (f_X11_wakeShip I1 (144 + s.toNatClampNeg) (124 + 2 * k.toNatClampNeg) (132 + 3 * z.toNatClampNeg))
      let I3 : Im := (f_X11_tell I2 (partV I2 24 (I2 24 2).toNatClampNeg (0 : Int32).toNatClampNeg) (pullV I2 24 (I2 24 2).toNatClampNeg (0 : Int32).toNatClampNeg)).2
      ((f_X11_tell I2 (partV I2 24 (I2 24 2).toNatClampNeg (0 : Int32).toNatClampNeg) (pullV I2 24 (I2 24 2).toNatClampNeg (0 : Int32).toNatClampNeg)).1, I3)
  else
    ((f_X11_refusedShip I s k z).1, I1)
set_option maxRecDepth 100000 in
set_option maxHeartbeats 4000000 in
theorem s_X11_pull  {s : Int32} {k : Int32} {z : Int32} (hHar : HarS I) (hSea : SeaS I) (hShp : ShpS I) : Ca G mdX11_pull [.ref 0, .int s, .int k, .int z] (mk I L t) (Rs (.int (f_X11_pull I s k z).1) (mk ((f_X11_pull I s k z).2) L t)) := by
  refine Ca.intro [some (.ref 0), some (.int s), some (.int k), some (.int z), none] (by decide) (Nat.le_of_ble_eq_true rfl) rfl rfl ?_
  refine ex_aload_n dX11_pull_0 rfl ?_
  refine ex_iload_n dX11_pull_1 rfl ?_
  refine ex_iload_n dX11_pull_2 rfl ?_
  refine ex_iload_n dX11_pull_3 rfl ?_
  refine rx_cV (kd := 11) dX11_pull_4 rfl lk_X11_393 rfl (by decide) (by first | assumption | rfl) ⟨⟨rfl, rfl⟩, by decide, by decide⟩ rfl (Nat.le_of_ble_eq_true rfl) rfl s_X11_refusedShip (Rs.k ?_)
  refine st_i4 dX11_pull_7 (by first | exact rfl | exact trivial) ?_
  refine ex_iload dX11_pull_9 rfl ?_
  refine ex_if_eq 17 dX11_pull_11 (by decide) (fun h11 => ?_) (fun h11 => ?_)
  · obtain ⟨hJ, g1, g2, g3, g4, g5, g6⟩ := refShip0 h11
    have qs := (cl_lt (N := 3) (by decide) g1).1
    have vs := (cl_lt (N := 3) (by decide) g1).2
    have ks := ky_shp qs
    have ls := ly_shp (t := t) qs
    have qk := (cl_lt (N := 4) (by decide) g2).1
    have vk := (cl_lt (N := 4) (by decide) g2).2
    have kk := ky_har qk
    have lk := ly_har (t := t) qk
    have qz := (cl_lt (N := 4) (by decide) g3).1
    have vz := (cl_lt (N := 4) (by decide) g3).2
    have kz := ky_sea qz
    have lz := ly_sea (t := t) qz
    have hb0 := BOk_h hHar qk g5
    have hs0 := SOk_s hSea qz
    have hz0 := hShp _ qs
    have hb : BOk (f_X11_refusedShip I s k z).2 (124 + 2 * k.toNatClampNeg) := by rw [hJ]; exact hb0
    have hs : SOk (f_X11_refusedShip I s k z).2 (132 + 3 * z.toNatClampNeg) := by rw [hJ]; exact hs0
    have hz : (f_X11_refusedShip I s k z).2 (144 + s.toNatClampNeg) 0 = 0 ∨ (f_X11_refusedShip I s k z).2 (144 + s.toNatClampNeg) 0 = 1 := by rw [hJ]; exact hz0
    refine ex_aload_n dX11_pull_17 rfl ?_
    refine g_11_2 dX11_pull_18 rfl wf_X11_23 (by first | assumption | rfl) (show Rt _ 0 2 = some 3 from rfl) ?_
    refine ex_iload_n dX11_pull_21 rfl ?_
    refine rx_aald dX11_pull_22 (by first | assumption | rfl) (by decide) rfl (by first | assumption | (unfold vp_in; decide)) (by first | assumption | rfl) ?_
    refine ex_aload_n dX11_pull_23 rfl ?_
    refine g_11_4 dX11_pull_24 rfl wf_X11_35 (by first | assumption | rfl) (show Rt _ 0 4 = some 5 from rfl) ?_
    refine ex_iload_n dX11_pull_27 rfl ?_
    refine rx_aald dX11_pull_28 (by first | assumption | rfl) (by decide) rfl (by first | assumption | (unfold vp_in; decide)) (by first | assumption | rfl) ?_
    refine g_1_1 dX11_pull_29 rfl wf_X11_233 (by first | assumption | rfl) ?_
    refine rx_cV (kd := 0) dX11_pull_32 rfl lk_X11_207 rfl (by decide) (by first | assumption | rfl) ⟨⟨rfl, rfl⟩, by decide, by decide⟩ rfl (Nat.le_of_ble_eq_true rfl) rfl (s_X0_hasCell kk) (Rs.k ?_)
    refine ex_if_ne 44 dX11_pull_35 (by decide) (fun h35 => ?_) (fun h35 => ?_)
    · skip
      refine ex_aload_n dX11_pull_44 rfl ?_
      refine ex_aload_n dX11_pull_45 rfl ?_
      refine g_11_4 dX11_pull_46 rfl wf_X11_35 (by first | assumption | rfl) (show Rt _ 0 4 = some 5 from rfl) ?_
      refine ex_iload_n dX11_pull_49 rfl ?_
      refine rx_aald dX11_pull_50 (by first | assumption | rfl) (by decide) rfl (by first | assumption | (unfold vp_in; decide)) (by first | assumption | rfl) ?_
      refine ex_aload_n dX11_pull_51 rfl ?_
      refine g_11_2 dX11_pull_52 rfl wf_X11_23 (by first | assumption | rfl) (show Rt _ 0 2 = some 3 from rfl) ?_
      refine ex_iload_n dX11_pull_55 rfl ?_
      refine rx_aald dX11_pull_56 (by first | assumption | rfl) (by decide) rfl (by first | assumption | (unfold vp_in; decide)) (by first | assumption | rfl) ?_
      refine ex_aload_n dX11_pull_57 rfl ?_
      refine g_11_3 dX11_pull_58 rfl wf_X11_29 (by first | assumption | rfl) (show Rt _ 0 3 = some 4 from rfl) ?_
      refine ex_iload_n dX11_pull_61 rfl ?_
      refine rx_aald dX11_pull_62 (by first | assumption | rfl) (by decide) rfl (by first | assumption | (unfold vp_in; decide)) (by first | assumption | rfl) ?_
      refine rx_cV (kd := 11) dX11_pull_63 rfl lk_X11_396 rfl (by decide) (by first | assumption | rfl) ⟨⟨rfl, rfl⟩, by decide, by decide⟩ rfl (Nat.le_of_ble_eq_true rfl) rfl (s_X11_wakeShip hb hs ks hz (by omega)) (Rv.k ?_)
      refine ex_aload_n dX11_pull_66 rfl ?_
      refine ex_aload_n dX11_pull_67 rfl ?_
      refine g_11_8 dX11_pull_68 rfl wf_X11_58 (by first | assumption | rfl) (show Rt _ 0 8 = some 24 from rfl) ?_
      refine ex_iconst (v := 0) dX11_pull_71 (by decide) ?_
      refine rx_cV (kd := 5) dX11_pull_72 rfl lk_X11_400 rfl (by decide) (by first | assumption | rfl) ⟨⟨rfl, rfl⟩, by decide, by decide⟩ rfl (Nat.le_of_ble_eq_true rfl) rfl (s_part0 wship_t) (Rs.k ?_)
      refine ex_aload_n dX11_pull_75 rfl ?_
      refine g_11_8 dX11_pull_76 rfl wf_X11_58 (by first | assumption | rfl) (show Rt _ 0 8 = some 24 from rfl) ?_
      refine ex_iconst (v := 0) dX11_pull_79 (by decide) ?_
      refine rx_cV (kd := 5) dX11_pull_80 rfl lk_X11_403 rfl (by decide) (by first | assumption | rfl) ⟨⟨rfl, rfl⟩, by decide, by decide⟩ rfl (Nat.le_of_ble_eq_true rfl) rfl (s_pull0 wship_t) (Rs.k ?_)
      refine rx_cV (kd := 11) dX11_pull_83 rfl lk_X11_143 rfl (by decide) (by first | assumption | rfl) ⟨⟨rfl, rfl⟩, by decide, by decide⟩ rfl (Nat.le_of_ble_eq_true rfl) rfl s_X11_tell (Rs.k ?_)
      refine ex_iret dX11_pull_86 rfl rfl ⟨rfl, Nat.le_refl _⟩ ?_
      exact ⟨(by simp only [f_X11_pull, ↓eq_true h11, ↓eq_false h35, if_true, if_false, not_true_eq_false, not_false_eq_true]), (by simp only [f_X11_pull, ↓eq_true h11, ↓eq_false h35, if_true, if_false, not_true_eq_false, not_false_eq_true])⟩
    · skip
      refine ex_aload_n dX11_pull_38 rfl ?_
      refine ex_iconst (v := 2) dX11_pull_39 (by decide) ?_
      refine rx_cV (kd := 11) dX11_pull_40 rfl lk_X11_129 rfl (by decide) (by first | assumption | rfl) ⟨⟨rfl, rfl⟩, by decide, by decide⟩ rfl (Nat.le_of_ble_eq_true rfl) rfl (s_X11_refuse (by unfold vp_in; decide)) (Rs.k ?_)
      refine ex_iret dX11_pull_43 rfl rfl ⟨rfl, Nat.le_refl _⟩ ?_
      exact ⟨(by simp only [f_X11_pull, ↓eq_true h11, ↓eq_true h35, if_true, if_false, not_true_eq_false, not_false_eq_true]), (by simp only [f_X11_pull, ↓eq_true h11, ↓eq_true h35, if_true, if_false, not_true_eq_false, not_false_eq_true])⟩
  · skip
    refine ex_iload dX11_pull_14 rfl ?_
    refine ex_iret dX11_pull_16 rfl rfl ⟨rfl, Nat.le_refl _⟩ ?_
    exact ⟨(by simp only [f_X11_pull, ↓eq_false h11, if_true, if_false, not_true_eq_false, not_false_eq_true]), (by simp only [f_X11_pull, ↓eq_false h11, if_true, if_false, not_true_eq_false, not_false_eq_true])⟩
def wsN (I : Im) (b i : Nat) : Int32 × Int32 × Im :=
  match i with
  | 0 => (0, -1, I)
  | k + 1 => if (wsN I b k).2.2 (132 + 3 * k) 2 = 0 then wsN I b k else if (wsN I b k).2.1 < (f_X11_quietOf (wsN I b k).2.2 b (132 + 3 * k)).1 then (nI k, (f_X11_quietOf (wsN I b k).2.2 b (132 + 3 * k)).1, (f_X11_quietOf (wsN I b k).2.2 b (132 + 3 * k)).2) else ((wsN I b k).1, (wsN I b k).2.1, (f_X11_quietOf (wsN I b k).2.2 b (132 + 3 * k)).2)
termination_by i
theorem wsN_0 {b : Nat} : wsN I b 0 = (0, -1, I) := by rw [wsN]
theorem wsN_s {b k : Nat} : wsN I b (k + 1) = if (wsN I b k).2.2 (132 + 3 * k) 2 = 0 then wsN I b k else if (wsN I b k).2.1 < (f_X11_quietOf (wsN I b k).2.2 b (132 + 3 * k)).1 then (nI k, (f_X11_quietOf (wsN I b k).2.2 b (132 + 3 * k)).1, (f_X11_quietOf (wsN I b k).2.2 b (132 + 3 * k)).2) else ((wsN I b k).1, (wsN I b k).2.1, (f_X11_quietOf (wsN I b k).2.2 b (132 + 3 * k)).2) := by rw [wsN]
theorem wsN_off {b e : Nat} (h : e < 24 ∨ 84 < e) : ∀ k, (wsN I b k).2.2 e = I e := by
  intro k
  induction k with
  | zero => rw [wsN_0]
  | succ k ih =>
    rw [wsN_s]
    split
    · exact ih
    · split
      · exact (quiet_off h).trans ih
      · exact (quiet_off h).trans ih
set_option maxRecDepth 100000 in
set_option maxHeartbeats 4000000 in
theorem lp_wakes {P : Option Value → Mem → Prop} {x : Int32} (qk : x.toNatClampNeg < 4) (vk : vp_in x 4) (lk : Rt t 3 x.toNatClampNeg = some (124 + 2 * x.toNatClampNeg)) (hb : BOk I (124 + 2 * x.toNatClampNeg)) (hSea : SeaS I) (kont : Ex G mdX11_wakes 97 [some (.ref 0), some (.int x), some (.int (wsN I (124 + 2 * x.toNatClampNeg) 4).1), some (.int (wsN I (124 + 2 * x.toNatClampNeg) 4).2.1), some (.int (nI 4)), none] [] (mk (wsN I (124 + 2 * x.toNatClampNeg) 4).2.2 L t) 0 0 P) : Ex G mdX11_wakes 41 [some (.ref 0), some (.int x), some (.int (wsN I (124 + 2 * x.toNatClampNeg) 0).1), some (.int (wsN I (124 + 2 * x.toNatClampNeg) 0).2.1), some (.int (nI 0)), none] [] (mk (wsN I (124 + 2 * x.toNatClampNeg) 0).2.2 L t) 0 0 P := by
  refine loop_up (G := G) (d := mdX11_wakes) (pc := 41) (st := []) (uc := 0) (us := 0) (P := P) 4 (fun k => mk (wsN I (124 + 2 * x.toNatClampNeg) k).2.2 L t) (fun k => [some (.ref 0), some (.int x), some (.int (wsN I (124 + 2 * x.toNatClampNeg) k).1), some (.int (wsN I (124 + 2 * x.toNatClampNeg) k).2.1), some (.int (nI k)), none]) ?_ ?_ 0 (Nat.zero_le _)
  · intro k hk ih
    refine ex_iload dX11_wakes_41 rfl ?_
    refine ex_iconst (v := 4) dX11_wakes_43 (by decide) ?_
    refine ex_icmp_ge 97 dX11_wakes_44 (by decide) (fun h44 => ?_) (fun h44 => ?_)
    · exact absurd h44 (nI_ge hk (by decide))
    · skip
      refine ex_aload_n dX11_wakes_47 rfl ?_
      refine g_11_3 dX11_wakes_48 rfl wf_X11_29 (by first | assumption | rfl) (show Rt _ 0 3 = some 4 from rfl) ?_
      refine ex_iload dX11_wakes_51 rfl ?_
      refine rx_aald dX11_wakes_53 (by first | assumption | rfl) (by decide) rfl (vp_in_nI hk (by decide)) (by rw [nI_clamp (by omega)]; exact ly_sea hk) ?_
      refine g_8_2 dX11_wakes_54 rfl wf_X11_121 (ky_sea hk) ?_
      refine ex_if_eq 91 dX11_wakes_57 (by decide) (fun h57 => ?_) (fun h57 => ?_)
      · have hw : wsN I (124 + 2 * x.toNatClampNeg) (k + 1) = (wsN I (124 + 2 * x.toNatClampNeg) k) := wsN_s.trans (if_pos h57)
        refine inc4 (v := _ + 1) dX11_wakes_91 (by rfl) (by first | exact rfl | exact trivial) ?_
        refine ex_goto 41 dX11_wakes_94 (by decide) ?_
        refine fg5 ?_
        rw [nI_1]
        rw [hw] at ih
        exact ih
      · skip
        refine ex_aload_n dX11_wakes_60 rfl ?_
        refine ex_aload_n dX11_wakes_61 rfl ?_
        refine g_11_2 dX11_wakes_62 rfl wf_X11_23 (by first | assumption | rfl) (show Rt _ 0 2 = some 3 from rfl) ?_
        refine ex_iload_n dX11_wakes_65 rfl ?_
        refine rx_aald dX11_wakes_66 (by first | assumption | rfl) (by decide) rfl (by first | assumption | (unfold vp_in; decide)) (by first | assumption | rfl) ?_
        refine ex_aload_n dX11_wakes_67 rfl ?_
        refine g_11_3 dX11_wakes_68 rfl wf_X11_29 (by first | assumption | rfl) (show Rt _ 0 3 = some 4 from rfl) ?_
        refine ex_iload dX11_wakes_71 rfl ?_
        refine rx_aald dX11_wakes_73 (by first | assumption | rfl) (by decide) rfl (vp_in_nI hk (by decide)) (by rw [nI_clamp (by omega)]; exact ly_sea hk) ?_
        refine rx_cV (kd := 11) dX11_wakes_74 rfl lk_X11_374 rfl (by decide) (by first | assumption | rfl) ⟨⟨rfl, rfl⟩, by decide, by decide⟩ rfl (Nat.le_of_ble_eq_true rfl) rfl (s_X11_quietOf (BOk_of (wsN_off (by omega) _) hb) (SOk_of (wsN_off (by omega) _) (SOk_s hSea hk))) (Rs.k ?_)
        refine st_i5 dX11_wakes_77 (by first | exact rfl | exact trivial) ?_
        refine ex_iload dX11_wakes_79 rfl ?_
        refine ex_iload_n dX11_wakes_81 rfl ?_
        refine ex_icmp_le 91 dX11_wakes_82 (by decide) (fun h82 => ?_) (fun h82 => ?_)
        · have hw : wsN I (124 + 2 * x.toNatClampNeg) (k + 1) = ((wsN I (124 + 2 * x.toNatClampNeg) k).1, (wsN I (124 + 2 * x.toNatClampNeg) k).2.1, (f_X11_quietOf (wsN I (124 + 2 * x.toNatClampNeg) k).2.2 (124 + 2 * x.toNatClampNeg) (132 + 3 * k)).2) := wsN_s.trans ((if_neg h57).trans (if_neg (Int32.not_lt.mpr h82)))
          refine inc4 (v := _ + 1) dX11_wakes_91 (by rfl) (by first | exact rfl | exact trivial) ?_
          refine ex_goto 41 dX11_wakes_94 (by decide) ?_
          refine fg5 ?_
          rw [nI_1]
          rw [hw] at ih
          exact ih
        · have hw : wsN I (124 + 2 * x.toNatClampNeg) (k + 1) = (nI k, (f_X11_quietOf (wsN I (124 + 2 * x.toNatClampNeg) k).2.2 (124 + 2 * x.toNatClampNeg) (132 + 3 * k)).1, (f_X11_quietOf (wsN I (124 + 2 * x.toNatClampNeg) k).2.2 (124 + 2 * x.toNatClampNeg) (132 + 3 * k)).2) := wsN_s.trans ((if_neg h57).trans (if_pos (Int32.not_le.mp h82)))
          refine ex_iload dX11_wakes_85 rfl ?_
          refine st_i3 dX11_wakes_87 (by first | exact rfl | exact trivial) ?_
          refine ex_iload dX11_wakes_88 rfl ?_
          refine st_i2 dX11_wakes_90 (by first | exact rfl | exact trivial) ?_
          refine inc4 (v := _ + 1) dX11_wakes_91 (by rfl) (by first | exact rfl | exact trivial) ?_
          refine ex_goto 41 dX11_wakes_94 (by decide) ?_
          refine fg5 ?_
          rw [nI_1]
          rw [hw] at ih
          exact ih
  · skip
    refine ex_iload dX11_wakes_41 rfl ?_
    refine ex_iconst (v := 4) dX11_wakes_43 (by decide) ?_
    refine ex_icmp_ge 97 dX11_wakes_44 (by decide) (fun h44 => ?_) (fun h44 => ?_)
    · skip
      exact kont
    · exact absurd (by decide : nI 4 ≤ nI 4) h44
theorem lp_wakes0 {P : Option Value → Mem → Prop} {x : Int32} (qk : x.toNatClampNeg < 4) (vk : vp_in x 4) (lk : Rt t 3 x.toNatClampNeg = some (124 + 2 * x.toNatClampNeg)) (hb : BOk I (124 + 2 * x.toNatClampNeg)) (hSea : SeaS I) (kont : Ex G mdX11_wakes 97 [some (.ref 0), some (.int x), some (.int (wsN I (124 + 2 * x.toNatClampNeg) 4).1), some (.int (wsN I (124 + 2 * x.toNatClampNeg) 4).2.1), some (.int 4), none] [] (mk (wsN I (124 + 2 * x.toNatClampNeg) 4).2.2 L t) 0 0 P) : Ex G mdX11_wakes 41 [some (.ref 0), some (.int x), some (.int 0), some (.int (-1)), some (.int 0), none] [] (mk I L t) 0 0 P := by
  have h := lp_wakes (G := G) (L := L) qk vk lk hb hSea (P := P) kont
  rw [wsN_0] at h
  exact h
def f_X11_wakes (I : Im) (k : Int32) : Int32 × Im :=
  if (b2i (0 ≤ k ∧ k ≤ 3)) = 0 then
    ((-1), I)
  else
    if (I (124 + 2 * k.toNatClampNeg) 1) = 0 then
      let I1 : Im := (f_X11_refuse I 1).2
      ((f_X11_refuse I 1).1, I1)
    else
      if ((f_X11_anySea I)) = 0 then
        let I4 : Im := (f_X11_refuse I 1).2
        ((f_X11_refuse I 1).1, I4)
      else
        let I2 : Im := (wsN I (124 + 2 * k.toNatClampNeg) 4).2.2
        let I3 : Im := (f_X11_tell I2 ((wsN I (124 + 2 * k.toNatClampNeg) 4).2.1) ((wsN I (124 + 2 * k.toNatClampNeg) 4).1)).2
        ((f_X11_tell I2 ((wsN I (124 + 2 * k.toNatClampNeg) 4).2.1) ((wsN I (124 + 2 * k.toNatClampNeg) 4).1)).1, I3)
set_option maxRecDepth 100000 in
set_option maxHeartbeats 4000000 in
theorem s_X11_wakes  {k : Int32} (hHar : HarS I) (hSea : SeaS I) : Ca G mdX11_wakes [.ref 0, .int k] (mk I L t) (Rs (.int (f_X11_wakes I k).1) (mk ((f_X11_wakes I k).2) L t)) := by
  refine Ca.intro [some (.ref 0), some (.int k), none, none, none, none] (by decide) (Nat.le_of_ble_eq_true rfl) rfl rfl ?_
  refine ex_iload_n dX11_wakes_0 rfl ?_
  refine rx_cS dX11_wakes_1 rfl lk_X11_181 ⟨⟨rfl, rfl⟩, by decide, by decide⟩ rfl (Nat.le_of_ble_eq_true rfl) rfl s_X11_isHarbour (Rs.k ?_)
  refine ex_if_ne 9 dX11_wakes_4 (by decide) (fun h4 => ?_) (fun h4 => ?_)
  · have qk := (cl_lt (N := 4) (by decide) h4).1
    have vk := (cl_lt (N := 4) (by decide) h4).2
    have kk := ky_har qk
    have lk := ly_har (t := t) qk
    refine ex_aload_n dX11_wakes_9 rfl ?_
    refine g_11_2 dX11_wakes_10 rfl wf_X11_23 (by first | assumption | rfl) (show Rt _ 0 2 = some 3 from rfl) ?_
    refine ex_iload_n dX11_wakes_13 rfl ?_
    refine rx_aald dX11_wakes_14 (by first | assumption | rfl) (by decide) rfl (by first | assumption | (unfold vp_in; decide)) (by first | assumption | rfl) ?_
    refine g_0_1 dX11_wakes_15 rfl wf_X11_206 (by first | assumption | rfl) ?_
    refine ex_if_eq 28 dX11_wakes_18 (by decide) (fun h18 => ?_) (fun h18 => ?_)
    · skip
      refine ex_aload_n dX11_wakes_28 rfl ?_
      refine ex_iconst (v := 1) dX11_wakes_29 (by decide) ?_
      refine rx_cV (kd := 11) dX11_wakes_30 rfl lk_X11_129 rfl (by decide) (by first | assumption | rfl) ⟨⟨rfl, rfl⟩, by decide, by decide⟩ rfl (Nat.le_of_ble_eq_true rfl) rfl (s_X11_refuse (by unfold vp_in; decide)) (Rs.k ?_)
      refine ex_iret dX11_wakes_33 rfl rfl ⟨rfl, Nat.le_refl _⟩ ?_
      exact ⟨(by simp only [f_X11_wakes, ↓eq_false h4, ↓eq_true h18, if_true, if_false, not_true_eq_false, not_false_eq_true]), (by simp only [f_X11_wakes, ↓eq_false h4, ↓eq_true h18, if_true, if_false, not_true_eq_false, not_false_eq_true])⟩
    · skip
      refine ex_aload_n dX11_wakes_21 rfl ?_
      refine rx_cV (kd := 11) dX11_wakes_22 rfl lk_X11_390 rfl (by decide) (by first | assumption | rfl) ⟨⟨rfl, rfl⟩, by decide, by decide⟩ rfl (Nat.le_of_ble_eq_true rfl) rfl s_X11_anySea (Rs.k ?_)
      refine ex_if_ne 34 dX11_wakes_25 (by decide) (fun h25 => ?_) (fun h25 => ?_)
      · skip
        refine ex_iconst (v := 0) dX11_wakes_34 (by decide) ?_
        refine st_i2 dX11_wakes_35 (by first | exact rfl | exact trivial) ?_
        refine ex_iconst (v := (-1)) dX11_wakes_36 (by decide) ?_
        refine st_i3 dX11_wakes_37 (by first | exact rfl | exact trivial) ?_
        refine ex_iconst (v := 0) dX11_wakes_38 (by decide) ?_
        refine st_i4 dX11_wakes_39 (by first | exact rfl | exact trivial) ?_
        refine (lp_wakes0 qk vk lk (BOk_h hHar qk h18) hSea) ?_
        refine ex_aload_n dX11_wakes_97 rfl ?_
        refine ex_iload_n dX11_wakes_98 rfl ?_
        refine ex_iload_n dX11_wakes_99 rfl ?_
        refine rx_cV (kd := 11) dX11_wakes_100 rfl lk_X11_143 rfl (by decide) (by first | assumption | rfl) ⟨⟨rfl, rfl⟩, by decide, by decide⟩ rfl (Nat.le_of_ble_eq_true rfl) rfl s_X11_tell (Rs.k ?_)
        refine ex_iret dX11_wakes_103 rfl rfl ⟨rfl, Nat.le_refl _⟩ ?_
        exact ⟨(by simp only [f_X11_wakes, ↓eq_false h4, ↓eq_false h18, ↓eq_false h25, if_true, if_false, not_true_eq_false, not_false_eq_true]), (by simp only [f_X11_wakes, ↓eq_false h4, ↓eq_false h18, ↓eq_false h25, if_true, if_false, not_true_eq_false, not_false_eq_true])⟩
      · skip
        refine ex_aload_n dX11_wakes_28 rfl ?_
        refine ex_iconst (v := 1) dX11_wakes_29 (by decide) ?_
        refine rx_cV (kd := 11) dX11_wakes_30 rfl lk_X11_129 rfl (by decide) (by first | assumption | rfl) ⟨⟨rfl, rfl⟩, by decide, by decide⟩ rfl (Nat.le_of_ble_eq_true rfl) rfl (s_X11_refuse (by unfold vp_in; decide)) (Rs.k ?_)
        refine ex_iret dX11_wakes_33 rfl rfl ⟨rfl, Nat.le_refl _⟩ ?_
        exact ⟨(by simp only [f_X11_wakes, ↓eq_false h4, ↓eq_false h18, ↓eq_true h25, if_true, if_false, not_true_eq_false, not_false_eq_true]), (by simp only [f_X11_wakes, ↓eq_false h4, ↓eq_false h18, ↓eq_true h25, if_true, if_false, not_true_eq_false, not_false_eq_true])⟩
  · skip
    refine ex_iconst (v := (-1)) dX11_wakes_7 (by decide) ?_
    refine ex_iret dX11_wakes_8 rfl rfl ⟨rfl, Nat.le_refl _⟩ ?_
    exact ⟨(by simp only [f_X11_wakes, ↓eq_true h4, if_true, if_false, not_true_eq_false, not_false_eq_true]), (by simp only [f_X11_wakes, ↓eq_true h4, if_true, if_false, not_true_eq_false, not_false_eq_true])⟩
set_option maxRecDepth 100000 in
set_option maxHeartbeats 4000000 in
theorem s_X11_moorEverywhere {s n m0 : Nat} (hs : K0 s = (1, 10)) (hs9 : 90 < s) (hz : I s 0 = 0 ∨ I s 0 = 1) (hm : I 24 2 = nI m0) (hn : n ≤ 16) (hn2 : m0 + n ≤ 48) : Ca G mdX11_moorEverywhere [.ref 0, .ref s, .int (nI n)] (mk I L t) (Rv (mk (mrN I s nI (fun _ => I s 3) n) L t)) := by
  refine Ca.intro [some (.ref 0), some (.ref s), some (.int (nI n)), none] (by decide) (Nat.le_of_ble_eq_true rfl) rfl rfl ?_
  refine ex_iconst (v := 0) dX11_moorEverywhere_0 (by decide) ?_
  refine st_i3 dX11_moorEverywhere_1 (by first | exact rfl | exact trivial) ?_
  have key := loop_up (G := G) (d := mdX11_moorEverywhere) (pc := 2) (st := []) (uc := 0) (us := 0) (P := Rv (mk (mrN I s nI (fun _ => I s 3) n) L t)) n (fun k => mk (mrN I s nI (fun _ => I s 3) k) L t) (fun k => [some (.ref 0), some (.ref s), some (.int (nI n)), some (.int (nI k))]) ?_ ?_ 0 (Nat.zero_le _)
  · rw [mrN_0] at key
    exact key
  · intro k hk ih
    refine ex_iload_n dX11_moorEverywhere_2 rfl ?_
    refine ex_iload_n dX11_moorEverywhere_3 rfl ?_
    refine ex_icmp_ge 32 dX11_moorEverywhere_4 (by decide) (fun h4 => ?_) (fun h4 => ?_)
    · exact absurd h4 (nI_ge hk (by omega))
    · skip
      refine ex_iload_n dX11_moorEverywhere_7 rfl ?_
      refine ex_bipush (v := 16) dX11_moorEverywhere_8 (by decide) ?_
      refine ex_icmp_ge 32 dX11_moorEverywhere_10 (by decide) (fun h10 => ?_) (fun h10 => ?_)
      · exact absurd h10 (nI_ge (b := 16) (by omega) (by decide))
      · skip
        refine ex_aload_n dX11_moorEverywhere_13 rfl ?_
        refine g_11_8 dX11_moorEverywhere_14 rfl wf_X11_58 (by first | assumption | rfl) (show Rt _ 0 8 = some 24 from rfl) ?_
        refine ex_aload_n dX11_moorEverywhere_17 rfl ?_
        refine ex_iload_n dX11_moorEverywhere_18 rfl ?_
        refine ex_aload_n dX11_moorEverywhere_19 rfl ?_
        refine g_1_3 dX11_moorEverywhere_20 rfl wf_X11_239 (by first | assumption | rfl) ?_
        rw [mrN_off hm (by omega) k (by omega)]
        refine rx_cV (kd := 5) dX11_moorEverywhere_23 rfl lk_X11_242 rfl (by decide) (by first | assumption | rfl) ⟨⟨rfl, rfl⟩, by decide, by decide⟩ rfl (Nat.le_of_ble_eq_true rfl) rfl (s_moorT ⟨m0 + k, by omega, mrN_m hm k (by omega)⟩ hs (by rw [mrN_off hm (by omega) k (by omega)]; exact hz)) (Rv.k ?_)
        refine inc3 (v := _ + 1) dX11_moorEverywhere_26 (by rfl) (by first | exact rfl | exact trivial) ?_
        refine ex_goto 2 dX11_moorEverywhere_29 (by decide) ?_
        rw [nI_1]
        rw [mrN_s] at ih
        exact ih
  · skip
    refine ex_iload_n dX11_moorEverywhere_2 rfl ?_
    refine ex_iload_n dX11_moorEverywhere_3 rfl ?_
    refine ex_icmp_ge 32 dX11_moorEverywhere_4 (by decide) (fun h4 => ?_) (fun h4 => ?_)
    · skip
      refine ex_vret dX11_moorEverywhere_32 rfl ⟨rfl, Nat.le_refl _⟩ ?_
      exact ⟨rfl, rfl⟩
    · exact absurd (Int32.le_refl _) h4
theorem s_mooring {s m0 : Nat} {x : Int32} (hs : K0 s = (1, 10)) (hs9 : 90 < s) (hz : I s 0 = 0 ∨ I s 0 = 1) (hm : I 24 2 = nI m0) (hx : ∃ n, n ≤ 16 ∧ m0 + n ≤ 48 ∧ x = nI n) : Ca G mdX11_moorEverywhere [.ref 0, .ref s, .int x] (mk I L t) (Rv (mk (mrN I s nI (fun _ => I s 3) x.toNatClampNeg) L t)) := by
  obtain ⟨n, hn, hn2, rfl⟩ := hx
  rw [nI_clamp (by omega)]
  exact s_X11_moorEverywhere hs hs9 hz hm hn hn2
theorem mr_t {J : Im} {s m0 k : Nat} {c g : Nat → Int32} (h : J 24 2 = nI m0) (hk : m0 + k ≤ 48) : TOk (mrN J s c g k) := ⟨m0 + k, hk, mrN_m h k (by omega)⟩
theorem mr_w {J : Im} {s m0 k b z : Nat} {c g : Nat → Int32} (h : J 24 2 = nI m0) (hk : m0 + k ≤ 48) (h1 : 1 ≤ m0 + k) : 1 ≤ (wakeI (mrN J s c g k) b z 24 2).toNatClampNeg := by
  rw [wakeI_m (mr_t h hk), mrN_m h k (by omega), nI_clamp (by omega)]
  exact h1
theorem mr_q {J : Im} {s m0 k b z : Nat} {c g : Nat → Int32} {r : Nat → Int32} (h : J 24 2 = nI m0) (hk : m0 + k ≤ 48) : calmN r ((wakeI (mrN J s c g k) b z 24 2).toNatClampNeg - 1) < 2 ^ 31 := by
  rw [wakeI_m (mr_t h hk), mrN_m h k (by omega), nI_clamp (by omega)]
  have := calmN_le r (m0 + k - 1)
  omega
set_option maxRecDepth 100000 in
set_option maxHeartbeats 4000000 in
theorem lp_tight {P : Option Value → Mem → Prop} {J : Im} {s x z : Int32} {v4 : Int32} (vs : vp_in s 3) (ks : K0 (144 + s.toNatClampNeg) = (1, 10)) (ls : Rt t 5 s.toNatClampNeg = some (144 + s.toNatClampNeg)) (h24 : J 24 2 = nI 0) (hz : J (144 + s.toNatClampNeg) 0 = 0 ∨ J (144 + s.toNatClampNeg) 0 = 1) (kont : Ex G mdX11_tight 91 [some (.ref 0), some (.int s), some (.int x), some (.int z), some (.int v4), some (.int (nI (9 + 1)))] [] (mk (mrN J (144 + s.toNatClampNeg) (fun _ => J (144 + s.toNatClampNeg) 1) (fun i => nI (i + 1)) 9) L t) 0 0 P) : Ex G mdX11_tight 54 [some (.ref 0), some (.int s), some (.int x), some (.int z), some (.int v4), some (.int (nI (0 + 1)))] [] (mk (mrN J (144 + s.toNatClampNeg) (fun _ => J (144 + s.toNatClampNeg) 1) (fun i => nI (i + 1)) 0) L t) 0 0 P := by
  refine loop_up (G := G) (d := mdX11_tight) (pc := 54) (st := []) (uc := 0) (us := 0) (P := P) 9 (fun k => mk (mrN J (144 + s.toNatClampNeg) (fun _ => J (144 + s.toNatClampNeg) 1) (fun i => nI (i + 1)) k) L t) (fun k => [some (.ref 0), some (.int s), some (.int x), some (.int z), some (.int v4), some (.int (nI (k + 1)))]) ?_ ?_ 0 (Nat.zero_le _)
  · intro k hk ih
    refine ex_iload dX11_tight_54 rfl ?_
    refine ex_bipush (v := 9) dX11_tight_56 (by decide) ?_
    refine ex_icmp_gt 91 dX11_tight_58 (by decide) (fun h58 => ?_) (fun h58 => ?_)
    · exact absurd h58 (nI_nlt (a := 9) (by omega) (by decide))
    · skip
      refine ex_aload_n dX11_tight_61 rfl ?_
      refine g_11_8 dX11_tight_62 rfl wf_X11_58 (by first | assumption | rfl) (show Rt _ 0 8 = some 24 from rfl) ?_
      refine ex_aload_n dX11_tight_65 rfl ?_
      refine g_11_4 dX11_tight_66 rfl wf_X11_35 (by first | assumption | rfl) (show Rt _ 0 4 = some 5 from rfl) ?_
      refine ex_iload_n dX11_tight_69 rfl ?_
      refine rx_aald dX11_tight_70 (by first | assumption | rfl) (by decide) rfl (by first | assumption | (unfold vp_in; decide)) (by first | assumption | rfl) ?_
      refine ex_aload_n dX11_tight_71 rfl ?_
      refine g_11_4 dX11_tight_72 rfl wf_X11_35 (by first | assumption | rfl) (show Rt _ 0 4 = some 5 from rfl) ?_
      refine ex_iload_n dX11_tight_75 rfl ?_
      refine rx_aald dX11_tight_76 (by first | assumption | rfl) (by decide) rfl (by first | assumption | (unfold vp_in; decide)) (by first | assumption | rfl) ?_
      refine g_1_1 dX11_tight_77 rfl wf_X11_233 (by first | assumption | rfl) ?_
      rw [mrN_off h24 (by omega) k (by omega)]
      refine ex_iload dX11_tight_80 rfl ?_
      refine rx_cV (kd := 5) dX11_tight_82 rfl lk_X11_242 rfl (by decide) (by first | assumption | rfl) ⟨⟨rfl, rfl⟩, by decide, by decide⟩ rfl (Nat.le_of_ble_eq_true rfl) rfl (s_moorT ⟨0 + k, by omega, mrN_m h24 k (by omega)⟩ ks (by rw [mrN_off h24 (by omega) k (by omega)]; exact hz)) (Rv.k ?_)
      refine inc5 (v := _ + 1) dX11_tight_85 (by rfl) (by first | exact rfl | exact trivial) ?_
      refine ex_goto 54 dX11_tight_88 (by decide) ?_
      rw [nI_1]
      rw [mrN_s] at ih
      exact ih
  · skip
    refine ex_iload dX11_tight_54 rfl ?_
    refine ex_bipush (v := 9) dX11_tight_56 (by decide) ?_
    refine ex_icmp_gt 91 dX11_tight_58 (by decide) (fun h58 => ?_) (fun h58 => ?_)
    · skip
      exact kont
    · exact absurd h58 (by decide)
theorem lp_tight0 {P : Option Value → Mem → Prop} {J : Im} {s x z : Int32} {v4 : Int32} (vs : vp_in s 3) (ks : K0 (144 + s.toNatClampNeg) = (1, 10)) (ls : Rt t 5 s.toNatClampNeg = some (144 + s.toNatClampNeg)) (h24 : J 24 2 = nI 0) (hz : J (144 + s.toNatClampNeg) 0 = 0 ∨ J (144 + s.toNatClampNeg) 0 = 1) (kont : Ex G mdX11_tight 91 [some (.ref 0), some (.int s), some (.int x), some (.int z), some (.int v4), some (.int (nI (9 + 1)))] [] (mk (mrN J (144 + s.toNatClampNeg) (fun _ => J (144 + s.toNatClampNeg) 1) (fun i => nI (i + 1)) 9) L t) 0 0 P) : Ex G mdX11_tight 54 [some (.ref 0), some (.int s), some (.int x), some (.int z), some (.int v4), some (.int 1)] [] (mk J L t) 0 0 P := by
  have h := lp_tight (G := G) (L := L) vs ks ls h24 hz (P := P) kont
  rw [mrN_0] at h
  exact h
def f_X11_tight (I : Im) (s : Int32) (k : Int32) (z : Int32) : Int32 × Im :=
  let I1 : Im := (f_X11_refusedShip I s k z).2
  if ((f_X11_refusedShip I s k z).1) = 0 then
    if (b2i (0 ≤ (I1 (144 + s.toNatClampNeg) 1) ∧ (I1 (144 + s.toNatClampNeg) 1) < I1 (124 + 2 * k.toNatClampNeg) 2 ∧ (I1 (144 + s.toNatClampNeg) 1) < 16)) = 0 then
      let I6 : Im := (f_X11_refuse I1 2).2
      ((f_X11_refuse I1 2).1, I6)
    else
      let I2 : Im := up2 I1 24 2 0
      let I3 : Im := mrN I2 (144 + s.toNatClampNeg) (fun _ => I2 (144 + s.toNatClampNeg) 1) (fun i => nI (i + 1)) 9
      let I4 : Im := wakeI I3 (124 + 2 * k.toNatClampNeg) (132 + 3 * z.toNatClampNeg)
      let I5 : Im := (f_X11_tell I4 (pullV I4 24 (I4 24 2).toNatClampNeg ((nI (calmN (pullV I4 24 (I4 24 2).toNatClampNeg) ((I4 24 2).toNatClampNeg - 1))) : Int32).toNatClampNeg) ((nI (calmN (pullV I4 24 (I4 24 2).toNatClampNeg) ((I4 24 2).toNatClampNeg - 1))) + 1)).2
      ((f_X11_tell I4 (pullV I4 24 (I4 24 2).toNatClampNeg ((nI (calmN (pullV I4 24 (I4 24 2).toNatClampNeg) ((I4 24 2).toNatClampNeg - 1))) : Int32).toNatClampNeg) ((nI (calmN (pullV I4 24 (I4 24 2).toNatClampNeg) ((I4 24 2).toNatClampNeg - 1))) + 1)).1, I5)
  else
    ((f_X11_refusedShip I s k z).1, I1)
set_option maxRecDepth 100000 in
set_option maxHeartbeats 4000000 in
theorem s_X11_tight  {s : Int32} {k : Int32} {z : Int32} (hHar : HarS I) (hSea : SeaS I) (hShp : ShpS I) : Ca G mdX11_tight [.ref 0, .int s, .int k, .int z] (mk I L t) (Rs (.int (f_X11_tight I s k z).1) (mk ((f_X11_tight I s k z).2) L t)) := by
  refine Ca.intro [some (.ref 0), some (.int s), some (.int k), some (.int z), none, none] (by decide) (Nat.le_of_ble_eq_true rfl) rfl rfl ?_
  refine ex_aload_n dX11_tight_0 rfl ?_
  refine ex_iload_n dX11_tight_1 rfl ?_
  refine ex_iload_n dX11_tight_2 rfl ?_
  refine ex_iload_n dX11_tight_3 rfl ?_
  refine rx_cV (kd := 11) dX11_tight_4 rfl lk_X11_393 rfl (by decide) (by first | assumption | rfl) ⟨⟨rfl, rfl⟩, by decide, by decide⟩ rfl (Nat.le_of_ble_eq_true rfl) rfl s_X11_refusedShip (Rs.k ?_)
  refine st_i4 dX11_tight_7 (by first | exact rfl | exact trivial) ?_
  refine ex_iload dX11_tight_9 rfl ?_
  refine ex_if_eq 17 dX11_tight_11 (by decide) (fun h11 => ?_) (fun h11 => ?_)
  · obtain ⟨hJ, g1, g2, g3, g4, g5, g6⟩ := refShip0 h11
    have qs := (cl_lt (N := 3) (by decide) g1).1
    have vs := (cl_lt (N := 3) (by decide) g1).2
    have ks := ky_shp qs
    have ls := ly_shp (t := t) qs
    have qk := (cl_lt (N := 4) (by decide) g2).1
    have vk := (cl_lt (N := 4) (by decide) g2).2
    have kk := ky_har qk
    have lk := ly_har (t := t) qk
    have qz := (cl_lt (N := 4) (by decide) g3).1
    have vz := (cl_lt (N := 4) (by decide) g3).2
    have kz := ky_sea qz
    have lz := ly_sea (t := t) qz
    have hb0 := BOk_h hHar qk g5
    have hs0 := SOk_s hSea qz
    have hz0 := hShp _ qs
    have hb : BOk (f_X11_refusedShip I s k z).2 (124 + 2 * k.toNatClampNeg) := by rw [hJ]; exact hb0
    have hs : SOk (f_X11_refusedShip I s k z).2 (132 + 3 * z.toNatClampNeg) := by rw [hJ]; exact hs0
    have hz : (f_X11_refusedShip I s k z).2 (144 + s.toNatClampNeg) 0 = 0 ∨ (f_X11_refusedShip I s k z).2 (144 + s.toNatClampNeg) 0 = 1 := by rw [hJ]; exact hz0
    refine ex_aload_n dX11_tight_17 rfl ?_
    refine g_11_2 dX11_tight_18 rfl wf_X11_23 (by first | assumption | rfl) (show Rt _ 0 2 = some 3 from rfl) ?_
    refine ex_iload_n dX11_tight_21 rfl ?_
    refine rx_aald dX11_tight_22 (by first | assumption | rfl) (by decide) rfl (by first | assumption | (unfold vp_in; decide)) (by first | assumption | rfl) ?_
    refine ex_aload_n dX11_tight_23 rfl ?_
    refine g_11_4 dX11_tight_24 rfl wf_X11_35 (by first | assumption | rfl) (show Rt _ 0 4 = some 5 from rfl) ?_
    refine ex_iload_n dX11_tight_27 rfl ?_
    refine rx_aald dX11_tight_28 (by first | assumption | rfl) (by decide) rfl (by first | assumption | (unfold vp_in; decide)) (by first | assumption | rfl) ?_
    refine g_1_1 dX11_tight_29 rfl wf_X11_233 (by first | assumption | rfl) ?_
    refine rx_cV (kd := 0) dX11_tight_32 rfl lk_X11_207 rfl (by decide) (by first | assumption | rfl) ⟨⟨rfl, rfl⟩, by decide, by decide⟩ rfl (Nat.le_of_ble_eq_true rfl) rfl (s_X0_hasCell kk) (Rs.k ?_)
    refine ex_if_ne 44 dX11_tight_35 (by decide) (fun h35 => ?_) (fun h35 => ?_)
    · skip
      refine ex_aload_n dX11_tight_44 rfl ?_
      refine g_11_8 dX11_tight_45 rfl wf_X11_58 (by first | assumption | rfl) (show Rt _ 0 8 = some 24 from rfl) ?_
      refine rx_cV (kd := 5) dX11_tight_48 rfl lk_X11_236 rfl (by decide) (by first | assumption | rfl) ⟨⟨rfl, rfl⟩, by decide, by decide⟩ rfl (Nat.le_of_ble_eq_true rfl) rfl (s_X5_clear (a := 24) rfl) (Rv.k ?_)
      refine ex_iconst (v := 1) dX11_tight_51 (by decide) ?_
      refine st_i5 dX11_tight_52 (by first | exact rfl | exact trivial) ?_
      refine (lp_tight0 vs ks ls u20 (by rw [clr (by omega)]; exact hz)) ?_
      refine ex_aload_n dX11_tight_91 rfl ?_
      refine g_11_8 dX11_tight_92 rfl wf_X11_58 (by first | assumption | rfl) (show Rt _ 0 8 = some 24 from rfl) ?_
      refine ex_aload_n dX11_tight_95 rfl ?_
      refine g_11_2 dX11_tight_96 rfl wf_X11_23 (by first | assumption | rfl) (show Rt _ 0 2 = some 3 from rfl) ?_
      refine ex_iload_n dX11_tight_99 rfl ?_
      refine rx_aald dX11_tight_100 (by first | assumption | rfl) (by decide) rfl (by first | assumption | (unfold vp_in; decide)) (by first | assumption | rfl) ?_
      refine ex_aload_n dX11_tight_101 rfl ?_
      refine g_11_3 dX11_tight_102 rfl wf_X11_29 (by first | assumption | rfl) (show Rt _ 0 3 = some 4 from rfl) ?_
      refine ex_iload_n dX11_tight_105 rfl ?_
      refine rx_aald dX11_tight_106 (by first | assumption | rfl) (by decide) rfl (by first | assumption | (unfold vp_in; decide)) (by first | assumption | rfl) ?_
      refine rx_cV (kd := 5) dX11_tight_107 rfl lk_X11_381 rfl (by decide) (by first | assumption | rfl) ⟨⟨rfl, rfl⟩, by decide, by decide⟩ rfl (Nat.le_of_ble_eq_true rfl) rfl (s_wakeT (BOk_of (by rw [mrN_off (m0 := 0) u20 (by omega) 9 (by decide), clr (by omega)]) hb) (SOk_of (by rw [mrN_off (m0 := 0) u20 (by omega) 9 (by decide), clr (by omega)]) hs) (mr_t (m0 := 0) u20 (by decide))) (Rv.k ?_)
      refine ex_aload_n dX11_tight_110 rfl ?_
      refine g_11_8 dX11_tight_111 rfl wf_X11_58 (by first | assumption | rfl) (show Rt _ 0 8 = some 24 from rfl) ?_
      refine rx_cV (kd := 5) dX11_tight_114 rfl lk_X11_406 rfl (by decide) (by first | assumption | rfl) ⟨⟨rfl, rfl⟩, by decide, by decide⟩ rfl (Nat.le_of_ble_eq_true rfl) rfl (s_leastT (wakeI_t (mr_t (m0 := 0) u20 (by decide))) (mr_w (m0 := 0) u20 (by decide) (by decide))) (Rs.k ?_)
      refine st_i5 dX11_tight_117 (by first | exact rfl | exact trivial) ?_
      refine ex_aload_n dX11_tight_119 rfl ?_
      refine ex_aload_n dX11_tight_120 rfl ?_
      refine g_11_8 dX11_tight_121 rfl wf_X11_58 (by first | assumption | rfl) (show Rt _ 0 8 = some 24 from rfl) ?_
      refine ex_iload dX11_tight_124 rfl ?_
      refine rx_cV (kd := 5) dX11_tight_126 rfl lk_X11_403 rfl (by decide) (by first | assumption | rfl) ⟨⟨rfl, rfl⟩, by decide, by decide⟩ rfl (Nat.le_of_ble_eq_true rfl) rfl (s_pullT (wakeI_t (mr_t (m0 := 0) u20 (by decide))) (mr_q (m0 := 0) u20 (by decide))) (Rs.k ?_)
      refine ex_iload dX11_tight_129 rfl ?_
      refine ex_iconst (v := 1) dX11_tight_131 (by decide) ?_
      refine ex_iadd dX11_tight_132 ?_
      refine rx_cV (kd := 11) dX11_tight_133 rfl lk_X11_143 rfl (by decide) (by first | assumption | rfl) ⟨⟨rfl, rfl⟩, by decide, by decide⟩ rfl (Nat.le_of_ble_eq_true rfl) rfl s_X11_tell (Rs.k ?_)
      refine ex_iret dX11_tight_136 rfl rfl ⟨rfl, Nat.le_refl _⟩ ?_
      exact ⟨(by simp only [f_X11_tight, ↓eq_true h11, ↓eq_false h35, if_true, if_false, not_true_eq_false, not_false_eq_true]), (by simp only [f_X11_tight, ↓eq_true h11, ↓eq_false h35, if_true, if_false, not_true_eq_false, not_false_eq_true])⟩
    · skip
      refine ex_aload_n dX11_tight_38 rfl ?_
      refine ex_iconst (v := 2) dX11_tight_39 (by decide) ?_
      refine rx_cV (kd := 11) dX11_tight_40 rfl lk_X11_129 rfl (by decide) (by first | assumption | rfl) ⟨⟨rfl, rfl⟩, by decide, by decide⟩ rfl (Nat.le_of_ble_eq_true rfl) rfl (s_X11_refuse (by unfold vp_in; decide)) (Rs.k ?_)
      refine ex_iret dX11_tight_43 rfl rfl ⟨rfl, Nat.le_refl _⟩ ?_
      exact ⟨(by simp only [f_X11_tight, ↓eq_true h11, ↓eq_true h35, if_true, if_false, not_true_eq_false, not_false_eq_true]), (by simp only [f_X11_tight, ↓eq_true h11, ↓eq_true h35, if_true, if_false, not_true_eq_false, not_false_eq_true])⟩
  · skip
    refine ex_iload dX11_tight_14 rfl ?_
    refine ex_iret dX11_tight_16 rfl rfl ⟨rfl, Nat.le_refl _⟩ ?_
    exact ⟨(by simp only [f_X11_tight, ↓eq_false h11, if_true, if_false, not_true_eq_false, not_false_eq_true]), (by simp only [f_X11_tight, ↓eq_false h11, if_true, if_false, not_true_eq_false, not_false_eq_true])⟩
def f_X11_where (I : Im) (s : Int32) (k : Int32) (z : Int32) : Int32 × Im :=
  let I1 : Im := (f_X11_refusedShip I s k z).2
  if ((f_X11_refusedShip I s k z).1) = 0 then
    let I2 : Im := up2 I1 24 2 0
    let I3 : Im := mrN I2 (144 + s.toNatClampNeg) nI (fun _ => I2 (144 + s.toNatClampNeg) 3) (I2 (124 + 2 * k.toNatClampNeg) 2).toNatClampNeg
    let I4 : Im := wakeI I3 (124 + 2 * k.toNatClampNeg) (132 + 3 * z.toNatClampNeg)
    let I5 : Im := (f_X11_tell I4 (pullV I4 24 (I4 24 2).toNatClampNeg ((nI (calmN (pullV I4 24 (I4 24 2).toNatClampNeg) ((I4 24 2).toNatClampNeg - 1))) : Int32).toNatClampNeg) (nI (calmN (pullV I4 24 (I4 24 2).toNatClampNeg) ((I4 24 2).toNatClampNeg - 1)))).2
    ((f_X11_tell I4 (pullV I4 24 (I4 24 2).toNatClampNeg ((nI (calmN (pullV I4 24 (I4 24 2).toNatClampNeg) ((I4 24 2).toNatClampNeg - 1))) : Int32).toNatClampNeg) (nI (calmN (pullV I4 24 (I4 24 2).toNatClampNeg) ((I4 24 2).toNatClampNeg - 1)))).1, I5)
  else
    ((f_X11_refusedShip I s k z).1, I1)
set_option maxRecDepth 100000 in
set_option maxHeartbeats 4000000 in
theorem s_X11_where  {s : Int32} {k : Int32} {z : Int32} (hHar : HarS I) (hSea : SeaS I) (hShp : ShpS I) : Ca G mdX11_where [.ref 0, .int s, .int k, .int z] (mk I L t) (Rs (.int (f_X11_where I s k z).1) (mk ((f_X11_where I s k z).2) L t)) := by
  refine Ca.intro [some (.ref 0), some (.int s), some (.int k), some (.int z), none, none] (by decide) (Nat.le_of_ble_eq_true rfl) rfl rfl ?_
  refine ex_aload_n dX11_where_0 rfl ?_
  refine ex_iload_n dX11_where_1 rfl ?_
  refine ex_iload_n dX11_where_2 rfl ?_
  refine ex_iload_n dX11_where_3 rfl ?_
  refine rx_cV (kd := 11) dX11_where_4 rfl lk_X11_393 rfl (by decide) (by first | assumption | rfl) ⟨⟨rfl, rfl⟩, by decide, by decide⟩ rfl (Nat.le_of_ble_eq_true rfl) rfl s_X11_refusedShip (Rs.k ?_)
  refine st_i4 dX11_where_7 (by first | exact rfl | exact trivial) ?_
  refine ex_iload dX11_where_9 rfl ?_
  refine ex_if_eq 17 dX11_where_11 (by decide) (fun h11 => ?_) (fun h11 => ?_)
  · obtain ⟨hJ, g1, g2, g3, g4, g5, g6⟩ := refShip0 h11
    have qs := (cl_lt (N := 3) (by decide) g1).1
    have vs := (cl_lt (N := 3) (by decide) g1).2
    have ks := ky_shp qs
    have ls := ly_shp (t := t) qs
    have qk := (cl_lt (N := 4) (by decide) g2).1
    have vk := (cl_lt (N := 4) (by decide) g2).2
    have kk := ky_har qk
    have lk := ly_har (t := t) qk
    have qz := (cl_lt (N := 4) (by decide) g3).1
    have vz := (cl_lt (N := 4) (by decide) g3).2
    have kz := ky_sea qz
    have lz := ly_sea (t := t) qz
    have hb0 := BOk_h hHar qk g5
    have hs0 := SOk_s hSea qz
    have hz0 := hShp _ qs
    have hb : BOk (f_X11_refusedShip I s k z).2 (124 + 2 * k.toNatClampNeg) := by rw [hJ]; exact hb0
    have hs : SOk (f_X11_refusedShip I s k z).2 (132 + 3 * z.toNatClampNeg) := by rw [hJ]; exact hs0
    have hz : (f_X11_refusedShip I s k z).2 (144 + s.toNatClampNeg) 0 = 0 ∨ (f_X11_refusedShip I s k z).2 (144 + s.toNatClampNeg) 0 = 1 := by rw [hJ]; exact hz0
    obtain ⟨n, h3n, hn16, en⟩ := hb.2.2.2
    have en1 : (up2 (f_X11_refusedShip I s k z).2 24 2 0 (124 + 2 * k.toNatClampNeg) 2) = nI n := by rw [clr (by omega)]; exact en
    have en2 : (up2 (f_X11_refusedShip I s k z).2 24 2 0 (124 + 2 * k.toNatClampNeg) 2).toNatClampNeg = n := by rw [en1, nI_clamp (by omega)]
    refine ex_aload_n dX11_where_17 rfl ?_
    refine g_11_8 dX11_where_18 rfl wf_X11_58 (by first | assumption | rfl) (show Rt _ 0 8 = some 24 from rfl) ?_
    refine rx_cV (kd := 5) dX11_where_21 rfl lk_X11_236 rfl (by decide) (by first | assumption | rfl) ⟨⟨rfl, rfl⟩, by decide, by decide⟩ rfl (Nat.le_of_ble_eq_true rfl) rfl (s_X5_clear (a := 24) rfl) (Rv.k ?_)
    refine ex_aload_n dX11_where_24 rfl ?_
    refine ex_aload_n dX11_where_25 rfl ?_
    refine g_11_4 dX11_where_26 rfl wf_X11_35 (by first | assumption | rfl) (show Rt _ 0 4 = some 5 from rfl) ?_
    refine ex_iload_n dX11_where_29 rfl ?_
    refine rx_aald dX11_where_30 (by first | assumption | rfl) (by decide) rfl (by first | assumption | (unfold vp_in; decide)) (by first | assumption | rfl) ?_
    refine ex_aload_n dX11_where_31 rfl ?_
    refine g_11_2 dX11_where_32 rfl wf_X11_23 (by first | assumption | rfl) (show Rt _ 0 2 = some 3 from rfl) ?_
    refine ex_iload_n dX11_where_35 rfl ?_
    refine rx_aald dX11_where_36 (by first | assumption | rfl) (by decide) rfl (by first | assumption | (unfold vp_in; decide)) (by first | assumption | rfl) ?_
    refine g_0_2 dX11_where_37 rfl wf_X11_191 (by first | assumption | rfl) ?_
    refine rx_cV (kd := 11) dX11_where_40 rfl lk_X11_409 rfl (by decide) (by first | assumption | rfl) ⟨⟨rfl, rfl⟩, by decide, by decide⟩ rfl (Nat.le_of_ble_eq_true rfl) rfl (s_mooring (m0 := 0) ks (by omega) (by rw [clr (by omega)]; exact hz) u20 ⟨n, hn16, by omega, en1⟩) (Rv.k ?_)
    refine ex_aload_n dX11_where_43 rfl ?_
    refine g_11_8 dX11_where_44 rfl wf_X11_58 (by first | assumption | rfl) (show Rt _ 0 8 = some 24 from rfl) ?_
    refine ex_aload_n dX11_where_47 rfl ?_
    refine g_11_2 dX11_where_48 rfl wf_X11_23 (by first | assumption | rfl) (show Rt _ 0 2 = some 3 from rfl) ?_
    refine ex_iload_n dX11_where_51 rfl ?_
    refine rx_aald dX11_where_52 (by first | assumption | rfl) (by decide) rfl (by first | assumption | (unfold vp_in; decide)) (by first | assumption | rfl) ?_
    refine ex_aload_n dX11_where_53 rfl ?_
    refine g_11_3 dX11_where_54 rfl wf_X11_29 (by first | assumption | rfl) (show Rt _ 0 3 = some 4 from rfl) ?_
    refine ex_iload_n dX11_where_57 rfl ?_
    refine rx_aald dX11_where_58 (by first | assumption | rfl) (by decide) rfl (by first | assumption | (unfold vp_in; decide)) (by first | assumption | rfl) ?_
    refine rx_cV (kd := 5) dX11_where_59 rfl lk_X11_381 rfl (by decide) (by first | assumption | rfl) ⟨⟨rfl, rfl⟩, by decide, by decide⟩ rfl (Nat.le_of_ble_eq_true rfl) rfl (s_wakeT (BOk_of (by rw [mrN_off (m0 := 0) u20 (by omega) _ (by rw [en2]; omega), clr (by omega)]) hb) (SOk_of (by rw [mrN_off (m0 := 0) u20 (by omega) _ (by rw [en2]; omega), clr (by omega)]) hs) (mr_t (m0 := 0) u20 (by rw [en2]; omega))) (Rv.k ?_)
    refine ex_aload_n dX11_where_62 rfl ?_
    refine g_11_8 dX11_where_63 rfl wf_X11_58 (by first | assumption | rfl) (show Rt _ 0 8 = some 24 from rfl) ?_
    refine rx_cV (kd := 5) dX11_where_66 rfl lk_X11_406 rfl (by decide) (by first | assumption | rfl) ⟨⟨rfl, rfl⟩, by decide, by decide⟩ rfl (Nat.le_of_ble_eq_true rfl) rfl (s_leastT (wakeI_t (mr_t (m0 := 0) u20 (by rw [en2]; omega))) (mr_w (m0 := 0) u20 (by rw [en2]; omega) (by rw [en2]; omega))) (Rs.k ?_)
    refine st_i5 dX11_where_69 (by first | exact rfl | exact trivial) ?_
    refine ex_aload_n dX11_where_71 rfl ?_
    refine ex_aload_n dX11_where_72 rfl ?_
    refine g_11_8 dX11_where_73 rfl wf_X11_58 (by first | assumption | rfl) (show Rt _ 0 8 = some 24 from rfl) ?_
    refine ex_iload dX11_where_76 rfl ?_
    refine rx_cV (kd := 5) dX11_where_78 rfl lk_X11_403 rfl (by decide) (by first | assumption | rfl) ⟨⟨rfl, rfl⟩, by decide, by decide⟩ rfl (Nat.le_of_ble_eq_true rfl) rfl (s_pullT (wakeI_t (mr_t (m0 := 0) u20 (by rw [en2]; omega))) (mr_q (m0 := 0) u20 (by rw [en2]; omega))) (Rs.k ?_)
    refine ex_iload dX11_where_81 rfl ?_
    refine rx_cV (kd := 11) dX11_where_83 rfl lk_X11_143 rfl (by decide) (by first | assumption | rfl) ⟨⟨rfl, rfl⟩, by decide, by decide⟩ rfl (Nat.le_of_ble_eq_true rfl) rfl s_X11_tell (Rs.k ?_)
    refine ex_iret dX11_where_86 rfl rfl ⟨rfl, Nat.le_refl _⟩ ?_
    exact ⟨(by simp only [f_X11_where, ↓eq_true h11, if_true, if_false, not_true_eq_false, not_false_eq_true]), (by simp only [f_X11_where, ↓eq_true h11, if_true, if_false, not_true_eq_false, not_false_eq_true])⟩
  · skip
    refine ex_iload dX11_where_14 rfl ?_
    refine ex_iret dX11_where_16 rfl rfl ⟨rfl, Nat.le_refl _⟩ ?_
    exact ⟨(by simp only [f_X11_where, ↓eq_false h11, if_true, if_false, not_true_eq_false, not_false_eq_true]), (by simp only [f_X11_where, ↓eq_false h11, if_true, if_false, not_true_eq_false, not_false_eq_true])⟩
end N4
