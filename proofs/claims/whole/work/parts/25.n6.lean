section N6
variable {G : Gp} {I : Im} {L : Nat → Nat → Int64} {t : Nat}
def coN (I : Im) (x : Int32) (i : Nat) : Int32 :=
  match i with
  | 0 => 0
  | k + 1 => coN I x k + (if (x >>> (nI k &&& 31)) &&& 1 = 1 then I (147 + k) 3 else 0)
termination_by i
theorem coN_0 {x : Int32} : coN I x 0 = 0 := by rw [coN]
theorem coN_s {x : Int32} {k : Nat} : coN I x (k + 1) = coN I x k + (if (x >>> (nI k &&& 31)) &&& 1 = 1 then I (147 + k) 3 else 0) := by rw [coN]
def qwN (J : Im) (x : Int32) (i : Nat) : Im :=
  match i with
  | 0 => J
  | k + 1 => if (x >>> (nI k &&& 31)) &&& 1 = 1 then woDo (qwN J x k) (147 + k) 93 else qwN J x k
termination_by i
theorem qwN_0 {J : Im} {x : Int32} : qwN J x 0 = J := by rw [qwN]
theorem qwN_s {J : Im} {x : Int32} {k : Nat} : qwN J x (k + 1) = if (x >>> (nI k &&& 31)) &&& 1 = 1 then woDo (qwN J x k) (147 + k) 93 else qwN J x k := by rw [qwN]
theorem woDo_off {w b e : Nat} (h : e ≠ b) (h1 : e ≠ b + 1) : woDo I w b e = I e := by
  unfold woDo baWall baBreak baWide baDeep
  repeat' split
  all_goals first | rfl | exact up2_off h | exact up2_off h1
theorem woDo_keep {w b j : Nat} (h4 : j ≠ 4) (h6 : j ≠ 6) : woDo I w b b j = I b j := by
  unfold woDo baWall baBreak baWide baDeep
  repeat' split
  all_goals first | rfl | exact u2_j h4 | exact u2_j h6 | exact congrFun (up2_off (Nat.ne_of_lt (Nat.lt_succ_self b))) j
theorem qwN_off {J : Im} {x : Int32} {e : Nat} (h : e ≠ 93) (h1 : e ≠ 94) : ∀ k, qwN J x k e = J e := by
  intro k
  induction k with
  | zero => rw [qwN_0]
  | succ k ih =>
    rw [qwN_s]
    split
    · rw [woDo_off h h1, ih]
    · exact ih
theorem qwN_keep {J : Im} {x : Int32} {j : Nat} (h4 : j ≠ 4) (h6 : j ≠ 6) : ∀ k, qwN J x k 93 j = J 93 j := by
  intro k
  induction k with
  | zero => rw [qwN_0]
  | succ k ih =>
    rw [qwN_s]
    split
    · rw [woDo_keep h4 h6, ih]
    · exact ih
set_option maxRecDepth 100000 in
set_option maxHeartbeats 4000000 in
theorem s_X11_costOf {x : Int32} {m : Nat} (hm : m ≤ 5) (hW : I 0 16 = nI m) : Ca G mdX11_costOf [.ref 0, .int x] (mk I L t) (Rs (.int (coN I x m)) (mk I L t)) := by
  refine Ca.intro [some (.ref 0), some (.int x), none, none] (by decide) (Nat.le_of_ble_eq_true rfl) rfl rfl ?_
  refine ex_iconst (v := 0) dX11_costOf_0 (by decide) ?_
  refine st_i2 dX11_costOf_1 (by first | exact rfl | exact trivial) ?_
  refine ex_iconst (v := 0) dX11_costOf_2 (by decide) ?_
  refine st_i3 dX11_costOf_3 (by first | exact rfl | exact trivial) ?_
  have key := loop_up (G := G) (d := mdX11_costOf) (pc := 4) (st := []) (uc := 0) (us := 0) (P := Rs (.int (coN I x m)) (mk I L t)) m (fun k => mk I L t) (fun k => [some (.ref 0), some (.int x), some (.int (coN I x k)), some (.int (nI k))]) ?_ ?_ 0 (Nat.zero_le _)
  · rw [coN_0] at key
    exact key
  · intro k hk ih
    refine ex_iload_n dX11_costOf_4 rfl ?_
    refine ex_aload_n dX11_costOf_5 rfl ?_
    refine g_11_16 dX11_costOf_6 rfl wf_X11_97 (by first | assumption | rfl) ?_
    rw [hW]
    refine ex_icmp_ge 43 dX11_costOf_9 (by decide) (fun h9 => ?_) (fun h9 => ?_)
    · exact absurd h9 (nI_ge hk (by omega))
    · skip
      refine ex_iload_n dX11_costOf_12 rfl ?_
      refine ex_iload_n dX11_costOf_13 rfl ?_
      refine ex_iload_n dX11_costOf_14 rfl ?_
      refine ex_ishr dX11_costOf_15 ?_
      refine ex_iconst (v := 1) dX11_costOf_16 (by decide) ?_
      refine ex_iand dX11_costOf_17 ?_
      refine ex_iconst (v := 1) dX11_costOf_18 (by decide) ?_
      refine ex_icmp_ne 34 dX11_costOf_19 (by decide) (fun h19 => ?_) (fun h19 => ?_)
      · have hw : coN I x (k + 1) = coN I x k + 0 := by rw [coN_s, if_neg h19]
        refine ex_iconst (v := 0) dX11_costOf_34 (by decide) ?_
        refine ex_iadd dX11_costOf_35 ?_
        refine st_i2 dX11_costOf_36 (by first | exact rfl | exact trivial) ?_
        refine inc3 (v := _ + 1) dX11_costOf_37 (by rfl) (by first | exact rfl | exact trivial) ?_
        refine ex_goto 4 dX11_costOf_40 (by decide) ?_
        rw [nI_1]
        rw [hw] at ih
        exact ih
      · have hw : coN I x (k + 1) = coN I x k + I (147 + k) 3 := by rw [coN_s, if_pos h19]
        refine ex_aload_n dX11_costOf_22 rfl ?_
        refine g_11_5 dX11_costOf_23 rfl wf_X11_41 (by first | assumption | rfl) (show Rt _ 0 5 = some 6 from rfl) ?_
        refine ex_iload_n dX11_costOf_26 rfl ?_
        refine rx_aald dX11_costOf_27 (by first | assumption | rfl) (by decide) rfl (vp_in_nI (by omega) (by decide)) (by rw [nI_clamp (by omega)]; exact ly_wrk (by omega)) ?_
        refine g_10_3 dX11_costOf_28 rfl wf_X11_465 (ky_wrk (by omega)) ?_
        refine ex_goto 35 dX11_costOf_31 (by decide) ?_
        refine ex_iadd dX11_costOf_35 ?_
        refine st_i2 dX11_costOf_36 (by first | exact rfl | exact trivial) ?_
        refine inc3 (v := _ + 1) dX11_costOf_37 (by rfl) (by first | exact rfl | exact trivial) ?_
        refine ex_goto 4 dX11_costOf_40 (by decide) ?_
        rw [nI_1]
        rw [hw] at ih
        exact ih
  · skip
    refine ex_iload_n dX11_costOf_4 rfl ?_
    refine ex_aload_n dX11_costOf_5 rfl ?_
    refine g_11_16 dX11_costOf_6 rfl wf_X11_97 (by first | assumption | rfl) ?_
    refine ex_icmp_ge 43 dX11_costOf_9 (by decide) (fun h9 => ?_) (fun h9 => ?_)
    · skip
      refine ex_iload_n dX11_costOf_43 rfl ?_
      refine ex_iret dX11_costOf_44 rfl rfl ⟨rfl, Nat.le_refl _⟩ ?_
      exact ⟨rfl, rfl⟩
    · exact absurd (by rw [hW]; exact Int32.le_refl _) h9
set_option maxRecDepth 100000 in
set_option maxHeartbeats 4000000 in
theorem lp_qw {P : Option Value → Mem → Prop} {J : Im} {x : Int32} {b s m : Nat} (hm : m ≤ 5) (hW : J 0 16 = nI m) (kont : Ex G mdX11_quietWith 50 [some (.ref 0), some (.ref b), some (.ref s), some (.int x), some (.int (nI m))] [] (mk (qwN J x m) L t) 0 0 P) : Ex G mdX11_quietWith 11 [some (.ref 0), some (.ref b), some (.ref s), some (.int x), some (.int (nI 0))] [] (mk (qwN J x 0) L t) 0 0 P := by
  refine loop_up (G := G) (d := mdX11_quietWith) (pc := 11) (st := []) (uc := 0) (us := 0) (P := P) m (fun k => mk (qwN J x k) L t) (fun k => [some (.ref 0), some (.ref b), some (.ref s), some (.int x), some (.int (nI k))]) ?_ ?_ 0 (Nat.zero_le _)
  · intro k hk ih
    refine ex_iload dX11_quietWith_11 rfl ?_
    refine ex_aload_n dX11_quietWith_13 rfl ?_
    refine g_11_16 dX11_quietWith_14 rfl wf_X11_97 (by first | assumption | rfl) ?_
    rw [qwN_off (by decide) (by decide), hW]
    refine ex_icmp_ge 50 dX11_quietWith_17 (by decide) (fun h17 => ?_) (fun h17 => ?_)
    · exact absurd h17 (nI_ge hk (by omega))
    · skip
      refine ex_iload_n dX11_quietWith_20 rfl ?_
      refine ex_iload dX11_quietWith_21 rfl ?_
      refine ex_ishr dX11_quietWith_23 ?_
      refine ex_iconst (v := 1) dX11_quietWith_24 (by decide) ?_
      refine ex_iand dX11_quietWith_25 ?_
      refine ex_iconst (v := 1) dX11_quietWith_26 (by decide) ?_
      refine ex_icmp_ne 44 dX11_quietWith_27 (by decide) (fun h27 => ?_) (fun h27 => ?_)
      · have hw : qwN J x (k + 1) = qwN J x k := by rw [qwN_s, if_neg h27]
        refine inc4 (v := _ + 1) dX11_quietWith_44 (by rfl) (by first | exact rfl | exact trivial) ?_
        refine ex_goto 11 dX11_quietWith_47 (by decide) ?_
        rw [nI_1]
        rw [hw] at ih
        exact ih
      · have hw : qwN J x (k + 1) = woDo (qwN J x k) (147 + k) 93 := by rw [qwN_s, if_pos h27]
        refine ex_aload_n dX11_quietWith_30 rfl ?_
        refine g_11_5 dX11_quietWith_31 rfl wf_X11_41 (by first | assumption | rfl) (show Rt _ 0 5 = some 6 from rfl) ?_
        refine ex_iload dX11_quietWith_34 rfl ?_
        refine rx_aald dX11_quietWith_36 (by first | assumption | rfl) (by decide) rfl (vp_in_nI (by omega) (by decide)) (by rw [nI_clamp (by omega)]; exact ly_wrk (by omega)) ?_
        refine ex_aload_n dX11_quietWith_37 rfl ?_
        refine g_11_10 dX11_quietWith_38 rfl wf_X11_69 (by first | assumption | rfl) (show Rt _ 0 10 = some 93 from rfl) ?_
        refine rx_cV (kd := 10) dX11_quietWith_41 rfl lk_X11_468 rfl (by decide) (ky_wrk (by omega)) ⟨⟨rfl, rfl⟩, by decide, by decide⟩ rfl (Nat.le_of_ble_eq_true rfl) rfl (s_X10_change (ky_wrk (by omega)) (b := 93) rfl) (Rv.k ?_)
        refine inc4 (v := _ + 1) dX11_quietWith_44 (by rfl) (by first | exact rfl | exact trivial) ?_
        refine ex_goto 11 dX11_quietWith_47 (by decide) ?_
        rw [nI_1]
        rw [hw] at ih
        exact ih
  · skip
    refine ex_iload dX11_quietWith_11 rfl ?_
    refine ex_aload_n dX11_quietWith_13 rfl ?_
    refine g_11_16 dX11_quietWith_14 rfl wf_X11_97 (by first | assumption | rfl) ?_
    refine ex_icmp_ge 50 dX11_quietWith_17 (by decide) (fun h17 => ?_) (fun h17 => ?_)
    · skip
      exact kont
    · exact absurd (by rw [qwN_off (by decide) (by decide), hW]; exact Int32.le_refl _) h17
theorem baT_f {b j : Nat} (hb : b ≠ 93) (h1 : 1 ≤ j) (h6 : j ≤ 6) : baTake I 93 b 93 j = I b j := by
  unfold baTake
  rw [cpR_off (by omega)]
  rcases (by omega : j = 1 ∨ j = 2 ∨ j = 3 ∨ j = 4 ∨ j = 5 ∨ j = 6) with rfl | rfl | rfl | rfl | rfl | rfl
  all_goals simp [tk1, up2, hb]
theorem qw_b {b k : Nat} {x : Int32} (hb : BOk I b) (h93 : b ≠ 93) : BOk (qwN (baTake I 93 b) x k) 93 := by
  obtain ⟨k1, b9, z1, n, h3, hn, e⟩ := hb
  refine ⟨rfl, by decide, ?_, n, h3, hn, ?_⟩
  · rw [qwN_keep (by decide) (by decide), baT_f h93 (by decide) (by decide)]
    exact z1
  · rw [qwN_keep (by decide) (by decide), baT_f h93 (by decide) (by decide)]
    exact e
theorem qw_s {b s k : Nat} {x : Int32} (hs : SOk I s) (h93 : s ≠ 93) (h94 : s ≠ 94) : SOk (qwN (baTake I 93 b) x k) s := SOk_of (by rw [qwN_off h93 h94, baTake_off h93 h94]) hs
theorem lp_qw0 {P : Option Value → Mem → Prop} {J : Im} {x : Int32} {b s : Nat} (hW : WrkS J) (kont : Ex G mdX11_quietWith 50 [some (.ref 0), some (.ref b), some (.ref s), some (.int x), none] [] (mk (qwN J x (J 0 16).toNatClampNeg) L t) 0 0 P) : Ex G mdX11_quietWith 11 [some (.ref 0), some (.ref b), some (.ref s), some (.int x), some (.int 0)] [] (mk J L t) 0 0 P := by
  obtain ⟨m, hm, e⟩ := hW
  rw [e, nI_clamp (by omega)] at kont
  have h := lp_qw (G := G) (L := L) (b := b) (s := s) (x := x) hm e (P := P) (fg4 kont)
  rw [qwN_0] at h
  exact h
def f_X11_quietWith (I : Im) (b : Nat) (s : Nat) (x : Int32) : Int32 × Im :=
  let I1 : Im := baTake I 93 b
  let I2 : Im := qwN I1 x (I1 0 16).toNatClampNeg
  let I3 : Im := (f_X11_quietOf I2 93 s).2
  ((f_X11_quietOf I2 93 s).1, I3)
set_option maxRecDepth 100000 in
set_option maxHeartbeats 4000000 in
theorem s_X11_quietWith  {b : Nat} {s : Nat} {x : Int32} (hb : BOk I b) (h93 : b ≠ 93) (hs : SOk I s) (hs3 : s ≠ 93) (hs4 : s ≠ 94) (hW : WrkS I) : Ca G mdX11_quietWith [.ref 0, .ref b, .ref s, .int x] (mk I L t) (Rs (.int (f_X11_quietWith I b s x).1) (mk ((f_X11_quietWith I b s x).2) L t)) := by
  refine Ca.intro [some (.ref 0), some (.ref b), some (.ref s), some (.int x), none] (by decide) (Nat.le_of_ble_eq_true rfl) rfl rfl ?_
  refine ex_aload_n dX11_quietWith_0 rfl ?_
  refine g_11_10 dX11_quietWith_1 rfl wf_X11_69 (by first | assumption | rfl) (show Rt _ 0 10 = some 93 from rfl) ?_
  refine ex_aload_n dX11_quietWith_4 rfl ?_
  refine rx_cV (kd := 0) dX11_quietWith_5 rfl lk_X11_187 rfl (by decide) (by first | assumption | rfl) ⟨⟨rfl, rfl⟩, by decide, by decide⟩ rfl (Nat.le_of_ble_eq_true rfl) rfl (s_X0_take (a := 93) rfl hb.1 hb.2.2.1) (Rv.k ?_)
  refine ex_iconst (v := 0) dX11_quietWith_8 (by decide) ?_
  refine st_i4 dX11_quietWith_9 (by first | exact rfl | exact trivial) ?_
  refine (lp_qw0 (by unfold WrkS; rw [baTake_off (by decide) (by decide)]; exact hW)) ?_
  refine ex_aload_n dX11_quietWith_50 rfl ?_
  refine ex_aload_n dX11_quietWith_51 rfl ?_
  refine g_11_10 dX11_quietWith_52 rfl wf_X11_69 (by first | assumption | rfl) (show Rt _ 0 10 = some 93 from rfl) ?_
  refine ex_aload_n dX11_quietWith_55 rfl ?_
  refine rx_cV (kd := 11) dX11_quietWith_56 rfl lk_X11_374 rfl (by decide) (by first | assumption | rfl) ⟨⟨rfl, rfl⟩, by decide, by decide⟩ rfl (Nat.le_of_ble_eq_true rfl) rfl (s_X11_quietOf (qw_b hb h93) (qw_s hs hs3 hs4)) (Rs.k ?_)
  refine ex_iret dX11_quietWith_59 rfl rfl ⟨rfl, Nat.le_refl _⟩ ?_
  exact ⟨(by simp only [f_X11_quietWith, if_true, if_false, not_true_eq_false, not_false_eq_true]), (by simp only [f_X11_quietWith, if_true, if_false, not_true_eq_false, not_false_eq_true])⟩
theorem s_costN {x : Int32} (hW : WrkS I) : Ca G mdX11_costOf [.ref 0, .int x] (mk I L t) (Rs (.int (coN I x (I 0 16).toNatClampNeg)) (mk I L t)) := by
  obtain ⟨m, hm, e⟩ := hW
  rw [e, nI_clamp (by omega)]
  exact s_X11_costOf hm e
theorem qw_off {b s e : Nat} {x : Int32} (h : e < 24 ∨ 84 < e) (h3 : e ≠ 93) (h4 : e ≠ 94) : (f_X11_quietWith I b s x).2 e = I e := by
  unfold f_X11_quietWith
  dsimp only
  rw [quiet_off h, qwN_off h3 h4, baTake_off h3 h4]
def f_X11_does (I : Im) (k : Int32) (z : Int32) (x : Int32) : Int32 × Im :=
  if (b2i (0 ≤ k ∧ k ≤ 3)) = 0 then
    ((-1), I)
  else
    if (b2i (0 ≤ z ∧ z ≤ 3)) = 0 then
      ((-1), I)
    else
      if (b2i (0 ≤ x ∧ x ≤ ((f_X11_allWorks I)))) = 0 then
        ((-1), I)
      else
        if (I (124 + 2 * k.toNatClampNeg) 1) = 0 then
          let I1 : Im := (f_X11_refuse I 1).2
          ((f_X11_refuse I 1).1, I1)
        else
          if (I (132 + 3 * z.toNatClampNeg) 2) = 0 then
            let I4 : Im := (f_X11_refuse I 1).2
            ((f_X11_refuse I 1).1, I4)
          else
            let I2 : Im := (f_X11_quietWith I (124 + 2 * k.toNatClampNeg) (132 + 3 * z.toNatClampNeg) x).2
            let I3 : Im := (f_X11_tell I2 (coN I x (I 0 16).toNatClampNeg) ((f_X11_quietWith I (124 + 2 * k.toNatClampNeg) (132 + 3 * z.toNatClampNeg) x).1)).2
            ((f_X11_tell I2 (coN I x (I 0 16).toNatClampNeg) ((f_X11_quietWith I (124 + 2 * k.toNatClampNeg) (132 + 3 * z.toNatClampNeg) x).1)).1, I3)
set_option maxRecDepth 100000 in
set_option maxHeartbeats 4000000 in
theorem s_X11_does  {k : Int32} {z : Int32} {x : Int32} (hHar : HarS I) (hSea : SeaS I) (hW : WrkS I) : Ca G mdX11_does [.ref 0, .int k, .int z, .int x] (mk I L t) (Rs (.int (f_X11_does I k z x).1) (mk ((f_X11_does I k z x).2) L t)) := by
  refine Ca.intro [some (.ref 0), some (.int k), some (.int z), some (.int x)] (by decide) (Nat.le_of_ble_eq_true rfl) rfl rfl ?_
  refine ex_iload_n dX11_does_0 rfl ?_
  refine rx_cS dX11_does_1 rfl lk_X11_181 ⟨⟨rfl, rfl⟩, by decide, by decide⟩ rfl (Nat.le_of_ble_eq_true rfl) rfl s_X11_isHarbour (Rs.k ?_)
  refine ex_if_eq 26 dX11_does_4 (by decide) (fun h4 => ?_) (fun h4 => ?_)
  · skip
    refine ex_iconst (v := (-1)) dX11_does_26 (by decide) ?_
    refine ex_iret dX11_does_27 rfl rfl ⟨rfl, Nat.le_refl _⟩ ?_
    exact ⟨(by simp only [f_X11_does, ↓eq_true h4, if_true, if_false, not_true_eq_false, not_false_eq_true]), (by simp only [f_X11_does, ↓eq_true h4, if_true, if_false, not_true_eq_false, not_false_eq_true])⟩
  · have qk := (cl_lt (N := 4) (by decide) h4).1
    have vk := (cl_lt (N := 4) (by decide) h4).2
    have kk := ky_har qk
    have lk := ly_har (t := t) qk
    refine ex_iload_n dX11_does_7 rfl ?_
    refine rx_cS dX11_does_8 rfl lk_X11_194 ⟨⟨rfl, rfl⟩, by decide, by decide⟩ rfl (Nat.le_of_ble_eq_true rfl) rfl s_X11_isSea (Rs.k ?_)
    refine ex_if_eq 26 dX11_does_11 (by decide) (fun h11 => ?_) (fun h11 => ?_)
    · skip
      refine ex_iconst (v := (-1)) dX11_does_26 (by decide) ?_
      refine ex_iret dX11_does_27 rfl rfl ⟨rfl, Nat.le_refl _⟩ ?_
      exact ⟨(by simp only [f_X11_does, ↓eq_false h4, ↓eq_true h11, if_true, if_false, not_true_eq_false, not_false_eq_true]), (by simp only [f_X11_does, ↓eq_false h4, ↓eq_true h11, if_true, if_false, not_true_eq_false, not_false_eq_true])⟩
    · have qz := (cl_lt (N := 4) (by decide) h11).1
      have vz := (cl_lt (N := 4) (by decide) h11).2
      have kz := ky_sea qz
      have lz := ly_sea (t := t) qz
      refine ex_iload_n dX11_does_14 rfl ?_
      refine ex_iconst (v := 0) dX11_does_15 (by decide) ?_
      refine ex_aload_n dX11_does_16 rfl ?_
      refine rx_cV (kd := 11) dX11_does_17 rfl lk_X11_442 rfl (by decide) (by first | assumption | rfl) ⟨⟨rfl, rfl⟩, by decide, by decide⟩ rfl (Nat.le_of_ble_eq_true rfl) rfl s_X11_allWorks (Rs.k ?_)
      refine rx_cS dX11_does_20 rfl lk_X11_117 ⟨⟨rfl, rfl⟩, by decide, by decide⟩ rfl (Nat.le_of_ble_eq_true rfl) rfl s_X11_within (Rs.k ?_)
      refine ex_if_ne 28 dX11_does_23 (by decide) (fun h23 => ?_) (fun h23 => ?_)
      · skip
        refine ex_aload_n dX11_does_28 rfl ?_
        refine g_11_2 dX11_does_29 rfl wf_X11_23 (by first | assumption | rfl) (show Rt _ 0 2 = some 3 from rfl) ?_
        refine ex_iload_n dX11_does_32 rfl ?_
        refine rx_aald dX11_does_33 (by first | assumption | rfl) (by decide) rfl (by first | assumption | (unfold vp_in; decide)) (by first | assumption | rfl) ?_
        refine g_0_1 dX11_does_34 rfl wf_X11_206 (by first | assumption | rfl) ?_
        refine ex_if_eq 52 dX11_does_37 (by decide) (fun h37 => ?_) (fun h37 => ?_)
        · skip
          refine ex_aload_n dX11_does_52 rfl ?_
          refine ex_iconst (v := 1) dX11_does_53 (by decide) ?_
          refine rx_cV (kd := 11) dX11_does_54 rfl lk_X11_129 rfl (by decide) (by first | assumption | rfl) ⟨⟨rfl, rfl⟩, by decide, by decide⟩ rfl (Nat.le_of_ble_eq_true rfl) rfl (s_X11_refuse (by unfold vp_in; decide)) (Rs.k ?_)
          refine ex_iret dX11_does_57 rfl rfl ⟨rfl, Nat.le_refl _⟩ ?_
          exact ⟨(by simp only [f_X11_does, ↓eq_false h4, ↓eq_false h11, ↓eq_false h23, ↓eq_true h37, if_true, if_false, not_true_eq_false, not_false_eq_true]), (by simp only [f_X11_does, ↓eq_false h4, ↓eq_false h11, ↓eq_false h23, ↓eq_true h37, if_true, if_false, not_true_eq_false, not_false_eq_true])⟩
        · skip
          refine ex_aload_n dX11_does_40 rfl ?_
          refine g_11_3 dX11_does_41 rfl wf_X11_29 (by first | assumption | rfl) (show Rt _ 0 3 = some 4 from rfl) ?_
          refine ex_iload_n dX11_does_44 rfl ?_
          refine rx_aald dX11_does_45 (by first | assumption | rfl) (by decide) rfl (by first | assumption | (unfold vp_in; decide)) (by first | assumption | rfl) ?_
          refine g_8_2 dX11_does_46 rfl wf_X11_121 (by first | assumption | rfl) ?_
          refine ex_if_ne 58 dX11_does_49 (by decide) (fun h49 => ?_) (fun h49 => ?_)
          · have hb := BOk_h hHar qk h37
            have hs := SOk_s hSea qz
            refine ex_aload_n dX11_does_58 rfl ?_
            refine ex_aload_n dX11_does_59 rfl ?_
            refine ex_iload_n dX11_does_60 rfl ?_
            refine rx_cV (kd := 11) dX11_does_61 rfl lk_X11_445 rfl (by decide) (by first | assumption | rfl) ⟨⟨rfl, rfl⟩, by decide, by decide⟩ rfl (Nat.le_of_ble_eq_true rfl) rfl (s_costN hW) (Rs.k ?_)
            refine ex_aload_n dX11_does_64 rfl ?_
            refine ex_aload_n dX11_does_65 rfl ?_
            refine g_11_2 dX11_does_66 rfl wf_X11_23 (by first | assumption | rfl) (show Rt _ 0 2 = some 3 from rfl) ?_
            refine ex_iload_n dX11_does_69 rfl ?_
            refine rx_aald dX11_does_70 (by first | assumption | rfl) (by decide) rfl (by first | assumption | (unfold vp_in; decide)) (by first | assumption | rfl) ?_
            refine ex_aload_n dX11_does_71 rfl ?_
            refine g_11_3 dX11_does_72 rfl wf_X11_29 (by first | assumption | rfl) (show Rt _ 0 3 = some 4 from rfl) ?_
            refine ex_iload_n dX11_does_75 rfl ?_
            refine rx_aald dX11_does_76 (by first | assumption | rfl) (by decide) rfl (by first | assumption | (unfold vp_in; decide)) (by first | assumption | rfl) ?_
            refine ex_iload_n dX11_does_77 rfl ?_
            refine rx_cV (kd := 11) dX11_does_78 rfl lk_X11_448 rfl (by decide) (by first | assumption | rfl) ⟨⟨rfl, rfl⟩, by decide, by decide⟩ rfl (Nat.le_of_ble_eq_true rfl) rfl (s_X11_quietWith hb (by omega) hs (by omega) (by omega) hW) (Rs.k ?_)
            refine rx_cV (kd := 11) dX11_does_81 rfl lk_X11_143 rfl (by decide) (by first | assumption | rfl) ⟨⟨rfl, rfl⟩, by decide, by decide⟩ rfl (Nat.le_of_ble_eq_true rfl) rfl s_X11_tell (Rs.k ?_)
            refine ex_iret dX11_does_84 rfl rfl ⟨rfl, Nat.le_refl _⟩ ?_
            exact ⟨(by simp only [f_X11_does, ↓eq_false h4, ↓eq_false h11, ↓eq_false h23, ↓eq_false h37, ↓eq_false h49, if_true, if_false, not_true_eq_false, not_false_eq_true]), (by simp only [f_X11_does, ↓eq_false h4, ↓eq_false h11, ↓eq_false h23, ↓eq_false h37, ↓eq_false h49, if_true, if_false, not_true_eq_false, not_false_eq_true])⟩
          · skip
            refine ex_aload_n dX11_does_52 rfl ?_
            refine ex_iconst (v := 1) dX11_does_53 (by decide) ?_
            refine rx_cV (kd := 11) dX11_does_54 rfl lk_X11_129 rfl (by decide) (by first | assumption | rfl) ⟨⟨rfl, rfl⟩, by decide, by decide⟩ rfl (Nat.le_of_ble_eq_true rfl) rfl (s_X11_refuse (by unfold vp_in; decide)) (Rs.k ?_)
            refine ex_iret dX11_does_57 rfl rfl ⟨rfl, Nat.le_refl _⟩ ?_
            exact ⟨(by simp only [f_X11_does, ↓eq_false h4, ↓eq_false h11, ↓eq_false h23, ↓eq_false h37, ↓eq_true h49, if_true, if_false, not_true_eq_false, not_false_eq_true]), (by simp only [f_X11_does, ↓eq_false h4, ↓eq_false h11, ↓eq_false h23, ↓eq_false h37, ↓eq_true h49, if_true, if_false, not_true_eq_false, not_false_eq_true])⟩
      · skip
        refine ex_iconst (v := (-1)) dX11_does_26 (by decide) ?_
        refine ex_iret dX11_does_27 rfl rfl ⟨rfl, Nat.le_refl _⟩ ?_
        exact ⟨(by simp only [f_X11_does, ↓eq_false h4, ↓eq_false h11, ↓eq_true h23, if_true, if_false, not_true_eq_false, not_false_eq_true]), (by simp only [f_X11_does, ↓eq_false h4, ↓eq_false h11, ↓eq_true h23, if_true, if_false, not_true_eq_false, not_false_eq_true])⟩
end N6
