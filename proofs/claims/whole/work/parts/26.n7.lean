section N7
variable {G : Gp} {I : Im} {L : Nat → Nat → Int64} {t : Nat}
def woN (I : Im) (b s : Nat) (w : Int32) (i : Nat) : Int32 × Int32 × Im :=
  match i with
  | 0 => (0, 0, I)
  | k + 1 => ((woN I b s w k).1 ||| (if w < (f_X11_quietWith (woN I b s w k).2.2 b s (1 <<< (nI k &&& 31))).1 then 1 <<< (nI k &&& 31) else 0), (woN I b s w k).2.1 ||| (if (f_X11_quietWith (woN I b s w k).2.2 b s (1 <<< (nI k &&& 31))).1 < w then 1 <<< (nI k &&& 31) else 0), (f_X11_quietWith (woN I b s w k).2.2 b s (1 <<< (nI k &&& 31))).2)
termination_by i
theorem woN_0 {b s : Nat} {w : Int32} : woN I b s w 0 = (0, 0, I) := by rw [woN]
theorem woN_s {b s k : Nat} {w : Int32} : woN I b s w (k + 1) = ((woN I b s w k).1 ||| (if w < (f_X11_quietWith (woN I b s w k).2.2 b s (1 <<< (nI k &&& 31))).1 then 1 <<< (nI k &&& 31) else 0), (woN I b s w k).2.1 ||| (if (f_X11_quietWith (woN I b s w k).2.2 b s (1 <<< (nI k &&& 31))).1 < w then 1 <<< (nI k &&& 31) else 0), (f_X11_quietWith (woN I b s w k).2.2 b s (1 <<< (nI k &&& 31))).2) := by rw [woN]
theorem woN_off {b s e : Nat} {w : Int32} (h : e < 24 ∨ 84 < e) (h3 : e ≠ 93) (h4 : e ≠ 94) : ∀ k, (woN I b s w k).2.2 e = I e := by
  intro k
  induction k with
  | zero => rw [woN_0]
  | succ k ih =>
    rw [woN_s]
    exact (qw_off h h3 h4).trans ih
set_option maxRecDepth 100000 in
set_option maxHeartbeats 4000000 in
theorem lp_worse {P : Option Value → Mem → Prop} {x z w : Int32} (qk : x.toNatClampNeg < 4) (vk : vp_in x 4) (lk : Rt t 3 x.toNatClampNeg = some (124 + 2 * x.toNatClampNeg)) (qz : z.toNatClampNeg < 4) (vz : vp_in z 4) (lz : Rt t 4 z.toNatClampNeg = some (132 + 3 * z.toNatClampNeg)) (hb : BOk I (124 + 2 * x.toNatClampNeg)) (hs : SOk I (132 + 3 * z.toNatClampNeg)) {m : Nat} (hm : m ≤ 5) (hW : I 0 16 = nI m) (kont : Ex G mdX11_worse 147 [some (.ref 0), some (.int x), some (.int z), some (.int w), some (.int (woN I (124 + 2 * x.toNatClampNeg) (132 + 3 * z.toNatClampNeg) w m).1), some (.int (woN I (124 + 2 * x.toNatClampNeg) (132 + 3 * z.toNatClampNeg) w m).2.1), some (.int (nI m)), none] [] (mk (woN I (124 + 2 * x.toNatClampNeg) (132 + 3 * z.toNatClampNeg) w m).2.2 L t) 0 0 P) : Ex G mdX11_worse 72 [some (.ref 0), some (.int x), some (.int z), some (.int w), some (.int (woN I (124 + 2 * x.toNatClampNeg) (132 + 3 * z.toNatClampNeg) w 0).1), some (.int (woN I (124 + 2 * x.toNatClampNeg) (132 + 3 * z.toNatClampNeg) w 0).2.1), some (.int (nI 0)), none] [] (mk (woN I (124 + 2 * x.toNatClampNeg) (132 + 3 * z.toNatClampNeg) w 0).2.2 L t) 0 0 P := by
  refine loop_up (G := G) (d := mdX11_worse) (pc := 72) (st := []) (uc := 0) (us := 0) (P := P) m (fun k => mk (woN I (124 + 2 * x.toNatClampNeg) (132 + 3 * z.toNatClampNeg) w k).2.2 L t) (fun k => [some (.ref 0), some (.int x), some (.int z), some (.int w), some (.int (woN I (124 + 2 * x.toNatClampNeg) (132 + 3 * z.toNatClampNeg) w k).1), some (.int (woN I (124 + 2 * x.toNatClampNeg) (132 + 3 * z.toNatClampNeg) w k).2.1), some (.int (nI k)), none]) ?_ ?_ 0 (Nat.zero_le _)
  · intro k hk ih
    refine ex_iload dX11_worse_72 rfl ?_
    refine ex_aload_n dX11_worse_74 rfl ?_
    refine g_11_16 dX11_worse_75 rfl wf_X11_97 (by first | assumption | rfl) ?_
    rw [woN_off (by decide) (by decide) (by decide), hW]
    refine ex_icmp_ge 147 dX11_worse_78 (by decide) (fun h78 => ?_) (fun h78 => ?_)
    · exact absurd h78 (nI_ge hk (by omega))
    · skip
      refine ex_aload_n dX11_worse_81 rfl ?_
      refine ex_aload_n dX11_worse_82 rfl ?_
      refine g_11_2 dX11_worse_83 rfl wf_X11_23 (by first | assumption | rfl) (show Rt _ 0 2 = some 3 from rfl) ?_
      refine ex_iload_n dX11_worse_86 rfl ?_
      refine rx_aald dX11_worse_87 (by first | assumption | rfl) (by decide) rfl (by first | assumption | (unfold vp_in; decide)) (by first | assumption | rfl) ?_
      refine ex_aload_n dX11_worse_88 rfl ?_
      refine g_11_3 dX11_worse_89 rfl wf_X11_29 (by first | assumption | rfl) (show Rt _ 0 3 = some 4 from rfl) ?_
      refine ex_iload_n dX11_worse_92 rfl ?_
      refine rx_aald dX11_worse_93 (by first | assumption | rfl) (by decide) rfl (by first | assumption | (unfold vp_in; decide)) (by first | assumption | rfl) ?_
      refine ex_iconst (v := 1) dX11_worse_94 (by decide) ?_
      refine ex_iload dX11_worse_95 rfl ?_
      refine ex_ishl dX11_worse_97 ?_
      refine rx_cV (kd := 11) dX11_worse_98 rfl lk_X11_448 rfl (by decide) (by first | assumption | rfl) ⟨⟨rfl, rfl⟩, by decide, by decide⟩ rfl (Nat.le_of_ble_eq_true rfl) rfl (s_X11_quietWith (BOk_of (woN_off (by omega) (by omega) (by omega) _) hb) (by omega) (SOk_of (woN_off (by omega) (by omega) (by omega) _) hs) (by omega) (by omega) ⟨m, hm, by rw [woN_off (by decide) (by decide) (by decide)]; exact hW⟩) (Rs.k ?_)
      refine st_i7 dX11_worse_101 (by first | exact rfl | exact trivial) ?_
      refine ex_iload dX11_worse_103 rfl ?_
      refine ex_iload dX11_worse_105 rfl ?_
      refine ex_iload_n dX11_worse_107 rfl ?_
      refine ex_icmp_le 118 dX11_worse_108 (by decide) (fun h108 => ?_) (fun h108 => ?_)
      · have hg : (if w < (f_X11_quietWith (woN I (124 + 2 * x.toNatClampNeg) (132 + 3 * z.toNatClampNeg) w k).2.2 (124 + 2 * x.toNatClampNeg) (132 + 3 * z.toNatClampNeg) (1 <<< (nI k &&& 31))).1 then (1 : Int32) <<< (nI k &&& 31) else 0) = 0 := if_neg (Int32.not_lt.mpr h108)
        refine ex_iconst (v := 0) dX11_worse_118 (by decide) ?_
        refine ex_ior dX11_worse_119 ?_
        refine st_i4 dX11_worse_120 (by first | exact rfl | exact trivial) ?_
        refine ex_iload dX11_worse_122 rfl ?_
        refine ex_iload dX11_worse_124 rfl ?_
        refine ex_iload_n dX11_worse_126 rfl ?_
        refine ex_icmp_ge 137 dX11_worse_127 (by decide) (fun h127 => ?_) (fun h127 => ?_)
        · have hl : (if (f_X11_quietWith (woN I (124 + 2 * x.toNatClampNeg) (132 + 3 * z.toNatClampNeg) w k).2.2 (124 + 2 * x.toNatClampNeg) (132 + 3 * z.toNatClampNeg) (1 <<< (nI k &&& 31))).1 < w then (1 : Int32) <<< (nI k &&& 31) else 0) = 0 := if_neg (Int32.not_lt.mpr h127)
          refine ex_iconst (v := 0) dX11_worse_137 (by decide) ?_
          refine ex_ior dX11_worse_138 ?_
          refine st_i5 dX11_worse_139 (by first | exact rfl | exact trivial) ?_
          refine inc6 (v := _ + 1) dX11_worse_141 (by rfl) (by first | exact rfl | exact trivial) ?_
          refine ex_goto 72 dX11_worse_144 (by decide) ?_
          refine fg7 ?_
          rw [nI_1]
          rw [woN_s, hg, hl] at ih
          exact ih
        · have hl : (if (f_X11_quietWith (woN I (124 + 2 * x.toNatClampNeg) (132 + 3 * z.toNatClampNeg) w k).2.2 (124 + 2 * x.toNatClampNeg) (132 + 3 * z.toNatClampNeg) (1 <<< (nI k &&& 31))).1 < w then (1 : Int32) <<< (nI k &&& 31) else 0) = 1 <<< (nI k &&& 31) := if_pos (Int32.not_le.mp h127)
          refine ex_iconst (v := 1) dX11_worse_130 (by decide) ?_
          refine ex_iload dX11_worse_131 rfl ?_
          refine ex_ishl dX11_worse_133 ?_
          refine ex_goto 138 dX11_worse_134 (by decide) ?_
          refine ex_ior dX11_worse_138 ?_
          refine st_i5 dX11_worse_139 (by first | exact rfl | exact trivial) ?_
          refine inc6 (v := _ + 1) dX11_worse_141 (by rfl) (by first | exact rfl | exact trivial) ?_
          refine ex_goto 72 dX11_worse_144 (by decide) ?_
          refine fg7 ?_
          rw [nI_1]
          rw [woN_s, hg, hl] at ih
          exact ih
      · have hg : (if w < (f_X11_quietWith (woN I (124 + 2 * x.toNatClampNeg) (132 + 3 * z.toNatClampNeg) w k).2.2 (124 + 2 * x.toNatClampNeg) (132 + 3 * z.toNatClampNeg) (1 <<< (nI k &&& 31))).1 then (1 : Int32) <<< (nI k &&& 31) else 0) = 1 <<< (nI k &&& 31) := if_pos (Int32.not_le.mp h108)
        refine ex_iconst (v := 1) dX11_worse_111 (by decide) ?_
        refine ex_iload dX11_worse_112 rfl ?_
        refine ex_ishl dX11_worse_114 ?_
        refine ex_goto 119 dX11_worse_115 (by decide) ?_
        refine ex_ior dX11_worse_119 ?_
        refine st_i4 dX11_worse_120 (by first | exact rfl | exact trivial) ?_
        refine ex_iload dX11_worse_122 rfl ?_
        refine ex_iload dX11_worse_124 rfl ?_
        refine ex_iload_n dX11_worse_126 rfl ?_
        refine ex_icmp_ge 137 dX11_worse_127 (by decide) (fun h127 => ?_) (fun h127 => ?_)
        · have hl : (if (f_X11_quietWith (woN I (124 + 2 * x.toNatClampNeg) (132 + 3 * z.toNatClampNeg) w k).2.2 (124 + 2 * x.toNatClampNeg) (132 + 3 * z.toNatClampNeg) (1 <<< (nI k &&& 31))).1 < w then (1 : Int32) <<< (nI k &&& 31) else 0) = 0 := if_neg (Int32.not_lt.mpr h127)
          refine ex_iconst (v := 0) dX11_worse_137 (by decide) ?_
          refine ex_ior dX11_worse_138 ?_
          refine st_i5 dX11_worse_139 (by first | exact rfl | exact trivial) ?_
          refine inc6 (v := _ + 1) dX11_worse_141 (by rfl) (by first | exact rfl | exact trivial) ?_
          refine ex_goto 72 dX11_worse_144 (by decide) ?_
          refine fg7 ?_
          rw [nI_1]
          rw [woN_s, hg, hl] at ih
          exact ih
        · have hl : (if (f_X11_quietWith (woN I (124 + 2 * x.toNatClampNeg) (132 + 3 * z.toNatClampNeg) w k).2.2 (124 + 2 * x.toNatClampNeg) (132 + 3 * z.toNatClampNeg) (1 <<< (nI k &&& 31))).1 < w then (1 : Int32) <<< (nI k &&& 31) else 0) = 1 <<< (nI k &&& 31) := if_pos (Int32.not_le.mp h127)
          refine ex_iconst (v := 1) dX11_worse_130 (by decide) ?_
          refine ex_iload dX11_worse_131 rfl ?_
          refine ex_ishl dX11_worse_133 ?_
          refine ex_goto 138 dX11_worse_134 (by decide) ?_
          refine ex_ior dX11_worse_138 ?_
          refine st_i5 dX11_worse_139 (by first | exact rfl | exact trivial) ?_
          refine inc6 (v := _ + 1) dX11_worse_141 (by rfl) (by first | exact rfl | exact trivial) ?_
          refine ex_goto 72 dX11_worse_144 (by decide) ?_
          refine fg7 ?_
          rw [nI_1]
          rw [woN_s, hg, hl] at ih
          exact ih
  · skip
    refine ex_iload dX11_worse_72 rfl ?_
    refine ex_aload_n dX11_worse_74 rfl ?_
    refine g_11_16 dX11_worse_75 rfl wf_X11_97 (by first | assumption | rfl) ?_
    refine ex_icmp_ge 147 dX11_worse_78 (by decide) (fun h78 => ?_) (fun h78 => ?_)
    · skip
      exact kont
    · exact absurd (by rw [woN_off (by decide) (by decide) (by decide), hW]; exact Int32.le_refl _) h78
theorem lp_worse0 {P : Option Value → Mem → Prop} {x z w : Int32} (qk : x.toNatClampNeg < 4) (vk : vp_in x 4) (lk : Rt t 3 x.toNatClampNeg = some (124 + 2 * x.toNatClampNeg)) (qz : z.toNatClampNeg < 4) (vz : vp_in z 4) (lz : Rt t 4 z.toNatClampNeg = some (132 + 3 * z.toNatClampNeg)) (hb : BOk I (124 + 2 * x.toNatClampNeg)) (hs : SOk I (132 + 3 * z.toNatClampNeg)) (hW : WrkS I) (kont : Ex G mdX11_worse 147 [some (.ref 0), some (.int x), some (.int z), some (.int w), some (.int (woN I (124 + 2 * x.toNatClampNeg) (132 + 3 * z.toNatClampNeg) w (I 0 16).toNatClampNeg).1), some (.int (woN I (124 + 2 * x.toNatClampNeg) (132 + 3 * z.toNatClampNeg) w (I 0 16).toNatClampNeg).2.1), none, none] [] (mk (woN I (124 + 2 * x.toNatClampNeg) (132 + 3 * z.toNatClampNeg) w (I 0 16).toNatClampNeg).2.2 L t) 0 0 P) : Ex G mdX11_worse 72 [some (.ref 0), some (.int x), some (.int z), some (.int w), some (.int 0), some (.int 0), some (.int 0), none] [] (mk I L t) 0 0 P := by
  obtain ⟨m, hm, e⟩ := hW
  rw [e, nI_clamp (by omega)] at kont
  have h := lp_worse (G := G) (L := L) qk vk lk qz vz lz hb hs (w := w) hm e (P := P) (fg6 kont)
  rw [woN_0] at h
  exact h
def f_X11_worse (I : Im) (k : Int32) (z : Int32) : Int32 × Im :=
  if (b2i (0 ≤ k ∧ k ≤ 3)) = 0 then
    ((-1), I)
  else
    if (b2i (0 ≤ z ∧ z ≤ 3)) = 0 then
      ((-1), I)
    else
      if (I (124 + 2 * k.toNatClampNeg) 1) = 0 then
        let I1 : Im := (f_X11_refuse I 1).2
        ((f_X11_refuse I 1).1, I1)
      else
        if (I (132 + 3 * z.toNatClampNeg) 2) = 0 then
          let I5 : Im := (f_X11_refuse I 1).2
          ((f_X11_refuse I 1).1, I5)
        else
          let I2 : Im := (f_X11_quietOf I (124 + 2 * k.toNatClampNeg) (132 + 3 * z.toNatClampNeg)).2
          let I3 : Im := (woN I2 (124 + 2 * k.toNatClampNeg) (132 + 3 * z.toNatClampNeg) ((f_X11_quietOf I (124 + 2 * k.toNatClampNeg) (132 + 3 * z.toNatClampNeg)).1) (I2 0 16).toNatClampNeg).2.2
          let I4 : Im := (f_X11_tell I3 ((woN I2 (124 + 2 * k.toNatClampNeg) (132 + 3 * z.toNatClampNeg) ((f_X11_quietOf I (124 + 2 * k.toNatClampNeg) (132 + 3 * z.toNatClampNeg)).1) (I2 0 16).toNatClampNeg).2.1) ((woN I2 (124 + 2 * k.toNatClampNeg) (132 + 3 * z.toNatClampNeg) ((f_X11_quietOf I (124 + 2 * k.toNatClampNeg) (132 + 3 * z.toNatClampNeg)).1) (I2 0 16).toNatClampNeg).1)).2
          ((f_X11_tell I3 ((woN I2 (124 + 2 * k.toNatClampNeg) (132 + 3 * z.toNatClampNeg) ((f_X11_quietOf I (124 + 2 * k.toNatClampNeg) (132 + 3 * z.toNatClampNeg)).1) (I2 0 16).toNatClampNeg).2.1) ((woN I2 (124 + 2 * k.toNatClampNeg) (132 + 3 * z.toNatClampNeg) ((f_X11_quietOf I (124 + 2 * k.toNatClampNeg) (132 + 3 * z.toNatClampNeg)).1) (I2 0 16).toNatClampNeg).1)).1, I4)
set_option maxRecDepth 100000 in
set_option maxHeartbeats 4000000 in
theorem s_X11_worse  {k : Int32} {z : Int32} (hHar : HarS I) (hSea : SeaS I) (hW : WrkS I) : Ca G mdX11_worse [.ref 0, .int k, .int z] (mk I L t) (Rs (.int (f_X11_worse I k z).1) (mk ((f_X11_worse I k z).2) L t)) := by
  refine Ca.intro [some (.ref 0), some (.int k), some (.int z), none, none, none, none, none] (by decide) (Nat.le_of_ble_eq_true rfl) rfl rfl ?_
  refine ex_iload_n dX11_worse_0 rfl ?_
  refine rx_cS dX11_worse_1 rfl lk_X11_181 ⟨⟨rfl, rfl⟩, by decide, by decide⟩ rfl (Nat.le_of_ble_eq_true rfl) rfl s_X11_isHarbour (Rs.k ?_)
  refine ex_if_eq 14 dX11_worse_4 (by decide) (fun h4 => ?_) (fun h4 => ?_)
  · skip
    refine ex_iconst (v := (-1)) dX11_worse_14 (by decide) ?_
    refine ex_iret dX11_worse_15 rfl rfl ⟨rfl, Nat.le_refl _⟩ ?_
    exact ⟨(by simp only [f_X11_worse, ↓eq_true h4, if_true, if_false, not_true_eq_false, not_false_eq_true]), (by simp only [f_X11_worse, ↓eq_true h4, if_true, if_false, not_true_eq_false, not_false_eq_true])⟩
  · have qk := (cl_lt (N := 4) (by decide) h4).1
    have vk := (cl_lt (N := 4) (by decide) h4).2
    have kk := ky_har qk
    have lk := ly_har (t := t) qk
    refine ex_iload_n dX11_worse_7 rfl ?_
    refine rx_cS dX11_worse_8 rfl lk_X11_194 ⟨⟨rfl, rfl⟩, by decide, by decide⟩ rfl (Nat.le_of_ble_eq_true rfl) rfl s_X11_isSea (Rs.k ?_)
    refine ex_if_ne 16 dX11_worse_11 (by decide) (fun h11 => ?_) (fun h11 => ?_)
    · have qz := (cl_lt (N := 4) (by decide) h11).1
      have vz := (cl_lt (N := 4) (by decide) h11).2
      have kz := ky_sea qz
      have lz := ly_sea (t := t) qz
      refine ex_aload_n dX11_worse_16 rfl ?_
      refine g_11_2 dX11_worse_17 rfl wf_X11_23 (by first | assumption | rfl) (show Rt _ 0 2 = some 3 from rfl) ?_
      refine ex_iload_n dX11_worse_20 rfl ?_
      refine rx_aald dX11_worse_21 (by first | assumption | rfl) (by decide) rfl (by first | assumption | (unfold vp_in; decide)) (by first | assumption | rfl) ?_
      refine g_0_1 dX11_worse_22 rfl wf_X11_206 (by first | assumption | rfl) ?_
      refine ex_if_eq 40 dX11_worse_25 (by decide) (fun h25 => ?_) (fun h25 => ?_)
      · skip
        refine ex_aload_n dX11_worse_40 rfl ?_
        refine ex_iconst (v := 1) dX11_worse_41 (by decide) ?_
        refine rx_cV (kd := 11) dX11_worse_42 rfl lk_X11_129 rfl (by decide) (by first | assumption | rfl) ⟨⟨rfl, rfl⟩, by decide, by decide⟩ rfl (Nat.le_of_ble_eq_true rfl) rfl (s_X11_refuse (by unfold vp_in; decide)) (Rs.k ?_)
        refine ex_iret dX11_worse_45 rfl rfl ⟨rfl, Nat.le_refl _⟩ ?_
        exact ⟨(by simp only [f_X11_worse, ↓eq_false h4, ↓eq_false h11, ↓eq_true h25, if_true, if_false, not_true_eq_false, not_false_eq_true]), (by simp only [f_X11_worse, ↓eq_false h4, ↓eq_false h11, ↓eq_true h25, if_true, if_false, not_true_eq_false, not_false_eq_true])⟩
      · skip
        refine ex_aload_n dX11_worse_28 rfl ?_
        refine g_11_3 dX11_worse_29 rfl wf_X11_29 (by first | assumption | rfl) (show Rt _ 0 3 = some 4 from rfl) ?_
        refine ex_iload_n dX11_worse_32 rfl ?_
        refine rx_aald dX11_worse_33 (by first | assumption | rfl) (by decide) rfl (by first | assumption | (unfold vp_in; decide)) (by first | assumption | rfl) ?_
        refine g_8_2 dX11_worse_34 rfl wf_X11_121 (by first | assumption | rfl) ?_
        refine ex_if_ne 46 dX11_worse_37 (by decide) (fun h37 => ?_) (fun h37 => ?_)
        · have hb := BOk_h hHar qk h25
          have hs := SOk_s hSea qz
          refine ex_aload_n dX11_worse_46 rfl ?_
          refine ex_aload_n dX11_worse_47 rfl ?_
          refine g_11_2 dX11_worse_48 rfl wf_X11_23 (by first | assumption | rfl) (show Rt _ 0 2 = some 3 from rfl) ?_
          refine ex_iload_n dX11_worse_51 rfl ?_
          refine rx_aald dX11_worse_52 (by first | assumption | rfl) (by decide) rfl (by first | assumption | (unfold vp_in; decide)) (by first | assumption | rfl) ?_
          refine ex_aload_n dX11_worse_53 rfl ?_
          refine g_11_3 dX11_worse_54 rfl wf_X11_29 (by first | assumption | rfl) (show Rt _ 0 3 = some 4 from rfl) ?_
          refine ex_iload_n dX11_worse_57 rfl ?_
          refine rx_aald dX11_worse_58 (by first | assumption | rfl) (by decide) rfl (by first | assumption | (unfold vp_in; decide)) (by first | assumption | rfl) ?_
          refine rx_cV (kd := 11) dX11_worse_59 rfl lk_X11_374 rfl (by decide) (by first | assumption | rfl) ⟨⟨rfl, rfl⟩, by decide, by decide⟩ rfl (Nat.le_of_ble_eq_true rfl) rfl (s_X11_quietOf hb hs) (Rs.k ?_)
          refine st_i3 dX11_worse_62 (by first | exact rfl | exact trivial) ?_
          refine ex_iconst (v := 0) dX11_worse_63 (by decide) ?_
          refine st_i4 dX11_worse_64 (by first | exact rfl | exact trivial) ?_
          refine ex_iconst (v := 0) dX11_worse_66 (by decide) ?_
          refine st_i5 dX11_worse_67 (by first | exact rfl | exact trivial) ?_
          refine ex_iconst (v := 0) dX11_worse_69 (by decide) ?_
          refine st_i6 dX11_worse_70 (by first | exact rfl | exact trivial) ?_
          refine (lp_worse0 qk vk lk qz vz lz (BOk_of (quiet_off (by omega)) hb) (SOk_of (quiet_off (by omega)) hs) (by unfold WrkS; rw [quiet_off (by decide)]; exact hW)) ?_
          refine ex_aload_n dX11_worse_147 rfl ?_
          refine ex_iload dX11_worse_148 rfl ?_
          refine ex_iload dX11_worse_150 rfl ?_
          refine rx_cV (kd := 11) dX11_worse_152 rfl lk_X11_143 rfl (by decide) (by first | assumption | rfl) ⟨⟨rfl, rfl⟩, by decide, by decide⟩ rfl (Nat.le_of_ble_eq_true rfl) rfl s_X11_tell (Rs.k ?_)
          refine ex_iret dX11_worse_155 rfl rfl ⟨rfl, Nat.le_refl _⟩ ?_
          exact ⟨(by simp only [f_X11_worse, ↓eq_false h4, ↓eq_false h11, ↓eq_false h25, ↓eq_false h37, if_true, if_false, not_true_eq_false, not_false_eq_true]), (by simp only [f_X11_worse, ↓eq_false h4, ↓eq_false h11, ↓eq_false h25, ↓eq_false h37, if_true, if_false, not_true_eq_false, not_false_eq_true])⟩
        · skip
          refine ex_aload_n dX11_worse_40 rfl ?_
          refine ex_iconst (v := 1) dX11_worse_41 (by decide) ?_
          refine rx_cV (kd := 11) dX11_worse_42 rfl lk_X11_129 rfl (by decide) (by first | assumption | rfl) ⟨⟨rfl, rfl⟩, by decide, by decide⟩ rfl (Nat.le_of_ble_eq_true rfl) rfl (s_X11_refuse (by unfold vp_in; decide)) (Rs.k ?_)
          refine ex_iret dX11_worse_45 rfl rfl ⟨rfl, Nat.le_refl _⟩ ?_
          exact ⟨(by simp only [f_X11_worse, ↓eq_false h4, ↓eq_false h11, ↓eq_false h25, ↓eq_true h37, if_true, if_false, not_true_eq_false, not_false_eq_true]), (by simp only [f_X11_worse, ↓eq_false h4, ↓eq_false h11, ↓eq_false h25, ↓eq_true h37, if_true, if_false, not_true_eq_false, not_false_eq_true])⟩
    · skip
      refine ex_iconst (v := (-1)) dX11_worse_14 (by decide) ?_
      refine ex_iret dX11_worse_15 rfl rfl ⟨rfl, Nat.le_refl _⟩ ?_
      exact ⟨(by simp only [f_X11_worse, ↓eq_false h4, ↓eq_true h11, if_true, if_false, not_true_eq_false, not_false_eq_true]), (by simp only [f_X11_worse, ↓eq_false h4, ↓eq_true h11, if_true, if_false, not_true_eq_false, not_false_eq_true])⟩
def leN (I : Im) (b s : Nat) (c : Int32) (m i : Nat) : Int32 × Int32 × Int32 × Im :=
  match i with
  | 0 => (0, (f_X11_quietOf I b s).1, 0, (f_X11_quietOf I b s).2)
  | k + 1 => if c < (coN (leN I b s c m k).2.2.2 (nI (k + 1)) m) then (leN I b s c m k) else if (f_X11_quietWith (leN I b s c m k).2.2.2 b s (nI (k + 1))).1 < (leN I b s c m k).2.1 ∨ ((f_X11_quietWith (leN I b s c m k).2.2.2 b s (nI (k + 1))).1 = (leN I b s c m k).2.1 ∧ (coN (leN I b s c m k).2.2.2 (nI (k + 1)) m) < (leN I b s c m k).2.2.1) then ((nI (k + 1)), (f_X11_quietWith (leN I b s c m k).2.2.2 b s (nI (k + 1))).1, (coN (leN I b s c m k).2.2.2 (nI (k + 1)) m), (f_X11_quietWith (leN I b s c m k).2.2.2 b s (nI (k + 1))).2) else ((leN I b s c m k).1, (leN I b s c m k).2.1, (leN I b s c m k).2.2.1, (f_X11_quietWith (leN I b s c m k).2.2.2 b s (nI (k + 1))).2)
termination_by i
theorem leN_0 {b s m : Nat} {c : Int32} : leN I b s c m 0 = (0, (f_X11_quietOf I b s).1, 0, (f_X11_quietOf I b s).2) := by rw [leN]
theorem leN_s {b s m k : Nat} {c : Int32} : leN I b s c m (k + 1) = if c < (coN (leN I b s c m k).2.2.2 (nI (k + 1)) m) then (leN I b s c m k) else if (f_X11_quietWith (leN I b s c m k).2.2.2 b s (nI (k + 1))).1 < (leN I b s c m k).2.1 ∨ ((f_X11_quietWith (leN I b s c m k).2.2.2 b s (nI (k + 1))).1 = (leN I b s c m k).2.1 ∧ (coN (leN I b s c m k).2.2.2 (nI (k + 1)) m) < (leN I b s c m k).2.2.1) then ((nI (k + 1)), (f_X11_quietWith (leN I b s c m k).2.2.2 b s (nI (k + 1))).1, (coN (leN I b s c m k).2.2.2 (nI (k + 1)) m), (f_X11_quietWith (leN I b s c m k).2.2.2 b s (nI (k + 1))).2) else ((leN I b s c m k).1, (leN I b s c m k).2.1, (leN I b s c m k).2.2.1, (f_X11_quietWith (leN I b s c m k).2.2.2 b s (nI (k + 1))).2) := by rw [leN]
theorem leN_off {b s m e : Nat} {c : Int32} (h : e < 24 ∨ 84 < e) (h3 : e ≠ 93) (h4 : e ≠ 94) : ∀ k, (leN I b s c m k).2.2.2 e = I e := by
  intro k
  induction k with
  | zero => rw [leN_0]; exact quiet_off h
  | succ k ih =>
    rw [leN_s]
    split
    · exact ih
    · split
      · exact (qw_off h h3 h4).trans ih
      · exact (qw_off h h3 h4).trans ih
theorem allW {m : Nat} (hm : m ≤ 5) (e : I 0 16 = nI m) : f_X11_allWorks I = nI (2 ^ m - 1) := by
  unfold f_X11_allWorks
  rw [e]
  rcases (by omega : m = 0 ∨ m = 1 ∨ m = 2 ∨ m = 3 ∨ m = 4 ∨ m = 5) with rfl | rfl | rfl | rfl | rfl | rfl
  all_goals decide
set_option maxRecDepth 100000 in
set_option maxHeartbeats 4000000 in
theorem lp_least {P : Option Value → Mem → Prop} {x z c : Int32} (qk : x.toNatClampNeg < 4) (vk : vp_in x 4) (lk : Rt t 3 x.toNatClampNeg = some (124 + 2 * x.toNatClampNeg)) (qz : z.toNatClampNeg < 4) (vz : vp_in z 4) (lz : Rt t 4 z.toNatClampNeg = some (132 + 3 * z.toNatClampNeg)) (hb : BOk I (124 + 2 * x.toNatClampNeg)) (hs : SOk I (132 + 3 * z.toNatClampNeg)) {m : Nat} (hm : m ≤ 5) (hW : I 0 16 = nI m) (kont : Ex G mdX11_least 166 [some (.ref 0), some (.int x), some (.int z), some (.int c), some (.int (leN I (124 + 2 * x.toNatClampNeg) (132 + 3 * z.toNatClampNeg) c m (2 ^ m - 1)).1), some (.int (leN I (124 + 2 * x.toNatClampNeg) (132 + 3 * z.toNatClampNeg) c m (2 ^ m - 1)).2.1), some (.int (leN I (124 + 2 * x.toNatClampNeg) (132 + 3 * z.toNatClampNeg) c m (2 ^ m - 1)).2.2.1), some (.int (nI ((2 ^ m - 1) + 1))), none, none] [] (mk (leN I (124 + 2 * x.toNatClampNeg) (132 + 3 * z.toNatClampNeg) c m (2 ^ m - 1)).2.2.2 L t) 0 0 P) : Ex G mdX11_least 84 [some (.ref 0), some (.int x), some (.int z), some (.int c), some (.int (leN I (124 + 2 * x.toNatClampNeg) (132 + 3 * z.toNatClampNeg) c m 0).1), some (.int (leN I (124 + 2 * x.toNatClampNeg) (132 + 3 * z.toNatClampNeg) c m 0).2.1), some (.int (leN I (124 + 2 * x.toNatClampNeg) (132 + 3 * z.toNatClampNeg) c m 0).2.2.1), some (.int (nI (0 + 1))), none, none] [] (mk (leN I (124 + 2 * x.toNatClampNeg) (132 + 3 * z.toNatClampNeg) c m 0).2.2.2 L t) 0 0 P := by
  have h32 : 2 ^ m ≤ 2 ^ 5 := Nat.pow_le_pow_right (by decide) hm
  refine loop_up (G := G) (d := mdX11_least) (pc := 84) (st := []) (uc := 0) (us := 0) (P := P) (2 ^ m - 1) (fun k => mk (leN I (124 + 2 * x.toNatClampNeg) (132 + 3 * z.toNatClampNeg) c m k).2.2.2 L t) (fun k => [some (.ref 0), some (.int x), some (.int z), some (.int c), some (.int (leN I (124 + 2 * x.toNatClampNeg) (132 + 3 * z.toNatClampNeg) c m k).1), some (.int (leN I (124 + 2 * x.toNatClampNeg) (132 + 3 * z.toNatClampNeg) c m k).2.1), some (.int (leN I (124 + 2 * x.toNatClampNeg) (132 + 3 * z.toNatClampNeg) c m k).2.2.1), some (.int (nI (k + 1))), none, none]) ?_ ?_ 0 (Nat.zero_le _)
  · intro k hk ih
    refine ex_iload dX11_least_84 rfl ?_
    refine ex_aload_n dX11_least_86 rfl ?_
    refine rx_cV (kd := 11) dX11_least_87 rfl lk_X11_442 rfl (by decide) (by first | assumption | rfl) ⟨⟨rfl, rfl⟩, by decide, by decide⟩ rfl (Nat.le_of_ble_eq_true rfl) rfl s_X11_allWorks (Rs.k ?_)
    rw [allW hm (by rw [leN_off (by decide) (by decide) (by decide)]; exact hW)]
    refine ex_icmp_gt 166 dX11_least_90 (by decide) (fun h90 => ?_) (fun h90 => ?_)
    · exact absurd h90 (nI_nlt (by omega) (by omega))
    · skip
      refine ex_aload_n dX11_least_93 rfl ?_
      refine ex_iload dX11_least_94 rfl ?_
      refine rx_cV (kd := 11) dX11_least_96 rfl lk_X11_445 rfl (by decide) (by first | assumption | rfl) ⟨⟨rfl, rfl⟩, by decide, by decide⟩ rfl (Nat.le_of_ble_eq_true rfl) rfl (s_X11_costOf hm (by rw [leN_off (by decide) (by decide) (by decide)]; exact hW)) (Rs.k ?_)
      refine st_i8 dX11_least_99 (by first | exact rfl | exact trivial) ?_
      refine ex_iload dX11_least_101 rfl ?_
      refine ex_iload_n dX11_least_103 rfl ?_
      refine ex_icmp_gt 160 dX11_least_104 (by decide) (fun h104 => ?_) (fun h104 => ?_)
      · have hw : leN I (124 + 2 * x.toNatClampNeg) (132 + 3 * z.toNatClampNeg) c m (k + 1) = (leN I (124 + 2 * x.toNatClampNeg) (132 + 3 * z.toNatClampNeg) c m k) := leN_s.trans (if_pos h104)
        refine inc7 (v := _ + 1) dX11_least_160 (by rfl) (by first | exact rfl | exact trivial) ?_
        refine ex_goto 84 dX11_least_163 (by decide) ?_
        refine fg8 (fg9 ?_)
        rw [nI_1]
        rw [hw] at ih
        exact ih
      · skip
        refine ex_aload_n dX11_least_107 rfl ?_
        refine ex_aload_n dX11_least_108 rfl ?_
        refine g_11_2 dX11_least_109 rfl wf_X11_23 (by first | assumption | rfl) (show Rt _ 0 2 = some 3 from rfl) ?_
        refine ex_iload_n dX11_least_112 rfl ?_
        refine rx_aald dX11_least_113 (by first | assumption | rfl) (by decide) rfl (by first | assumption | (unfold vp_in; decide)) (by first | assumption | rfl) ?_
        refine ex_aload_n dX11_least_114 rfl ?_
        refine g_11_3 dX11_least_115 rfl wf_X11_29 (by first | assumption | rfl) (show Rt _ 0 3 = some 4 from rfl) ?_
        refine ex_iload_n dX11_least_118 rfl ?_
        refine rx_aald dX11_least_119 (by first | assumption | rfl) (by decide) rfl (by first | assumption | (unfold vp_in; decide)) (by first | assumption | rfl) ?_
        refine ex_iload dX11_least_120 rfl ?_
        refine rx_cV (kd := 11) dX11_least_122 rfl lk_X11_448 rfl (by decide) (by first | assumption | rfl) ⟨⟨rfl, rfl⟩, by decide, by decide⟩ rfl (Nat.le_of_ble_eq_true rfl) rfl (s_X11_quietWith (BOk_of (leN_off (by omega) (by omega) (by omega) _) hb) (by omega) (SOk_of (leN_off (by omega) (by omega) (by omega) _) hs) (by omega) (by omega) ⟨m, hm, by rw [leN_off (by decide) (by decide) (by decide)]; exact hW⟩) (Rs.k ?_)
        refine st_i9 dX11_least_125 (by first | exact rfl | exact trivial) ?_
        refine ex_iload dX11_least_127 rfl ?_
        refine ex_iload dX11_least_129 rfl ?_
        refine ex_icmp_lt 148 dX11_least_131 (by decide) (fun h131 => ?_) (fun h131 => ?_)
        · have hw : leN I (124 + 2 * x.toNatClampNeg) (132 + 3 * z.toNatClampNeg) c m (k + 1) = ((nI (k + 1)), (f_X11_quietWith (leN I (124 + 2 * x.toNatClampNeg) (132 + 3 * z.toNatClampNeg) c m k).2.2.2 (124 + 2 * x.toNatClampNeg) (132 + 3 * z.toNatClampNeg) (nI (k + 1))).1, (coN (leN I (124 + 2 * x.toNatClampNeg) (132 + 3 * z.toNatClampNeg) c m k).2.2.2 (nI (k + 1)) m), (f_X11_quietWith (leN I (124 + 2 * x.toNatClampNeg) (132 + 3 * z.toNatClampNeg) c m k).2.2.2 (124 + 2 * x.toNatClampNeg) (132 + 3 * z.toNatClampNeg) (nI (k + 1))).2) := leN_s.trans ((if_neg h104).trans (if_pos (Or.inl h131)))
          refine ex_iload dX11_least_148 rfl ?_
          refine st_i4 dX11_least_150 (by first | exact rfl | exact trivial) ?_
          refine ex_iload dX11_least_152 rfl ?_
          refine st_i5 dX11_least_154 (by first | exact rfl | exact trivial) ?_
          refine ex_iload dX11_least_156 rfl ?_
          refine st_i6 dX11_least_158 (by first | exact rfl | exact trivial) ?_
          refine inc7 (v := _ + 1) dX11_least_160 (by rfl) (by first | exact rfl | exact trivial) ?_
          refine ex_goto 84 dX11_least_163 (by decide) ?_
          refine fg8 (fg9 ?_)
          rw [nI_1]
          rw [hw] at ih
          exact ih
        · skip
          refine ex_iload dX11_least_134 rfl ?_
          refine ex_iload dX11_least_136 rfl ?_
          refine ex_icmp_ne 160 dX11_least_138 (by decide) (fun h138 => ?_) (fun h138 => ?_)
          · have hw : leN I (124 + 2 * x.toNatClampNeg) (132 + 3 * z.toNatClampNeg) c m (k + 1) = ((leN I (124 + 2 * x.toNatClampNeg) (132 + 3 * z.toNatClampNeg) c m k).1, (leN I (124 + 2 * x.toNatClampNeg) (132 + 3 * z.toNatClampNeg) c m k).2.1, (leN I (124 + 2 * x.toNatClampNeg) (132 + 3 * z.toNatClampNeg) c m k).2.2.1, (f_X11_quietWith (leN I (124 + 2 * x.toNatClampNeg) (132 + 3 * z.toNatClampNeg) c m k).2.2.2 (124 + 2 * x.toNatClampNeg) (132 + 3 * z.toNatClampNeg) (nI (k + 1))).2) := leN_s.trans ((if_neg h104).trans (if_neg (fun q => q.elim (fun y => absurd y h131) (fun y => h138 y.1))))
            refine inc7 (v := _ + 1) dX11_least_160 (by rfl) (by first | exact rfl | exact trivial) ?_
            refine ex_goto 84 dX11_least_163 (by decide) ?_
            refine fg8 (fg9 ?_)
            rw [nI_1]
            rw [hw] at ih
            exact ih
          · skip
            refine ex_iload dX11_least_141 rfl ?_
            refine ex_iload dX11_least_143 rfl ?_
            refine ex_icmp_ge 160 dX11_least_145 (by decide) (fun h145 => ?_) (fun h145 => ?_)
            · have hw : leN I (124 + 2 * x.toNatClampNeg) (132 + 3 * z.toNatClampNeg) c m (k + 1) = ((leN I (124 + 2 * x.toNatClampNeg) (132 + 3 * z.toNatClampNeg) c m k).1, (leN I (124 + 2 * x.toNatClampNeg) (132 + 3 * z.toNatClampNeg) c m k).2.1, (leN I (124 + 2 * x.toNatClampNeg) (132 + 3 * z.toNatClampNeg) c m k).2.2.1, (f_X11_quietWith (leN I (124 + 2 * x.toNatClampNeg) (132 + 3 * z.toNatClampNeg) c m k).2.2.2 (124 + 2 * x.toNatClampNeg) (132 + 3 * z.toNatClampNeg) (nI (k + 1))).2) := leN_s.trans ((if_neg h104).trans (if_neg (fun q => q.elim (fun y => absurd y h131) (fun y => absurd y.2 (Int32.not_lt.mpr h145)))))
              refine inc7 (v := _ + 1) dX11_least_160 (by rfl) (by first | exact rfl | exact trivial) ?_
              refine ex_goto 84 dX11_least_163 (by decide) ?_
              refine fg8 (fg9 ?_)
              rw [nI_1]
              rw [hw] at ih
              exact ih
            · have hw : leN I (124 + 2 * x.toNatClampNeg) (132 + 3 * z.toNatClampNeg) c m (k + 1) = ((nI (k + 1)), (f_X11_quietWith (leN I (124 + 2 * x.toNatClampNeg) (132 + 3 * z.toNatClampNeg) c m k).2.2.2 (124 + 2 * x.toNatClampNeg) (132 + 3 * z.toNatClampNeg) (nI (k + 1))).1, (coN (leN I (124 + 2 * x.toNatClampNeg) (132 + 3 * z.toNatClampNeg) c m k).2.2.2 (nI (k + 1)) m), (f_X11_quietWith (leN I (124 + 2 * x.toNatClampNeg) (132 + 3 * z.toNatClampNeg) c m k).2.2.2 (124 + 2 * x.toNatClampNeg) (132 + 3 * z.toNatClampNeg) (nI (k + 1))).2) := leN_s.trans ((if_neg h104).trans (if_pos (Or.inr ⟨h138, Int32.not_le.mp h145⟩)))
              refine ex_iload dX11_least_148 rfl ?_
              refine st_i4 dX11_least_150 (by first | exact rfl | exact trivial) ?_
              refine ex_iload dX11_least_152 rfl ?_
              refine st_i5 dX11_least_154 (by first | exact rfl | exact trivial) ?_
              refine ex_iload dX11_least_156 rfl ?_
              refine st_i6 dX11_least_158 (by first | exact rfl | exact trivial) ?_
              refine inc7 (v := _ + 1) dX11_least_160 (by rfl) (by first | exact rfl | exact trivial) ?_
              refine ex_goto 84 dX11_least_163 (by decide) ?_
              refine fg8 (fg9 ?_)
              rw [nI_1]
              rw [hw] at ih
              exact ih
  · skip
    refine ex_iload dX11_least_84 rfl ?_
    refine ex_aload_n dX11_least_86 rfl ?_
    refine rx_cV (kd := 11) dX11_least_87 rfl lk_X11_442 rfl (by decide) (by first | assumption | rfl) ⟨⟨rfl, rfl⟩, by decide, by decide⟩ rfl (Nat.le_of_ble_eq_true rfl) rfl s_X11_allWorks (Rs.k ?_)
    rw [allW hm (by rw [leN_off (by decide) (by decide) (by decide)]; exact hW)]
    refine ex_icmp_gt 166 dX11_least_90 (by decide) (fun h90 => ?_) (fun h90 => ?_)
    · skip
      exact kont
    · exact absurd (nI_lt (by omega) (by omega)) h90
theorem lp_least0 {P : Option Value → Mem → Prop} {x z c : Int32} (qk : x.toNatClampNeg < 4) (vk : vp_in x 4) (lk : Rt t 3 x.toNatClampNeg = some (124 + 2 * x.toNatClampNeg)) (qz : z.toNatClampNeg < 4) (vz : vp_in z 4) (lz : Rt t 4 z.toNatClampNeg = some (132 + 3 * z.toNatClampNeg)) (hb : BOk I (124 + 2 * x.toNatClampNeg)) (hs : SOk I (132 + 3 * z.toNatClampNeg)) (hW : WrkS I) (kont : Ex G mdX11_least 166 [some (.ref 0), some (.int x), some (.int z), some (.int c), some (.int (leN I (124 + 2 * x.toNatClampNeg) (132 + 3 * z.toNatClampNeg) c (I 0 16).toNatClampNeg (2 ^ (I 0 16).toNatClampNeg - 1)).1), some (.int (leN I (124 + 2 * x.toNatClampNeg) (132 + 3 * z.toNatClampNeg) c (I 0 16).toNatClampNeg (2 ^ (I 0 16).toNatClampNeg - 1)).2.1), none, none, none, none] [] (mk (leN I (124 + 2 * x.toNatClampNeg) (132 + 3 * z.toNatClampNeg) c (I 0 16).toNatClampNeg (2 ^ (I 0 16).toNatClampNeg - 1)).2.2.2 L t) 0 0 P) : Ex G mdX11_least 84 [some (.ref 0), some (.int x), some (.int z), some (.int c), some (.int 0), some (.int (f_X11_quietOf I (124 + 2 * x.toNatClampNeg) (132 + 3 * z.toNatClampNeg)).1), some (.int 0), some (.int 1), none, none] [] (mk (f_X11_quietOf I (124 + 2 * x.toNatClampNeg) (132 + 3 * z.toNatClampNeg)).2 L t) 0 0 P := by
  obtain ⟨m, hm, e⟩ := hW
  rw [e, nI_clamp (by omega)] at kont
  have h := lp_least (G := G) (L := L) qk vk lk qz vz lz hb hs (c := c) hm e (P := P) (fg6 (fg7 kont))
  rw [leN_0] at h
  exact h
def f_X11_least (I : Im) (k : Int32) (z : Int32) (c : Int32) : Int32 × Im :=
  if (b2i (0 ≤ k ∧ k ≤ 3)) = 0 then
    ((-1), I)
  else
    if (b2i (0 ≤ z ∧ z ≤ 3)) = 0 then
      ((-1), I)
    else
      if (b2i (0 ≤ c ∧ c ≤ 500)) = 0 then
        ((-1), I)
      else
        if (I (124 + 2 * k.toNatClampNeg) 1) = 0 then
          let I1 : Im := (f_X11_refuse I 1).2
          ((f_X11_refuse I 1).1, I1)
        else
          if (I (132 + 3 * z.toNatClampNeg) 2) = 0 then
            let I5 : Im := (f_X11_refuse I 1).2
            ((f_X11_refuse I 1).1, I5)
          else
            let I2 : Im := (f_X11_quietOf I (124 + 2 * k.toNatClampNeg) (132 + 3 * z.toNatClampNeg)).2
            let I3 : Im := (leN I (124 + 2 * k.toNatClampNeg) (132 + 3 * z.toNatClampNeg) c (I 0 16).toNatClampNeg (2 ^ (I 0 16).toNatClampNeg - 1)).2.2.2
            let I4 : Im := (f_X11_tell I3 ((leN I (124 + 2 * k.toNatClampNeg) (132 + 3 * z.toNatClampNeg) c (I 0 16).toNatClampNeg (2 ^ (I 0 16).toNatClampNeg - 1)).2.1) ((leN I (124 + 2 * k.toNatClampNeg) (132 + 3 * z.toNatClampNeg) c (I 0 16).toNatClampNeg (2 ^ (I 0 16).toNatClampNeg - 1)).1)).2
            ((f_X11_tell I3 ((leN I (124 + 2 * k.toNatClampNeg) (132 + 3 * z.toNatClampNeg) c (I 0 16).toNatClampNeg (2 ^ (I 0 16).toNatClampNeg - 1)).2.1) ((leN I (124 + 2 * k.toNatClampNeg) (132 + 3 * z.toNatClampNeg) c (I 0 16).toNatClampNeg (2 ^ (I 0 16).toNatClampNeg - 1)).1)).1, I4)
set_option maxRecDepth 100000 in
set_option maxHeartbeats 4000000 in
theorem s_X11_least  {k : Int32} {z : Int32} {c : Int32} (hHar : HarS I) (hSea : SeaS I) (hW : WrkS I) : Ca G mdX11_least [.ref 0, .int k, .int z, .int c] (mk I L t) (Rs (.int (f_X11_least I k z c).1) (mk ((f_X11_least I k z c).2) L t)) := by
  refine Ca.intro [some (.ref 0), some (.int k), some (.int z), some (.int c), none, none, none, none, none, none] (by decide) (Nat.le_of_ble_eq_true rfl) rfl rfl ?_
  refine ex_iload_n dX11_least_0 rfl ?_
  refine rx_cS dX11_least_1 rfl lk_X11_181 ⟨⟨rfl, rfl⟩, by decide, by decide⟩ rfl (Nat.le_of_ble_eq_true rfl) rfl s_X11_isHarbour (Rs.k ?_)
  refine ex_if_eq 25 dX11_least_4 (by decide) (fun h4 => ?_) (fun h4 => ?_)
  · skip
    refine ex_iconst (v := (-1)) dX11_least_25 (by decide) ?_
    refine ex_iret dX11_least_26 rfl rfl ⟨rfl, Nat.le_refl _⟩ ?_
    exact ⟨(by simp only [f_X11_least, ↓eq_true h4, if_true, if_false, not_true_eq_false, not_false_eq_true]), (by simp only [f_X11_least, ↓eq_true h4, if_true, if_false, not_true_eq_false, not_false_eq_true])⟩
  · have qk := (cl_lt (N := 4) (by decide) h4).1
    have vk := (cl_lt (N := 4) (by decide) h4).2
    have kk := ky_har qk
    have lk := ly_har (t := t) qk
    refine ex_iload_n dX11_least_7 rfl ?_
    refine rx_cS dX11_least_8 rfl lk_X11_194 ⟨⟨rfl, rfl⟩, by decide, by decide⟩ rfl (Nat.le_of_ble_eq_true rfl) rfl s_X11_isSea (Rs.k ?_)
    refine ex_if_eq 25 dX11_least_11 (by decide) (fun h11 => ?_) (fun h11 => ?_)
    · skip
      refine ex_iconst (v := (-1)) dX11_least_25 (by decide) ?_
      refine ex_iret dX11_least_26 rfl rfl ⟨rfl, Nat.le_refl _⟩ ?_
      exact ⟨(by simp only [f_X11_least, ↓eq_false h4, ↓eq_true h11, if_true, if_false, not_true_eq_false, not_false_eq_true]), (by simp only [f_X11_least, ↓eq_false h4, ↓eq_true h11, if_true, if_false, not_true_eq_false, not_false_eq_true])⟩
    · have qz := (cl_lt (N := 4) (by decide) h11).1
      have vz := (cl_lt (N := 4) (by decide) h11).2
      have kz := ky_sea qz
      have lz := ly_sea (t := t) qz
      refine ex_iload_n dX11_least_14 rfl ?_
      refine ex_iconst (v := 0) dX11_least_15 (by decide) ?_
      refine ex_sipush (v := 500) dX11_least_16 (by decide) ?_
      refine rx_cS dX11_least_19 rfl lk_X11_117 ⟨⟨rfl, rfl⟩, by decide, by decide⟩ rfl (Nat.le_of_ble_eq_true rfl) rfl s_X11_within (Rs.k ?_)
      refine ex_if_ne 27 dX11_least_22 (by decide) (fun h22 => ?_) (fun h22 => ?_)
      · skip
        refine ex_aload_n dX11_least_27 rfl ?_
        refine g_11_2 dX11_least_28 rfl wf_X11_23 (by first | assumption | rfl) (show Rt _ 0 2 = some 3 from rfl) ?_
        refine ex_iload_n dX11_least_31 rfl ?_
        refine rx_aald dX11_least_32 (by first | assumption | rfl) (by decide) rfl (by first | assumption | (unfold vp_in; decide)) (by first | assumption | rfl) ?_
        refine g_0_1 dX11_least_33 rfl wf_X11_206 (by first | assumption | rfl) ?_
        refine ex_if_eq 51 dX11_least_36 (by decide) (fun h36 => ?_) (fun h36 => ?_)
        · skip
          refine ex_aload_n dX11_least_51 rfl ?_
          refine ex_iconst (v := 1) dX11_least_52 (by decide) ?_
          refine rx_cV (kd := 11) dX11_least_53 rfl lk_X11_129 rfl (by decide) (by first | assumption | rfl) ⟨⟨rfl, rfl⟩, by decide, by decide⟩ rfl (Nat.le_of_ble_eq_true rfl) rfl (s_X11_refuse (by unfold vp_in; decide)) (Rs.k ?_)
          refine ex_iret dX11_least_56 rfl rfl ⟨rfl, Nat.le_refl _⟩ ?_
          exact ⟨(by simp only [f_X11_least, ↓eq_false h4, ↓eq_false h11, ↓eq_false h22, ↓eq_true h36, if_true, if_false, not_true_eq_false, not_false_eq_true]), (by simp only [f_X11_least, ↓eq_false h4, ↓eq_false h11, ↓eq_false h22, ↓eq_true h36, if_true, if_false, not_true_eq_false, not_false_eq_true])⟩
        · skip
          refine ex_aload_n dX11_least_39 rfl ?_
          refine g_11_3 dX11_least_40 rfl wf_X11_29 (by first | assumption | rfl) (show Rt _ 0 3 = some 4 from rfl) ?_
          refine ex_iload_n dX11_least_43 rfl ?_
          refine rx_aald dX11_least_44 (by first | assumption | rfl) (by decide) rfl (by first | assumption | (unfold vp_in; decide)) (by first | assumption | rfl) ?_
          refine g_8_2 dX11_least_45 rfl wf_X11_121 (by first | assumption | rfl) ?_
          refine ex_if_ne 57 dX11_least_48 (by decide) (fun h48 => ?_) (fun h48 => ?_)
          · have hb := BOk_h hHar qk h36
            have hs := SOk_s hSea qz
            refine ex_iconst (v := 0) dX11_least_57 (by decide) ?_
            refine st_i4 dX11_least_58 (by first | exact rfl | exact trivial) ?_
            refine ex_aload_n dX11_least_60 rfl ?_
            refine ex_aload_n dX11_least_61 rfl ?_
            refine g_11_2 dX11_least_62 rfl wf_X11_23 (by first | assumption | rfl) (show Rt _ 0 2 = some 3 from rfl) ?_
            refine ex_iload_n dX11_least_65 rfl ?_
            refine rx_aald dX11_least_66 (by first | assumption | rfl) (by decide) rfl (by first | assumption | (unfold vp_in; decide)) (by first | assumption | rfl) ?_
            refine ex_aload_n dX11_least_67 rfl ?_
            refine g_11_3 dX11_least_68 rfl wf_X11_29 (by first | assumption | rfl) (show Rt _ 0 3 = some 4 from rfl) ?_
            refine ex_iload_n dX11_least_71 rfl ?_
            refine rx_aald dX11_least_72 (by first | assumption | rfl) (by decide) rfl (by first | assumption | (unfold vp_in; decide)) (by first | assumption | rfl) ?_
            refine rx_cV (kd := 11) dX11_least_73 rfl lk_X11_374 rfl (by decide) (by first | assumption | rfl) ⟨⟨rfl, rfl⟩, by decide, by decide⟩ rfl (Nat.le_of_ble_eq_true rfl) rfl (s_X11_quietOf hb hs) (Rs.k ?_)
            refine st_i5 dX11_least_76 (by first | exact rfl | exact trivial) ?_
            refine ex_iconst (v := 0) dX11_least_78 (by decide) ?_
            refine st_i6 dX11_least_79 (by first | exact rfl | exact trivial) ?_
            refine ex_iconst (v := 1) dX11_least_81 (by decide) ?_
            refine st_i7 dX11_least_82 (by first | exact rfl | exact trivial) ?_
            refine (lp_least0 qk vk lk qz vz lz hb hs hW) ?_
            refine ex_aload_n dX11_least_166 rfl ?_
            refine ex_iload dX11_least_167 rfl ?_
            refine ex_iload dX11_least_169 rfl ?_
            refine rx_cV (kd := 11) dX11_least_171 rfl lk_X11_143 rfl (by decide) (by first | assumption | rfl) ⟨⟨rfl, rfl⟩, by decide, by decide⟩ rfl (Nat.le_of_ble_eq_true rfl) rfl s_X11_tell (Rs.k ?_)
            refine ex_iret dX11_least_174 rfl rfl ⟨rfl, Nat.le_refl _⟩ ?_
            exact ⟨(by simp only [f_X11_least, ↓eq_false h4, ↓eq_false h11, ↓eq_false h22, ↓eq_false h36, ↓eq_false h48, if_true, if_false, not_true_eq_false, not_false_eq_true]), (by simp only [f_X11_least, ↓eq_false h4, ↓eq_false h11, ↓eq_false h22, ↓eq_false h36, ↓eq_false h48, if_true, if_false, not_true_eq_false, not_false_eq_true])⟩
          · skip
            refine ex_aload_n dX11_least_51 rfl ?_
            refine ex_iconst (v := 1) dX11_least_52 (by decide) ?_
            refine rx_cV (kd := 11) dX11_least_53 rfl lk_X11_129 rfl (by decide) (by first | assumption | rfl) ⟨⟨rfl, rfl⟩, by decide, by decide⟩ rfl (Nat.le_of_ble_eq_true rfl) rfl (s_X11_refuse (by unfold vp_in; decide)) (Rs.k ?_)
            refine ex_iret dX11_least_56 rfl rfl ⟨rfl, Nat.le_refl _⟩ ?_
            exact ⟨(by simp only [f_X11_least, ↓eq_false h4, ↓eq_false h11, ↓eq_false h22, ↓eq_false h36, ↓eq_true h48, if_true, if_false, not_true_eq_false, not_false_eq_true]), (by simp only [f_X11_least, ↓eq_false h4, ↓eq_false h11, ↓eq_false h22, ↓eq_false h36, ↓eq_true h48, if_true, if_false, not_true_eq_false, not_false_eq_true])⟩
      · skip
        refine ex_iconst (v := (-1)) dX11_least_25 (by decide) ?_
        refine ex_iret dX11_least_26 rfl rfl ⟨rfl, Nat.le_refl _⟩ ?_
        exact ⟨(by simp only [f_X11_least, ↓eq_false h4, ↓eq_false h11, ↓eq_true h22, if_true, if_false, not_true_eq_false, not_false_eq_true]), (by simp only [f_X11_least, ↓eq_false h4, ↓eq_false h11, ↓eq_true h22, if_true, if_false, not_true_eq_false, not_false_eq_true])⟩
end N7
