section N5
variable {G : Gp} {I : Im} {L : Nat → Nat → Int64} {t : Nat}
def cntN (f : Nat → Int32) (i : Nat) : Nat :=
  match i with
  | 0 => 0
  | k + 1 => if f k = 0 then cntN f k else cntN f k + 1
termination_by i
theorem cntN_0 {f : Nat → Int32} : cntN f 0 = 0 := by rw [cntN]
theorem cntN_s {f : Nat → Int32} {k : Nat} : cntN f (k + 1) = if f k = 0 then cntN f k else cntN f k + 1 := by rw [cntN]
theorem cntN_le {f : Nat → Int32} : ∀ k, cntN f k ≤ k := by
  intro k
  induction k with
  | zero => rw [cntN_0]; exact Nat.le_refl 0
  | succ k ih => rw [cntN_s]; split <;> omega
set_option maxRecDepth 100000 in
set_option maxHeartbeats 4000000 in
theorem s_X11_harboursThere  : Ca G mdX11_harboursThere [.ref 0] (mk I L t) (Rs (.int (nI (cntN (fun q => I (124 + 2 * q) 1) 4))) (mk I L t)) := by
  refine Ca.intro [some (.ref 0), none, none] (by decide) (Nat.le_of_ble_eq_true rfl) rfl rfl ?_
  refine ex_iconst (v := 0) dX11_harboursThere_0 (by decide) ?_
  refine st_i1 dX11_harboursThere_1 (by first | exact rfl | exact trivial) ?_
  refine ex_iconst (v := 0) dX11_harboursThere_2 (by decide) ?_
  refine st_i2 dX11_harboursThere_3 (by first | exact rfl | exact trivial) ?_
  have key := loop_up (G := G) (d := mdX11_harboursThere) (pc := 4) (st := []) (uc := 0) (us := 0) (P := Rs (.int (nI (cntN (fun q => I (124 + 2 * q) 1) 4))) (mk I L t)) 4 (fun k => mk I L t) (fun k => [some (.ref 0), some (.int (nI (cntN (fun q => I (124 + 2 * q) 1) k))), some (.int (nI k))]) ?_ ?_ 0 (Nat.zero_le _)
  · rw [cntN_0] at key
    exact key
  · intro k hk ih
    refine ex_iload_n dX11_harboursThere_4 rfl ?_
    refine ex_iconst (v := 4) dX11_harboursThere_5 (by decide) ?_
    refine ex_icmp_ge 35 dX11_harboursThere_6 (by decide) (fun h6 => ?_) (fun h6 => ?_)
    · exact absurd h6 (nI_ge hk (by decide))
    · skip
      refine ex_iload_n dX11_harboursThere_9 rfl ?_
      refine ex_aload_n dX11_harboursThere_10 rfl ?_
      refine g_11_2 dX11_harboursThere_11 rfl wf_X11_23 (by first | assumption | rfl) (show Rt _ 0 2 = some 3 from rfl) ?_
      refine ex_iload_n dX11_harboursThere_14 rfl ?_
      refine rx_aald dX11_harboursThere_15 (by first | assumption | rfl) (by decide) rfl (vp_in_nI hk (by decide)) (by rw [nI_clamp (by omega)]; exact ly_har hk) ?_
      refine g_0_1 dX11_harboursThere_16 rfl wf_X11_206 (ky_har hk) ?_
      refine ex_if_eq 26 dX11_harboursThere_19 (by decide) (fun h19 => ?_) (fun h19 => ?_)
      · have hw : cntN (fun q => I (124 + 2 * q) 1) (k + 1) = cntN (fun q => I (124 + 2 * q) 1) k := cntN_s.trans (if_pos h19)
        refine ex_iconst (v := 0) dX11_harboursThere_26 (by decide) ?_
        refine ex_iadd dX11_harboursThere_27 ?_
        refine st_i1 dX11_harboursThere_28 (by first | exact rfl | exact trivial) ?_
        refine inc2 (v := _ + 1) dX11_harboursThere_29 (by rfl) (by first | exact rfl | exact trivial) ?_
        refine ex_goto 4 dX11_harboursThere_32 (by decide) ?_
        simp only [Int32.add_zero, nI_1]
        rw [hw] at ih
        exact ih
      · have hw : cntN (fun q => I (124 + 2 * q) 1) (k + 1) = cntN (fun q => I (124 + 2 * q) 1) k + 1 := cntN_s.trans (if_neg h19)
        refine ex_iconst (v := 1) dX11_harboursThere_22 (by decide) ?_
        refine ex_goto 27 dX11_harboursThere_23 (by decide) ?_
        refine ex_iadd dX11_harboursThere_27 ?_
        refine st_i1 dX11_harboursThere_28 (by first | exact rfl | exact trivial) ?_
        refine inc2 (v := _ + 1) dX11_harboursThere_29 (by rfl) (by first | exact rfl | exact trivial) ?_
        refine ex_goto 4 dX11_harboursThere_32 (by decide) ?_
        simp only [Int32.add_zero, nI_1]
        rw [hw] at ih
        exact ih
  · skip
    refine ex_iload_n dX11_harboursThere_4 rfl ?_
    refine ex_iconst (v := 4) dX11_harboursThere_5 (by decide) ?_
    refine ex_icmp_ge 35 dX11_harboursThere_6 (by decide) (fun h6 => ?_) (fun h6 => ?_)
    · skip
      refine ex_iload_n dX11_harboursThere_35 rfl ?_
      refine ex_iret dX11_harboursThere_36 rfl rfl ⟨rfl, Nat.le_refl _⟩ ?_
      exact ⟨rfl, rfl⟩
    · exact absurd (by decide : nI 4 ≤ nI 4) h6
set_option maxRecDepth 100000 in
set_option maxHeartbeats 4000000 in
theorem s_X11_seasThere  : Ca G mdX11_seasThere [.ref 0] (mk I L t) (Rs (.int (nI (cntN (fun q => I (132 + 3 * q) 2) 4))) (mk I L t)) := by
  refine Ca.intro [some (.ref 0), none, none] (by decide) (Nat.le_of_ble_eq_true rfl) rfl rfl ?_
  refine ex_iconst (v := 0) dX11_seasThere_0 (by decide) ?_
  refine st_i1 dX11_seasThere_1 (by first | exact rfl | exact trivial) ?_
  refine ex_iconst (v := 0) dX11_seasThere_2 (by decide) ?_
  refine st_i2 dX11_seasThere_3 (by first | exact rfl | exact trivial) ?_
  have key := loop_up (G := G) (d := mdX11_seasThere) (pc := 4) (st := []) (uc := 0) (us := 0) (P := Rs (.int (nI (cntN (fun q => I (132 + 3 * q) 2) 4))) (mk I L t)) 4 (fun k => mk I L t) (fun k => [some (.ref 0), some (.int (nI (cntN (fun q => I (132 + 3 * q) 2) k))), some (.int (nI k))]) ?_ ?_ 0 (Nat.zero_le _)
  · rw [cntN_0] at key
    exact key
  · intro k hk ih
    refine ex_iload_n dX11_seasThere_4 rfl ?_
    refine ex_iconst (v := 4) dX11_seasThere_5 (by decide) ?_
    refine ex_icmp_ge 35 dX11_seasThere_6 (by decide) (fun h6 => ?_) (fun h6 => ?_)
    · exact absurd h6 (nI_ge hk (by decide))
    · skip
      refine ex_iload_n dX11_seasThere_9 rfl ?_
      refine ex_aload_n dX11_seasThere_10 rfl ?_
      refine g_11_3 dX11_seasThere_11 rfl wf_X11_29 (by first | assumption | rfl) (show Rt _ 0 3 = some 4 from rfl) ?_
      refine ex_iload_n dX11_seasThere_14 rfl ?_
      refine rx_aald dX11_seasThere_15 (by first | assumption | rfl) (by decide) rfl (vp_in_nI hk (by decide)) (by rw [nI_clamp (by omega)]; exact ly_sea hk) ?_
      refine g_8_2 dX11_seasThere_16 rfl wf_X11_121 (ky_sea hk) ?_
      refine ex_if_eq 26 dX11_seasThere_19 (by decide) (fun h19 => ?_) (fun h19 => ?_)
      · have hw : cntN (fun q => I (132 + 3 * q) 2) (k + 1) = cntN (fun q => I (132 + 3 * q) 2) k := cntN_s.trans (if_pos h19)
        refine ex_iconst (v := 0) dX11_seasThere_26 (by decide) ?_
        refine ex_iadd dX11_seasThere_27 ?_
        refine st_i1 dX11_seasThere_28 (by first | exact rfl | exact trivial) ?_
        refine inc2 (v := _ + 1) dX11_seasThere_29 (by rfl) (by first | exact rfl | exact trivial) ?_
        refine ex_goto 4 dX11_seasThere_32 (by decide) ?_
        simp only [Int32.add_zero, nI_1]
        rw [hw] at ih
        exact ih
      · have hw : cntN (fun q => I (132 + 3 * q) 2) (k + 1) = cntN (fun q => I (132 + 3 * q) 2) k + 1 := cntN_s.trans (if_neg h19)
        refine ex_iconst (v := 1) dX11_seasThere_22 (by decide) ?_
        refine ex_goto 27 dX11_seasThere_23 (by decide) ?_
        refine ex_iadd dX11_seasThere_27 ?_
        refine st_i1 dX11_seasThere_28 (by first | exact rfl | exact trivial) ?_
        refine inc2 (v := _ + 1) dX11_seasThere_29 (by rfl) (by first | exact rfl | exact trivial) ?_
        refine ex_goto 4 dX11_seasThere_32 (by decide) ?_
        simp only [Int32.add_zero, nI_1]
        rw [hw] at ih
        exact ih
  · skip
    refine ex_iload_n dX11_seasThere_4 rfl ?_
    refine ex_iconst (v := 4) dX11_seasThere_5 (by decide) ?_
    refine ex_icmp_ge 35 dX11_seasThere_6 (by decide) (fun h6 => ?_) (fun h6 => ?_)
    · skip
      refine ex_iload_n dX11_seasThere_35 rfl ?_
      refine ex_iret dX11_seasThere_36 rfl rfl ⟨rfl, Nat.le_refl _⟩ ?_
      exact ⟨rfl, rfl⟩
    · exact absurd (by decide : nI 4 ≤ nI 4) h6
set_option maxRecDepth 100000 in
set_option maxHeartbeats 4000000 in
theorem s_X11_shipsThere  : Ca G mdX11_shipsThere [.ref 0] (mk I L t) (Rs (.int (nI (cntN (fun q => I (144 + q) 0) 3))) (mk I L t)) := by
  refine Ca.intro [some (.ref 0), none, none] (by decide) (Nat.le_of_ble_eq_true rfl) rfl rfl ?_
  refine ex_iconst (v := 0) dX11_shipsThere_0 (by decide) ?_
  refine st_i1 dX11_shipsThere_1 (by first | exact rfl | exact trivial) ?_
  refine ex_iconst (v := 0) dX11_shipsThere_2 (by decide) ?_
  refine st_i2 dX11_shipsThere_3 (by first | exact rfl | exact trivial) ?_
  have key := loop_up (G := G) (d := mdX11_shipsThere) (pc := 4) (st := []) (uc := 0) (us := 0) (P := Rs (.int (nI (cntN (fun q => I (144 + q) 0) 3))) (mk I L t)) 3 (fun k => mk I L t) (fun k => [some (.ref 0), some (.int (nI (cntN (fun q => I (144 + q) 0) k))), some (.int (nI k))]) ?_ ?_ 0 (Nat.zero_le _)
  · rw [cntN_0] at key
    exact key
  · intro k hk ih
    refine ex_iload_n dX11_shipsThere_4 rfl ?_
    refine ex_iconst (v := 3) dX11_shipsThere_5 (by decide) ?_
    refine ex_icmp_ge 35 dX11_shipsThere_6 (by decide) (fun h6 => ?_) (fun h6 => ?_)
    · exact absurd h6 (nI_ge hk (by decide))
    · skip
      refine ex_iload_n dX11_shipsThere_9 rfl ?_
      refine ex_aload_n dX11_shipsThere_10 rfl ?_
      refine g_11_4 dX11_shipsThere_11 rfl wf_X11_35 (by first | assumption | rfl) (show Rt _ 0 4 = some 5 from rfl) ?_
      refine ex_iload_n dX11_shipsThere_14 rfl ?_
      refine rx_aald dX11_shipsThere_15 (by first | assumption | rfl) (by decide) rfl (vp_in_nI hk (by decide)) (by rw [nI_clamp (by omega)]; exact ly_shp hk) ?_
      refine g_1_0 dX11_shipsThere_16 rfl wf_X11_232 (ky_shp hk) ?_
      refine ex_if_eq 26 dX11_shipsThere_19 (by decide) (fun h19 => ?_) (fun h19 => ?_)
      · have hw : cntN (fun q => I (144 + q) 0) (k + 1) = cntN (fun q => I (144 + q) 0) k := cntN_s.trans (if_pos h19)
        refine ex_iconst (v := 0) dX11_shipsThere_26 (by decide) ?_
        refine ex_iadd dX11_shipsThere_27 ?_
        refine st_i1 dX11_shipsThere_28 (by first | exact rfl | exact trivial) ?_
        refine inc2 (v := _ + 1) dX11_shipsThere_29 (by rfl) (by first | exact rfl | exact trivial) ?_
        refine ex_goto 4 dX11_shipsThere_32 (by decide) ?_
        simp only [Int32.add_zero, nI_1]
        rw [hw] at ih
        exact ih
      · have hw : cntN (fun q => I (144 + q) 0) (k + 1) = cntN (fun q => I (144 + q) 0) k + 1 := cntN_s.trans (if_neg h19)
        refine ex_iconst (v := 1) dX11_shipsThere_22 (by decide) ?_
        refine ex_goto 27 dX11_shipsThere_23 (by decide) ?_
        refine ex_iadd dX11_shipsThere_27 ?_
        refine st_i1 dX11_shipsThere_28 (by first | exact rfl | exact trivial) ?_
        refine inc2 (v := _ + 1) dX11_shipsThere_29 (by rfl) (by first | exact rfl | exact trivial) ?_
        refine ex_goto 4 dX11_shipsThere_32 (by decide) ?_
        simp only [Int32.add_zero, nI_1]
        rw [hw] at ih
        exact ih
  · skip
    refine ex_iload_n dX11_shipsThere_4 rfl ?_
    refine ex_iconst (v := 3) dX11_shipsThere_5 (by decide) ?_
    refine ex_icmp_ge 35 dX11_shipsThere_6 (by decide) (fun h6 => ?_) (fun h6 => ?_)
    · skip
      refine ex_iload_n dX11_shipsThere_35 rfl ?_
      refine ex_iret dX11_shipsThere_36 rfl rfl ⟨rfl, Nat.le_refl _⟩ ?_
      exact ⟨rfl, rfl⟩
    · exact absurd (by decide : nI 3 ≤ nI 3) h6
set_option maxRecDepth 100000 in
set_option maxHeartbeats 4000000 in
theorem s_X11_keptThere  : Ca G mdX11_keptThere [.ref 0] (mk I L t) (Rs (.int (nI (cntN (fun q => I (152 + 16 * q) 3) 3))) (mk I L t)) := by
  refine Ca.intro [some (.ref 0), none, none] (by decide) (Nat.le_of_ble_eq_true rfl) rfl rfl ?_
  refine ex_iconst (v := 0) dX11_keptThere_0 (by decide) ?_
  refine st_i1 dX11_keptThere_1 (by first | exact rfl | exact trivial) ?_
  refine ex_iconst (v := 0) dX11_keptThere_2 (by decide) ?_
  refine st_i2 dX11_keptThere_3 (by first | exact rfl | exact trivial) ?_
  have key := loop_up (G := G) (d := mdX11_keptThere) (pc := 4) (st := []) (uc := 0) (us := 0) (P := Rs (.int (nI (cntN (fun q => I (152 + 16 * q) 3) 3))) (mk I L t)) 3 (fun k => mk I L t) (fun k => [some (.ref 0), some (.int (nI (cntN (fun q => I (152 + 16 * q) 3) k))), some (.int (nI k))]) ?_ ?_ 0 (Nat.zero_le _)
  · rw [cntN_0] at key
    exact key
  · intro k hk ih
    refine ex_iload_n dX11_keptThere_4 rfl ?_
    refine ex_iconst (v := 3) dX11_keptThere_5 (by decide) ?_
    refine ex_icmp_ge 35 dX11_keptThere_6 (by decide) (fun h6 => ?_) (fun h6 => ?_)
    · exact absurd h6 (nI_ge hk (by decide))
    · skip
      refine ex_iload_n dX11_keptThere_9 rfl ?_
      refine ex_aload_n dX11_keptThere_10 rfl ?_
      refine g_11_6 dX11_keptThere_11 rfl wf_X11_47 (by first | assumption | rfl) (show Rt _ 0 6 = some 7 from rfl) ?_
      refine ex_iload_n dX11_keptThere_14 rfl ?_
      refine rx_aald dX11_keptThere_15 (by first | assumption | rfl) (by decide) rfl (vp_in_nI hk (by decide)) (by rw [nI_clamp (by omega)]; exact ly_kep hk) ?_
      refine g_5_3 dX11_keptThere_16 rfl wf_X11_250 (ky_kep hk) ?_
      refine ex_if_eq 26 dX11_keptThere_19 (by decide) (fun h19 => ?_) (fun h19 => ?_)
      · have hw : cntN (fun q => I (152 + 16 * q) 3) (k + 1) = cntN (fun q => I (152 + 16 * q) 3) k := cntN_s.trans (if_pos h19)
        refine ex_iconst (v := 0) dX11_keptThere_26 (by decide) ?_
        refine ex_iadd dX11_keptThere_27 ?_
        refine st_i1 dX11_keptThere_28 (by first | exact rfl | exact trivial) ?_
        refine inc2 (v := _ + 1) dX11_keptThere_29 (by rfl) (by first | exact rfl | exact trivial) ?_
        refine ex_goto 4 dX11_keptThere_32 (by decide) ?_
        simp only [Int32.add_zero, nI_1]
        rw [hw] at ih
        exact ih
      · have hw : cntN (fun q => I (152 + 16 * q) 3) (k + 1) = cntN (fun q => I (152 + 16 * q) 3) k + 1 := cntN_s.trans (if_neg h19)
        refine ex_iconst (v := 1) dX11_keptThere_22 (by decide) ?_
        refine ex_goto 27 dX11_keptThere_23 (by decide) ?_
        refine ex_iadd dX11_keptThere_27 ?_
        refine st_i1 dX11_keptThere_28 (by first | exact rfl | exact trivial) ?_
        refine inc2 (v := _ + 1) dX11_keptThere_29 (by rfl) (by first | exact rfl | exact trivial) ?_
        refine ex_goto 4 dX11_keptThere_32 (by decide) ?_
        simp only [Int32.add_zero, nI_1]
        rw [hw] at ih
        exact ih
  · skip
    refine ex_iload_n dX11_keptThere_4 rfl ?_
    refine ex_iconst (v := 3) dX11_keptThere_5 (by decide) ?_
    refine ex_icmp_ge 35 dX11_keptThere_6 (by decide) (fun h6 => ?_) (fun h6 => ?_)
    · skip
      refine ex_iload_n dX11_keptThere_35 rfl ?_
      refine ex_iret dX11_keptThere_36 rfl rfl ⟨rfl, Nat.le_refl _⟩ ?_
      exact ⟨rfl, rfl⟩
    · exact absurd (by decide : nI 3 ≤ nI 3) h6
set_option maxRecDepth 100000 in
set_option maxHeartbeats 4000000 in
theorem s_X11_rowsThere  : Ca G mdX11_rowsThere [.ref 0] (mk I L t) (Rs (.int (nI (cntN (fun q => I (104 + 2 * q) 2) 6))) (mk I L t)) := by
  refine Ca.intro [some (.ref 0), none, none] (by decide) (Nat.le_of_ble_eq_true rfl) rfl rfl ?_
  refine ex_iconst (v := 0) dX11_rowsThere_0 (by decide) ?_
  refine st_i1 dX11_rowsThere_1 (by first | exact rfl | exact trivial) ?_
  refine ex_iconst (v := 0) dX11_rowsThere_2 (by decide) ?_
  refine st_i2 dX11_rowsThere_3 (by first | exact rfl | exact trivial) ?_
  have key := loop_up (G := G) (d := mdX11_rowsThere) (pc := 4) (st := []) (uc := 0) (us := 0) (P := Rs (.int (nI (cntN (fun q => I (104 + 2 * q) 2) 6))) (mk I L t)) 6 (fun k => mk I L t) (fun k => [some (.ref 0), some (.int (nI (cntN (fun q => I (104 + 2 * q) 2) k))), some (.int (nI k))]) ?_ ?_ 0 (Nat.zero_le _)
  · rw [cntN_0] at key
    exact key
  · intro k hk ih
    refine ex_iload_n dX11_rowsThere_4 rfl ?_
    refine ex_bipush (v := 6) dX11_rowsThere_5 (by decide) ?_
    refine ex_icmp_ge 36 dX11_rowsThere_7 (by decide) (fun h7 => ?_) (fun h7 => ?_)
    · exact absurd h7 (nI_ge hk (by decide))
    · skip
      refine ex_iload_n dX11_rowsThere_10 rfl ?_
      refine ex_aload_n dX11_rowsThere_11 rfl ?_
      refine g_11_0 dX11_rowsThere_12 rfl wf_X11_11 (by first | assumption | rfl) (show Rt _ 0 0 = some 1 from rfl) ?_
      refine ex_iload_n dX11_rowsThere_15 rfl ?_
      refine rx_aald dX11_rowsThere_16 (by first | assumption | rfl) (by decide) rfl (vp_in_nI hk (by decide)) (by rw [nI_clamp (by omega)]; exact ly_row hk) ?_
      refine g_6_2 dX11_rowsThere_17 rfl wf_X11_136 (ky_row hk) ?_
      refine ex_if_eq 27 dX11_rowsThere_20 (by decide) (fun h20 => ?_) (fun h20 => ?_)
      · have hw : cntN (fun q => I (104 + 2 * q) 2) (k + 1) = cntN (fun q => I (104 + 2 * q) 2) k := cntN_s.trans (if_pos h20)
        refine ex_iconst (v := 0) dX11_rowsThere_27 (by decide) ?_
        refine ex_iadd dX11_rowsThere_28 ?_
        refine st_i1 dX11_rowsThere_29 (by first | exact rfl | exact trivial) ?_
        refine inc2 (v := _ + 1) dX11_rowsThere_30 (by rfl) (by first | exact rfl | exact trivial) ?_
        refine ex_goto 4 dX11_rowsThere_33 (by decide) ?_
        simp only [Int32.add_zero, nI_1]
        rw [hw] at ih
        exact ih
      · have hw : cntN (fun q => I (104 + 2 * q) 2) (k + 1) = cntN (fun q => I (104 + 2 * q) 2) k + 1 := cntN_s.trans (if_neg h20)
        refine ex_iconst (v := 1) dX11_rowsThere_23 (by decide) ?_
        refine ex_goto 28 dX11_rowsThere_24 (by decide) ?_
        refine ex_iadd dX11_rowsThere_28 ?_
        refine st_i1 dX11_rowsThere_29 (by first | exact rfl | exact trivial) ?_
        refine inc2 (v := _ + 1) dX11_rowsThere_30 (by rfl) (by first | exact rfl | exact trivial) ?_
        refine ex_goto 4 dX11_rowsThere_33 (by decide) ?_
        simp only [Int32.add_zero, nI_1]
        rw [hw] at ih
        exact ih
  · skip
    refine ex_iload_n dX11_rowsThere_4 rfl ?_
    refine ex_bipush (v := 6) dX11_rowsThere_5 (by decide) ?_
    refine ex_icmp_ge 36 dX11_rowsThere_7 (by decide) (fun h7 => ?_) (fun h7 => ?_)
    · skip
      refine ex_iload_n dX11_rowsThere_36 rfl ?_
      refine ex_iret dX11_rowsThere_37 rfl rfl ⟨rfl, Nat.le_refl _⟩ ?_
      exact ⟨rfl, rfl⟩
    · exact absurd (by decide : nI 6 ≤ nI 6) h7
set_option maxRecDepth 100000 in
set_option maxHeartbeats 4000000 in
theorem s_X11_textsThere  : Ca G mdX11_textsThere [.ref 0] (mk I L t) (Rs (.int (nI (cntN (fun q => I (116 + 2 * q) 2) 4))) (mk I L t)) := by
  refine Ca.intro [some (.ref 0), none, none] (by decide) (Nat.le_of_ble_eq_true rfl) rfl rfl ?_
  refine ex_iconst (v := 0) dX11_textsThere_0 (by decide) ?_
  refine st_i1 dX11_textsThere_1 (by first | exact rfl | exact trivial) ?_
  refine ex_iconst (v := 0) dX11_textsThere_2 (by decide) ?_
  refine st_i2 dX11_textsThere_3 (by first | exact rfl | exact trivial) ?_
  have key := loop_up (G := G) (d := mdX11_textsThere) (pc := 4) (st := []) (uc := 0) (us := 0) (P := Rs (.int (nI (cntN (fun q => I (116 + 2 * q) 2) 4))) (mk I L t)) 4 (fun k => mk I L t) (fun k => [some (.ref 0), some (.int (nI (cntN (fun q => I (116 + 2 * q) 2) k))), some (.int (nI k))]) ?_ ?_ 0 (Nat.zero_le _)
  · rw [cntN_0] at key
    exact key
  · intro k hk ih
    refine ex_iload_n dX11_textsThere_4 rfl ?_
    refine ex_iconst (v := 4) dX11_textsThere_5 (by decide) ?_
    refine ex_icmp_ge 35 dX11_textsThere_6 (by decide) (fun h6 => ?_) (fun h6 => ?_)
    · exact absurd h6 (nI_ge hk (by decide))
    · skip
      refine ex_iload_n dX11_textsThere_9 rfl ?_
      refine ex_aload_n dX11_textsThere_10 rfl ?_
      refine g_11_1 dX11_textsThere_11 rfl wf_X11_17 (by first | assumption | rfl) (show Rt _ 0 1 = some 2 from rfl) ?_
      refine ex_iload_n dX11_textsThere_14 rfl ?_
      refine rx_aald dX11_textsThere_15 (by first | assumption | rfl) (by decide) rfl (vp_in_nI hk (by decide)) (by rw [nI_clamp (by omega)]; exact ly_txt hk) ?_
      refine g_4_2 dX11_textsThere_16 rfl wf_X11_168 (ky_txt hk) ?_
      refine ex_if_eq 26 dX11_textsThere_19 (by decide) (fun h19 => ?_) (fun h19 => ?_)
      · have hw : cntN (fun q => I (116 + 2 * q) 2) (k + 1) = cntN (fun q => I (116 + 2 * q) 2) k := cntN_s.trans (if_pos h19)
        refine ex_iconst (v := 0) dX11_textsThere_26 (by decide) ?_
        refine ex_iadd dX11_textsThere_27 ?_
        refine st_i1 dX11_textsThere_28 (by first | exact rfl | exact trivial) ?_
        refine inc2 (v := _ + 1) dX11_textsThere_29 (by rfl) (by first | exact rfl | exact trivial) ?_
        refine ex_goto 4 dX11_textsThere_32 (by decide) ?_
        simp only [Int32.add_zero, nI_1]
        rw [hw] at ih
        exact ih
      · have hw : cntN (fun q => I (116 + 2 * q) 2) (k + 1) = cntN (fun q => I (116 + 2 * q) 2) k + 1 := cntN_s.trans (if_neg h19)
        refine ex_iconst (v := 1) dX11_textsThere_22 (by decide) ?_
        refine ex_goto 27 dX11_textsThere_23 (by decide) ?_
        refine ex_iadd dX11_textsThere_27 ?_
        refine st_i1 dX11_textsThere_28 (by first | exact rfl | exact trivial) ?_
        refine inc2 (v := _ + 1) dX11_textsThere_29 (by rfl) (by first | exact rfl | exact trivial) ?_
        refine ex_goto 4 dX11_textsThere_32 (by decide) ?_
        simp only [Int32.add_zero, nI_1]
        rw [hw] at ih
        exact ih
  · skip
    refine ex_iload_n dX11_textsThere_4 rfl ?_
    refine ex_iconst (v := 4) dX11_textsThere_5 (by decide) ?_
    refine ex_icmp_ge 35 dX11_textsThere_6 (by decide) (fun h6 => ?_) (fun h6 => ?_)
    · skip
      refine ex_iload_n dX11_textsThere_35 rfl ?_
      refine ex_iret dX11_textsThere_36 rfl rfl ⟨rfl, Nat.le_refl _⟩ ?_
      exact ⟨rfl, rfl⟩
    · exact absurd (by decide : nI 4 ≤ nI 4) h6
def f_X11_count (I : Im) (w : Int32) : Int32 :=
  if w = 0 then
    nI (cntN (fun q => I (124 + 2 * q) 1) 4)
  else if w = 1 then
    nI (cntN (fun q => I (132 + 3 * q) 2) 4)
  else if w = 2 then
    nI (cntN (fun q => I (144 + q) 0) 3)
  else if w = 3 then
    I 0 16
  else if w = 4 then
    if (I 8 3) = 0 then
      0
    else
      I 9 7
  else if w = 5 then
    nI (cntN (fun q => I (152 + 16 * q) 3) 3)
  else if w = 6 then
    nI (cntN (fun q => I (104 + 2 * q) 2) 6)
  else if w = 7 then
    nI (cntN (fun q => I (116 + 2 * q) 2) 4)
  else 
    (-1)
set_option maxRecDepth 100000 in
set_option maxHeartbeats 4000000 in
theorem s_X11_count  {w : Int32}  : Ca G mdX11_count [.ref 0, .int w] (mk I L t) (Rs (.int (f_X11_count I w)) (mk I L t)) := by
  refine Ca.intro [some (.ref 0), some (.int w)] (by decide) (Nat.le_of_ble_eq_true rfl) rfl rfl ?_
  refine ex_iload_n dX11_count_0 rfl ?_
  refine ex_tsw 0 7 [48, 53, 58, 63, 68, 93, 98, 103] 108 dX11_count_1 (by decide) (by decide) (by decide) (by decide) (by decide) (fun i hi hs => ?_) (fun hs => ?_)
  · rcases (by omega : i = 0 ∨ i = 1 ∨ i = 2 ∨ i = 3 ∨ i = 4 ∨ i = 5 ∨ i = 6 ∨ i = 7) with rfl | rfl | rfl | rfl | rfl | rfl | rfl | rfl
    · show Ex G _ 48 _ _ _ _ _ _
      have w1_0 := eq_true (show _ = (0 : Int32) from hs)
      refine ex_aload_n dX11_count_48 rfl ?_
      refine rx_cV (kd := 11) dX11_count_49 rfl lk_X11_478 rfl (by decide) (by first | assumption | rfl) ⟨⟨rfl, rfl⟩, by decide, by decide⟩ rfl (Nat.le_of_ble_eq_true rfl) rfl s_X11_harboursThere (Rs.k ?_)
      refine ex_iret dX11_count_52 rfl rfl ⟨rfl, Nat.le_refl _⟩ ?_
      exact ⟨(by simp only [f_X11_count, w1_0, if_true, if_false, not_true_eq_false, not_false_eq_true]), rfl⟩
    · show Ex G _ 53 _ _ _ _ _ _
      have w1_0 := eq_false (fun z : _ = (0 : Int32) => absurd (hs.symm.trans z) (by decide))
      have w1_1 := eq_true (show _ = (1 : Int32) from hs)
      refine ex_aload_n dX11_count_53 rfl ?_
      refine rx_cV (kd := 11) dX11_count_54 rfl lk_X11_481 rfl (by decide) (by first | assumption | rfl) ⟨⟨rfl, rfl⟩, by decide, by decide⟩ rfl (Nat.le_of_ble_eq_true rfl) rfl s_X11_seasThere (Rs.k ?_)
      refine ex_iret dX11_count_57 rfl rfl ⟨rfl, Nat.le_refl _⟩ ?_
      exact ⟨(by simp only [f_X11_count, w1_0, w1_1, if_true, if_false, not_true_eq_false, not_false_eq_true]), rfl⟩
    · show Ex G _ 58 _ _ _ _ _ _
      have w1_0 := eq_false (fun z : _ = (0 : Int32) => absurd (hs.symm.trans z) (by decide))
      have w1_1 := eq_false (fun z : _ = (1 : Int32) => absurd (hs.symm.trans z) (by decide))
      have w1_2 := eq_true (show _ = (2 : Int32) from hs)
      refine ex_aload_n dX11_count_58 rfl ?_
      refine rx_cV (kd := 11) dX11_count_59 rfl lk_X11_484 rfl (by decide) (by first | assumption | rfl) ⟨⟨rfl, rfl⟩, by decide, by decide⟩ rfl (Nat.le_of_ble_eq_true rfl) rfl s_X11_shipsThere (Rs.k ?_)
      refine ex_iret dX11_count_62 rfl rfl ⟨rfl, Nat.le_refl _⟩ ?_
      exact ⟨(by simp only [f_X11_count, w1_0, w1_1, w1_2, if_true, if_false, not_true_eq_false, not_false_eq_true]), rfl⟩
    · show Ex G _ 63 _ _ _ _ _ _
      have w1_0 := eq_false (fun z : _ = (0 : Int32) => absurd (hs.symm.trans z) (by decide))
      have w1_1 := eq_false (fun z : _ = (1 : Int32) => absurd (hs.symm.trans z) (by decide))
      have w1_2 := eq_false (fun z : _ = (2 : Int32) => absurd (hs.symm.trans z) (by decide))
      have w1_3 := eq_true (show _ = (3 : Int32) from hs)
      refine ex_aload_n dX11_count_63 rfl ?_
      refine g_11_16 dX11_count_64 rfl wf_X11_97 (by first | assumption | rfl) ?_
      refine ex_iret dX11_count_67 rfl rfl ⟨rfl, Nat.le_refl _⟩ ?_
      exact ⟨(by simp only [f_X11_count, w1_0, w1_1, w1_2, w1_3, if_true, if_false, not_true_eq_false, not_false_eq_true]), rfl⟩
    · show Ex G _ 68 _ _ _ _ _ _
      have w1_0 := eq_false (fun z : _ = (0 : Int32) => absurd (hs.symm.trans z) (by decide))
      have w1_1 := eq_false (fun z : _ = (1 : Int32) => absurd (hs.symm.trans z) (by decide))
      have w1_2 := eq_false (fun z : _ = (2 : Int32) => absurd (hs.symm.trans z) (by decide))
      have w1_3 := eq_false (fun z : _ = (3 : Int32) => absurd (hs.symm.trans z) (by decide))
      have w1_4 := eq_true (show _ = (4 : Int32) from hs)
      refine ex_aload_n dX11_count_68 rfl ?_
      refine g_11_7 dX11_count_69 rfl wf_X11_54 (by first | assumption | rfl) (show Rt _ 0 7 = some 8 from rfl) ?_
      refine g_5_3 dX11_count_72 rfl wf_X11_250 (by first | assumption | rfl) ?_
      refine ex_if_eq 91 dX11_count_75 (by decide) (fun h75 => ?_) (fun h75 => ?_)
      · skip
        refine ex_iconst (v := 0) dX11_count_91 (by decide) ?_
        refine ex_iret dX11_count_92 rfl rfl ⟨rfl, Nat.le_refl _⟩ ?_
        exact ⟨(by simp only [f_X11_count, w1_0, w1_1, w1_2, w1_3, w1_4, ↓eq_true h75, if_true, if_false, not_true_eq_false, not_false_eq_true]), rfl⟩
      · skip
        refine ex_aload_n dX11_count_78 rfl ?_
        refine g_11_7 dX11_count_79 rfl wf_X11_54 (by first | assumption | rfl) (show Rt _ 0 7 = some 8 from rfl) ?_
        refine g_5_0 dX11_count_82 rfl wf_X11_251 (by first | assumption | rfl) (show Rt _ 8 0 = some 9 from rfl) ?_
        refine g_9_7 dX11_count_85 rfl wf_X11_255 (by first | assumption | rfl) ?_
        refine ex_goto 92 dX11_count_88 (by decide) ?_
        refine ex_iret dX11_count_92 rfl rfl ⟨rfl, Nat.le_refl _⟩ ?_
        exact ⟨(by simp only [f_X11_count, w1_0, w1_1, w1_2, w1_3, w1_4, ↓eq_false h75, if_true, if_false, not_true_eq_false, not_false_eq_true]), rfl⟩
    · show Ex G _ 93 _ _ _ _ _ _
      have w1_0 := eq_false (fun z : _ = (0 : Int32) => absurd (hs.symm.trans z) (by decide))
      have w1_1 := eq_false (fun z : _ = (1 : Int32) => absurd (hs.symm.trans z) (by decide))
      have w1_2 := eq_false (fun z : _ = (2 : Int32) => absurd (hs.symm.trans z) (by decide))
      have w1_3 := eq_false (fun z : _ = (3 : Int32) => absurd (hs.symm.trans z) (by decide))
      have w1_4 := eq_false (fun z : _ = (4 : Int32) => absurd (hs.symm.trans z) (by decide))
      have w1_5 := eq_true (show _ = (5 : Int32) from hs)
      refine ex_aload_n dX11_count_93 rfl ?_
      refine rx_cV (kd := 11) dX11_count_94 rfl lk_X11_487 rfl (by decide) (by first | assumption | rfl) ⟨⟨rfl, rfl⟩, by decide, by decide⟩ rfl (Nat.le_of_ble_eq_true rfl) rfl s_X11_keptThere (Rs.k ?_)
      refine ex_iret dX11_count_97 rfl rfl ⟨rfl, Nat.le_refl _⟩ ?_
      exact ⟨(by simp only [f_X11_count, w1_0, w1_1, w1_2, w1_3, w1_4, w1_5, if_true, if_false, not_true_eq_false, not_false_eq_true]), rfl⟩
    · show Ex G _ 98 _ _ _ _ _ _
      have w1_0 := eq_false (fun z : _ = (0 : Int32) => absurd (hs.symm.trans z) (by decide))
      have w1_1 := eq_false (fun z : _ = (1 : Int32) => absurd (hs.symm.trans z) (by decide))
      have w1_2 := eq_false (fun z : _ = (2 : Int32) => absurd (hs.symm.trans z) (by decide))
      have w1_3 := eq_false (fun z : _ = (3 : Int32) => absurd (hs.symm.trans z) (by decide))
      have w1_4 := eq_false (fun z : _ = (4 : Int32) => absurd (hs.symm.trans z) (by decide))
      have w1_5 := eq_false (fun z : _ = (5 : Int32) => absurd (hs.symm.trans z) (by decide))
      have w1_6 := eq_true (show _ = (6 : Int32) from hs)
      refine ex_aload_n dX11_count_98 rfl ?_
      refine rx_cV (kd := 11) dX11_count_99 rfl lk_X11_490 rfl (by decide) (by first | assumption | rfl) ⟨⟨rfl, rfl⟩, by decide, by decide⟩ rfl (Nat.le_of_ble_eq_true rfl) rfl s_X11_rowsThere (Rs.k ?_)
      refine ex_iret dX11_count_102 rfl rfl ⟨rfl, Nat.le_refl _⟩ ?_
      exact ⟨(by simp only [f_X11_count, w1_0, w1_1, w1_2, w1_3, w1_4, w1_5, w1_6, if_true, if_false, not_true_eq_false, not_false_eq_true]), rfl⟩
    · show Ex G _ 103 _ _ _ _ _ _
      have w1_0 := eq_false (fun z : _ = (0 : Int32) => absurd (hs.symm.trans z) (by decide))
      have w1_1 := eq_false (fun z : _ = (1 : Int32) => absurd (hs.symm.trans z) (by decide))
      have w1_2 := eq_false (fun z : _ = (2 : Int32) => absurd (hs.symm.trans z) (by decide))
      have w1_3 := eq_false (fun z : _ = (3 : Int32) => absurd (hs.symm.trans z) (by decide))
      have w1_4 := eq_false (fun z : _ = (4 : Int32) => absurd (hs.symm.trans z) (by decide))
      have w1_5 := eq_false (fun z : _ = (5 : Int32) => absurd (hs.symm.trans z) (by decide))
      have w1_6 := eq_false (fun z : _ = (6 : Int32) => absurd (hs.symm.trans z) (by decide))
      have w1_7 := eq_true (show _ = (7 : Int32) from hs)
      refine ex_aload_n dX11_count_103 rfl ?_
      refine rx_cV (kd := 11) dX11_count_104 rfl lk_X11_493 rfl (by decide) (by first | assumption | rfl) ⟨⟨rfl, rfl⟩, by decide, by decide⟩ rfl (Nat.le_of_ble_eq_true rfl) rfl s_X11_textsThere (Rs.k ?_)
      refine ex_iret dX11_count_107 rfl rfl ⟨rfl, Nat.le_refl _⟩ ?_
      exact ⟨(by simp only [f_X11_count, w1_0, w1_1, w1_2, w1_3, w1_4, w1_5, w1_6, w1_7, if_true, if_false, not_true_eq_false, not_false_eq_true]), rfl⟩
  · skip
    have w1_0 := eq_false (show ¬ _ = (0 : Int32) from hs 0 (by decide))
    have w1_1 := eq_false (show ¬ _ = (1 : Int32) from hs 1 (by decide))
    have w1_2 := eq_false (show ¬ _ = (2 : Int32) from hs 2 (by decide))
    have w1_3 := eq_false (show ¬ _ = (3 : Int32) from hs 3 (by decide))
    have w1_4 := eq_false (show ¬ _ = (4 : Int32) from hs 4 (by decide))
    have w1_5 := eq_false (show ¬ _ = (5 : Int32) from hs 5 (by decide))
    have w1_6 := eq_false (show ¬ _ = (6 : Int32) from hs 6 (by decide))
    have w1_7 := eq_false (show ¬ _ = (7 : Int32) from hs 7 (by decide))
    refine ex_iconst (v := (-1)) dX11_count_108 (by decide) ?_
    refine ex_iret dX11_count_109 rfl rfl ⟨rfl, Nat.le_refl _⟩ ?_
    exact ⟨(by simp only [f_X11_count, w1_0, w1_1, w1_2, w1_3, w1_4, w1_5, w1_6, w1_7, if_true, if_false, not_true_eq_false, not_false_eq_true]), rfl⟩
def f_X11_allWorks (I : Im) : Int32 :=
  (1 <<< ((I 0 16) &&& 31)) - 1
set_option maxRecDepth 100000 in
set_option maxHeartbeats 4000000 in
theorem s_X11_allWorks   : Ca G mdX11_allWorks [.ref 0] (mk I L t) (Rs (.int (f_X11_allWorks I)) (mk I L t)) := by
  refine Ca.intro [some (.ref 0)] (by decide) (Nat.le_of_ble_eq_true rfl) rfl rfl ?_
  refine ex_iconst (v := 1) dX11_allWorks_0 (by decide) ?_
  refine ex_aload_n dX11_allWorks_1 rfl ?_
  refine g_11_16 dX11_allWorks_2 rfl wf_X11_97 (by first | assumption | rfl) ?_
  refine ex_ishl dX11_allWorks_5 ?_
  refine ex_iconst (v := 1) dX11_allWorks_6 (by decide) ?_
  refine ex_isub dX11_allWorks_7 ?_
  refine ex_iret dX11_allWorks_8 rfl rfl ⟨rfl, Nat.le_refl _⟩ ?_
  exact ⟨(by simp only [f_X11_allWorks, if_true, if_false, not_true_eq_false, not_false_eq_true]), rfl⟩
def WrkS (I : Im) : Prop := ∃ m, m ≤ 5 ∧ I 0 16 = nI m
def f_X11_back (I : Im) (n : Int32) : Int32 × Im :=
  if (b2i (0 ≤ n ∧ n ≤ (I 0 16))) = 0 then
    ((-1), I)
  else
    let I1 : Im := up2 I 0 16 n
    ((I 0 16) - n, I1)
set_option maxRecDepth 100000 in
set_option maxHeartbeats 4000000 in
theorem s_X11_back  {n : Int32}  : Ca G mdX11_back [.ref 0, .int n] (mk I L t) (Rs (.int (f_X11_back I n).1) (mk ((f_X11_back I n).2) L t)) := by
  refine Ca.intro [some (.ref 0), some (.int n), none] (by decide) (Nat.le_of_ble_eq_true rfl) rfl rfl ?_
  refine ex_iload_n dX11_back_0 rfl ?_
  refine ex_iconst (v := 0) dX11_back_1 (by decide) ?_
  refine ex_aload_n dX11_back_2 rfl ?_
  refine g_11_16 dX11_back_3 rfl wf_X11_97 (by first | assumption | rfl) ?_
  refine rx_cS dX11_back_6 rfl lk_X11_117 ⟨⟨rfl, rfl⟩, by decide, by decide⟩ rfl (Nat.le_of_ble_eq_true rfl) rfl s_X11_within (Rs.k ?_)
  refine ex_if_ne 14 dX11_back_9 (by decide) (fun h9 => ?_) (fun h9 => ?_)
  · skip
    refine ex_aload_n dX11_back_14 rfl ?_
    refine g_11_16 dX11_back_15 rfl wf_X11_97 (by first | assumption | rfl) ?_
    refine ex_iload_n dX11_back_18 rfl ?_
    refine ex_isub dX11_back_19 ?_
    refine st_i2 dX11_back_20 (by first | exact rfl | exact trivial) ?_
    refine ex_aload_n dX11_back_21 rfl ?_
    refine ex_iload_n dX11_back_22 rfl ?_
    refine p_11_16 dX11_back_23 rfl wf_X11_97 (by first | assumption | rfl) ?_
    refine ex_iload_n dX11_back_26 rfl ?_
    refine ex_iret dX11_back_27 rfl rfl ⟨rfl, Nat.le_refl _⟩ ?_
    exact ⟨(by simp only [f_X11_back, ↓eq_false h9, if_true, if_false, not_true_eq_false, not_false_eq_true]), (by simp only [f_X11_back, ↓eq_false h9, if_true, if_false, not_true_eq_false, not_false_eq_true])⟩
  · skip
    refine ex_iconst (v := (-1)) dX11_back_12 (by decide) ?_
    refine ex_iret dX11_back_13 rfl rfl ⟨rfl, Nat.le_refl _⟩ ?_
    exact ⟨(by simp only [f_X11_back, ↓eq_true h9, if_true, if_false, not_true_eq_false, not_false_eq_true]), (by simp only [f_X11_back, ↓eq_true h9, if_true, if_false, not_true_eq_false, not_false_eq_true])⟩
theorem wrk_q (h : WrkS I) (h5 : I 0 16 < 5) : (I 0 16).toNatClampNeg < 5 ∧ vp_in (I 0 16) 5 := by
  obtain ⟨m, hm, e⟩ := h
  rw [e] at h5 ⊢
  have : m < 5 := Nat.not_le.mp fun z => absurd h5 (nI_nlt (b := 5) z (by omega))
  rw [nI_clamp (by omega)]
  exact ⟨this, vp_in_nI this (by decide)⟩
def f_X11_work (I : Im) (s : Int32) (k : Int32) (v : Int32) (c : Int32) : Int32 × Im :=
  if (b2i (0 ≤ s ∧ s ≤ 5)) = 0 then
    ((-1), I)
  else
    if (b2i (0 ≤ k ∧ k ≤ 15)) = 0 then
      ((-1), I)
    else
      if (b2i (0 ≤ v ∧ v ≤ 9)) = 0 then
        ((-1), I)
      else
        if (b2i (0 ≤ c ∧ c ≤ 99)) = 0 then
          ((-1), I)
        else
          if (I 0 16) < 5 then
            let I1 : Im := woPlan I (147 + (I 0 16).toNatClampNeg) s k v c
            let I2 : Im := up2 I1 0 16 ((I1 0 16) + 1)
            ((I2 0 16) - 1, I2)
          else
            ((-2), I)
set_option maxRecDepth 100000 in
set_option maxHeartbeats 4000000 in
theorem s_X11_work  {s : Int32} {k : Int32} {v : Int32} {c : Int32} (hW : WrkS I) : Ca G mdX11_work [.ref 0, .int s, .int k, .int v, .int c] (mk I L t) (Rs (.int (f_X11_work I s k v c).1) (mk ((f_X11_work I s k v c).2) L t)) := by
  refine Ca.intro [some (.ref 0), some (.int s), some (.int k), some (.int v), some (.int c)] (by decide) (Nat.le_of_ble_eq_true rfl) rfl rfl ?_
  refine ex_iload_n dX11_work_0 rfl ?_
  refine ex_iconst (v := 0) dX11_work_1 (by decide) ?_
  refine ex_iconst (v := 5) dX11_work_2 (by decide) ?_
  refine rx_cS dX11_work_3 rfl lk_X11_117 ⟨⟨rfl, rfl⟩, by decide, by decide⟩ rfl (Nat.le_of_ble_eq_true rfl) rfl s_X11_within (Rs.k ?_)
  refine ex_if_eq 37 dX11_work_6 (by decide) (fun h6 => ?_) (fun h6 => ?_)
  · skip
    refine ex_iconst (v := (-1)) dX11_work_37 (by decide) ?_
    refine ex_iret dX11_work_38 rfl rfl ⟨rfl, Nat.le_refl _⟩ ?_
    exact ⟨(by simp only [f_X11_work, ↓eq_true h6, if_true, if_false, not_true_eq_false, not_false_eq_true]), (by simp only [f_X11_work, ↓eq_true h6, if_true, if_false, not_true_eq_false, not_false_eq_true])⟩
  · skip
    refine ex_iload_n dX11_work_9 rfl ?_
    refine rx_cS dX11_work_10 rfl lk_X11_225 ⟨⟨rfl, rfl⟩, by decide, by decide⟩ rfl (Nat.le_of_ble_eq_true rfl) rfl s_X11_isCell (Rs.k ?_)
    refine ex_if_eq 37 dX11_work_13 (by decide) (fun h13 => ?_) (fun h13 => ?_)
    · skip
      refine ex_iconst (v := (-1)) dX11_work_37 (by decide) ?_
      refine ex_iret dX11_work_38 rfl rfl ⟨rfl, Nat.le_refl _⟩ ?_
      exact ⟨(by simp only [f_X11_work, ↓eq_false h6, ↓eq_true h13, if_true, if_false, not_true_eq_false, not_false_eq_true]), (by simp only [f_X11_work, ↓eq_false h6, ↓eq_true h13, if_true, if_false, not_true_eq_false, not_false_eq_true])⟩
    · skip
      refine ex_iload_n dX11_work_16 rfl ?_
      refine ex_iconst (v := 0) dX11_work_17 (by decide) ?_
      refine ex_bipush (v := 9) dX11_work_18 (by decide) ?_
      refine rx_cS dX11_work_20 rfl lk_X11_117 ⟨⟨rfl, rfl⟩, by decide, by decide⟩ rfl (Nat.le_of_ble_eq_true rfl) rfl s_X11_within (Rs.k ?_)
      refine ex_if_eq 37 dX11_work_23 (by decide) (fun h23 => ?_) (fun h23 => ?_)
      · skip
        refine ex_iconst (v := (-1)) dX11_work_37 (by decide) ?_
        refine ex_iret dX11_work_38 rfl rfl ⟨rfl, Nat.le_refl _⟩ ?_
        exact ⟨(by simp only [f_X11_work, ↓eq_false h6, ↓eq_false h13, ↓eq_true h23, if_true, if_false, not_true_eq_false, not_false_eq_true]), (by simp only [f_X11_work, ↓eq_false h6, ↓eq_false h13, ↓eq_true h23, if_true, if_false, not_true_eq_false, not_false_eq_true])⟩
      · skip
        refine ex_iload dX11_work_26 rfl ?_
        refine ex_iconst (v := 0) dX11_work_28 (by decide) ?_
        refine ex_bipush (v := 99) dX11_work_29 (by decide) ?_
        refine rx_cS dX11_work_31 rfl lk_X11_117 ⟨⟨rfl, rfl⟩, by decide, by decide⟩ rfl (Nat.le_of_ble_eq_true rfl) rfl s_X11_within (Rs.k ?_)
        refine ex_if_ne 39 dX11_work_34 (by decide) (fun h34 => ?_) (fun h34 => ?_)
        · skip
          refine ex_aload_n dX11_work_39 rfl ?_
          refine g_11_16 dX11_work_40 rfl wf_X11_97 (by first | assumption | rfl) ?_
          refine ex_iconst (v := 5) dX11_work_43 (by decide) ?_
          refine ex_icmp_lt 50 dX11_work_44 (by decide) (fun h44 => ?_) (fun h44 => ?_)
          · have qw := (wrk_q hW h44).1
            have vw := (wrk_q hW h44).2
            have kw := ky_wrk qw
            have lw := ly_wrk (t := t) qw
            refine ex_aload_n dX11_work_50 rfl ?_
            refine g_11_5 dX11_work_51 rfl wf_X11_41 (by first | assumption | rfl) (show Rt _ 0 5 = some 6 from rfl) ?_
            refine ex_aload_n dX11_work_54 rfl ?_
            refine g_11_16 dX11_work_55 rfl wf_X11_97 (by first | assumption | rfl) ?_
            refine rx_aald dX11_work_58 (by first | assumption | rfl) (by decide) rfl (by first | assumption | (unfold vp_in; decide)) (by first | assumption | rfl) ?_
            refine ex_iload_n dX11_work_59 rfl ?_
            refine ex_iload_n dX11_work_60 rfl ?_
            refine ex_iload_n dX11_work_61 rfl ?_
            refine ex_iload dX11_work_62 rfl ?_
            refine rx_cV (kd := 10) dX11_work_64 rfl lk_X11_438 rfl (by decide) (by first | assumption | rfl) ⟨⟨rfl, rfl⟩, by decide, by decide⟩ rfl (Nat.le_of_ble_eq_true rfl) rfl (s_X10_plan (by assumption)) (Rv.k ?_)
            refine ex_aload_n dX11_work_67 rfl ?_
            refine ex_dup dX11_work_68 rfl ?_
            refine g_11_16 dX11_work_69 rfl wf_X11_97 (by first | assumption | rfl) ?_
            refine ex_iconst (v := 1) dX11_work_72 (by decide) ?_
            refine ex_iadd dX11_work_73 ?_
            refine p_11_16 dX11_work_74 rfl wf_X11_97 (by first | assumption | rfl) ?_
            refine ex_aload_n dX11_work_77 rfl ?_
            refine g_11_16 dX11_work_78 rfl wf_X11_97 (by first | assumption | rfl) ?_
            refine ex_iconst (v := 1) dX11_work_81 (by decide) ?_
            refine ex_isub dX11_work_82 ?_
            refine ex_iret dX11_work_83 rfl rfl ⟨rfl, Nat.le_refl _⟩ ?_
            exact ⟨(by simp only [f_X11_work, ↓eq_false h6, ↓eq_false h13, ↓eq_false h23, ↓eq_false h34, ↓h44, if_true, if_false, not_true_eq_false, not_false_eq_true]), (by simp only [f_X11_work, ↓eq_false h6, ↓eq_false h13, ↓eq_false h23, ↓eq_false h34, ↓h44, if_true, if_false, not_true_eq_false, not_false_eq_true])⟩
          · skip
            refine ex_bipush (v := (-2)) dX11_work_47 (by decide) ?_
            refine ex_iret dX11_work_49 rfl rfl ⟨rfl, Nat.le_refl _⟩ ?_
            exact ⟨(by simp only [f_X11_work, ↓eq_false h6, ↓eq_false h13, ↓eq_false h23, ↓eq_false h34, ↓h44, if_true, if_false, not_true_eq_false, not_false_eq_true]), (by simp only [f_X11_work, ↓eq_false h6, ↓eq_false h13, ↓eq_false h23, ↓eq_false h34, ↓h44, if_true, if_false, not_true_eq_false, not_false_eq_true])⟩
        · skip
          refine ex_iconst (v := (-1)) dX11_work_37 (by decide) ?_
          refine ex_iret dX11_work_38 rfl rfl ⟨rfl, Nat.le_refl _⟩ ?_
          exact ⟨(by simp only [f_X11_work, ↓eq_false h6, ↓eq_false h13, ↓eq_false h23, ↓eq_true h34, if_true, if_false, not_true_eq_false, not_false_eq_true]), (by simp only [f_X11_work, ↓eq_false h6, ↓eq_false h13, ↓eq_false h23, ↓eq_true h34, if_true, if_false, not_true_eq_false, not_false_eq_true])⟩
end N5
