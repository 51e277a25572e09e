section N11
variable {G : Gp} {I : Im} {L : Nat → Nat → Int64} {t : Nat}
def ofN (I : Im) (b s n c q p k : Nat) : Int32 × Im :=
  match k with
  | 0 => (0, waBegin I 25 b s)
  | k + 1 => ((ofN I b s n c q p k).1 + (if 0 ≤ (waPass (ofN I b s n c q p k).2 25 n c (p + 1) k - waPass (ofN I b s n c q p k).2 25 n c 31 q) then (waPass (ofN I b s n c q p k).2 25 n c (p + 1) k - waPass (ofN I b s n c q p k).2 25 n c 31 q) else 0 - (waPass (ofN I b s n c q p k).2 25 n c (p + 1) k - waPass (ofN I b s n c q p k).2 25 n c 31 q)), waPass (ofN I b s n c q p k).2 25 n c)
termination_by k
theorem ofN_0 {b s n c q p : Nat} : ofN I b s n c q p 0 = (0, waBegin I 25 b s) := by rw [ofN]
theorem ofN_s {b s n c q p k : Nat} : ofN I b s n c q p (k + 1) = ((ofN I b s n c q p k).1 + (if 0 ≤ (waPass (ofN I b s n c q p k).2 25 n c (p + 1) k - waPass (ofN I b s n c q p k).2 25 n c 31 q) then (waPass (ofN I b s n c q p k).2 25 n c (p + 1) k - waPass (ofN I b s n c q p k).2 25 n c 31 q) else 0 - (waPass (ofN I b s n c q p k).2 25 n c (p + 1) k - waPass (ofN I b s n c q p k).2 25 n c 31 q)), waPass (ofN I b s n c q p k).2 25 n c) := by rw [ofN]
theorem ofN_be {b s n c q p e : Nat} (h0 : e ≠ 25) (h6 : e ≠ 31) (h7 : e ≠ 32) (h9 : e ≠ 34) (h10 : e ≠ 35) : ∀ k, (ofN I b s n c q p k).2 e = waBegin I 25 b s e := by
  intro k
  induction k with
  | zero => rw [ofN_0]
  | succ k ih => rw [ofN_s]; exact (waPass_off h0 h6 h7 h9 h10).trans ih
theorem ofN_off {b s n c q p e : Nat} (h : e < 25 ∨ 35 < e) (k : Nat) : (ofN I b s n c q p k).2 e = I e := by
  rw [ofN_be (by omega) (by omega) (by omega) (by omega) (by omega), waBegin_off (by omega)]
theorem ofN_n {b s n c q p k : Nat} (hb : 90 < b) (h : I b 2 = nI n) : (ofN I b s n c q p k).2 26 2 = nI n := by
  rw [ofN_be (by decide) (by decide) (by decide) (by decide) (by decide)]
  exact (waBegin_bas (a := 25) (by omega) (by omega) (by omega) (by omega) 2 (by decide) (by decide)).trans h
theorem ofN_c {b s n c q p k : Nat} (hb : 90 < s) (h : I s 3 = nI c) : (ofN I b s n c q p k).2 28 3 = nI c := by
  rw [ofN_be (by decide) (by decide) (by decide) (by decide) (by decide)]
  exact (waBegin_sw (a := 25) (by omega) (by omega) (by omega)).trans h
def ofF (I : Im) (b s : Nat) (x : Int32) (p : Nat) : Int32 × Im := ofN I b s (I b 2).toNatClampNeg (I s 3).toNatClampNeg x.toNatClampNeg p (I p 1).toNatClampNeg
theorem ofF_off {b s p e : Nat} {x : Int32} (h : e < 25 ∨ 35 < e) : (ofF I b s x p).2 e = I e := ofN_off h _
set_option maxRecDepth 100000 in
set_option maxHeartbeats 4000000 in
theorem s_X11_offOf {b s p n c m : Nat} {x : Int32} (kb : K0 b = (0, 7)) (b9 : 90 < b) (zb : I b 1 = 0 ∨ I b 1 = 1) (h3 : 3 ≤ n) (hn : n ≤ 16) (en : I b 2 = nI n) (ks : K0 s = (8, 4)) (s9 : 90 < s) (zs : I s 2 = 0 ∨ I s 2 = 1) (hc : c ≤ 4) (ec : I s 3 = nI c) (vx : vp_in x 16) (kr : K0 p = (6, 3)) (kp : K0 (p + 1) = (14, 60)) (hp : 90 < p) (hm : m ≤ 60) (hsz : I p 1 = nI m) : Ca G mdX11_offOf [.ref 0, .ref b, .ref s, .int x, .ref p] (mk I L t) (Rs (.int (ofN I b s n c x.toNatClampNeg p m).1) (mk (ofN I b s n c x.toNatClampNeg p m).2 L t)) := by
  refine Ca.intro [some (.ref 0), some (.ref b), some (.ref s), some (.int x), some (.ref p), none, none, none] (by decide) (Nat.le_of_ble_eq_true rfl) rfl rfl ?_
  refine ex_aload_n dX11_offOf_0 rfl ?_
  refine g_11_8 dX11_offOf_1 rfl wf_X11_58 (by first | assumption | rfl) (show Rt _ 0 8 = some 24 from rfl) ?_
  refine g_5_0 dX11_offOf_4 rfl wf_X11_251 (by first | assumption | rfl) (layR_5_0 (by first | assumption | rfl)) ?_
  refine st_a5 dX11_offOf_7 (by first | exact rfl | exact trivial) ?_
  refine ex_aload dX11_offOf_9 rfl ?_
  refine ex_aload_n dX11_offOf_11 rfl ?_
  refine ex_aload_n dX11_offOf_12 rfl ?_
  refine rx_cV (kd := 9) dX11_offOf_13 rfl lk_X11_338 rfl (by decide) (by first | assumption | rfl) ⟨⟨rfl, rfl⟩, by decide, by decide⟩ rfl (Nat.le_of_ble_eq_true rfl) rfl (s_X9_begin (a := 25) rfl kb ks zb zs) (Rv.k ?_)
  refine ex_iconst (v := 0) dX11_offOf_16 (by decide) ?_
  refine st_i6 dX11_offOf_17 (by first | exact rfl | exact trivial) ?_
  refine ex_iconst (v := 0) dX11_offOf_19 (by decide) ?_
  refine st_i7 dX11_offOf_20 (by first | exact rfl | exact trivial) ?_
  have key := loop_up (G := G) (d := mdX11_offOf) (pc := 22) (st := []) (uc := 0) (us := 0) (P := Rs (.int (ofN I b s n c x.toNatClampNeg p m).1) (mk (ofN I b s n c x.toNatClampNeg p m).2 L t)) m (fun k => mk (ofN I b s n c x.toNatClampNeg p k).2 L t) (fun k => [some (.ref 0), some (.ref b), some (.ref s), some (.int x), some (.ref p), some (.ref 25), some (.int (ofN I b s n c x.toNatClampNeg p k).1), some (.int (nI k))]) ?_ ?_ 0 (Nat.zero_le _)
  · rw [ofN_0] at key
    exact key
  · intro k hk ih
    refine ex_iload dX11_offOf_22 rfl ?_
    refine ex_aload dX11_offOf_24 rfl ?_
    refine g_6_1 dX11_offOf_26 rfl wf_X11_157 (by first | assumption | rfl) ?_
    rw [ofN_off (by omega), hsz]
    refine ex_icmp_ge 67 dX11_offOf_29 (by decide) (fun h29 => ?_) (fun h29 => ?_)
    · exact absurd h29 (nI_ge hk (by omega))
    · skip
      refine ex_aload dX11_offOf_32 rfl ?_
      refine rx_cV (kd := 9) dX11_offOf_34 rfl lk_X11_342 rfl (by decide) (by first | assumption | rfl) ⟨⟨rfl, rfl⟩, by decide, by decide⟩ rfl (Nat.le_of_ble_eq_true rfl) rfl (s_X9_pass (a := 25) rfl h3 hn (ofN_n b9 en) (ofN_c s9 ec) hc) (Rv.k ?_)
      refine ex_iload dX11_offOf_37 rfl ?_
      refine ex_aload dX11_offOf_39 rfl ?_
      refine g_6_0 dX11_offOf_41 rfl wf_X11_140 (by first | assumption | rfl) (layR_6_0 (by first | assumption | rfl)) ?_
      refine ex_iload dX11_offOf_44 rfl ?_
      refine rx_iald dX11_offOf_46 (by first | assumption | rfl) (by first | assumption | exact vp_in_nI (by omega) (by decide)) ?_
      refine ex_aload dX11_offOf_47 rfl ?_
      refine g_9_2 dX11_offOf_49 rfl wf_X11_273 (by first | assumption | rfl) (layR_9_2 (by first | assumption | rfl)) ?_
      refine ex_iload_n dX11_offOf_52 rfl ?_
      refine rx_iald dX11_offOf_53 (by first | assumption | rfl) (by first | assumption | exact vp_in_nI (by omega) (by decide)) ?_
      refine ex_isub dX11_offOf_54 ?_
      refine ex_mabs dX11_offOf_55 rfl lk_X11_318 wj_abs wj_m wj_absc ⟨by decide, by decide⟩ ⟨by decide, by decide⟩ (Nat.le_of_ble_eq_true rfl) ?_
      refine ex_iadd dX11_offOf_58 ?_
      refine st_i6 dX11_offOf_59 (by first | exact rfl | exact trivial) ?_
      refine inc7 (v := _ + 1) dX11_offOf_61 (by rfl) (by first | exact rfl | exact trivial) ?_
      refine ex_goto 22 dX11_offOf_64 (by decide) ?_
      rw [nI_clamp (by omega), nI_1]
      rw [ofN_s] at ih
      exact ih
  · skip
    refine ex_iload dX11_offOf_22 rfl ?_
    refine ex_aload dX11_offOf_24 rfl ?_
    refine g_6_1 dX11_offOf_26 rfl wf_X11_157 (by first | assumption | rfl) ?_
    refine ex_icmp_ge 67 dX11_offOf_29 (by decide) (fun h29 => ?_) (fun h29 => ?_)
    · skip
      refine ex_iload dX11_offOf_67 rfl ?_
      refine ex_iret dX11_offOf_69 rfl rfl ⟨rfl, Nat.le_refl _⟩ ?_
      exact ⟨rfl, rfl⟩
    · exact absurd (by rw [ofN_off (by omega), hsz]; exact Int32.le_refl _) h29
def ROk (I : Im) (p : Nat) : Prop := K0 p = (6, 3) ∧ K0 (p + 1) = (14, 60) ∧ 90 < p ∧ ∃ m, m ≤ 60 ∧ I p 1 = nI m
theorem ROk_of {J : Im} {p : Nat} (e : J p = I p) (h : ROk I p) : ROk J p := by
  unfold ROk
  rw [e]
  exact h
theorem ROk_r {q : Nat} (hRow : RowS I) (h : q < 6) : ROk I (104 + 2 * q) := ⟨ky_row h, (lay6 (ky_row h)).2, by omega, hRow q h⟩
theorem s_offG {b s p : Nat} {x : Int32} (hb : BOk I b) (hs : SOk I s) (hp : ROk I p) (vx : vp_in x 16) : Ca G mdX11_offOf [.ref 0, .ref b, .ref s, .int x, .ref p] (mk I L t) (Rs (.int (ofF I b s x p).1) (mk (ofF I b s x p).2 L t)) := by
  obtain ⟨kb, b9, zb, n, h3, hn, en⟩ := hb
  obtain ⟨ks, s9, zs, c, hc, ec⟩ := hs
  obtain ⟨kr, kp, p9, m, hm, em⟩ := hp
  unfold ofF
  rw [en, ec, em, nI_clamp (show n < 2 ^ 31 by omega), nI_clamp (show c < 2 ^ 31 by omega), nI_clamp (show m < 2 ^ 31 by omega)]
  exact s_X11_offOf kb b9 zb h3 hn en ks s9 zs hc ec vx kr kp p9 hm em
theorem s_allG {p : Nat} {lo hi : Int32} (hp : ROk I p) : Ca G mdX6_allWithin [.ref p, .int lo, .int hi] (mk I L t) (Rs (.int (b2i (∀ j, j < (I p 1).toNatClampNeg → lo ≤ I (p + 1) j ∧ I (p + 1) j ≤ hi))) (mk I L t)) := by
  obtain ⟨kr, kp, p9, m, hm, em⟩ := hp
  rw [em, nI_clamp (show m < 2 ^ 31 by omega)]
  exact s_X6_allWithin kr hm em
theorem wall_b {b : Nat} {k : Int32} (hb : BOk I b) (h93 : b ≠ 93) : BOk (baWall (baTake I 93 b) 93 k) 93 := by
  obtain ⟨k1, b9, z1, n, h3, hn, e⟩ := hb
  have hw : ∀ j, j ≠ 6 → baWall (baTake I 93 b) 93 k 93 j = baTake I 93 b 93 j := by
    intro j hj
    unfold baWall
    repeat' split
    all_goals first | rfl | exact u2_j hj
  refine ⟨rfl, by decide, ?_, n, h3, hn, ?_⟩
  · rw [hw 1 (by decide), baT_f h93 (by decide) (by decide)]
    exact z1
  · rw [hw 2 (by decide), baT_f h93 (by decide) (by decide)]
    exact e
theorem wall_off {b e : Nat} {k : Int32} (h : e ≠ 93) (h1 : e ≠ 94) : baWall (baTake I 93 b) 93 k e = I e := by
  have hw : baWall (baTake I 93 b) 93 k e = baTake I 93 b e := by
    unfold baWall
    repeat' split
    all_goals first | rfl | exact up2_off h
  rw [hw, baTake_off h h1]
def f_X11_since (I : Im) (k : Int32) (z : Int32) (c : Int32) (w : Int32) (r : Int32) : Int32 × Im :=
  if (b2i (0 ≤ k ∧ k ≤ 3)) = 0 then
    ((-1), I)
  else
    if (b2i (0 ≤ z ∧ z ≤ 3)) = 0 then
      ((-1), I)
    else
      if (b2i (0 ≤ c ∧ c ≤ 15)) = 0 then
        ((-1), I)
      else
        if (b2i (0 ≤ w ∧ w ≤ 15)) = 0 then
          ((-1), I)
        else
          if (b2i (0 ≤ r ∧ r ≤ 5)) = 0 then
            ((-1), I)
          else
            if (I (124 + 2 * k.toNatClampNeg) 1) = 0 then
              let I1 : Im := (f_X11_refuse I 1).2
              ((f_X11_refuse I 1).1, I1)
            else
              if (I (132 + 3 * z.toNatClampNeg) 2) = 0 then
                let I2 : Im := (f_X11_refuse I 1).2
                ((f_X11_refuse I 1).1, I2)
              else
                if (I (104 + 2 * r.toNatClampNeg) 2) = 0 then
                  let I13 : Im := (f_X11_refuse I 1).2
                  ((f_X11_refuse I 1).1, I13)
                else
                  if 1 ≤ (I (104 + 2 * r.toNatClampNeg) 1) then
                    if (b2i (0 ≤ c ∧ c < I (124 + 2 * k.toNatClampNeg) 2 ∧ c < 16)) = 0 then
                      let I3 : Im := (f_X11_refuse I 2).2
                      ((f_X11_refuse I 2).1, I3)
                    else
                      if (b2i (0 ≤ w ∧ w < I (124 + 2 * k.toNatClampNeg) 2 - 1 ∧ w < 15)) = 0 then
                        let I11 : Im := (f_X11_refuse I 2).2
                        ((f_X11_refuse I 2).1, I11)
                      else
                        if (b2i (∀ j, j < (I (104 + 2 * r.toNatClampNeg) 1).toNatClampNeg → ((-10000)) ≤ I ((104 + 2 * r.toNatClampNeg) + 1) j ∧ I ((104 + 2 * r.toNatClampNeg) + 1) j ≤ 10000)) = 0 then
                          let I10 : Im := (f_X11_refuse I 3).2
                          ((f_X11_refuse I 3).1, I10)
                        else
                          let I4 : Im := (ofF I (124 + 2 * k.toNatClampNeg) (132 + 3 * z.toNatClampNeg) c (104 + 2 * r.toNatClampNeg)).2
                          let I5 : Im := baTake I4 93 (124 + 2 * k.toNatClampNeg)
                          let I6 : Im := baWall I5 93 w
                          let I7 : Im := (ofF I6 93 (132 + 3 * z.toNatClampNeg) c (104 + 2 * r.toNatClampNeg)).2
                          if ((ofF I (124 + 2 * k.toNatClampNeg) (132 + 3 * z.toNatClampNeg) c (104 + 2 * r.toNatClampNeg)).1) ≤ ((ofF I6 93 (132 + 3 * z.toNatClampNeg) c (104 + 2 * r.toNatClampNeg)).1) then
                            let I8 : Im := (f_X11_tell I7 (if 0 ≤ (((ofF I (124 + 2 * k.toNatClampNeg) (132 + 3 * z.toNatClampNeg) c (104 + 2 * r.toNatClampNeg)).1) - ((ofF I6 93 (132 + 3 * z.toNatClampNeg) c (104 + 2 * r.toNatClampNeg)).1)) then (((ofF I (124 + 2 * k.toNatClampNeg) (132 + 3 * z.toNatClampNeg) c (104 + 2 * r.toNatClampNeg)).1) - ((ofF I6 93 (132 + 3 * z.toNatClampNeg) c (104 + 2 * r.toNatClampNeg)).1)) else 0 - (((ofF I (124 + 2 * k.toNatClampNeg) (132 + 3 * z.toNatClampNeg) c (104 + 2 * r.toNatClampNeg)).1) - ((ofF I6 93 (132 + 3 * z.toNatClampNeg) c (104 + 2 * r.toNatClampNeg)).1))) 0).2
                            ((f_X11_tell I7 (if 0 ≤ (((ofF I (124 + 2 * k.toNatClampNeg) (132 + 3 * z.toNatClampNeg) c (104 + 2 * r.toNatClampNeg)).1) - ((ofF I6 93 (132 + 3 * z.toNatClampNeg) c (104 + 2 * r.toNatClampNeg)).1)) then (((ofF I (124 + 2 * k.toNatClampNeg) (132 + 3 * z.toNatClampNeg) c (104 + 2 * r.toNatClampNeg)).1) - ((ofF I6 93 (132 + 3 * z.toNatClampNeg) c (104 + 2 * r.toNatClampNeg)).1)) else 0 - (((ofF I (124 + 2 * k.toNatClampNeg) (132 + 3 * z.toNatClampNeg) c (104 + 2 * r.toNatClampNeg)).1) - ((ofF I6 93 (132 + 3 * z.toNatClampNeg) c (104 + 2 * r.toNatClampNeg)).1))) 0).1, I8)
                          else
                            let I9 : Im := (f_X11_tell I7 (if 0 ≤ (((ofF I (124 + 2 * k.toNatClampNeg) (132 + 3 * z.toNatClampNeg) c (104 + 2 * r.toNatClampNeg)).1) - ((ofF I6 93 (132 + 3 * z.toNatClampNeg) c (104 + 2 * r.toNatClampNeg)).1)) then (((ofF I (124 + 2 * k.toNatClampNeg) (132 + 3 * z.toNatClampNeg) c (104 + 2 * r.toNatClampNeg)).1) - ((ofF I6 93 (132 + 3 * z.toNatClampNeg) c (104 + 2 * r.toNatClampNeg)).1)) else 0 - (((ofF I (124 + 2 * k.toNatClampNeg) (132 + 3 * z.toNatClampNeg) c (104 + 2 * r.toNatClampNeg)).1) - ((ofF I6 93 (132 + 3 * z.toNatClampNeg) c (104 + 2 * r.toNatClampNeg)).1))) 1).2
                            ((f_X11_tell I7 (if 0 ≤ (((ofF I (124 + 2 * k.toNatClampNeg) (132 + 3 * z.toNatClampNeg) c (104 + 2 * r.toNatClampNeg)).1) - ((ofF I6 93 (132 + 3 * z.toNatClampNeg) c (104 + 2 * r.toNatClampNeg)).1)) then (((ofF I (124 + 2 * k.toNatClampNeg) (132 + 3 * z.toNatClampNeg) c (104 + 2 * r.toNatClampNeg)).1) - ((ofF I6 93 (132 + 3 * z.toNatClampNeg) c (104 + 2 * r.toNatClampNeg)).1)) else 0 - (((ofF I (124 + 2 * k.toNatClampNeg) (132 + 3 * z.toNatClampNeg) c (104 + 2 * r.toNatClampNeg)).1) - ((ofF I6 93 (132 + 3 * z.toNatClampNeg) c (104 + 2 * r.toNatClampNeg)).1))) 1).1, I9)
                  else
                    let I12 : Im := (f_X11_refuse I 5).2
                    ((f_X11_refuse I 5).1, I12)
set_option maxRecDepth 100000 in
set_option maxHeartbeats 4000000 in
theorem s_X11_since  {k : Int32} {z : Int32} {c : Int32} {w : Int32} {r : Int32} (hHar : HarS I) (hSea : SeaS I) (hRow : RowS I) : Ca G mdX11_since [.ref 0, .int k, .int z, .int c, .int w, .int r] (mk I L t) (Rs (.int (f_X11_since I k z c w r).1) (mk ((f_X11_since I k z c w r).2) L t)) := by
  refine Ca.intro [some (.ref 0), some (.int k), some (.int z), some (.int c), some (.int w), some (.int r), none, none] (by decide) (Nat.le_of_ble_eq_true rfl) rfl rfl ?_
  refine ex_iload_n dX11_since_0 rfl ?_
  refine rx_cS dX11_since_1 rfl lk_X11_181 ⟨⟨rfl, rfl⟩, by decide, by decide⟩ rfl (Nat.le_of_ble_eq_true rfl) rfl s_X11_isHarbour (Rs.k ?_)
  refine ex_if_eq 37 dX11_since_4 (by decide) (fun h4 => ?_) (fun h4 => ?_)
  · skip
    refine ex_iconst (v := (-1)) dX11_since_37 (by decide) ?_
    refine ex_iret dX11_since_38 rfl rfl ⟨rfl, Nat.le_refl _⟩ ?_
    exact ⟨(by simp only [f_X11_since, ↓eq_true h4, if_true, if_false, not_true_eq_false, not_false_eq_true]), (by simp only [f_X11_since, ↓eq_true h4, if_true, if_false, not_true_eq_false, not_false_eq_true])⟩
  · have qk := (cl_lt (N := 4) (by decide) h4).1
    have vk := (cl_lt (N := 4) (by decide) h4).2
    have kk := ky_har qk
    have lk := ly_har (t := t) qk
    refine ex_iload_n dX11_since_7 rfl ?_
    refine rx_cS dX11_since_8 rfl lk_X11_194 ⟨⟨rfl, rfl⟩, by decide, by decide⟩ rfl (Nat.le_of_ble_eq_true rfl) rfl s_X11_isSea (Rs.k ?_)
    refine ex_if_eq 37 dX11_since_11 (by decide) (fun h11 => ?_) (fun h11 => ?_)
    · skip
      refine ex_iconst (v := (-1)) dX11_since_37 (by decide) ?_
      refine ex_iret dX11_since_38 rfl rfl ⟨rfl, Nat.le_refl _⟩ ?_
      exact ⟨(by simp only [f_X11_since, ↓eq_false h4, ↓eq_true h11, if_true, if_false, not_true_eq_false, not_false_eq_true]), (by simp only [f_X11_since, ↓eq_false h4, ↓eq_true h11, if_true, if_false, not_true_eq_false, not_false_eq_true])⟩
    · have qz := (cl_lt (N := 4) (by decide) h11).1
      have vz := (cl_lt (N := 4) (by decide) h11).2
      have kz := ky_sea qz
      have lz := ly_sea (t := t) qz
      refine ex_iload_n dX11_since_14 rfl ?_
      refine rx_cS dX11_since_15 rfl lk_X11_225 ⟨⟨rfl, rfl⟩, by decide, by decide⟩ rfl (Nat.le_of_ble_eq_true rfl) rfl s_X11_isCell (Rs.k ?_)
      refine ex_if_eq 37 dX11_since_18 (by decide) (fun h18 => ?_) (fun h18 => ?_)
      · skip
        refine ex_iconst (v := (-1)) dX11_since_37 (by decide) ?_
        refine ex_iret dX11_since_38 rfl rfl ⟨rfl, Nat.le_refl _⟩ ?_
        exact ⟨(by simp only [f_X11_since, ↓eq_false h4, ↓eq_false h11, ↓eq_true h18, if_true, if_false, not_true_eq_false, not_false_eq_true]), (by simp only [f_X11_since, ↓eq_false h4, ↓eq_false h11, ↓eq_true h18, if_true, if_false, not_true_eq_false, not_false_eq_true])⟩
      · have qc := (cl_lt (N := 16) (by decide) h18).1
        have vc := (cl_lt (N := 16) (by decide) h18).2
        refine ex_iload dX11_since_21 rfl ?_
        refine rx_cS dX11_since_23 rfl lk_X11_225 ⟨⟨rfl, rfl⟩, by decide, by decide⟩ rfl (Nat.le_of_ble_eq_true rfl) rfl s_X11_isCell (Rs.k ?_)
        refine ex_if_eq 37 dX11_since_26 (by decide) (fun h26 => ?_) (fun h26 => ?_)
        · skip
          refine ex_iconst (v := (-1)) dX11_since_37 (by decide) ?_
          refine ex_iret dX11_since_38 rfl rfl ⟨rfl, Nat.le_refl _⟩ ?_
          exact ⟨(by simp only [f_X11_since, ↓eq_false h4, ↓eq_false h11, ↓eq_false h18, ↓eq_true h26, if_true, if_false, not_true_eq_false, not_false_eq_true]), (by simp only [f_X11_since, ↓eq_false h4, ↓eq_false h11, ↓eq_false h18, ↓eq_true h26, if_true, if_false, not_true_eq_false, not_false_eq_true])⟩
        · skip
          refine ex_iload dX11_since_29 rfl ?_
          refine rx_cS dX11_since_31 rfl lk_X11_125 ⟨⟨rfl, rfl⟩, by decide, by decide⟩ rfl (Nat.le_of_ble_eq_true rfl) rfl s_X11_isRow (Rs.k ?_)
          refine ex_if_ne 39 dX11_since_34 (by decide) (fun h34 => ?_) (fun h34 => ?_)
          · have qr := (cl_lt (N := 6) (by decide) h34).1
            have vr := (cl_lt (N := 6) (by decide) h34).2
            have kr := ky_row qr
            have lr := ly_row (t := t) qr
            refine ex_aload_n dX11_since_39 rfl ?_
            refine g_11_2 dX11_since_40 rfl wf_X11_23 (by first | assumption | rfl) (show Rt _ 0 2 = some 3 from rfl) ?_
            refine ex_iload_n dX11_since_43 rfl ?_
            refine rx_aald dX11_since_44 (by first | assumption | rfl) (by decide) rfl (by first | assumption | (unfold vp_in; decide)) (by first | assumption | rfl) ?_
            refine g_0_1 dX11_since_45 rfl wf_X11_206 (by first | assumption | rfl) ?_
            refine ex_if_eq 76 dX11_since_48 (by decide) (fun h48 => ?_) (fun h48 => ?_)
            · skip
              refine ex_aload_n dX11_since_76 rfl ?_
              refine ex_iconst (v := 1) dX11_since_77 (by decide) ?_
              refine rx_cV (kd := 11) dX11_since_78 rfl lk_X11_129 rfl (by decide) (by first | assumption | rfl) ⟨⟨rfl, rfl⟩, by decide, by decide⟩ rfl (Nat.le_of_ble_eq_true rfl) rfl (s_X11_refuse (by unfold vp_in; decide)) (Rs.k ?_)
              refine ex_iret dX11_since_81 rfl rfl ⟨rfl, Nat.le_refl _⟩ ?_
              exact ⟨(by simp only [f_X11_since, ↓eq_false h4, ↓eq_false h11, ↓eq_false h18, ↓eq_false h26, ↓eq_false h34, ↓eq_true h48, if_true, if_false, not_true_eq_false, not_false_eq_true]), (by simp only [f_X11_since, ↓eq_false h4, ↓eq_false h11, ↓eq_false h18, ↓eq_false h26, ↓eq_false h34, ↓eq_true h48, if_true, if_false, not_true_eq_false, not_false_eq_true])⟩
            · skip
              refine ex_aload_n dX11_since_51 rfl ?_
              refine g_11_3 dX11_since_52 rfl wf_X11_29 (by first | assumption | rfl) (show Rt _ 0 3 = some 4 from rfl) ?_
              refine ex_iload_n dX11_since_55 rfl ?_
              refine rx_aald dX11_since_56 (by first | assumption | rfl) (by decide) rfl (by first | assumption | (unfold vp_in; decide)) (by first | assumption | rfl) ?_
              refine g_8_2 dX11_since_57 rfl wf_X11_121 (by first | assumption | rfl) ?_
              refine ex_if_eq 76 dX11_since_60 (by decide) (fun h60 => ?_) (fun h60 => ?_)
              · skip
                refine ex_aload_n dX11_since_76 rfl ?_
                refine ex_iconst (v := 1) dX11_since_77 (by decide) ?_
                refine rx_cV (kd := 11) dX11_since_78 rfl lk_X11_129 rfl (by decide) (by first | assumption | rfl) ⟨⟨rfl, rfl⟩, by decide, by decide⟩ rfl (Nat.le_of_ble_eq_true rfl) rfl (s_X11_refuse (by unfold vp_in; decide)) (Rs.k ?_)
                refine ex_iret dX11_since_81 rfl rfl ⟨rfl, Nat.le_refl _⟩ ?_
                exact ⟨(by simp only [f_X11_since, ↓eq_false h4, ↓eq_false h11, ↓eq_false h18, ↓eq_false h26, ↓eq_false h34, ↓eq_false h48, ↓eq_true h60, if_true, if_false, not_true_eq_false, not_false_eq_true]), (by simp only [f_X11_since, ↓eq_false h4, ↓eq_false h11, ↓eq_false h18, ↓eq_false h26, ↓eq_false h34, ↓eq_false h48, ↓eq_true h60, if_true, if_false, not_true_eq_false, not_false_eq_true])⟩
              · skip
                refine ex_aload_n dX11_since_63 rfl ?_
                refine g_11_0 dX11_since_64 rfl wf_X11_11 (by first | assumption | rfl) (show Rt _ 0 0 = some 1 from rfl) ?_
                refine ex_iload dX11_since_67 rfl ?_
                refine rx_aald dX11_since_69 (by first | assumption | rfl) (by decide) rfl (by first | assumption | (unfold vp_in; decide)) (by first | assumption | rfl) ?_
                refine g_6_2 dX11_since_70 rfl wf_X11_136 (by first | assumption | rfl) ?_
                refine ex_if_ne 82 dX11_since_73 (by decide) (fun h73 => ?_) (fun h73 => ?_)
                · have hb := BOk_h hHar qk h48
                  have hs := SOk_s hSea qz
                  have hr := ROk_r hRow qr
                  refine ex_aload_n dX11_since_82 rfl ?_
                  refine g_11_0 dX11_since_83 rfl wf_X11_11 (by first | assumption | rfl) (show Rt _ 0 0 = some 1 from rfl) ?_
                  refine ex_iload dX11_since_86 rfl ?_
                  refine rx_aald dX11_since_88 (by first | assumption | rfl) (by decide) rfl (by first | assumption | (unfold vp_in; decide)) (by first | assumption | rfl) ?_
                  refine g_6_1 dX11_since_89 rfl wf_X11_157 (by first | assumption | rfl) ?_
                  refine ex_iconst (v := 1) dX11_since_92 (by decide) ?_
                  refine ex_icmp_ge 102 dX11_since_93 (by decide) (fun h93 => ?_) (fun h93 => ?_)
                  · skip
                    refine ex_aload_n dX11_since_102 rfl ?_
                    refine g_11_2 dX11_since_103 rfl wf_X11_23 (by first | assumption | rfl) (show Rt _ 0 2 = some 3 from rfl) ?_
                    refine ex_iload_n dX11_since_106 rfl ?_
                    refine rx_aald dX11_since_107 (by first | assumption | rfl) (by decide) rfl (by first | assumption | (unfold vp_in; decide)) (by first | assumption | rfl) ?_
                    refine ex_iload_n dX11_since_108 rfl ?_
                    refine rx_cV (kd := 0) dX11_since_109 rfl lk_X11_207 rfl (by decide) (by first | assumption | rfl) ⟨⟨rfl, rfl⟩, by decide, by decide⟩ rfl (Nat.le_of_ble_eq_true rfl) rfl (s_X0_hasCell kk) (Rs.k ?_)
                    refine ex_if_eq 129 dX11_since_112 (by decide) (fun h112 => ?_) (fun h112 => ?_)
                    · skip
                      refine ex_aload_n dX11_since_129 rfl ?_
                      refine ex_iconst (v := 2) dX11_since_130 (by decide) ?_
                      refine rx_cV (kd := 11) dX11_since_131 rfl lk_X11_129 rfl (by decide) (by first | assumption | rfl) ⟨⟨rfl, rfl⟩, by decide, by decide⟩ rfl (Nat.le_of_ble_eq_true rfl) rfl (s_X11_refuse (by unfold vp_in; decide)) (Rs.k ?_)
                      refine ex_iret dX11_since_134 rfl rfl ⟨rfl, Nat.le_refl _⟩ ?_
                      exact ⟨(by simp only [f_X11_since, ↓eq_false h4, ↓eq_false h11, ↓eq_false h18, ↓eq_false h26, ↓eq_false h34, ↓eq_false h48, ↓eq_false h60, ↓eq_false h73, ↓h93, ↓eq_true h112, if_true, if_false, not_true_eq_false, not_false_eq_true]), (by simp only [f_X11_since, ↓eq_false h4, ↓eq_false h11, ↓eq_false h18, ↓eq_false h26, ↓eq_false h34, ↓eq_false h48, ↓eq_false h60, ↓eq_false h73, ↓h93, ↓eq_true h112, if_true, if_false, not_true_eq_false, not_false_eq_true])⟩
                    · skip
                      refine ex_aload_n dX11_since_115 rfl ?_
                      refine g_11_2 dX11_since_116 rfl wf_X11_23 (by first | assumption | rfl) (show Rt _ 0 2 = some 3 from rfl) ?_
                      refine ex_iload_n dX11_since_119 rfl ?_
                      refine rx_aald dX11_since_120 (by first | assumption | rfl) (by decide) rfl (by first | assumption | (unfold vp_in; decide)) (by first | assumption | rfl) ?_
                      refine ex_iload dX11_since_121 rfl ?_
                      refine rx_cV (kd := 0) dX11_since_123 rfl lk_X11_452 rfl (by decide) (by first | assumption | rfl) ⟨⟨rfl, rfl⟩, by decide, by decide⟩ rfl (Nat.le_of_ble_eq_true rfl) rfl (s_X0_hasWallPlace kk) (Rs.k ?_)
                      refine ex_if_ne 135 dX11_since_126 (by decide) (fun h126 => ?_) (fun h126 => ?_)
                      · skip
                        refine ex_aload_n dX11_since_135 rfl ?_
                        refine g_11_0 dX11_since_136 rfl wf_X11_11 (by first | assumption | rfl) (show Rt _ 0 0 = some 1 from rfl) ?_
                        refine ex_iload dX11_since_139 rfl ?_
                        refine rx_aald dX11_since_141 (by first | assumption | rfl) (by decide) rfl (by first | assumption | (unfold vp_in; decide)) (by first | assumption | rfl) ?_
                        refine ex_sipush (v := (-10000)) dX11_since_142 (by decide) ?_
                        refine ex_sipush (v := 10000) dX11_since_145 (by decide) ?_
                        refine rx_cV (kd := 6) dX11_since_148 rfl lk_X11_455 rfl (by decide) (by first | assumption | rfl) ⟨⟨rfl, rfl⟩, by decide, by decide⟩ rfl (Nat.le_of_ble_eq_true rfl) rfl (s_allG hr) (Rs.k ?_)
                        refine ex_if_ne 160 dX11_since_151 (by decide) (fun h151 => ?_) (fun h151 => ?_)
                        · skip
                          refine ex_aload_n dX11_since_160 rfl ?_
                          refine ex_aload_n dX11_since_161 rfl ?_
                          refine g_11_2 dX11_since_162 rfl wf_X11_23 (by first | assumption | rfl) (show Rt _ 0 2 = some 3 from rfl) ?_
                          refine ex_iload_n dX11_since_165 rfl ?_
                          refine rx_aald dX11_since_166 (by first | assumption | rfl) (by decide) rfl (by first | assumption | (unfold vp_in; decide)) (by first | assumption | rfl) ?_
                          refine ex_aload_n dX11_since_167 rfl ?_
                          refine g_11_3 dX11_since_168 rfl wf_X11_29 (by first | assumption | rfl) (show Rt _ 0 3 = some 4 from rfl) ?_
                          refine ex_iload_n dX11_since_171 rfl ?_
                          refine rx_aald dX11_since_172 (by first | assumption | rfl) (by decide) rfl (by first | assumption | (unfold vp_in; decide)) (by first | assumption | rfl) ?_
                          refine ex_iload_n dX11_since_173 rfl ?_
                          refine ex_aload_n dX11_since_174 rfl ?_
                          refine g_11_0 dX11_since_175 rfl wf_X11_11 (by first | assumption | rfl) (show Rt _ 0 0 = some 1 from rfl) ?_
                          refine ex_iload dX11_since_178 rfl ?_
                          refine rx_aald dX11_since_180 (by first | assumption | rfl) (by decide) rfl (by first | assumption | (unfold vp_in; decide)) (by first | assumption | rfl) ?_
                          refine rx_cV (kd := 11) dX11_since_181 rfl lk_X11_458 rfl (by decide) (by first | assumption | rfl) ⟨⟨rfl, rfl⟩, by decide, by decide⟩ rfl (Nat.le_of_ble_eq_true rfl) rfl (s_offG hb hs hr vc) (Rs.k ?_)
                          refine st_i6 dX11_since_184 (by first | exact rfl | exact trivial) ?_
                          refine ex_aload_n dX11_since_186 rfl ?_
                          refine g_11_10 dX11_since_187 rfl wf_X11_69 (by first | assumption | rfl) (show Rt _ 0 10 = some 93 from rfl) ?_
                          refine ex_aload_n dX11_since_190 rfl ?_
                          refine g_11_2 dX11_since_191 rfl wf_X11_23 (by first | assumption | rfl) (show Rt _ 0 2 = some 3 from rfl) ?_
                          refine ex_iload_n dX11_since_194 rfl ?_
                          refine rx_aald dX11_since_195 (by first | assumption | rfl) (by decide) rfl (by first | assumption | (unfold vp_in; decide)) (by first | assumption | rfl) ?_
                          refine rx_cV (kd := 0) dX11_since_196 rfl lk_X11_187 rfl (by decide) (by first | assumption | rfl) ⟨⟨rfl, rfl⟩, by decide, by decide⟩ rfl (Nat.le_of_ble_eq_true rfl) rfl (s_X0_take (a := 93) rfl kk (by rw [ofF_off (by omega)]; exact hb.2.2.1)) (Rv.k ?_)
                          refine ex_aload_n dX11_since_199 rfl ?_
                          refine g_11_10 dX11_since_200 rfl wf_X11_69 (by first | assumption | rfl) (show Rt _ 0 10 = some 93 from rfl) ?_
                          refine ex_iload dX11_since_203 rfl ?_
                          refine rx_cV (kd := 0) dX11_since_205 rfl lk_X11_462 rfl (by decide) (by first | assumption | rfl) ⟨⟨rfl, rfl⟩, by decide, by decide⟩ rfl (Nat.le_of_ble_eq_true rfl) rfl (s_X0_raiseWall (a := 93) rfl) (Rv.k ?_)
                          refine ex_aload_n dX11_since_208 rfl ?_
                          refine ex_aload_n dX11_since_209 rfl ?_
                          refine g_11_10 dX11_since_210 rfl wf_X11_69 (by first | assumption | rfl) (show Rt _ 0 10 = some 93 from rfl) ?_
                          refine ex_aload_n dX11_since_213 rfl ?_
                          refine g_11_3 dX11_since_214 rfl wf_X11_29 (by first | assumption | rfl) (show Rt _ 0 3 = some 4 from rfl) ?_
                          refine ex_iload_n dX11_since_217 rfl ?_
                          refine rx_aald dX11_since_218 (by first | assumption | rfl) (by decide) rfl (by first | assumption | (unfold vp_in; decide)) (by first | assumption | rfl) ?_
                          refine ex_iload_n dX11_since_219 rfl ?_
                          refine ex_aload_n dX11_since_220 rfl ?_
                          refine g_11_0 dX11_since_221 rfl wf_X11_11 (by first | assumption | rfl) (show Rt _ 0 0 = some 1 from rfl) ?_
                          refine ex_iload dX11_since_224 rfl ?_
                          refine rx_aald dX11_since_226 (by first | assumption | rfl) (by decide) rfl (by first | assumption | (unfold vp_in; decide)) (by first | assumption | rfl) ?_
                          refine rx_cV (kd := 11) dX11_since_227 rfl lk_X11_458 rfl (by decide) (by first | assumption | rfl) ⟨⟨rfl, rfl⟩, by decide, by decide⟩ rfl (Nat.le_of_ble_eq_true rfl) rfl (s_offG (wall_b (BOk_of (ofF_off (by omega)) hb) (by omega)) (SOk_of (by rw [wall_off (by omega) (by omega), ofF_off (by omega)]) hs) (ROk_of (by rw [wall_off (by omega) (by omega), ofF_off (by omega)]) hr) vc) (Rs.k ?_)
                          refine st_i7 dX11_since_230 (by first | exact rfl | exact trivial) ?_
                          refine ex_aload_n dX11_since_232 rfl ?_
                          refine ex_iload dX11_since_233 rfl ?_
                          refine ex_iload dX11_since_235 rfl ?_
                          refine ex_isub dX11_since_237 ?_
                          refine ex_mabs dX11_since_238 rfl lk_X11_318 wj_abs wj_m wj_absc ⟨by decide, by decide⟩ ⟨by decide, by decide⟩ (Nat.le_of_ble_eq_true rfl) ?_
                          refine ex_iload dX11_since_241 rfl ?_
                          refine ex_iload dX11_since_243 rfl ?_
                          refine ex_icmp_le 252 dX11_since_245 (by decide) (fun h245 => ?_) (fun h245 => ?_)
                          · skip
                            refine ex_iconst (v := 0) dX11_since_252 (by decide) ?_
                            refine rx_cV (kd := 11) dX11_since_253 rfl lk_X11_143 rfl (by decide) (by first | assumption | rfl) ⟨⟨rfl, rfl⟩, by decide, by decide⟩ rfl (Nat.le_of_ble_eq_true rfl) rfl s_X11_tell (Rs.k ?_)
                            refine ex_iret dX11_since_256 rfl rfl ⟨rfl, Nat.le_refl _⟩ ?_
                            exact ⟨(by simp only [f_X11_since, ↓eq_false h4, ↓eq_false h11, ↓eq_false h18, ↓eq_false h26, ↓eq_false h34, ↓eq_false h48, ↓eq_false h60, ↓eq_false h73, ↓h93, ↓eq_false h112, ↓eq_false h126, ↓eq_false h151, ↓h245, if_true, if_false, not_true_eq_false, not_false_eq_true]), (by simp only [f_X11_since, ↓eq_false h4, ↓eq_false h11, ↓eq_false h18, ↓eq_false h26, ↓eq_false h34, ↓eq_false h48, ↓eq_false h60, ↓eq_false h73, ↓h93, ↓eq_false h112, ↓eq_false h126, ↓eq_false h151, ↓h245, if_true, if_false, not_true_eq_false, not_false_eq_true])⟩
                          · skip
                            refine ex_iconst (v := 1) dX11_since_248 (by decide) ?_
                            refine ex_goto 253 dX11_since_249 (by decide) ?_
                            refine rx_cV (kd := 11) dX11_since_253 rfl lk_X11_143 rfl (by decide) (by first | assumption | rfl) ⟨⟨rfl, rfl⟩, by decide, by decide⟩ rfl (Nat.le_of_ble_eq_true rfl) rfl s_X11_tell (Rs.k ?_)
                            refine ex_iret dX11_since_256 rfl rfl ⟨rfl, Nat.le_refl _⟩ ?_
                            exact ⟨(by simp only [f_X11_since, ↓eq_false h4, ↓eq_false h11, ↓eq_false h18, ↓eq_false h26, ↓eq_false h34, ↓eq_false h48, ↓eq_false h60, ↓eq_false h73, ↓h93, ↓eq_false h112, ↓eq_false h126, ↓eq_false h151, ↓h245, if_true, if_false, not_true_eq_false, not_false_eq_true]), (by simp only [f_X11_since, ↓eq_false h4, ↓eq_false h11, ↓eq_false h18, ↓eq_false h26, ↓eq_false h34, ↓eq_false h48, ↓eq_false h60, ↓eq_false h73, ↓h93, ↓eq_false h112, ↓eq_false h126, ↓eq_false h151, ↓h245, if_true, if_false, not_true_eq_false, not_false_eq_true])⟩
                        · skip
                          refine ex_aload_n dX11_since_154 rfl ?_
                          refine ex_iconst (v := 3) dX11_since_155 (by decide) ?_
                          refine rx_cV (kd := 11) dX11_since_156 rfl lk_X11_129 rfl (by decide) (by first | assumption | rfl) ⟨⟨rfl, rfl⟩, by decide, by decide⟩ rfl (Nat.le_of_ble_eq_true rfl) rfl (s_X11_refuse (by unfold vp_in; decide)) (Rs.k ?_)
                          refine ex_iret dX11_since_159 rfl rfl ⟨rfl, Nat.le_refl _⟩ ?_
                          exact ⟨(by simp only [f_X11_since, ↓eq_false h4, ↓eq_false h11, ↓eq_false h18, ↓eq_false h26, ↓eq_false h34, ↓eq_false h48, ↓eq_false h60, ↓eq_false h73, ↓h93, ↓eq_false h112, ↓eq_false h126, ↓eq_true h151, if_true, if_false, not_true_eq_false, not_false_eq_true]), (by simp only [f_X11_since, ↓eq_false h4, ↓eq_false h11, ↓eq_false h18, ↓eq_false h26, ↓eq_false h34, ↓eq_false h48, ↓eq_false h60, ↓eq_false h73, ↓h93, ↓eq_false h112, ↓eq_false h126, ↓eq_true h151, if_true, if_false, not_true_eq_false, not_false_eq_true])⟩
                      · skip
                        refine ex_aload_n dX11_since_129 rfl ?_
                        refine ex_iconst (v := 2) dX11_since_130 (by decide) ?_
                        refine rx_cV (kd := 11) dX11_since_131 rfl lk_X11_129 rfl (by decide) (by first | assumption | rfl) ⟨⟨rfl, rfl⟩, by decide, by decide⟩ rfl (Nat.le_of_ble_eq_true rfl) rfl (s_X11_refuse (by unfold vp_in; decide)) (Rs.k ?_)
                        refine ex_iret dX11_since_134 rfl rfl ⟨rfl, Nat.le_refl _⟩ ?_
                        exact ⟨(by simp only [f_X11_since, ↓eq_false h4, ↓eq_false h11, ↓eq_false h18, ↓eq_false h26, ↓eq_false h34, ↓eq_false h48, ↓eq_false h60, ↓eq_false h73, ↓h93, ↓eq_false h112, ↓eq_true h126, if_true, if_false, not_true_eq_false, not_false_eq_true]), (by simp only [f_X11_since, ↓eq_false h4, ↓eq_false h11, ↓eq_false h18, ↓eq_false h26, ↓eq_false h34, ↓eq_false h48, ↓eq_false h60, ↓eq_false h73, ↓h93, ↓eq_false h112, ↓eq_true h126, if_true, if_false, not_true_eq_false, not_false_eq_true])⟩
                  · skip
                    refine ex_aload_n dX11_since_96 rfl ?_
                    refine ex_iconst (v := 5) dX11_since_97 (by decide) ?_
                    refine rx_cV (kd := 11) dX11_since_98 rfl lk_X11_129 rfl (by decide) (by first | assumption | rfl) ⟨⟨rfl, rfl⟩, by decide, by decide⟩ rfl (Nat.le_of_ble_eq_true rfl) rfl (s_X11_refuse (by unfold vp_in; decide)) (Rs.k ?_)
                    refine ex_iret dX11_since_101 rfl rfl ⟨rfl, Nat.le_refl _⟩ ?_
                    exact ⟨(by simp only [f_X11_since, ↓eq_false h4, ↓eq_false h11, ↓eq_false h18, ↓eq_false h26, ↓eq_false h34, ↓eq_false h48, ↓eq_false h60, ↓eq_false h73, ↓h93, if_true, if_false, not_true_eq_false, not_false_eq_true]), (by simp only [f_X11_since, ↓eq_false h4, ↓eq_false h11, ↓eq_false h18, ↓eq_false h26, ↓eq_false h34, ↓eq_false h48, ↓eq_false h60, ↓eq_false h73, ↓h93, if_true, if_false, not_true_eq_false, not_false_eq_true])⟩
                · skip
                  refine ex_aload_n dX11_since_76 rfl ?_
                  refine ex_iconst (v := 1) dX11_since_77 (by decide) ?_
                  refine rx_cV (kd := 11) dX11_since_78 rfl lk_X11_129 rfl (by decide) (by first | assumption | rfl) ⟨⟨rfl, rfl⟩, by decide, by decide⟩ rfl (Nat.le_of_ble_eq_true rfl) rfl (s_X11_refuse (by unfold vp_in; decide)) (Rs.k ?_)
                  refine ex_iret dX11_since_81 rfl rfl ⟨rfl, Nat.le_refl _⟩ ?_
                  exact ⟨(by simp only [f_X11_since, ↓eq_false h4, ↓eq_false h11, ↓eq_false h18, ↓eq_false h26, ↓eq_false h34, ↓eq_false h48, ↓eq_false h60, ↓eq_true h73, if_true, if_false, not_true_eq_false, not_false_eq_true]), (by simp only [f_X11_since, ↓eq_false h4, ↓eq_false h11, ↓eq_false h18, ↓eq_false h26, ↓eq_false h34, ↓eq_false h48, ↓eq_false h60, ↓eq_true h73, if_true, if_false, not_true_eq_false, not_false_eq_true])⟩
          · skip
            refine ex_iconst (v := (-1)) dX11_since_37 (by decide) ?_
            refine ex_iret dX11_since_38 rfl rfl ⟨rfl, Nat.le_refl _⟩ ?_
            exact ⟨(by simp only [f_X11_since, ↓eq_false h4, ↓eq_false h11, ↓eq_false h18, ↓eq_false h26, ↓eq_true h34, if_true, if_false, not_true_eq_false, not_false_eq_true]), (by simp only [f_X11_since, ↓eq_false h4, ↓eq_false h11, ↓eq_false h18, ↓eq_false h26, ↓eq_true h34, if_true, if_false, not_true_eq_false, not_false_eq_true])⟩
def wiN (I : Im) (b : Nat) (y : Int32) (p k : Nat) : Int32 × Int32 × Im :=
  match k with
  | 0 => (-1, 0, I)
  | k + 1 => if (wiN I b y p k).2.2 (132 + 3 * k) 2 = 0 then wiN I b y p k else if (wiN I b y p k).1 < 0 ∨ (ofF (wiN I b y p k).2.2 b (132 + 3 * k) y p).1 < (wiN I b y p k).2.1 then (nI k, (ofF (wiN I b y p k).2.2 b (132 + 3 * k) y p).1, (ofF (wiN I b y p k).2.2 b (132 + 3 * k) y p).2) else ((wiN I b y p k).1, (wiN I b y p k).2.1, (ofF (wiN I b y p k).2.2 b (132 + 3 * k) y p).2)
termination_by k
theorem wiN_0 {b p : Nat} {y : Int32} : wiN I b y p 0 = (-1, 0, I) := by rw [wiN]
theorem wiN_s {b p k : Nat} {y : Int32} : wiN I b y p (k + 1) = if (wiN I b y p k).2.2 (132 + 3 * k) 2 = 0 then wiN I b y p k else if (wiN I b y p k).1 < 0 ∨ (ofF (wiN I b y p k).2.2 b (132 + 3 * k) y p).1 < (wiN I b y p k).2.1 then (nI k, (ofF (wiN I b y p k).2.2 b (132 + 3 * k) y p).1, (ofF (wiN I b y p k).2.2 b (132 + 3 * k) y p).2) else ((wiN I b y p k).1, (wiN I b y p k).2.1, (ofF (wiN I b y p k).2.2 b (132 + 3 * k) y p).2) := by rw [wiN]
theorem wiN_off {b p e : Nat} {y : Int32} (h : e < 25 ∨ 35 < e) : ∀ k, (wiN I b y p k).2.2 e = I e := by
  intro k
  induction k with
  | zero => rw [wiN_0]
  | succ k ih =>
    rw [wiN_s]
    split
    · exact ih
    · split
      · exact (ofF_off h).trans ih
      · exact (ofF_off h).trans ih
set_option maxRecDepth 100000 in
set_option maxHeartbeats 4000000 in
theorem lp_which {P : Option Value → Mem → Prop} {x y r : Int32} (vk : vp_in x 4) (qk : x.toNatClampNeg < 4) (lk : Rt t 3 x.toNatClampNeg = some (124 + 2 * x.toNatClampNeg)) (vr : vp_in r 6) (lr : Rt t 1 r.toNatClampNeg = some (104 + 2 * r.toNatClampNeg)) (vy : vp_in y 16) (hb : BOk I (124 + 2 * x.toNatClampNeg)) (hSea : SeaS I) (hr : ROk I (104 + 2 * r.toNatClampNeg)) (kont : Ex G mdX11_which 202 [some (.ref 0), some (.int x), some (.int y), some (.int r), some (.int (wiN I (124 + 2 * x.toNatClampNeg) y (104 + 2 * r.toNatClampNeg) 4).1), some (.int (wiN I (124 + 2 * x.toNatClampNeg) y (104 + 2 * r.toNatClampNeg) 4).2.1), some (.int (nI 4)), none] [] (mk (wiN I (124 + 2 * x.toNatClampNeg) y (104 + 2 * r.toNatClampNeg) 4).2.2 L t) 0 0 P) : Ex G mdX11_which 131 [some (.ref 0), some (.int x), some (.int y), some (.int r), some (.int (wiN I (124 + 2 * x.toNatClampNeg) y (104 + 2 * r.toNatClampNeg) 0).1), some (.int (wiN I (124 + 2 * x.toNatClampNeg) y (104 + 2 * r.toNatClampNeg) 0).2.1), some (.int (nI 0)), none] [] (mk (wiN I (124 + 2 * x.toNatClampNeg) y (104 + 2 * r.toNatClampNeg) 0).2.2 L t) 0 0 P := by
  refine loop_up (G := G) (d := mdX11_which) (pc := 131) (st := []) (uc := 0) (us := 0) (P := P) 4 (fun k => mk (wiN I (124 + 2 * x.toNatClampNeg) y (104 + 2 * r.toNatClampNeg) k).2.2 L t) (fun k => [some (.ref 0), some (.int x), some (.int y), some (.int r), some (.int (wiN I (124 + 2 * x.toNatClampNeg) y (104 + 2 * r.toNatClampNeg) k).1), some (.int (wiN I (124 + 2 * x.toNatClampNeg) y (104 + 2 * r.toNatClampNeg) k).2.1), some (.int (nI k)), none]) ?_ ?_ 0 (Nat.zero_le _)
  · intro k hk ih
    refine ex_iload dX11_which_131 rfl ?_
    refine ex_iconst (v := 4) dX11_which_133 (by decide) ?_
    refine ex_icmp_ge 202 dX11_which_134 (by decide) (fun h134 => ?_) (fun h134 => ?_)
    · exact absurd h134 (nI_ge hk (by decide))
    · skip
      refine ex_aload_n dX11_which_137 rfl ?_
      refine g_11_3 dX11_which_138 rfl wf_X11_29 (by first | assumption | rfl) (show Rt _ 0 3 = some 4 from rfl) ?_
      refine ex_iload dX11_which_141 rfl ?_
      refine rx_aald dX11_which_143 (by first | assumption | rfl) (by decide) rfl (vp_in_nI hk (by decide)) (by rw [nI_clamp (by omega)]; exact ly_sea hk) ?_
      refine g_8_2 dX11_which_144 rfl wf_X11_121 (ky_sea hk) ?_
      refine ex_if_eq 196 dX11_which_147 (by decide) (fun h147 => ?_) (fun h147 => ?_)
      · have hw : wiN I (124 + 2 * x.toNatClampNeg) y (104 + 2 * r.toNatClampNeg) (k + 1) = (wiN I (124 + 2 * x.toNatClampNeg) y (104 + 2 * r.toNatClampNeg) k) := wiN_s.trans (if_pos h147)
        refine inc6 (v := _ + 1) dX11_which_196 (by rfl) (by first | exact rfl | exact trivial) ?_
        refine ex_goto 131 dX11_which_199 (by decide) ?_
        refine fg7 ?_
        rw [nI_1]
        rw [hw] at ih
        exact ih
      · skip
        refine ex_aload_n dX11_which_150 rfl ?_
        refine ex_aload_n dX11_which_151 rfl ?_
        refine g_11_2 dX11_which_152 rfl wf_X11_23 (by first | assumption | rfl) (show Rt _ 0 2 = some 3 from rfl) ?_
        refine ex_iload_n dX11_which_155 rfl ?_
        refine rx_aald dX11_which_156 (by first | assumption | rfl) (by decide) rfl (by first | assumption | (unfold vp_in; decide)) (by first | assumption | rfl) ?_
        refine ex_aload_n dX11_which_157 rfl ?_
        refine g_11_3 dX11_which_158 rfl wf_X11_29 (by first | assumption | rfl) (show Rt _ 0 3 = some 4 from rfl) ?_
        refine ex_iload dX11_which_161 rfl ?_
        refine rx_aald dX11_which_163 (by first | assumption | rfl) (by decide) rfl (vp_in_nI hk (by decide)) (by rw [nI_clamp (by omega)]; exact ly_sea hk) ?_
        refine ex_iload_n dX11_which_164 rfl ?_
        refine ex_aload_n dX11_which_165 rfl ?_
        refine g_11_0 dX11_which_166 rfl wf_X11_11 (by first | assumption | rfl) (show Rt _ 0 0 = some 1 from rfl) ?_
        refine ex_iload_n dX11_which_169 rfl ?_
        refine rx_aald dX11_which_170 (by first | assumption | rfl) (by decide) rfl (by first | assumption | (unfold vp_in; decide)) (by first | assumption | rfl) ?_
        refine rx_cV (kd := 11) dX11_which_171 rfl lk_X11_458 rfl (by decide) (by first | assumption | rfl) ⟨⟨rfl, rfl⟩, by decide, by decide⟩ rfl (Nat.le_of_ble_eq_true rfl) rfl (s_offG (BOk_of (wiN_off (by omega) _) hb) (SOk_of (wiN_off (by omega) _) (SOk_s hSea hk)) (ROk_of (wiN_off (by omega) _) hr) vy) (Rs.k ?_)
        refine st_i7 dX11_which_174 (by first | exact rfl | exact trivial) ?_
        refine ex_iload dX11_which_176 rfl ?_
        refine ex_if_lt 188 dX11_which_178 (by decide) (fun h178 => ?_) (fun h178 => ?_)
        · have hw : wiN I (124 + 2 * x.toNatClampNeg) y (104 + 2 * r.toNatClampNeg) (k + 1) = (nI k, (ofF (wiN I (124 + 2 * x.toNatClampNeg) y (104 + 2 * r.toNatClampNeg) k).2.2 (124 + 2 * x.toNatClampNeg) (132 + 3 * k) y (104 + 2 * r.toNatClampNeg)).1, (ofF (wiN I (124 + 2 * x.toNatClampNeg) y (104 + 2 * r.toNatClampNeg) k).2.2 (124 + 2 * x.toNatClampNeg) (132 + 3 * k) y (104 + 2 * r.toNatClampNeg)).2) := wiN_s.trans ((if_neg h147).trans (if_pos (Or.inl h178)))
          refine ex_iload dX11_which_188 rfl ?_
          refine st_i4 dX11_which_190 (by first | exact rfl | exact trivial) ?_
          refine ex_iload dX11_which_192 rfl ?_
          refine st_i5 dX11_which_194 (by first | exact rfl | exact trivial) ?_
          refine inc6 (v := _ + 1) dX11_which_196 (by rfl) (by first | exact rfl | exact trivial) ?_
          refine ex_goto 131 dX11_which_199 (by decide) ?_
          refine fg7 ?_
          rw [nI_1]
          rw [hw] at ih
          exact ih
        · skip
          refine ex_iload dX11_which_181 rfl ?_
          refine ex_iload dX11_which_183 rfl ?_
          refine ex_icmp_ge 196 dX11_which_185 (by decide) (fun h185 => ?_) (fun h185 => ?_)
          · have hw : wiN I (124 + 2 * x.toNatClampNeg) y (104 + 2 * r.toNatClampNeg) (k + 1) = ((wiN I (124 + 2 * x.toNatClampNeg) y (104 + 2 * r.toNatClampNeg) k).1, (wiN I (124 + 2 * x.toNatClampNeg) y (104 + 2 * r.toNatClampNeg) k).2.1, (ofF (wiN I (124 + 2 * x.toNatClampNeg) y (104 + 2 * r.toNatClampNeg) k).2.2 (124 + 2 * x.toNatClampNeg) (132 + 3 * k) y (104 + 2 * r.toNatClampNeg)).2) := wiN_s.trans ((if_neg h147).trans (if_neg (fun q => q.elim (fun y => absurd y h178) (fun y => absurd y (Int32.not_lt.mpr h185)))))
            refine inc6 (v := _ + 1) dX11_which_196 (by rfl) (by first | exact rfl | exact trivial) ?_
            refine ex_goto 131 dX11_which_199 (by decide) ?_
            refine fg7 ?_
            rw [nI_1]
            rw [hw] at ih
            exact ih
          · have hw : wiN I (124 + 2 * x.toNatClampNeg) y (104 + 2 * r.toNatClampNeg) (k + 1) = (nI k, (ofF (wiN I (124 + 2 * x.toNatClampNeg) y (104 + 2 * r.toNatClampNeg) k).2.2 (124 + 2 * x.toNatClampNeg) (132 + 3 * k) y (104 + 2 * r.toNatClampNeg)).1, (ofF (wiN I (124 + 2 * x.toNatClampNeg) y (104 + 2 * r.toNatClampNeg) k).2.2 (124 + 2 * x.toNatClampNeg) (132 + 3 * k) y (104 + 2 * r.toNatClampNeg)).2) := wiN_s.trans ((if_neg h147).trans (if_pos (Or.inr (Int32.not_le.mp h185))))
            refine ex_iload dX11_which_188 rfl ?_
            refine st_i4 dX11_which_190 (by first | exact rfl | exact trivial) ?_
            refine ex_iload dX11_which_192 rfl ?_
            refine st_i5 dX11_which_194 (by first | exact rfl | exact trivial) ?_
            refine inc6 (v := _ + 1) dX11_which_196 (by rfl) (by first | exact rfl | exact trivial) ?_
            refine ex_goto 131 dX11_which_199 (by decide) ?_
            refine fg7 ?_
            rw [nI_1]
            rw [hw] at ih
            exact ih
  · skip
    refine ex_iload dX11_which_131 rfl ?_
    refine ex_iconst (v := 4) dX11_which_133 (by decide) ?_
    refine ex_icmp_ge 202 dX11_which_134 (by decide) (fun h134 => ?_) (fun h134 => ?_)
    · skip
      exact kont
    · exact absurd (by decide : nI 4 ≤ nI 4) h134
theorem lp_which0 {P : Option Value → Mem → Prop} {x y r : Int32} (vk : vp_in x 4) (qk : x.toNatClampNeg < 4) (lk : Rt t 3 x.toNatClampNeg = some (124 + 2 * x.toNatClampNeg)) (vr : vp_in r 6) (lr : Rt t 1 r.toNatClampNeg = some (104 + 2 * r.toNatClampNeg)) (vy : vp_in y 16) (hb : BOk I (124 + 2 * x.toNatClampNeg)) (hSea : SeaS I) (hr : ROk I (104 + 2 * r.toNatClampNeg)) (kont : Ex G mdX11_which 202 [some (.ref 0), some (.int x), some (.int y), some (.int r), some (.int (wiN I (124 + 2 * x.toNatClampNeg) y (104 + 2 * r.toNatClampNeg) 4).1), some (.int (wiN I (124 + 2 * x.toNatClampNeg) y (104 + 2 * r.toNatClampNeg) 4).2.1), none, none] [] (mk (wiN I (124 + 2 * x.toNatClampNeg) y (104 + 2 * r.toNatClampNeg) 4).2.2 L t) 0 0 P) : Ex G mdX11_which 131 [some (.ref 0), some (.int x), some (.int y), some (.int r), some (.int (-1)), some (.int 0), some (.int 0), none] [] (mk I L t) 0 0 P := by
  have h := lp_which (G := G) (L := L) vk qk lk vr lr vy hb hSea hr (P := P) (fg6 kont)
  rw [wiN_0] at h
  exact h
def f_X11_which (I : Im) (k : Int32) (c : Int32) (r : Int32) : Int32 × Im :=
  if (b2i (0 ≤ k ∧ k ≤ 3)) = 0 then
    ((-1), I)
  else
    if (b2i (0 ≤ c ∧ c ≤ 15)) = 0 then
      ((-1), I)
    else
      if (b2i (0 ≤ r ∧ r ≤ 5)) = 0 then
        ((-1), I)
      else
        if (I (124 + 2 * k.toNatClampNeg) 1) = 0 then
          let I1 : Im := (f_X11_refuse I 1).2
          ((f_X11_refuse I 1).1, I1)
        else
          if (I (104 + 2 * r.toNatClampNeg) 2) = 0 then
            let I2 : Im := (f_X11_refuse I 1).2
            ((f_X11_refuse I 1).1, I2)
          else
            if ((f_X11_anySea I)) = 0 then
              let I8 : Im := (f_X11_refuse I 1).2
              ((f_X11_refuse I 1).1, I8)
            else
              if 1 ≤ (I (104 + 2 * r.toNatClampNeg) 1) then
                if (b2i (0 ≤ c ∧ c < I (124 + 2 * k.toNatClampNeg) 2 ∧ c < 16)) = 0 then
                  let I6 : Im := (f_X11_refuse I 2).2
                  ((f_X11_refuse I 2).1, I6)
                else
                  if (b2i (∀ j, j < (I (104 + 2 * r.toNatClampNeg) 1).toNatClampNeg → ((-10000)) ≤ I ((104 + 2 * r.toNatClampNeg) + 1) j ∧ I ((104 + 2 * r.toNatClampNeg) + 1) j ≤ 10000)) = 0 then
                    let I5 : Im := (f_X11_refuse I 3).2
                    ((f_X11_refuse I 3).1, I5)
                  else
                    let I3 : Im := (wiN I (124 + 2 * k.toNatClampNeg) c (104 + 2 * r.toNatClampNeg) 4).2.2
                    let I4 : Im := (f_X11_tell I3 ((wiN I (124 + 2 * k.toNatClampNeg) c (104 + 2 * r.toNatClampNeg) 4).2.1) ((wiN I (124 + 2 * k.toNatClampNeg) c (104 + 2 * r.toNatClampNeg) 4).1)).2
                    ((f_X11_tell I3 ((wiN I (124 + 2 * k.toNatClampNeg) c (104 + 2 * r.toNatClampNeg) 4).2.1) ((wiN I (124 + 2 * k.toNatClampNeg) c (104 + 2 * r.toNatClampNeg) 4).1)).1, I4)
              else
                let I7 : Im := (f_X11_refuse I 5).2
                ((f_X11_refuse I 5).1, I7)
set_option maxRecDepth 100000 in
set_option maxHeartbeats 4000000 in
theorem s_X11_which  {k : Int32} {c : Int32} {r : Int32} (hHar : HarS I) (hSea : SeaS I) (hRow : RowS I) : Ca G mdX11_which [.ref 0, .int k, .int c, .int r] (mk I L t) (Rs (.int (f_X11_which I k c r).1) (mk ((f_X11_which I k c r).2) L t)) := by
  refine Ca.intro [some (.ref 0), some (.int k), some (.int c), some (.int r), none, none, none, none] (by decide) (Nat.le_of_ble_eq_true rfl) rfl rfl ?_
  refine ex_iload_n dX11_which_0 rfl ?_
  refine rx_cS dX11_which_1 rfl lk_X11_181 ⟨⟨rfl, rfl⟩, by decide, by decide⟩ rfl (Nat.le_of_ble_eq_true rfl) rfl s_X11_isHarbour (Rs.k ?_)
  refine ex_if_eq 21 dX11_which_4 (by decide) (fun h4 => ?_) (fun h4 => ?_)
  · skip
    refine ex_iconst (v := (-1)) dX11_which_21 (by decide) ?_
    refine ex_iret dX11_which_22 rfl rfl ⟨rfl, Nat.le_refl _⟩ ?_
    exact ⟨(by simp only [f_X11_which, ↓eq_true h4, if_true, if_false, not_true_eq_false, not_false_eq_true]), (by simp only [f_X11_which, ↓eq_true h4, if_true, if_false, not_true_eq_false, not_false_eq_true])⟩
  · have qk := (cl_lt (N := 4) (by decide) h4).1
    have vk := (cl_lt (N := 4) (by decide) h4).2
    have kk := ky_har qk
    have lk := ly_har (t := t) qk
    refine ex_iload_n dX11_which_7 rfl ?_
    refine rx_cS dX11_which_8 rfl lk_X11_225 ⟨⟨rfl, rfl⟩, by decide, by decide⟩ rfl (Nat.le_of_ble_eq_true rfl) rfl s_X11_isCell (Rs.k ?_)
    refine ex_if_eq 21 dX11_which_11 (by decide) (fun h11 => ?_) (fun h11 => ?_)
    · skip
      refine ex_iconst (v := (-1)) dX11_which_21 (by decide) ?_
      refine ex_iret dX11_which_22 rfl rfl ⟨rfl, Nat.le_refl _⟩ ?_
      exact ⟨(by simp only [f_X11_which, ↓eq_false h4, ↓eq_true h11, if_true, if_false, not_true_eq_false, not_false_eq_true]), (by simp only [f_X11_which, ↓eq_false h4, ↓eq_true h11, if_true, if_false, not_true_eq_false, not_false_eq_true])⟩
    · have qc := (cl_lt (N := 16) (by decide) h11).1
      have vc := (cl_lt (N := 16) (by decide) h11).2
      refine ex_iload_n dX11_which_14 rfl ?_
      refine rx_cS dX11_which_15 rfl lk_X11_125 ⟨⟨rfl, rfl⟩, by decide, by decide⟩ rfl (Nat.le_of_ble_eq_true rfl) rfl s_X11_isRow (Rs.k ?_)
      refine ex_if_ne 23 dX11_which_18 (by decide) (fun h18 => ?_) (fun h18 => ?_)
      · have qr := (cl_lt (N := 6) (by decide) h18).1
        have vr := (cl_lt (N := 6) (by decide) h18).2
        have kr := ky_row qr
        have lr := ly_row (t := t) qr
        refine ex_aload_n dX11_which_23 rfl ?_
        refine g_11_2 dX11_which_24 rfl wf_X11_23 (by first | assumption | rfl) (show Rt _ 0 2 = some 3 from rfl) ?_
        refine ex_iload_n dX11_which_27 rfl ?_
        refine rx_aald dX11_which_28 (by first | assumption | rfl) (by decide) rfl (by first | assumption | (unfold vp_in; decide)) (by first | assumption | rfl) ?_
        refine g_0_1 dX11_which_29 rfl wf_X11_206 (by first | assumption | rfl) ?_
        refine ex_if_eq 54 dX11_which_32 (by decide) (fun h32 => ?_) (fun h32 => ?_)
        · skip
          refine ex_aload_n dX11_which_54 rfl ?_
          refine ex_iconst (v := 1) dX11_which_55 (by decide) ?_
          refine rx_cV (kd := 11) dX11_which_56 rfl lk_X11_129 rfl (by decide) (by first | assumption | rfl) ⟨⟨rfl, rfl⟩, by decide, by decide⟩ rfl (Nat.le_of_ble_eq_true rfl) rfl (s_X11_refuse (by unfold vp_in; decide)) (Rs.k ?_)
          refine ex_iret dX11_which_59 rfl rfl ⟨rfl, Nat.le_refl _⟩ ?_
          exact ⟨(by simp only [f_X11_which, ↓eq_false h4, ↓eq_false h11, ↓eq_false h18, ↓eq_true h32, if_true, if_false, not_true_eq_false, not_false_eq_true]), (by simp only [f_X11_which, ↓eq_false h4, ↓eq_false h11, ↓eq_false h18, ↓eq_true h32, if_true, if_false, not_true_eq_false, not_false_eq_true])⟩
        · skip
          refine ex_aload_n dX11_which_35 rfl ?_
          refine g_11_0 dX11_which_36 rfl wf_X11_11 (by first | assumption | rfl) (show Rt _ 0 0 = some 1 from rfl) ?_
          refine ex_iload_n dX11_which_39 rfl ?_
          refine rx_aald dX11_which_40 (by first | assumption | rfl) (by decide) rfl (by first | assumption | (unfold vp_in; decide)) (by first | assumption | rfl) ?_
          refine g_6_2 dX11_which_41 rfl wf_X11_136 (by first | assumption | rfl) ?_
          refine ex_if_eq 54 dX11_which_44 (by decide) (fun h44 => ?_) (fun h44 => ?_)
          · skip
            refine ex_aload_n dX11_which_54 rfl ?_
            refine ex_iconst (v := 1) dX11_which_55 (by decide) ?_
            refine rx_cV (kd := 11) dX11_which_56 rfl lk_X11_129 rfl (by decide) (by first | assumption | rfl) ⟨⟨rfl, rfl⟩, by decide, by decide⟩ rfl (Nat.le_of_ble_eq_true rfl) rfl (s_X11_refuse (by unfold vp_in; decide)) (Rs.k ?_)
            refine ex_iret dX11_which_59 rfl rfl ⟨rfl, Nat.le_refl _⟩ ?_
            exact ⟨(by simp only [f_X11_which, ↓eq_false h4, ↓eq_false h11, ↓eq_false h18, ↓eq_false h32, ↓eq_true h44, if_true, if_false, not_true_eq_false, not_false_eq_true]), (by simp only [f_X11_which, ↓eq_false h4, ↓eq_false h11, ↓eq_false h18, ↓eq_false h32, ↓eq_true h44, if_true, if_false, not_true_eq_false, not_false_eq_true])⟩
          · skip
            refine ex_aload_n dX11_which_47 rfl ?_
            refine rx_cV (kd := 11) dX11_which_48 rfl lk_X11_390 rfl (by decide) (by first | assumption | rfl) ⟨⟨rfl, rfl⟩, by decide, by decide⟩ rfl (Nat.le_of_ble_eq_true rfl) rfl s_X11_anySea (Rs.k ?_)
            refine ex_if_ne 60 dX11_which_51 (by decide) (fun h51 => ?_) (fun h51 => ?_)
            · have hb := BOk_h hHar qk h32
              have hr := ROk_r hRow qr
              refine ex_aload_n dX11_which_60 rfl ?_
              refine g_11_0 dX11_which_61 rfl wf_X11_11 (by first | assumption | rfl) (show Rt _ 0 0 = some 1 from rfl) ?_
              refine ex_iload_n dX11_which_64 rfl ?_
              refine rx_aald dX11_which_65 (by first | assumption | rfl) (by decide) rfl (by first | assumption | (unfold vp_in; decide)) (by first | assumption | rfl) ?_
              refine g_6_1 dX11_which_66 rfl wf_X11_157 (by first | assumption | rfl) ?_
              refine ex_iconst (v := 1) dX11_which_69 (by decide) ?_
              refine ex_icmp_ge 79 dX11_which_70 (by decide) (fun h70 => ?_) (fun h70 => ?_)
              · skip
                refine ex_aload_n dX11_which_79 rfl ?_
                refine g_11_2 dX11_which_80 rfl wf_X11_23 (by first | assumption | rfl) (show Rt _ 0 2 = some 3 from rfl) ?_
                refine ex_iload_n dX11_which_83 rfl ?_
                refine rx_aald dX11_which_84 (by first | assumption | rfl) (by decide) rfl (by first | assumption | (unfold vp_in; decide)) (by first | assumption | rfl) ?_
                refine ex_iload_n dX11_which_85 rfl ?_
                refine rx_cV (kd := 0) dX11_which_86 rfl lk_X11_207 rfl (by decide) (by first | assumption | rfl) ⟨⟨rfl, rfl⟩, by decide, by decide⟩ rfl (Nat.le_of_ble_eq_true rfl) rfl (s_X0_hasCell kk) (Rs.k ?_)
                refine ex_if_ne 98 dX11_which_89 (by decide) (fun h89 => ?_) (fun h89 => ?_)
                · skip
                  refine ex_aload_n dX11_which_98 rfl ?_
                  refine g_11_0 dX11_which_99 rfl wf_X11_11 (by first | assumption | rfl) (show Rt _ 0 0 = some 1 from rfl) ?_
                  refine ex_iload_n dX11_which_102 rfl ?_
                  refine rx_aald dX11_which_103 (by first | assumption | rfl) (by decide) rfl (by first | assumption | (unfold vp_in; decide)) (by first | assumption | rfl) ?_
                  refine ex_sipush (v := (-10000)) dX11_which_104 (by decide) ?_
                  refine ex_sipush (v := 10000) dX11_which_107 (by decide) ?_
                  refine rx_cV (kd := 6) dX11_which_110 rfl lk_X11_455 rfl (by decide) (by first | assumption | rfl) ⟨⟨rfl, rfl⟩, by decide, by decide⟩ rfl (Nat.le_of_ble_eq_true rfl) rfl (s_allG hr) (Rs.k ?_)
                  refine ex_if_ne 122 dX11_which_113 (by decide) (fun h113 => ?_) (fun h113 => ?_)
                  · skip
                    refine ex_iconst (v := (-1)) dX11_which_122 (by decide) ?_
                    refine st_i4 dX11_which_123 (by first | exact rfl | exact trivial) ?_
                    refine ex_iconst (v := 0) dX11_which_125 (by decide) ?_
                    refine st_i5 dX11_which_126 (by first | exact rfl | exact trivial) ?_
                    refine ex_iconst (v := 0) dX11_which_128 (by decide) ?_
                    refine st_i6 dX11_which_129 (by first | exact rfl | exact trivial) ?_
                    refine (lp_which0 vk qk lk vr lr vc hb hSea hr) ?_
                    refine ex_aload_n dX11_which_202 rfl ?_
                    refine ex_iload dX11_which_203 rfl ?_
                    refine ex_iload dX11_which_205 rfl ?_
                    refine rx_cV (kd := 11) dX11_which_207 rfl lk_X11_143 rfl (by decide) (by first | assumption | rfl) ⟨⟨rfl, rfl⟩, by decide, by decide⟩ rfl (Nat.le_of_ble_eq_true rfl) rfl s_X11_tell (Rs.k ?_)
                    refine ex_iret dX11_which_210 rfl rfl ⟨rfl, Nat.le_refl _⟩ ?_
                    exact ⟨(by simp only [f_X11_which, ↓eq_false h4, ↓eq_false h11, ↓eq_false h18, ↓eq_false h32, ↓eq_false h44, ↓eq_false h51, ↓h70, ↓eq_false h89, ↓eq_false h113, if_true, if_false, not_true_eq_false, not_false_eq_true]), (by simp only [f_X11_which, ↓eq_false h4, ↓eq_false h11, ↓eq_false h18, ↓eq_false h32, ↓eq_false h44, ↓eq_false h51, ↓h70, ↓eq_false h89, ↓eq_false h113, if_true, if_false, not_true_eq_false, not_false_eq_true])⟩
                  · skip
                    refine ex_aload_n dX11_which_116 rfl ?_
                    refine ex_iconst (v := 3) dX11_which_117 (by decide) ?_
                    refine rx_cV (kd := 11) dX11_which_118 rfl lk_X11_129 rfl (by decide) (by first | assumption | rfl) ⟨⟨rfl, rfl⟩, by decide, by decide⟩ rfl (Nat.le_of_ble_eq_true rfl) rfl (s_X11_refuse (by unfold vp_in; decide)) (Rs.k ?_)
                    refine ex_iret dX11_which_121 rfl rfl ⟨rfl, Nat.le_refl _⟩ ?_
                    exact ⟨(by simp only [f_X11_which, ↓eq_false h4, ↓eq_false h11, ↓eq_false h18, ↓eq_false h32, ↓eq_false h44, ↓eq_false h51, ↓h70, ↓eq_false h89, ↓eq_true h113, if_true, if_false, not_true_eq_false, not_false_eq_true]), (by simp only [f_X11_which, ↓eq_false h4, ↓eq_false h11, ↓eq_false h18, ↓eq_false h32, ↓eq_false h44, ↓eq_false h51, ↓h70, ↓eq_false h89, ↓eq_true h113, if_true, if_false, not_true_eq_false, not_false_eq_true])⟩
                · skip
                  refine ex_aload_n dX11_which_92 rfl ?_
                  refine ex_iconst (v := 2) dX11_which_93 (by decide) ?_
                  refine rx_cV (kd := 11) dX11_which_94 rfl lk_X11_129 rfl (by decide) (by first | assumption | rfl) ⟨⟨rfl, rfl⟩, by decide, by decide⟩ rfl (Nat.le_of_ble_eq_true rfl) rfl (s_X11_refuse (by unfold vp_in; decide)) (Rs.k ?_)
                  refine ex_iret dX11_which_97 rfl rfl ⟨rfl, Nat.le_refl _⟩ ?_
                  exact ⟨(by simp only [f_X11_which, ↓eq_false h4, ↓eq_false h11, ↓eq_false h18, ↓eq_false h32, ↓eq_false h44, ↓eq_false h51, ↓h70, ↓eq_true h89, if_true, if_false, not_true_eq_false, not_false_eq_true]), (by simp only [f_X11_which, ↓eq_false h4, ↓eq_false h11, ↓eq_false h18, ↓eq_false h32, ↓eq_false h44, ↓eq_false h51, ↓h70, ↓eq_true h89, if_true, if_false, not_true_eq_false, not_false_eq_true])⟩
              · skip
                refine ex_aload_n dX11_which_73 rfl ?_
                refine ex_iconst (v := 5) dX11_which_74 (by decide) ?_
                refine rx_cV (kd := 11) dX11_which_75 rfl lk_X11_129 rfl (by decide) (by first | assumption | rfl) ⟨⟨rfl, rfl⟩, by decide, by decide⟩ rfl (Nat.le_of_ble_eq_true rfl) rfl (s_X11_refuse (by unfold vp_in; decide)) (Rs.k ?_)
                refine ex_iret dX11_which_78 rfl rfl ⟨rfl, Nat.le_refl _⟩ ?_
                exact ⟨(by simp only [f_X11_which, ↓eq_false h4, ↓eq_false h11, ↓eq_false h18, ↓eq_false h32, ↓eq_false h44, ↓eq_false h51, ↓h70, if_true, if_false, not_true_eq_false, not_false_eq_true]), (by simp only [f_X11_which, ↓eq_false h4, ↓eq_false h11, ↓eq_false h18, ↓eq_false h32, ↓eq_false h44, ↓eq_false h51, ↓h70, if_true, if_false, not_true_eq_false, not_false_eq_true])⟩
            · skip
              refine ex_aload_n dX11_which_54 rfl ?_
              refine ex_iconst (v := 1) dX11_which_55 (by decide) ?_
              refine rx_cV (kd := 11) dX11_which_56 rfl lk_X11_129 rfl (by decide) (by first | assumption | rfl) ⟨⟨rfl, rfl⟩, by decide, by decide⟩ rfl (Nat.le_of_ble_eq_true rfl) rfl (s_X11_refuse (by unfold vp_in; decide)) (Rs.k ?_)
              refine ex_iret dX11_which_59 rfl rfl ⟨rfl, Nat.le_refl _⟩ ?_
              exact ⟨(by simp only [f_X11_which, ↓eq_false h4, ↓eq_false h11, ↓eq_false h18, ↓eq_false h32, ↓eq_false h44, ↓eq_true h51, if_true, if_false, not_true_eq_false, not_false_eq_true]), (by simp only [f_X11_which, ↓eq_false h4, ↓eq_false h11, ↓eq_false h18, ↓eq_false h32, ↓eq_false h44, ↓eq_true h51, if_true, if_false, not_true_eq_false, not_false_eq_true])⟩
      · skip
        refine ex_iconst (v := (-1)) dX11_which_21 (by decide) ?_
        refine ex_iret dX11_which_22 rfl rfl ⟨rfl, Nat.le_refl _⟩ ?_
        exact ⟨(by simp only [f_X11_which, ↓eq_false h4, ↓eq_false h11, ↓eq_true h18, if_true, if_false, not_true_eq_false, not_false_eq_true]), (by simp only [f_X11_which, ↓eq_false h4, ↓eq_false h11, ↓eq_true h18, if_true, if_false, not_true_eq_false, not_false_eq_true])⟩
end N11
