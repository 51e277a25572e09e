section M22
variable {G : Gp} {I : Im} {L : Nat → Nat → Int64} {t : Nat}
def whM (I : Im) (q r c k : Nat) : Int32 × Int32 × (Nat → Int32) :=
  match k with
  | 0 => (-9, 0, hbN I q)
  | k + 1 => if I 209 k = 0 then whM I q r c k else if (whM I q r c k).1 = -9 ∨ (ofM I r (wbN I (whM I q r c k).2.2 k) (I 208 (21 * q)).toNatClampNeg (I 208 (21 * q + 1)).toNatClampNeg (I 210 k).toNatClampNeg c (I 202 r).toNatClampNeg) < (whM I q r c k).2.1 then (nI k, (ofM I r (wbN I (whM I q r c k).2.2 k) (I 208 (21 * q)).toNatClampNeg (I 208 (21 * q + 1)).toNatClampNeg (I 210 k).toNatClampNeg c (I 202 r).toNatClampNeg), (secI (wbN I (whM I q r c k).2.2 k) (I 208 (21 * q)).toNatClampNeg (I 208 (21 * q + 1)).toNatClampNeg (I 210 k).toNatClampNeg (I 202 r).toNatClampNeg)) else ((whM I q r c k).1, (whM I q r c k).2.1, (secI (wbN I (whM I q r c k).2.2 k) (I 208 (21 * q)).toNatClampNeg (I 208 (21 * q + 1)).toNatClampNeg (I 210 k).toNatClampNeg (I 202 r).toNatClampNeg))
termination_by k
theorem whM_0 {q r c : Nat} : whM I q r c 0 = (-9, 0, hbN I q) := by rw [whM]
theorem whM_s {q r c k : Nat} : whM I q r c (k + 1) = if I 209 k = 0 then whM I q r c k else if (whM I q r c k).1 = -9 ∨ (ofM I r (wbN I (whM I q r c k).2.2 k) (I 208 (21 * q)).toNatClampNeg (I 208 (21 * q + 1)).toNatClampNeg (I 210 k).toNatClampNeg c (I 202 r).toNatClampNeg) < (whM I q r c k).2.1 then (nI k, (ofM I r (wbN I (whM I q r c k).2.2 k) (I 208 (21 * q)).toNatClampNeg (I 208 (21 * q + 1)).toNatClampNeg (I 210 k).toNatClampNeg c (I 202 r).toNatClampNeg), (secI (wbN I (whM I q r c k).2.2 k) (I 208 (21 * q)).toNatClampNeg (I 208 (21 * q + 1)).toNatClampNeg (I 210 k).toNatClampNeg (I 202 r).toNatClampNeg)) else ((whM I q r c k).1, (whM I q r c k).2.1, (secI (wbN I (whM I q r c k).2.2 k) (I 208 (21 * q)).toNatClampNeg (I 208 (21 * q + 1)).toNatClampNeg (I 210 k).toNatClampNeg (I 202 r).toNatClampNeg)) := by rw [whM]
theorem wh_w {q r c : Nat} (hH : HmS I) (hq : q < 4) (hh : ¬ I 207 q = 0) (hS : SbS I) : ∀ k, k ≤ 4 → (∀ p, p < 21 → (whM I q r c k).2.2 p = I 208 (21 * q + p)) ∧ (k < 4 → WfN (wbN I (whM I q r c k).2.2 k) (I 208 (21 * q)).toNatClampNeg (I 208 (21 * q + 1)).toNatClampNeg (I 210 k).toNatClampNeg) := by
  intro k
  have key : ∀ k N, k < 4 → (∀ p, p < 21 → N p = I 208 (21 * q + p)) → WfN (wbN I N k) (I 208 (21 * q)).toNatClampNeg (I 208 (21 * q + 1)).toNatClampNeg (I 210 k).toNatClampNeg := by
    intro k N hk hp
    obtain ⟨n, mo, h3, hn, hm, e0, e1⟩ := hH q hq hh
    rw [e0, e1, nI_clamp (show n < 2 ^ 31 by omega), nI_clamp (show mo < 2 ^ 31 by omega)]
    exact wbN_w h3 hn hm ((hp 0 (by decide)).trans e0) ((hp 1 (by decide)).trans e1) hS hk
  have keep : ∀ k N m, k < 4 → (∀ p, p < 21 → N p = I 208 (21 * q + p)) → ∀ p, p < 21 → secI (wbN I N k) (I 208 (21 * q)).toNatClampNeg (I 208 (21 * q + 1)).toNatClampNeg (I 210 k).toNatClampNeg m p = I 208 (21 * q + p) := by
    intro k N m hk hN p hp
    rw [secI_c (key k N hk hN) (by omega)]
    unfold wbN
    rw [wnd_out (by omega), wnd_out (by omega), upn_n (by omega)]
    exact hN p hp
  induction k with
  | zero =>
    intro _
    rw [whM_0]
    exact ⟨fun p hp => hbN_p hp, fun _ => key 0 _ (by decide) (fun p hp => hbN_p hp)⟩
  | succ k ih =>
    intro hk
    have h1 := (ih (by omega)).1
    have h2 : ∀ p, p < 21 → (whM I q r c (k + 1)).2.2 p = I 208 (21 * q + p) := by
      rw [whM_s]
      split
      · exact h1
      · split
        · exact keep k _ _ (by omega) h1
        · exact keep k _ _ (by omega) h1
    exact ⟨h2, fun h => key (k + 1) _ h h2⟩
set_option maxRecDepth 100000 in
set_option maxHeartbeats 4000000 in
theorem lm_whi {P : Option Value → Mem → Prop} {y x r v : Int32} (vy : vp_in y 4) (vx : vp_in x 16) (vr : vp_in r 6) (hH : HmS I) (hS : SbS I) (hh : ¬ I 207 y.toNatClampNeg = 0) (hm : ∃ m, m ≤ 60 ∧ I 202 r.toNatClampNeg = nI m) (kont : Ex G mdX12_which 123 [some (.ref 200), some (.int y), some (.int x), some (.int r), some (.int v), some (.int (whM I y.toNatClampNeg r.toNatClampNeg x.toNatClampNeg 4).1), some (.int (whM I y.toNatClampNeg r.toNatClampNeg x.toNatClampNeg 4).2.1), some (.int (nI 4)), none] [] (mk (nw (lkI I 4) 500 (whM I y.toNatClampNeg r.toNatClampNeg x.toNatClampNeg 4).2.2) L t) 0 0 P) : Ex G mdX12_which 69 [some (.ref 200), some (.int y), some (.int x), some (.int r), some (.int v), some (.int (whM I y.toNatClampNeg r.toNatClampNeg x.toNatClampNeg 0).1), some (.int (whM I y.toNatClampNeg r.toNatClampNeg x.toNatClampNeg 0).2.1), some (.int (nI 0)), none] [] (mk (nw (lkI I 4) 500 (whM I y.toNatClampNeg r.toNatClampNeg x.toNatClampNeg 0).2.2) L t) 0 0 P := by
  refine loop_up (G := G) (d := mdX12_which) (pc := 69) (st := []) (uc := 0) (us := 0) (P := P) 4 (fun k => mk (nw (lkI I 4) 500 (whM I y.toNatClampNeg r.toNatClampNeg x.toNatClampNeg k).2.2) L t) (fun k => [some (.ref 200), some (.int y), some (.int x), some (.int r), some (.int v), some (.int (whM I y.toNatClampNeg r.toNatClampNeg x.toNatClampNeg k).1), some (.int (whM I y.toNatClampNeg r.toNatClampNeg x.toNatClampNeg k).2.1), some (.int (nI k)), none]) ?_ ?_ 0 (Nat.zero_le _)
  · intro k hk ih
    have hwk := (wh_w (r := r.toNatClampNeg) (c := x.toNatClampNeg) hH (vpn vy).1 hh hS k (by omega)).2 hk
    have e0 : (nI k).toNatClampNeg = k := nI_clamp (by omega)
    refine ex_iload dX12_which_69 rfl ?_
    refine ex_iconst (v := 4) dX12_which_71 (by decide) ?_
    refine ex_icmp_ge 123 dX12_which_72 (by decide) (fun h72 => ?_) (fun h72 => ?_)
    · exact absurd h72 (nI_ge hk (by decide))
    · skip
      refine ex_aload_n dX12_which_75 rfl ?_
      refine g_12_12 dX12_which_76 rfl wf_X12_36 (by first | assumption | rfl) (show Rt _ 200 12 = some 209 from rfl) ?_
      refine ex_iload dX12_which_79 rfl ?_
      refine rx_zald dX12_which_81 (by first | assumption | rfl) (vp_in_nI hk (by decide)) ?_
      rw [e0, nw_off (by decide), lk_off (by decide)]
      refine ex_if_eq 117 dX12_which_82 (by decide) (fun h82 => ?_) (fun h82 => ?_)
      · have hc : whM I y.toNatClampNeg r.toNatClampNeg x.toNatClampNeg (k + 1) = (whM I y.toNatClampNeg r.toNatClampNeg x.toNatClampNeg k) := whM_s.trans (if_pos h82)
        refine inc7 (v := _ + 1) dX12_which_117 (by rfl) (by first | exact rfl | exact trivial) ?_
        refine ex_goto 69 dX12_which_120 (by decide) ?_
        refine fg8 ?_
        rw [nI_1]
        rw [hc] at ih
        exact ih
      · skip
        refine ex_aload_n dX12_which_85 rfl ?_
        refine ex_iload dX12_which_86 rfl ?_
        refine ex_iload_n dX12_which_88 rfl ?_
        refine ex_iload_n dX12_which_89 rfl ?_
        refine rx_cV (kd := 12) dX12_which_90 rfl lk_X12_353 rfl (by decide) (by first | assumption | rfl) ⟨⟨rfl, rfl⟩, by decide, by decide⟩ rfl (Nat.le_of_ble_eq_true rfl) rfl (s_ofG (q := 0) (vp_in_nI hk (by decide)) vx vr (by rw [e0]; exact hwk) hm) (Rs.k ?_)
        rw [e0]
        refine st_i8 dX12_which_93 (by first | exact rfl | exact trivial) ?_
        refine ex_iload dX12_which_95 rfl ?_
        refine ex_bipush (v := (-9)) dX12_which_97 (by decide) ?_
        refine ex_icmp_eq 109 dX12_which_99 (by decide) (fun h99 => ?_) (fun h99 => ?_)
        · have hc : whM I y.toNatClampNeg r.toNatClampNeg x.toNatClampNeg (k + 1) = (nI k, (ofM I r.toNatClampNeg (wbN I (whM I y.toNatClampNeg r.toNatClampNeg x.toNatClampNeg k).2.2 k) (I 208 (21 * y.toNatClampNeg)).toNatClampNeg (I 208 (21 * y.toNatClampNeg + 1)).toNatClampNeg (I 210 k).toNatClampNeg x.toNatClampNeg (I 202 r.toNatClampNeg).toNatClampNeg), (secI (wbN I (whM I y.toNatClampNeg r.toNatClampNeg x.toNatClampNeg k).2.2 k) (I 208 (21 * y.toNatClampNeg)).toNatClampNeg (I 208 (21 * y.toNatClampNeg + 1)).toNatClampNeg (I 210 k).toNatClampNeg (I 202 r.toNatClampNeg).toNatClampNeg)) := whM_s.trans ((if_neg h82).trans (if_pos (Or.inl h99)))
          refine ex_iload dX12_which_109 rfl ?_
          refine st_i5 dX12_which_111 (by first | exact rfl | exact trivial) ?_
          refine ex_iload dX12_which_113 rfl ?_
          refine st_i6 dX12_which_115 (by first | exact rfl | exact trivial) ?_
          refine inc7 (v := _ + 1) dX12_which_117 (by rfl) (by first | exact rfl | exact trivial) ?_
          refine ex_goto 69 dX12_which_120 (by decide) ?_
          refine fg8 ?_
          rw [nI_1]
          rw [hc] at ih
          exact ih
        · skip
          refine ex_iload dX12_which_102 rfl ?_
          refine ex_iload dX12_which_104 rfl ?_
          refine ex_icmp_ge 117 dX12_which_106 (by decide) (fun h106 => ?_) (fun h106 => ?_)
          · have hc : whM I y.toNatClampNeg r.toNatClampNeg x.toNatClampNeg (k + 1) = ((whM I y.toNatClampNeg r.toNatClampNeg x.toNatClampNeg k).1, (whM I y.toNatClampNeg r.toNatClampNeg x.toNatClampNeg k).2.1, (secI (wbN I (whM I y.toNatClampNeg r.toNatClampNeg x.toNatClampNeg k).2.2 k) (I 208 (21 * y.toNatClampNeg)).toNatClampNeg (I 208 (21 * y.toNatClampNeg + 1)).toNatClampNeg (I 210 k).toNatClampNeg (I 202 r.toNatClampNeg).toNatClampNeg)) := whM_s.trans ((if_neg h82).trans (if_neg (fun z => z.elim h99 (fun y => absurd y (Int32.not_lt.mpr h106)))))
            refine inc7 (v := _ + 1) dX12_which_117 (by rfl) (by first | exact rfl | exact trivial) ?_
            refine ex_goto 69 dX12_which_120 (by decide) ?_
            refine fg8 ?_
            rw [nI_1]
            rw [hc] at ih
            exact ih
          · have hc : whM I y.toNatClampNeg r.toNatClampNeg x.toNatClampNeg (k + 1) = (nI k, (ofM I r.toNatClampNeg (wbN I (whM I y.toNatClampNeg r.toNatClampNeg x.toNatClampNeg k).2.2 k) (I 208 (21 * y.toNatClampNeg)).toNatClampNeg (I 208 (21 * y.toNatClampNeg + 1)).toNatClampNeg (I 210 k).toNatClampNeg x.toNatClampNeg (I 202 r.toNatClampNeg).toNatClampNeg), (secI (wbN I (whM I y.toNatClampNeg r.toNatClampNeg x.toNatClampNeg k).2.2 k) (I 208 (21 * y.toNatClampNeg)).toNatClampNeg (I 208 (21 * y.toNatClampNeg + 1)).toNatClampNeg (I 210 k).toNatClampNeg (I 202 r.toNatClampNeg).toNatClampNeg)) := whM_s.trans ((if_neg h82).trans (if_pos (Or.inr (Int32.not_le.mp h106))))
            refine ex_iload dX12_which_109 rfl ?_
            refine st_i5 dX12_which_111 (by first | exact rfl | exact trivial) ?_
            refine ex_iload dX12_which_113 rfl ?_
            refine st_i6 dX12_which_115 (by first | exact rfl | exact trivial) ?_
            refine inc7 (v := _ + 1) dX12_which_117 (by rfl) (by first | exact rfl | exact trivial) ?_
            refine ex_goto 69 dX12_which_120 (by decide) ?_
            refine fg8 ?_
            rw [nI_1]
            rw [hc] at ih
            exact ih
  · skip
    refine ex_iload dX12_which_69 rfl ?_
    refine ex_iconst (v := 4) dX12_which_71 (by decide) ?_
    refine ex_icmp_ge 123 dX12_which_72 (by decide) (fun h72 => ?_) (fun h72 => ?_)
    · skip
      exact kont
    · exact absurd (by decide : nI 4 ≤ nI 4) h72
def whI (I : Im) (q r c : Nat) : Im := up2 (nw (lkI I 4) 500 (whM I q r c 4).2.2) 200 2 (whM I q r c 4).2.1
set_option maxRecDepth 100000 in
set_option maxHeartbeats 4000000 in
theorem lm_wh2 {k c r x : Int32} (vk : vp_in k 4) (vc : vp_in c 16) (vr : vp_in r 6) (hH : HmS I) (hS : SbS I) (g1 : ¬ I 207 k.toNatClampNeg = 0) (hm : ∃ m, m ≤ 60 ∧ I 202 r.toNatClampNeg = nI m) : Ex G mdX12_which 49 [some (.ref 200), some (.int k), some (.int c), some (.int r), some (.int x), none, none, none, none] [] (mk I L t) 0 0 (Rs (.int (whM I k.toNatClampNeg r.toNatClampNeg c.toNatClampNeg 4).1) (mk (whI I k.toNatClampNeg r.toNatClampNeg c.toNatClampNeg) L t)) := by
  refine ex_aload_n dX12_which_49 rfl ?_
  refine ex_iconst (v := 4) dX12_which_50 (by decide) ?_
  refine rx_cV (kd := 12) dX12_which_51 rfl lk_X12_167 rfl (by decide) (by first | assumption | rfl) ⟨⟨rfl, rfl⟩, by decide, by decide⟩ rfl (Nat.le_of_ble_eq_true rfl) rfl s_X12_look (Rv.k ?_)
  rw [← nw_rd (I := lkI I 4) (B := 500)]
  refine ex_aload_n dX12_which_54 rfl ?_
  refine ex_iload_n dX12_which_55 rfl ?_
  refine rx_cV (kd := 12) dX12_which_56 rfl lk_X12_171 rfl (by decide) (by first | assumption | rfl) ⟨⟨rfl, rfl⟩, by decide, by decide⟩ rfl (Nat.le_of_ble_eq_true rfl) rfl (s_X12_layHarbour vk lk_4 (by decide)) (Rv.k ?_)
  rw [nw_cut (I := lkI I 4) (B := 500) (N := wnd (rdw (lkI I 4) 500) 0 21 (fun j => lkI I 4 208 (21 * k.toNatClampNeg + j))), show cut (wnd (rdw (lkI I 4) 500) 0 21 (fun j => lkI I 4 208 (21 * k.toNatClampNeg + j))) = hbN I k.toNatClampNeg from rfl]
  refine ex_bipush (v := (-9)) dX12_which_59 (by decide) ?_
  refine st_i5 dX12_which_61 (by first | exact rfl | exact trivial) ?_
  refine ex_iconst (v := 0) dX12_which_63 (by decide) ?_
  refine st_i6 dX12_which_64 (by first | exact rfl | exact trivial) ?_
  refine ex_iconst (v := 0) dX12_which_66 (by decide) ?_
  refine st_i7 dX12_which_67 (by first | exact rfl | exact trivial) ?_
  have key := lm_whi (G := G) (I := I) (L := L) (t := t) (v := x) (P := Rs (.int (whM I k.toNatClampNeg r.toNatClampNeg c.toNatClampNeg 4).1) (mk (whI I k.toNatClampNeg r.toNatClampNeg c.toNatClampNeg) L t)) vk vc vr hH hS g1 hm ?_
  · rw [whM_0] at key
    exact key
  refine ex_aload_n dX12_which_123 rfl ?_
  refine ex_iload dX12_which_124 rfl ?_
  refine ex_iload dX12_which_126 rfl ?_
  refine rx_cV (kd := 12) dX12_which_128 rfl lk_X12_108 rfl (by decide) (by first | assumption | rfl) ⟨⟨rfl, rfl⟩, by decide, by decide⟩ rfl (Nat.le_of_ble_eq_true rfl) rfl s_X12_tells (Rs.k ?_)
  refine ex_iret dX12_which_131 rfl rfl ⟨rfl, Nat.le_refl _⟩ ?_
  exact ⟨rfl, rfl⟩
def f_X12_which (I : Im) (k c r : Int32) : Int32 × Im := if b2i (0 ≤ k ∧ k ≤ 3) = 0 ∨ b2i (0 ≤ c ∧ c ≤ 15) = 0 ∨ b2i (0 ≤ r ∧ r ≤ 5) = 0 then (-1, I) else if 0 ≤ (f_X12_needFloat I k (f_X12_isAnySea I) c (-9) r).1 then ((whM I k.toNatClampNeg r.toNatClampNeg c.toNatClampNeg 4).1, (whI I k.toNatClampNeg r.toNatClampNeg c.toNatClampNeg)) else (f_X12_needFloat I k (f_X12_isAnySea I) c (-9) r)
set_option maxRecDepth 100000 in
set_option maxHeartbeats 4000000 in
theorem s_X12_which {k c r : Int32} (hH : HmS I) (hS : SbS I) (hSz : SzS I) : Ca G mdX12_which [.ref 200, .int k, .int c, .int r] (mk I L t) (Rs (.int (f_X12_which I k c r).1) (mk (f_X12_which I k c r).2 L t)) := by
  refine Ca.intro [some (.ref 200), some (.int k), some (.int c), some (.int r), none, none, none, none, none] (by decide) (Nat.le_of_ble_eq_true rfl) rfl rfl ?_
  refine ex_iload_n dX12_which_0 rfl ?_
  refine rx_cS dX12_which_1 rfl lk_X12_151 ⟨⟨rfl, rfl⟩, by decide, by decide⟩ rfl (Nat.le_of_ble_eq_true rfl) rfl s_X12_isPlace (Rs.k ?_)
  refine ex_if_eq 24 dX12_which_4 (by decide) (fun h4 => ?_) (fun h4 => ?_)
  · have hF : (f_X12_which I k c r) = (-1, I) := if_pos (Or.inl h4)
    refine ex_iconst (v := (-1)) dX12_which_24 (by decide) ?_
    refine ex_iret dX12_which_25 rfl rfl ⟨rfl, Nat.le_refl _⟩ ?_
    exact ⟨by rw [hF], by rw [hF]⟩
  · have qk := (cl_lt (N := 4) (by decide) h4).1
    have vk := (cl_lt (N := 4) (by decide) h4).2
    refine ex_iload_n dX12_which_7 rfl ?_
    refine ex_iconst (v := 0) dX12_which_8 (by decide) ?_
    refine ex_bipush (v := 15) dX12_which_9 (by decide) ?_
    refine rx_cS dX12_which_11 rfl lk_X12_86 ⟨⟨rfl, rfl⟩, by decide, by decide⟩ rfl (Nat.le_of_ble_eq_true rfl) rfl s_X12_in (Rs.k ?_)
    refine ex_if_eq 24 dX12_which_14 (by decide) (fun h14 => ?_) (fun h14 => ?_)
    · have hF : (f_X12_which I k c r) = (-1, I) := if_pos (Or.inr (Or.inl h14))
      refine ex_iconst (v := (-1)) dX12_which_24 (by decide) ?_
      refine ex_iret dX12_which_25 rfl rfl ⟨rfl, Nat.le_refl _⟩ ?_
      exact ⟨by rw [hF], by rw [hF]⟩
    · have qc := (cl_lt (N := 16) (by decide) h14).1
      have vc := (cl_lt (N := 16) (by decide) h14).2
      refine ex_iload_n dX12_which_17 rfl ?_
      refine rx_cS dX12_which_18 rfl lk_X12_96 ⟨⟨rfl, rfl⟩, by decide, by decide⟩ rfl (Nat.le_of_ble_eq_true rfl) rfl s_X12_isRow (Rs.k ?_)
      refine ex_if_ne 26 dX12_which_21 (by decide) (fun h21 => ?_) (fun h21 => ?_)
      · have qr := (cl_lt (N := 6) (by decide) h21).1
        have vr := (cl_lt (N := 6) (by decide) h21).2
        have hF0 : (f_X12_which I k c r) = (if 0 ≤ (f_X12_needFloat I k (f_X12_isAnySea I) c (-9) r).1 then ((whM I k.toNatClampNeg r.toNatClampNeg c.toNatClampNeg 4).1, (whI I k.toNatClampNeg r.toNatClampNeg c.toNatClampNeg)) else (f_X12_needFloat I k (f_X12_isAnySea I) c (-9) r)) := if_neg (fun q => q.elim h4 (fun q => q.elim h14 h21))
        refine ex_aload_n dX12_which_26 rfl ?_
        refine ex_iload_n dX12_which_27 rfl ?_
        refine ex_aload_n dX12_which_28 rfl ?_
        refine rx_cV (kd := 12) dX12_which_29 rfl lk_X12_314 rfl (by decide) (by first | assumption | rfl) ⟨⟨rfl, rfl⟩, by decide, by decide⟩ rfl (Nat.le_of_ble_eq_true rfl) rfl s_X12_isAnySea (Rs.k ?_)
        refine ex_iload_n dX12_which_32 rfl ?_
        refine ex_bipush (v := (-9)) dX12_which_33 (by decide) ?_
        refine ex_iload_n dX12_which_35 rfl ?_
        refine rx_cV (kd := 12) dX12_which_36 rfl lk_X12_349 rfl (by decide) (by first | assumption | rfl) ⟨⟨rfl, rfl⟩, by decide, by decide⟩ rfl (Nat.le_of_ble_eq_true rfl) rfl (s_X12_needFloat vk vr hSz) (Rs.k ?_)
        refine st_i4 dX12_which_39 (by first | exact rfl | exact trivial) ?_
        refine ex_iload dX12_which_41 rfl ?_
        refine ex_if_ge 49 dX12_which_43 (by decide) (fun h43 => ?_) (fun h43 => ?_)
        · have hF := hF0.trans (if_pos h43)
          obtain ⟨hJ, g1, g2, g3⟩ := nf0 h43
          rw [hF, hJ]
          exact lm_wh2 vk vc vr hH hS g1 (szn (hSz _ qr) g3)
        · have hF := hF0.trans (if_neg h43)
          refine ex_iload dX12_which_46 rfl ?_
          refine ex_iret dX12_which_48 rfl rfl ⟨rfl, Nat.le_refl _⟩ ?_
          exact ⟨by rw [hF], by rw [hF]⟩
      · have hF : (f_X12_which I k c r) = (-1, I) := if_pos (Or.inr (Or.inr (h21)))
        refine ex_iconst (v := (-1)) dX12_which_24 (by decide) ?_
        refine ex_iret dX12_which_25 rfl rfl ⟨rfl, Nat.le_refl _⟩ ?_
        exact ⟨by rw [hF], by rw [hF]⟩
set_option maxRecDepth 100000 in
set_option maxHeartbeats 4000000 in
theorem lm_c0_1 {P : Option Value → Mem → Prop}  (kont : Ex G mdX12_counted 83 [some (.ref 200), some (.int 0), some (.int (nI (cntN (I 207) 4))), some (.int (nI 4))] [] (mk I L t) 0 0 P) : Ex G mdX12_counted 4 [some (.ref 200), some (.int 0), some (.int (nI (cntN (I 207) 0))), some (.int (nI 0))] [] (mk I L t) 0 0 P := by
  refine loop_up (G := G) (d := mdX12_counted) (pc := 4) (st := []) (uc := 0) (us := 0) (P := P) 4 (fun k => mk I L t) (fun k => [some (.ref 200), some (.int 0), some (.int (nI (cntN (I 207) k))), some (.int (nI k))]) ?_ ?_ 0 (Nat.zero_le _)
  · intro k hk ih
    refine ex_iload_n dX12_counted_4 rfl ?_
    refine ex_iconst (v := 4) dX12_counted_5 (by decide) ?_
    refine ex_icmp_ge 83 dX12_counted_6 (by decide) (fun h6 => ?_) (fun h6 => ?_)
    · exact absurd h6 (nI_ge hk (by decide))
    · skip
      refine ex_iload_n dX12_counted_9 rfl ?_
      refine ex_iload_n dX12_counted_10 rfl ?_
      refine ex_if_ne 23 dX12_counted_11 (by decide) (fun h11 => ?_) (fun h11 => ?_)
      · exact absurd h11 (by decide)
      · skip
        refine ex_aload_n dX12_counted_14 rfl ?_
        refine g_12_10 dX12_counted_15 rfl wf_X12_29 (by first | assumption | rfl) (show Rt _ 200 10 = some 207 from rfl) ?_
        refine ex_iload_n dX12_counted_18 rfl ?_
        refine rx_zald dX12_counted_19 (by first | assumption | rfl) (vp_in_nI hk (by decide)) ?_
        rw [nI_clamp (by omega)]
        refine ex_if_ne 70 dX12_counted_20 (by decide) (fun h20 => ?_) (fun h20 => ?_)
        · have hc : cntN (I 207) (k + 1) = cntN (I 207) k + 1 := cntN_s.trans (if_neg h20)
          refine ex_iconst (v := 1) dX12_counted_70 (by decide) ?_
          refine ex_goto 75 dX12_counted_71 (by decide) ?_
          refine ex_iadd dX12_counted_75 ?_
          refine st_i2 dX12_counted_76 (by first | exact rfl | exact trivial) ?_
          refine inc3 (v := _ + 1) dX12_counted_77 (by rfl) (by first | exact rfl | exact trivial) ?_
          refine ex_goto 4 dX12_counted_80 (by decide) ?_
          simp only [Int32.add_zero, nI_1]
          rw [hc] at ih
          exact ih
        · have hc : cntN (I 207) (k + 1) = cntN (I 207) k := cntN_s.trans (if_pos h20)
          refine ex_iload_n dX12_counted_23 rfl ?_
          refine ex_iconst (v := 1) dX12_counted_24 (by decide) ?_
          refine ex_icmp_ne 37 dX12_counted_25 (by decide) (fun h25 => ?_) (fun h25 => ?_)
          · skip
            refine ex_iload_n dX12_counted_37 rfl ?_
            refine ex_iconst (v := 5) dX12_counted_38 (by decide) ?_
            refine ex_icmp_ne 55 dX12_counted_39 (by decide) (fun h39 => ?_) (fun h39 => ?_)
            · skip
              refine ex_iload_n dX12_counted_55 rfl ?_
              refine ex_bipush (v := 7) dX12_counted_56 (by decide) ?_
              refine ex_icmp_ne 74 dX12_counted_58 (by decide) (fun h58 => ?_) (fun h58 => ?_)
              · skip
                refine ex_iconst (v := 0) dX12_counted_74 (by decide) ?_
                refine ex_iadd dX12_counted_75 ?_
                refine st_i2 dX12_counted_76 (by first | exact rfl | exact trivial) ?_
                refine inc3 (v := _ + 1) dX12_counted_77 (by rfl) (by first | exact rfl | exact trivial) ?_
                refine ex_goto 4 dX12_counted_80 (by decide) ?_
                simp only [Int32.add_zero, nI_1]
                rw [hc] at ih
                exact ih
              · exact absurd h58 (by decide)
            · exact absurd h39 (by decide)
          · exact absurd h25 (by decide)
  · skip
    refine ex_iload_n dX12_counted_4 rfl ?_
    refine ex_iconst (v := 4) dX12_counted_5 (by decide) ?_
    refine ex_icmp_ge 83 dX12_counted_6 (by decide) (fun h6 => ?_) (fun h6 => ?_)
    · skip
      exact kont
    · exact absurd (by decide : nI 4 ≤ nI 4) h6
set_option maxRecDepth 100000 in
set_option maxHeartbeats 4000000 in
theorem lm_c0_2 {P : Option Value → Mem → Prop} {a : Int32} (kont : Ex G mdX12_counted 118 [some (.ref 200), some (.int 0), some (.int a), some (.int (nI 3))] [] (mk I L t) 0 0 P) : Ex G mdX12_counted 85 [some (.ref 200), some (.int 0), some (.int a), some (.int (nI 0))] [] (mk I L t) 0 0 P := by
  refine loop_up (G := G) (d := mdX12_counted) (pc := 85) (st := []) (uc := 0) (us := 0) (P := P) 3 (fun k => mk I L t) (fun k => [some (.ref 200), some (.int 0), some (.int a), some (.int (nI k))]) ?_ ?_ 0 (Nat.zero_le _)
  · intro k hk ih
    refine ex_iload_n dX12_counted_85 rfl ?_
    refine ex_iconst (v := 3) dX12_counted_86 (by decide) ?_
    refine ex_icmp_ge 118 dX12_counted_87 (by decide) (fun h87 => ?_) (fun h87 => ?_)
    · exact absurd h87 (nI_ge hk (by decide))
    · skip
      refine ex_iload_n dX12_counted_90 rfl ?_
      refine ex_iload_n dX12_counted_91 rfl ?_
      refine ex_iconst (v := 2) dX12_counted_92 (by decide) ?_
      refine ex_icmp_ne 109 dX12_counted_93 (by decide) (fun h93 => ?_) (fun h93 => ?_)
      · skip
        refine ex_iconst (v := 0) dX12_counted_109 (by decide) ?_
        refine ex_iadd dX12_counted_110 ?_
        refine st_i2 dX12_counted_111 (by first | exact rfl | exact trivial) ?_
        refine inc3 (v := _ + 1) dX12_counted_112 (by rfl) (by first | exact rfl | exact trivial) ?_
        refine ex_goto 85 dX12_counted_115 (by decide) ?_
        simp only [Int32.add_zero, nI_1]
        exact ih
      · exact absurd h93 (by decide)
  · skip
    refine ex_iload_n dX12_counted_85 rfl ?_
    refine ex_iconst (v := 3) dX12_counted_86 (by decide) ?_
    refine ex_icmp_ge 118 dX12_counted_87 (by decide) (fun h87 => ?_) (fun h87 => ?_)
    · skip
      exact kont
    · exact absurd (by decide : nI 3 ≤ nI 3) h87
set_option maxRecDepth 100000 in
set_option maxHeartbeats 4000000 in
theorem lm_c0_3 {P : Option Value → Mem → Prop} {a : Int32} (kont : Ex G mdX12_counted 155 [some (.ref 200), some (.int 0), some (.int a), some (.int (nI 6))] [] (mk I L t) 0 0 P) : Ex G mdX12_counted 120 [some (.ref 200), some (.int 0), some (.int a), some (.int (nI 0))] [] (mk I L t) 0 0 P := by
  refine loop_up (G := G) (d := mdX12_counted) (pc := 120) (st := []) (uc := 0) (us := 0) (P := P) 6 (fun k => mk I L t) (fun k => [some (.ref 200), some (.int 0), some (.int a), some (.int (nI k))]) ?_ ?_ 0 (Nat.zero_le _)
  · intro k hk ih
    refine ex_iload_n dX12_counted_120 rfl ?_
    refine ex_bipush (v := 6) dX12_counted_121 (by decide) ?_
    refine ex_icmp_ge 155 dX12_counted_123 (by decide) (fun h123 => ?_) (fun h123 => ?_)
    · exact absurd h123 (nI_ge hk (by decide))
    · skip
      refine ex_iload_n dX12_counted_126 rfl ?_
      refine ex_iload_n dX12_counted_127 rfl ?_
      refine ex_bipush (v := 6) dX12_counted_128 (by decide) ?_
      refine ex_icmp_ne 146 dX12_counted_130 (by decide) (fun h130 => ?_) (fun h130 => ?_)
      · skip
        refine ex_iconst (v := 0) dX12_counted_146 (by decide) ?_
        refine ex_iadd dX12_counted_147 ?_
        refine st_i2 dX12_counted_148 (by first | exact rfl | exact trivial) ?_
        refine inc3 (v := _ + 1) dX12_counted_149 (by rfl) (by first | exact rfl | exact trivial) ?_
        refine ex_goto 120 dX12_counted_152 (by decide) ?_
        simp only [Int32.add_zero, nI_1]
        exact ih
      · exact absurd h130 (by decide)
  · skip
    refine ex_iload_n dX12_counted_120 rfl ?_
    refine ex_bipush (v := 6) dX12_counted_121 (by decide) ?_
    refine ex_icmp_ge 155 dX12_counted_123 (by decide) (fun h123 => ?_) (fun h123 => ?_)
    · skip
      exact kont
    · exact absurd (by decide : nI 6 ≤ nI 6) h123
set_option maxRecDepth 100000 in
set_option maxHeartbeats 4000000 in
theorem s_counted0 : Ca G mdX12_counted [.ref 200, .int 0] (mk I L t) (Rs (.int (nI (cntN (I 207) 4))) (mk (lkI I 0) L t)) := by
  refine Ca.intro [some (.ref 200), some (.int 0), none, none] (by decide) (Nat.le_of_ble_eq_true rfl) rfl rfl ?_
  refine ex_iconst (v := 0) dX12_counted_0 (by decide) ?_
  refine st_i2 dX12_counted_1 (by first | exact rfl | exact trivial) ?_
  refine ex_iconst (v := 0) dX12_counted_2 (by decide) ?_
  refine st_i3 dX12_counted_3 (by first | exact rfl | exact trivial) ?_
  have key1 := lm_c0_1 (G := G) (I := I) (L := L) (t := t) (P := Rs (.int (nI (cntN (I 207) 4))) (mk (lkI I 0) L t)) ?_
  · rw [cntN_0] at key1
    exact key1
  refine ex_iconst (v := 0) dX12_counted_83 (by decide) ?_
  refine st_i3 dX12_counted_84 (by first | exact rfl | exact trivial) ?_
  refine lm_c0_2 ?_
  refine ex_iconst (v := 0) dX12_counted_118 (by decide) ?_
  refine st_i3 dX12_counted_119 (by first | exact rfl | exact trivial) ?_
  refine lm_c0_3 ?_
  refine ex_aload_n dX12_counted_155 rfl ?_
  refine ex_iconst (v := 0) dX12_counted_156 (by decide) ?_
  refine rx_cV (kd := 12) dX12_counted_157 rfl lk_X12_167 rfl (by decide) (by first | assumption | rfl) ⟨⟨rfl, rfl⟩, by decide, by decide⟩ rfl (Nat.le_of_ble_eq_true rfl) rfl s_X12_look (Rv.k ?_)
  refine ex_iload_n dX12_counted_160 rfl ?_
  refine ex_iconst (v := 3) dX12_counted_161 (by decide) ?_
  refine ex_icmp_ne 172 dX12_counted_162 (by decide) (fun h162 => ?_) (fun h162 => ?_)
  · skip
    refine ex_iload_n dX12_counted_172 rfl ?_
    refine ex_iconst (v := 4) dX12_counted_173 (by decide) ?_
    refine ex_icmp_ne 199 dX12_counted_174 (by decide) (fun h174 => ?_) (fun h174 => ?_)
    · skip
      refine ex_iload_n dX12_counted_199 rfl ?_
      refine ex_iret dX12_counted_200 rfl rfl ⟨rfl, Nat.le_refl _⟩ ?_
      exact ⟨rfl, rfl⟩
    · exact absurd h174 (by decide)
  · exact absurd h162 (by decide)
set_option maxRecDepth 100000 in
set_option maxHeartbeats 4000000 in
theorem lm_c1_1 {P : Option Value → Mem → Prop}  (kont : Ex G mdX12_counted 83 [some (.ref 200), some (.int 1), some (.int (nI (cntN (I 209) 4))), some (.int (nI 4))] [] (mk I L t) 0 0 P) : Ex G mdX12_counted 4 [some (.ref 200), some (.int 1), some (.int (nI (cntN (I 209) 0))), some (.int (nI 0))] [] (mk I L t) 0 0 P := by
  refine loop_up (G := G) (d := mdX12_counted) (pc := 4) (st := []) (uc := 0) (us := 0) (P := P) 4 (fun k => mk I L t) (fun k => [some (.ref 200), some (.int 1), some (.int (nI (cntN (I 209) k))), some (.int (nI k))]) ?_ ?_ 0 (Nat.zero_le _)
  · intro k hk ih
    refine ex_iload_n dX12_counted_4 rfl ?_
    refine ex_iconst (v := 4) dX12_counted_5 (by decide) ?_
    refine ex_icmp_ge 83 dX12_counted_6 (by decide) (fun h6 => ?_) (fun h6 => ?_)
    · exact absurd h6 (nI_ge hk (by decide))
    · skip
      refine ex_iload_n dX12_counted_9 rfl ?_
      refine ex_iload_n dX12_counted_10 rfl ?_
      refine ex_if_ne 23 dX12_counted_11 (by decide) (fun h11 => ?_) (fun h11 => ?_)
      · skip
        refine ex_iload_n dX12_counted_23 rfl ?_
        refine ex_iconst (v := 1) dX12_counted_24 (by decide) ?_
        refine ex_icmp_ne 37 dX12_counted_25 (by decide) (fun h25 => ?_) (fun h25 => ?_)
        · exact absurd h25 (by decide)
        · skip
          refine ex_aload_n dX12_counted_28 rfl ?_
          refine g_12_12 dX12_counted_29 rfl wf_X12_36 (by first | assumption | rfl) (show Rt _ 200 12 = some 209 from rfl) ?_
          refine ex_iload_n dX12_counted_32 rfl ?_
          refine rx_zald dX12_counted_33 (by first | assumption | rfl) (vp_in_nI hk (by decide)) ?_
          rw [nI_clamp (by omega)]
          refine ex_if_ne 70 dX12_counted_34 (by decide) (fun h34 => ?_) (fun h34 => ?_)
          · have hc : cntN (I 209) (k + 1) = cntN (I 209) k + 1 := cntN_s.trans (if_neg h34)
            refine ex_iconst (v := 1) dX12_counted_70 (by decide) ?_
            refine ex_goto 75 dX12_counted_71 (by decide) ?_
            refine ex_iadd dX12_counted_75 ?_
            refine st_i2 dX12_counted_76 (by first | exact rfl | exact trivial) ?_
            refine inc3 (v := _ + 1) dX12_counted_77 (by rfl) (by first | exact rfl | exact trivial) ?_
            refine ex_goto 4 dX12_counted_80 (by decide) ?_
            simp only [Int32.add_zero, nI_1]
            rw [hc] at ih
            exact ih
          · have hc : cntN (I 209) (k + 1) = cntN (I 209) k := cntN_s.trans (if_pos h34)
            refine ex_iload_n dX12_counted_37 rfl ?_
            refine ex_iconst (v := 5) dX12_counted_38 (by decide) ?_
            refine ex_icmp_ne 55 dX12_counted_39 (by decide) (fun h39 => ?_) (fun h39 => ?_)
            · skip
              refine ex_iload_n dX12_counted_55 rfl ?_
              refine ex_bipush (v := 7) dX12_counted_56 (by decide) ?_
              refine ex_icmp_ne 74 dX12_counted_58 (by decide) (fun h58 => ?_) (fun h58 => ?_)
              · skip
                refine ex_iconst (v := 0) dX12_counted_74 (by decide) ?_
                refine ex_iadd dX12_counted_75 ?_
                refine st_i2 dX12_counted_76 (by first | exact rfl | exact trivial) ?_
                refine inc3 (v := _ + 1) dX12_counted_77 (by rfl) (by first | exact rfl | exact trivial) ?_
                refine ex_goto 4 dX12_counted_80 (by decide) ?_
                simp only [Int32.add_zero, nI_1]
                rw [hc] at ih
                exact ih
              · exact absurd h58 (by decide)
            · exact absurd h39 (by decide)
      · exact absurd h11 (by decide)
  · skip
    refine ex_iload_n dX12_counted_4 rfl ?_
    refine ex_iconst (v := 4) dX12_counted_5 (by decide) ?_
    refine ex_icmp_ge 83 dX12_counted_6 (by decide) (fun h6 => ?_) (fun h6 => ?_)
    · skip
      exact kont
    · exact absurd (by decide : nI 4 ≤ nI 4) h6
set_option maxRecDepth 100000 in
set_option maxHeartbeats 4000000 in
theorem lm_c1_2 {P : Option Value → Mem → Prop} {a : Int32} (kont : Ex G mdX12_counted 118 [some (.ref 200), some (.int 1), some (.int a), some (.int (nI 3))] [] (mk I L t) 0 0 P) : Ex G mdX12_counted 85 [some (.ref 200), some (.int 1), some (.int a), some (.int (nI 0))] [] (mk I L t) 0 0 P := by
  refine loop_up (G := G) (d := mdX12_counted) (pc := 85) (st := []) (uc := 0) (us := 0) (P := P) 3 (fun k => mk I L t) (fun k => [some (.ref 200), some (.int 1), some (.int a), some (.int (nI k))]) ?_ ?_ 0 (Nat.zero_le _)
  · intro k hk ih
    refine ex_iload_n dX12_counted_85 rfl ?_
    refine ex_iconst (v := 3) dX12_counted_86 (by decide) ?_
    refine ex_icmp_ge 118 dX12_counted_87 (by decide) (fun h87 => ?_) (fun h87 => ?_)
    · exact absurd h87 (nI_ge hk (by decide))
    · skip
      refine ex_iload_n dX12_counted_90 rfl ?_
      refine ex_iload_n dX12_counted_91 rfl ?_
      refine ex_iconst (v := 2) dX12_counted_92 (by decide) ?_
      refine ex_icmp_ne 109 dX12_counted_93 (by decide) (fun h93 => ?_) (fun h93 => ?_)
      · skip
        refine ex_iconst (v := 0) dX12_counted_109 (by decide) ?_
        refine ex_iadd dX12_counted_110 ?_
        refine st_i2 dX12_counted_111 (by first | exact rfl | exact trivial) ?_
        refine inc3 (v := _ + 1) dX12_counted_112 (by rfl) (by first | exact rfl | exact trivial) ?_
        refine ex_goto 85 dX12_counted_115 (by decide) ?_
        simp only [Int32.add_zero, nI_1]
        exact ih
      · exact absurd h93 (by decide)
  · skip
    refine ex_iload_n dX12_counted_85 rfl ?_
    refine ex_iconst (v := 3) dX12_counted_86 (by decide) ?_
    refine ex_icmp_ge 118 dX12_counted_87 (by decide) (fun h87 => ?_) (fun h87 => ?_)
    · skip
      exact kont
    · exact absurd (by decide : nI 3 ≤ nI 3) h87
set_option maxRecDepth 100000 in
set_option maxHeartbeats 4000000 in
theorem lm_c1_3 {P : Option Value → Mem → Prop} {a : Int32} (kont : Ex G mdX12_counted 155 [some (.ref 200), some (.int 1), some (.int a), some (.int (nI 6))] [] (mk I L t) 0 0 P) : Ex G mdX12_counted 120 [some (.ref 200), some (.int 1), some (.int a), some (.int (nI 0))] [] (mk I L t) 0 0 P := by
  refine loop_up (G := G) (d := mdX12_counted) (pc := 120) (st := []) (uc := 0) (us := 0) (P := P) 6 (fun k => mk I L t) (fun k => [some (.ref 200), some (.int 1), some (.int a), some (.int (nI k))]) ?_ ?_ 0 (Nat.zero_le _)
  · intro k hk ih
    refine ex_iload_n dX12_counted_120 rfl ?_
    refine ex_bipush (v := 6) dX12_counted_121 (by decide) ?_
    refine ex_icmp_ge 155 dX12_counted_123 (by decide) (fun h123 => ?_) (fun h123 => ?_)
    · exact absurd h123 (nI_ge hk (by decide))
    · skip
      refine ex_iload_n dX12_counted_126 rfl ?_
      refine ex_iload_n dX12_counted_127 rfl ?_
      refine ex_bipush (v := 6) dX12_counted_128 (by decide) ?_
      refine ex_icmp_ne 146 dX12_counted_130 (by decide) (fun h130 => ?_) (fun h130 => ?_)
      · skip
        refine ex_iconst (v := 0) dX12_counted_146 (by decide) ?_
        refine ex_iadd dX12_counted_147 ?_
        refine st_i2 dX12_counted_148 (by first | exact rfl | exact trivial) ?_
        refine inc3 (v := _ + 1) dX12_counted_149 (by rfl) (by first | exact rfl | exact trivial) ?_
        refine ex_goto 120 dX12_counted_152 (by decide) ?_
        simp only [Int32.add_zero, nI_1]
        exact ih
      · exact absurd h130 (by decide)
  · skip
    refine ex_iload_n dX12_counted_120 rfl ?_
    refine ex_bipush (v := 6) dX12_counted_121 (by decide) ?_
    refine ex_icmp_ge 155 dX12_counted_123 (by decide) (fun h123 => ?_) (fun h123 => ?_)
    · skip
      exact kont
    · exact absurd (by decide : nI 6 ≤ nI 6) h123
set_option maxRecDepth 100000 in
set_option maxHeartbeats 4000000 in
theorem s_counted1 : Ca G mdX12_counted [.ref 200, .int 1] (mk I L t) (Rs (.int (nI (cntN (I 209) 4))) (mk (lkI I 0) L t)) := by
  refine Ca.intro [some (.ref 200), some (.int 1), none, none] (by decide) (Nat.le_of_ble_eq_true rfl) rfl rfl ?_
  refine ex_iconst (v := 0) dX12_counted_0 (by decide) ?_
  refine st_i2 dX12_counted_1 (by first | exact rfl | exact trivial) ?_
  refine ex_iconst (v := 0) dX12_counted_2 (by decide) ?_
  refine st_i3 dX12_counted_3 (by first | exact rfl | exact trivial) ?_
  have key1 := lm_c1_1 (G := G) (I := I) (L := L) (t := t) (P := Rs (.int (nI (cntN (I 209) 4))) (mk (lkI I 0) L t)) ?_
  · rw [cntN_0] at key1
    exact key1
  refine ex_iconst (v := 0) dX12_counted_83 (by decide) ?_
  refine st_i3 dX12_counted_84 (by first | exact rfl | exact trivial) ?_
  refine lm_c1_2 ?_
  refine ex_iconst (v := 0) dX12_counted_118 (by decide) ?_
  refine st_i3 dX12_counted_119 (by first | exact rfl | exact trivial) ?_
  refine lm_c1_3 ?_
  refine ex_aload_n dX12_counted_155 rfl ?_
  refine ex_iconst (v := 0) dX12_counted_156 (by decide) ?_
  refine rx_cV (kd := 12) dX12_counted_157 rfl lk_X12_167 rfl (by decide) (by first | assumption | rfl) ⟨⟨rfl, rfl⟩, by decide, by decide⟩ rfl (Nat.le_of_ble_eq_true rfl) rfl s_X12_look (Rv.k ?_)
  refine ex_iload_n dX12_counted_160 rfl ?_
  refine ex_iconst (v := 3) dX12_counted_161 (by decide) ?_
  refine ex_icmp_ne 172 dX12_counted_162 (by decide) (fun h162 => ?_) (fun h162 => ?_)
  · skip
    refine ex_iload_n dX12_counted_172 rfl ?_
    refine ex_iconst (v := 4) dX12_counted_173 (by decide) ?_
    refine ex_icmp_ne 199 dX12_counted_174 (by decide) (fun h174 => ?_) (fun h174 => ?_)
    · skip
      refine ex_iload_n dX12_counted_199 rfl ?_
      refine ex_iret dX12_counted_200 rfl rfl ⟨rfl, Nat.le_refl _⟩ ?_
      exact ⟨rfl, rfl⟩
    · exact absurd h174 (by decide)
  · exact absurd h162 (by decide)
set_option maxRecDepth 100000 in
set_option maxHeartbeats 4000000 in
theorem lm_c2_1 {P : Option Value → Mem → Prop} {a : Int32} (kont : Ex G mdX12_counted 83 [some (.ref 200), some (.int 2), some (.int a), some (.int (nI 4))] [] (mk I L t) 0 0 P) : Ex G mdX12_counted 4 [some (.ref 200), some (.int 2), some (.int a), some (.int (nI 0))] [] (mk I L t) 0 0 P := by
  refine loop_up (G := G) (d := mdX12_counted) (pc := 4) (st := []) (uc := 0) (us := 0) (P := P) 4 (fun k => mk I L t) (fun k => [some (.ref 200), some (.int 2), some (.int a), some (.int (nI k))]) ?_ ?_ 0 (Nat.zero_le _)
  · intro k hk ih
    refine ex_iload_n dX12_counted_4 rfl ?_
    refine ex_iconst (v := 4) dX12_counted_5 (by decide) ?_
    refine ex_icmp_ge 83 dX12_counted_6 (by decide) (fun h6 => ?_) (fun h6 => ?_)
    · exact absurd h6 (nI_ge hk (by decide))
    · skip
      refine ex_iload_n dX12_counted_9 rfl ?_
      refine ex_iload_n dX12_counted_10 rfl ?_
      refine ex_if_ne 23 dX12_counted_11 (by decide) (fun h11 => ?_) (fun h11 => ?_)
      · skip
        refine ex_iload_n dX12_counted_23 rfl ?_
        refine ex_iconst (v := 1) dX12_counted_24 (by decide) ?_
        refine ex_icmp_ne 37 dX12_counted_25 (by decide) (fun h25 => ?_) (fun h25 => ?_)
        · skip
          refine ex_iload_n dX12_counted_37 rfl ?_
          refine ex_iconst (v := 5) dX12_counted_38 (by decide) ?_
          refine ex_icmp_ne 55 dX12_counted_39 (by decide) (fun h39 => ?_) (fun h39 => ?_)
          · skip
            refine ex_iload_n dX12_counted_55 rfl ?_
            refine ex_bipush (v := 7) dX12_counted_56 (by decide) ?_
            refine ex_icmp_ne 74 dX12_counted_58 (by decide) (fun h58 => ?_) (fun h58 => ?_)
            · skip
              refine ex_iconst (v := 0) dX12_counted_74 (by decide) ?_
              refine ex_iadd dX12_counted_75 ?_
              refine st_i2 dX12_counted_76 (by first | exact rfl | exact trivial) ?_
              refine inc3 (v := _ + 1) dX12_counted_77 (by rfl) (by first | exact rfl | exact trivial) ?_
              refine ex_goto 4 dX12_counted_80 (by decide) ?_
              simp only [Int32.add_zero, nI_1]
              exact ih
            · exact absurd h58 (by decide)
          · exact absurd h39 (by decide)
        · exact absurd h25 (by decide)
      · exact absurd h11 (by decide)
  · skip
    refine ex_iload_n dX12_counted_4 rfl ?_
    refine ex_iconst (v := 4) dX12_counted_5 (by decide) ?_
    refine ex_icmp_ge 83 dX12_counted_6 (by decide) (fun h6 => ?_) (fun h6 => ?_)
    · skip
      exact kont
    · exact absurd (by decide : nI 4 ≤ nI 4) h6
set_option maxRecDepth 100000 in
set_option maxHeartbeats 4000000 in
theorem lm_c2_2 {P : Option Value → Mem → Prop}  (kont : Ex G mdX12_counted 118 [some (.ref 200), some (.int 2), some (.int (nI (cntN (I 214) 3))), some (.int (nI 3))] [] (mk I L t) 0 0 P) : Ex G mdX12_counted 85 [some (.ref 200), some (.int 2), some (.int (nI (cntN (I 214) 0))), some (.int (nI 0))] [] (mk I L t) 0 0 P := by
  refine loop_up (G := G) (d := mdX12_counted) (pc := 85) (st := []) (uc := 0) (us := 0) (P := P) 3 (fun k => mk I L t) (fun k => [some (.ref 200), some (.int 2), some (.int (nI (cntN (I 214) k))), some (.int (nI k))]) ?_ ?_ 0 (Nat.zero_le _)
  · intro k hk ih
    refine ex_iload_n dX12_counted_85 rfl ?_
    refine ex_iconst (v := 3) dX12_counted_86 (by decide) ?_
    refine ex_icmp_ge 118 dX12_counted_87 (by decide) (fun h87 => ?_) (fun h87 => ?_)
    · exact absurd h87 (nI_ge hk (by decide))
    · skip
      refine ex_iload_n dX12_counted_90 rfl ?_
      refine ex_iload_n dX12_counted_91 rfl ?_
      refine ex_iconst (v := 2) dX12_counted_92 (by decide) ?_
      refine ex_icmp_ne 109 dX12_counted_93 (by decide) (fun h93 => ?_) (fun h93 => ?_)
      · exact absurd h93 (by decide)
      · skip
        refine ex_aload_n dX12_counted_96 rfl ?_
        refine g_12_20 dX12_counted_97 rfl wf_X12_51 (by first | assumption | rfl) (show Rt _ 200 20 = some 214 from rfl) ?_
        refine ex_iload_n dX12_counted_100 rfl ?_
        refine rx_zald dX12_counted_101 (by first | assumption | rfl) (vp_in_nI hk (by decide)) ?_
        rw [nI_clamp (by omega)]
        refine ex_if_eq 109 dX12_counted_102 (by decide) (fun h102 => ?_) (fun h102 => ?_)
        · have hc : cntN (I 214) (k + 1) = cntN (I 214) k := cntN_s.trans (if_pos h102)
          refine ex_iconst (v := 0) dX12_counted_109 (by decide) ?_
          refine ex_iadd dX12_counted_110 ?_
          refine st_i2 dX12_counted_111 (by first | exact rfl | exact trivial) ?_
          refine inc3 (v := _ + 1) dX12_counted_112 (by rfl) (by first | exact rfl | exact trivial) ?_
          refine ex_goto 85 dX12_counted_115 (by decide) ?_
          simp only [Int32.add_zero, nI_1]
          rw [hc] at ih
          exact ih
        · have hc : cntN (I 214) (k + 1) = cntN (I 214) k + 1 := cntN_s.trans (if_neg h102)
          refine ex_iconst (v := 1) dX12_counted_105 (by decide) ?_
          refine ex_goto 110 dX12_counted_106 (by decide) ?_
          refine ex_iadd dX12_counted_110 ?_
          refine st_i2 dX12_counted_111 (by first | exact rfl | exact trivial) ?_
          refine inc3 (v := _ + 1) dX12_counted_112 (by rfl) (by first | exact rfl | exact trivial) ?_
          refine ex_goto 85 dX12_counted_115 (by decide) ?_
          simp only [Int32.add_zero, nI_1]
          rw [hc] at ih
          exact ih
  · skip
    refine ex_iload_n dX12_counted_85 rfl ?_
    refine ex_iconst (v := 3) dX12_counted_86 (by decide) ?_
    refine ex_icmp_ge 118 dX12_counted_87 (by decide) (fun h87 => ?_) (fun h87 => ?_)
    · skip
      exact kont
    · exact absurd (by decide : nI 3 ≤ nI 3) h87
set_option maxRecDepth 100000 in
set_option maxHeartbeats 4000000 in
theorem lm_c2_3 {P : Option Value → Mem → Prop} {a : Int32} (kont : Ex G mdX12_counted 155 [some (.ref 200), some (.int 2), some (.int a), some (.int (nI 6))] [] (mk I L t) 0 0 P) : Ex G mdX12_counted 120 [some (.ref 200), some (.int 2), some (.int a), some (.int (nI 0))] [] (mk I L t) 0 0 P := by
  refine loop_up (G := G) (d := mdX12_counted) (pc := 120) (st := []) (uc := 0) (us := 0) (P := P) 6 (fun k => mk I L t) (fun k => [some (.ref 200), some (.int 2), some (.int a), some (.int (nI k))]) ?_ ?_ 0 (Nat.zero_le _)
  · intro k hk ih
    refine ex_iload_n dX12_counted_120 rfl ?_
    refine ex_bipush (v := 6) dX12_counted_121 (by decide) ?_
    refine ex_icmp_ge 155 dX12_counted_123 (by decide) (fun h123 => ?_) (fun h123 => ?_)
    · exact absurd h123 (nI_ge hk (by decide))
    · skip
      refine ex_iload_n dX12_counted_126 rfl ?_
      refine ex_iload_n dX12_counted_127 rfl ?_
      refine ex_bipush (v := 6) dX12_counted_128 (by decide) ?_
      refine ex_icmp_ne 146 dX12_counted_130 (by decide) (fun h130 => ?_) (fun h130 => ?_)
      · skip
        refine ex_iconst (v := 0) dX12_counted_146 (by decide) ?_
        refine ex_iadd dX12_counted_147 ?_
        refine st_i2 dX12_counted_148 (by first | exact rfl | exact trivial) ?_
        refine inc3 (v := _ + 1) dX12_counted_149 (by rfl) (by first | exact rfl | exact trivial) ?_
        refine ex_goto 120 dX12_counted_152 (by decide) ?_
        simp only [Int32.add_zero, nI_1]
        exact ih
      · exact absurd h130 (by decide)
  · skip
    refine ex_iload_n dX12_counted_120 rfl ?_
    refine ex_bipush (v := 6) dX12_counted_121 (by decide) ?_
    refine ex_icmp_ge 155 dX12_counted_123 (by decide) (fun h123 => ?_) (fun h123 => ?_)
    · skip
      exact kont
    · exact absurd (by decide : nI 6 ≤ nI 6) h123
set_option maxRecDepth 100000 in
set_option maxHeartbeats 4000000 in
theorem s_counted2 : Ca G mdX12_counted [.ref 200, .int 2] (mk I L t) (Rs (.int (nI (cntN (I 214) 3))) (mk (lkI I 0) L t)) := by
  refine Ca.intro [some (.ref 200), some (.int 2), none, none] (by decide) (Nat.le_of_ble_eq_true rfl) rfl rfl ?_
  refine ex_iconst (v := 0) dX12_counted_0 (by decide) ?_
  refine st_i2 dX12_counted_1 (by first | exact rfl | exact trivial) ?_
  refine ex_iconst (v := 0) dX12_counted_2 (by decide) ?_
  refine st_i3 dX12_counted_3 (by first | exact rfl | exact trivial) ?_
  refine lm_c2_1 ?_
  refine ex_iconst (v := 0) dX12_counted_83 (by decide) ?_
  refine st_i3 dX12_counted_84 (by first | exact rfl | exact trivial) ?_
  have key2 := lm_c2_2 (G := G) (I := I) (L := L) (t := t) (P := Rs (.int (nI (cntN (I 214) 3))) (mk (lkI I 0) L t)) ?_
  · rw [cntN_0] at key2
    exact key2
  refine ex_iconst (v := 0) dX12_counted_118 (by decide) ?_
  refine st_i3 dX12_counted_119 (by first | exact rfl | exact trivial) ?_
  refine lm_c2_3 ?_
  refine ex_aload_n dX12_counted_155 rfl ?_
  refine ex_iconst (v := 0) dX12_counted_156 (by decide) ?_
  refine rx_cV (kd := 12) dX12_counted_157 rfl lk_X12_167 rfl (by decide) (by first | assumption | rfl) ⟨⟨rfl, rfl⟩, by decide, by decide⟩ rfl (Nat.le_of_ble_eq_true rfl) rfl s_X12_look (Rv.k ?_)
  refine ex_iload_n dX12_counted_160 rfl ?_
  refine ex_iconst (v := 3) dX12_counted_161 (by decide) ?_
  refine ex_icmp_ne 172 dX12_counted_162 (by decide) (fun h162 => ?_) (fun h162 => ?_)
  · skip
    refine ex_iload_n dX12_counted_172 rfl ?_
    refine ex_iconst (v := 4) dX12_counted_173 (by decide) ?_
    refine ex_icmp_ne 199 dX12_counted_174 (by decide) (fun h174 => ?_) (fun h174 => ?_)
    · skip
      refine ex_iload_n dX12_counted_199 rfl ?_
      refine ex_iret dX12_counted_200 rfl rfl ⟨rfl, Nat.le_refl _⟩ ?_
      exact ⟨rfl, rfl⟩
    · exact absurd h174 (by decide)
  · exact absurd h162 (by decide)
set_option maxRecDepth 100000 in
set_option maxHeartbeats 4000000 in
theorem lm_c3_1 {P : Option Value → Mem → Prop} {a : Int32} (kont : Ex G mdX12_counted 83 [some (.ref 200), some (.int 3), some (.int a), some (.int (nI 4))] [] (mk I L t) 0 0 P) : Ex G mdX12_counted 4 [some (.ref 200), some (.int 3), some (.int a), some (.int (nI 0))] [] (mk I L t) 0 0 P := by
  refine loop_up (G := G) (d := mdX12_counted) (pc := 4) (st := []) (uc := 0) (us := 0) (P := P) 4 (fun k => mk I L t) (fun k => [some (.ref 200), some (.int 3), some (.int a), some (.int (nI k))]) ?_ ?_ 0 (Nat.zero_le _)
  · intro k hk ih
    refine ex_iload_n dX12_counted_4 rfl ?_
    refine ex_iconst (v := 4) dX12_counted_5 (by decide) ?_
    refine ex_icmp_ge 83 dX12_counted_6 (by decide) (fun h6 => ?_) (fun h6 => ?_)
    · exact absurd h6 (nI_ge hk (by decide))
    · skip
      refine ex_iload_n dX12_counted_9 rfl ?_
      refine ex_iload_n dX12_counted_10 rfl ?_
      refine ex_if_ne 23 dX12_counted_11 (by decide) (fun h11 => ?_) (fun h11 => ?_)
      · skip
        refine ex_iload_n dX12_counted_23 rfl ?_
        refine ex_iconst (v := 1) dX12_counted_24 (by decide) ?_
        refine ex_icmp_ne 37 dX12_counted_25 (by decide) (fun h25 => ?_) (fun h25 => ?_)
        · skip
          refine ex_iload_n dX12_counted_37 rfl ?_
          refine ex_iconst (v := 5) dX12_counted_38 (by decide) ?_
          refine ex_icmp_ne 55 dX12_counted_39 (by decide) (fun h39 => ?_) (fun h39 => ?_)
          · skip
            refine ex_iload_n dX12_counted_55 rfl ?_
            refine ex_bipush (v := 7) dX12_counted_56 (by decide) ?_
            refine ex_icmp_ne 74 dX12_counted_58 (by decide) (fun h58 => ?_) (fun h58 => ?_)
            · skip
              refine ex_iconst (v := 0) dX12_counted_74 (by decide) ?_
              refine ex_iadd dX12_counted_75 ?_
              refine st_i2 dX12_counted_76 (by first | exact rfl | exact trivial) ?_
              refine inc3 (v := _ + 1) dX12_counted_77 (by rfl) (by first | exact rfl | exact trivial) ?_
              refine ex_goto 4 dX12_counted_80 (by decide) ?_
              simp only [Int32.add_zero, nI_1]
              exact ih
            · exact absurd h58 (by decide)
          · exact absurd h39 (by decide)
        · exact absurd h25 (by decide)
      · exact absurd h11 (by decide)
  · skip
    refine ex_iload_n dX12_counted_4 rfl ?_
    refine ex_iconst (v := 4) dX12_counted_5 (by decide) ?_
    refine ex_icmp_ge 83 dX12_counted_6 (by decide) (fun h6 => ?_) (fun h6 => ?_)
    · skip
      exact kont
    · exact absurd (by decide : nI 4 ≤ nI 4) h6
set_option maxRecDepth 100000 in
set_option maxHeartbeats 4000000 in
theorem lm_c3_2 {P : Option Value → Mem → Prop} {a : Int32} (kont : Ex G mdX12_counted 118 [some (.ref 200), some (.int 3), some (.int a), some (.int (nI 3))] [] (mk I L t) 0 0 P) : Ex G mdX12_counted 85 [some (.ref 200), some (.int 3), some (.int a), some (.int (nI 0))] [] (mk I L t) 0 0 P := by
  refine loop_up (G := G) (d := mdX12_counted) (pc := 85) (st := []) (uc := 0) (us := 0) (P := P) 3 (fun k => mk I L t) (fun k => [some (.ref 200), some (.int 3), some (.int a), some (.int (nI k))]) ?_ ?_ 0 (Nat.zero_le _)
  · intro k hk ih
    refine ex_iload_n dX12_counted_85 rfl ?_
    refine ex_iconst (v := 3) dX12_counted_86 (by decide) ?_
    refine ex_icmp_ge 118 dX12_counted_87 (by decide) (fun h87 => ?_) (fun h87 => ?_)
    · exact absurd h87 (nI_ge hk (by decide))
    · skip
      refine ex_iload_n dX12_counted_90 rfl ?_
      refine ex_iload_n dX12_counted_91 rfl ?_
      refine ex_iconst (v := 2) dX12_counted_92 (by decide) ?_
      refine ex_icmp_ne 109 dX12_counted_93 (by decide) (fun h93 => ?_) (fun h93 => ?_)
      · skip
        refine ex_iconst (v := 0) dX12_counted_109 (by decide) ?_
        refine ex_iadd dX12_counted_110 ?_
        refine st_i2 dX12_counted_111 (by first | exact rfl | exact trivial) ?_
        refine inc3 (v := _ + 1) dX12_counted_112 (by rfl) (by first | exact rfl | exact trivial) ?_
        refine ex_goto 85 dX12_counted_115 (by decide) ?_
        simp only [Int32.add_zero, nI_1]
        exact ih
      · exact absurd h93 (by decide)
  · skip
    refine ex_iload_n dX12_counted_85 rfl ?_
    refine ex_iconst (v := 3) dX12_counted_86 (by decide) ?_
    refine ex_icmp_ge 118 dX12_counted_87 (by decide) (fun h87 => ?_) (fun h87 => ?_)
    · skip
      exact kont
    · exact absurd (by decide : nI 3 ≤ nI 3) h87
set_option maxRecDepth 100000 in
set_option maxHeartbeats 4000000 in
theorem lm_c3_3 {P : Option Value → Mem → Prop} {a : Int32} (kont : Ex G mdX12_counted 155 [some (.ref 200), some (.int 3), some (.int a), some (.int (nI 6))] [] (mk I L t) 0 0 P) : Ex G mdX12_counted 120 [some (.ref 200), some (.int 3), some (.int a), some (.int (nI 0))] [] (mk I L t) 0 0 P := by
  refine loop_up (G := G) (d := mdX12_counted) (pc := 120) (st := []) (uc := 0) (us := 0) (P := P) 6 (fun k => mk I L t) (fun k => [some (.ref 200), some (.int 3), some (.int a), some (.int (nI k))]) ?_ ?_ 0 (Nat.zero_le _)
  · intro k hk ih
    refine ex_iload_n dX12_counted_120 rfl ?_
    refine ex_bipush (v := 6) dX12_counted_121 (by decide) ?_
    refine ex_icmp_ge 155 dX12_counted_123 (by decide) (fun h123 => ?_) (fun h123 => ?_)
    · exact absurd h123 (nI_ge hk (by decide))
    · skip
      refine ex_iload_n dX12_counted_126 rfl ?_
      refine ex_iload_n dX12_counted_127 rfl ?_
      refine ex_bipush (v := 6) dX12_counted_128 (by decide) ?_
      refine ex_icmp_ne 146 dX12_counted_130 (by decide) (fun h130 => ?_) (fun h130 => ?_)
      · skip
        refine ex_iconst (v := 0) dX12_counted_146 (by decide) ?_
        refine ex_iadd dX12_counted_147 ?_
        refine st_i2 dX12_counted_148 (by first | exact rfl | exact trivial) ?_
        refine inc3 (v := _ + 1) dX12_counted_149 (by rfl) (by first | exact rfl | exact trivial) ?_
        refine ex_goto 120 dX12_counted_152 (by decide) ?_
        simp only [Int32.add_zero, nI_1]
        exact ih
      · exact absurd h130 (by decide)
  · skip
    refine ex_iload_n dX12_counted_120 rfl ?_
    refine ex_bipush (v := 6) dX12_counted_121 (by decide) ?_
    refine ex_icmp_ge 155 dX12_counted_123 (by decide) (fun h123 => ?_) (fun h123 => ?_)
    · skip
      exact kont
    · exact absurd (by decide : nI 6 ≤ nI 6) h123
set_option maxRecDepth 100000 in
set_option maxHeartbeats 4000000 in
theorem s_counted3 : Ca G mdX12_counted [.ref 200, .int 3] (mk I L t) (Rs (.int (I 200 37)) (mk (lkI I 0) L t)) := by
  refine Ca.intro [some (.ref 200), some (.int 3), none, none] (by decide) (Nat.le_of_ble_eq_true rfl) rfl rfl ?_
  refine ex_iconst (v := 0) dX12_counted_0 (by decide) ?_
  refine st_i2 dX12_counted_1 (by first | exact rfl | exact trivial) ?_
  refine ex_iconst (v := 0) dX12_counted_2 (by decide) ?_
  refine st_i3 dX12_counted_3 (by first | exact rfl | exact trivial) ?_
  refine lm_c3_1 ?_
  refine ex_iconst (v := 0) dX12_counted_83 (by decide) ?_
  refine st_i3 dX12_counted_84 (by first | exact rfl | exact trivial) ?_
  refine lm_c3_2 ?_
  refine ex_iconst (v := 0) dX12_counted_118 (by decide) ?_
  refine st_i3 dX12_counted_119 (by first | exact rfl | exact trivial) ?_
  refine lm_c3_3 ?_
  refine ex_aload_n dX12_counted_155 rfl ?_
  refine ex_iconst (v := 0) dX12_counted_156 (by decide) ?_
  refine rx_cV (kd := 12) dX12_counted_157 rfl lk_X12_167 rfl (by decide) (by first | assumption | rfl) ⟨⟨rfl, rfl⟩, by decide, by decide⟩ rfl (Nat.le_of_ble_eq_true rfl) rfl s_X12_look (Rv.k ?_)
  refine ex_iload_n dX12_counted_160 rfl ?_
  refine ex_iconst (v := 3) dX12_counted_161 (by decide) ?_
  refine ex_icmp_ne 172 dX12_counted_162 (by decide) (fun h162 => ?_) (fun h162 => ?_)
  · exact absurd h162 (by decide)
  · skip
    refine ex_aload_n dX12_counted_165 rfl ?_
    refine g_12_37 dX12_counted_166 rfl wf_X12_337 (by first | assumption | rfl) ?_
    rw [show lkI I 0 200 37 = I 200 37 from u2_j (by decide)]
    refine ex_goto 200 dX12_counted_169 (by decide) ?_
    refine ex_iret dX12_counted_200 rfl rfl ⟨rfl, Nat.le_refl _⟩ ?_
    exact ⟨rfl, rfl⟩
set_option maxRecDepth 100000 in
set_option maxHeartbeats 4000000 in
theorem lm_c4_1 {P : Option Value → Mem → Prop} {a : Int32} (kont : Ex G mdX12_counted 83 [some (.ref 200), some (.int 4), some (.int a), some (.int (nI 4))] [] (mk I L t) 0 0 P) : Ex G mdX12_counted 4 [some (.ref 200), some (.int 4), some (.int a), some (.int (nI 0))] [] (mk I L t) 0 0 P := by
  refine loop_up (G := G) (d := mdX12_counted) (pc := 4) (st := []) (uc := 0) (us := 0) (P := P) 4 (fun k => mk I L t) (fun k => [some (.ref 200), some (.int 4), some (.int a), some (.int (nI k))]) ?_ ?_ 0 (Nat.zero_le _)
  · intro k hk ih
    refine ex_iload_n dX12_counted_4 rfl ?_
    refine ex_iconst (v := 4) dX12_counted_5 (by decide) ?_
    refine ex_icmp_ge 83 dX12_counted_6 (by decide) (fun h6 => ?_) (fun h6 => ?_)
    · exact absurd h6 (nI_ge hk (by decide))
    · skip
      refine ex_iload_n dX12_counted_9 rfl ?_
      refine ex_iload_n dX12_counted_10 rfl ?_
      refine ex_if_ne 23 dX12_counted_11 (by decide) (fun h11 => ?_) (fun h11 => ?_)
      · skip
        refine ex_iload_n dX12_counted_23 rfl ?_
        refine ex_iconst (v := 1) dX12_counted_24 (by decide) ?_
        refine ex_icmp_ne 37 dX12_counted_25 (by decide) (fun h25 => ?_) (fun h25 => ?_)
        · skip
          refine ex_iload_n dX12_counted_37 rfl ?_
          refine ex_iconst (v := 5) dX12_counted_38 (by decide) ?_
          refine ex_icmp_ne 55 dX12_counted_39 (by decide) (fun h39 => ?_) (fun h39 => ?_)
          · skip
            refine ex_iload_n dX12_counted_55 rfl ?_
            refine ex_bipush (v := 7) dX12_counted_56 (by decide) ?_
            refine ex_icmp_ne 74 dX12_counted_58 (by decide) (fun h58 => ?_) (fun h58 => ?_)
            · skip
              refine ex_iconst (v := 0) dX12_counted_74 (by decide) ?_
              refine ex_iadd dX12_counted_75 ?_
              refine st_i2 dX12_counted_76 (by first | exact rfl | exact trivial) ?_
              refine inc3 (v := _ + 1) dX12_counted_77 (by rfl) (by first | exact rfl | exact trivial) ?_
              refine ex_goto 4 dX12_counted_80 (by decide) ?_
              simp only [Int32.add_zero, nI_1]
              exact ih
            · exact absurd h58 (by decide)
          · exact absurd h39 (by decide)
        · exact absurd h25 (by decide)
      · exact absurd h11 (by decide)
  · skip
    refine ex_iload_n dX12_counted_4 rfl ?_
    refine ex_iconst (v := 4) dX12_counted_5 (by decide) ?_
    refine ex_icmp_ge 83 dX12_counted_6 (by decide) (fun h6 => ?_) (fun h6 => ?_)
    · skip
      exact kont
    · exact absurd (by decide : nI 4 ≤ nI 4) h6
set_option maxRecDepth 100000 in
set_option maxHeartbeats 4000000 in
theorem lm_c4_2 {P : Option Value → Mem → Prop} {a : Int32} (kont : Ex G mdX12_counted 118 [some (.ref 200), some (.int 4), some (.int a), some (.int (nI 3))] [] (mk I L t) 0 0 P) : Ex G mdX12_counted 85 [some (.ref 200), some (.int 4), some (.int a), some (.int (nI 0))] [] (mk I L t) 0 0 P := by
  refine loop_up (G := G) (d := mdX12_counted) (pc := 85) (st := []) (uc := 0) (us := 0) (P := P) 3 (fun k => mk I L t) (fun k => [some (.ref 200), some (.int 4), some (.int a), some (.int (nI k))]) ?_ ?_ 0 (Nat.zero_le _)
  · intro k hk ih
    refine ex_iload_n dX12_counted_85 rfl ?_
    refine ex_iconst (v := 3) dX12_counted_86 (by decide) ?_
    refine ex_icmp_ge 118 dX12_counted_87 (by decide) (fun h87 => ?_) (fun h87 => ?_)
    · exact absurd h87 (nI_ge hk (by decide))
    · skip
      refine ex_iload_n dX12_counted_90 rfl ?_
      refine ex_iload_n dX12_counted_91 rfl ?_
      refine ex_iconst (v := 2) dX12_counted_92 (by decide) ?_
      refine ex_icmp_ne 109 dX12_counted_93 (by decide) (fun h93 => ?_) (fun h93 => ?_)
      · skip
        refine ex_iconst (v := 0) dX12_counted_109 (by decide) ?_
        refine ex_iadd dX12_counted_110 ?_
        refine st_i2 dX12_counted_111 (by first | exact rfl | exact trivial) ?_
        refine inc3 (v := _ + 1) dX12_counted_112 (by rfl) (by first | exact rfl | exact trivial) ?_
        refine ex_goto 85 dX12_counted_115 (by decide) ?_
        simp only [Int32.add_zero, nI_1]
        exact ih
      · exact absurd h93 (by decide)
  · skip
    refine ex_iload_n dX12_counted_85 rfl ?_
    refine ex_iconst (v := 3) dX12_counted_86 (by decide) ?_
    refine ex_icmp_ge 118 dX12_counted_87 (by decide) (fun h87 => ?_) (fun h87 => ?_)
    · skip
      exact kont
    · exact absurd (by decide : nI 3 ≤ nI 3) h87
set_option maxRecDepth 100000 in
set_option maxHeartbeats 4000000 in
theorem lm_c4_3 {P : Option Value → Mem → Prop} {a : Int32} (kont : Ex G mdX12_counted 155 [some (.ref 200), some (.int 4), some (.int a), some (.int (nI 6))] [] (mk I L t) 0 0 P) : Ex G mdX12_counted 120 [some (.ref 200), some (.int 4), some (.int a), some (.int (nI 0))] [] (mk I L t) 0 0 P := by
  refine loop_up (G := G) (d := mdX12_counted) (pc := 120) (st := []) (uc := 0) (us := 0) (P := P) 6 (fun k => mk I L t) (fun k => [some (.ref 200), some (.int 4), some (.int a), some (.int (nI k))]) ?_ ?_ 0 (Nat.zero_le _)
  · intro k hk ih
    refine ex_iload_n dX12_counted_120 rfl ?_
    refine ex_bipush (v := 6) dX12_counted_121 (by decide) ?_
    refine ex_icmp_ge 155 dX12_counted_123 (by decide) (fun h123 => ?_) (fun h123 => ?_)
    · exact absurd h123 (nI_ge hk (by decide))
    · skip
      refine ex_iload_n dX12_counted_126 rfl ?_
      refine ex_iload_n dX12_counted_127 rfl ?_
      refine ex_bipush (v := 6) dX12_counted_128 (by decide) ?_
      refine ex_icmp_ne 146 dX12_counted_130 (by decide) (fun h130 => ?_) (fun h130 => ?_)
      · skip
        refine ex_iconst (v := 0) dX12_counted_146 (by decide) ?_
        refine ex_iadd dX12_counted_147 ?_
        refine st_i2 dX12_counted_148 (by first | exact rfl | exact trivial) ?_
        refine inc3 (v := _ + 1) dX12_counted_149 (by rfl) (by first | exact rfl | exact trivial) ?_
        refine ex_goto 120 dX12_counted_152 (by decide) ?_
        simp only [Int32.add_zero, nI_1]
        exact ih
      · exact absurd h130 (by decide)
  · skip
    refine ex_iload_n dX12_counted_120 rfl ?_
    refine ex_bipush (v := 6) dX12_counted_121 (by decide) ?_
    refine ex_icmp_ge 155 dX12_counted_123 (by decide) (fun h123 => ?_) (fun h123 => ?_)
    · skip
      exact kont
    · exact absurd (by decide : nI 6 ≤ nI 6) h123
set_option maxRecDepth 100000 in
set_option maxHeartbeats 4000000 in
theorem s_counted4 : Ca G mdX12_counted [.ref 200, .int 4] (mk I L t) (Rs (.int ((if I 216 0 = 0 then 0 else I 217 30))) (mk (lkI I 0) L t)) := by
  refine Ca.intro [some (.ref 200), some (.int 4), none, none] (by decide) (Nat.le_of_ble_eq_true rfl) rfl rfl ?_
  refine ex_iconst (v := 0) dX12_counted_0 (by decide) ?_
  refine st_i2 dX12_counted_1 (by first | exact rfl | exact trivial) ?_
  refine ex_iconst (v := 0) dX12_counted_2 (by decide) ?_
  refine st_i3 dX12_counted_3 (by first | exact rfl | exact trivial) ?_
  refine lm_c4_1 ?_
  refine ex_iconst (v := 0) dX12_counted_83 (by decide) ?_
  refine st_i3 dX12_counted_84 (by first | exact rfl | exact trivial) ?_
  refine lm_c4_2 ?_
  refine ex_iconst (v := 0) dX12_counted_118 (by decide) ?_
  refine st_i3 dX12_counted_119 (by first | exact rfl | exact trivial) ?_
  refine lm_c4_3 ?_
  refine ex_aload_n dX12_counted_155 rfl ?_
  refine ex_iconst (v := 0) dX12_counted_156 (by decide) ?_
  refine rx_cV (kd := 12) dX12_counted_157 rfl lk_X12_167 rfl (by decide) (by first | assumption | rfl) ⟨⟨rfl, rfl⟩, by decide, by decide⟩ rfl (Nat.le_of_ble_eq_true rfl) rfl s_X12_look (Rv.k ?_)
  refine ex_iload_n dX12_counted_160 rfl ?_
  refine ex_iconst (v := 3) dX12_counted_161 (by decide) ?_
  refine ex_icmp_ne 172 dX12_counted_162 (by decide) (fun h162 => ?_) (fun h162 => ?_)
  · skip
    refine ex_iload_n dX12_counted_172 rfl ?_
    refine ex_iconst (v := 4) dX12_counted_173 (by decide) ?_
    refine ex_icmp_ne 199 dX12_counted_174 (by decide) (fun h174 => ?_) (fun h174 => ?_)
    · exact absurd h174 (by decide)
    · skip
      refine ex_aload_n dX12_counted_177 rfl ?_
      refine g_12_22 dX12_counted_178 rfl wf_X12_57 (by first | assumption | rfl) (show Rt _ 200 22 = some 216 from rfl) ?_
      refine ex_iconst (v := 0) dX12_counted_181 (by decide) ?_
      refine rx_zald dX12_counted_182 (by first | assumption | rfl) (by first | assumption | (unfold vp_in; decide)) ?_
      rw [lk_off (by decide), show (0 : Int32).toNatClampNeg = 0 from rfl]
      refine ex_if_eq 195 dX12_counted_183 (by decide) (fun h183 => ?_) (fun h183 => ?_)
      · rw [if_pos h183]
        refine ex_iconst (v := 0) dX12_counted_195 (by decide) ?_
        refine ex_goto 200 dX12_counted_196 (by decide) ?_
        refine ex_iret dX12_counted_200 rfl rfl ⟨rfl, Nat.le_refl _⟩ ?_
        exact ⟨rfl, rfl⟩
      · rw [if_neg h183]
        refine ex_aload_n dX12_counted_186 rfl ?_
        refine ex_bipush (v := 30) dX12_counted_187 (by decide) ?_
        refine rx_cV (kd := 12) dX12_counted_189 rfl lk_X12_183 rfl (by decide) (by first | assumption | rfl) ⟨⟨rfl, rfl⟩, by decide, by decide⟩ rfl (Nat.le_of_ble_eq_true rfl) rfl (s_v0 (B := 0) (by unfold vp_in; decide) lk_0 (by decide)) (Rs.k ?_)
        rw [lk_off (by decide), show 0 + (30 : Int32).toNatClampNeg = 30 from rfl]
        refine ex_goto 200 dX12_counted_192 (by decide) ?_
        refine ex_iret dX12_counted_200 rfl rfl ⟨rfl, Nat.le_refl _⟩ ?_
        exact ⟨rfl, rfl⟩
  · exact absurd h162 (by decide)
set_option maxRecDepth 100000 in
set_option maxHeartbeats 4000000 in
theorem lm_c5_1 {P : Option Value → Mem → Prop}  (kont : Ex G mdX12_counted 83 [some (.ref 200), some (.int 5), some (.int (nI (cntN (fun e => if e = 0 then 0 else I 216 e) 4))), some (.int (nI 4))] [] (mk I L t) 0 0 P) : Ex G mdX12_counted 4 [some (.ref 200), some (.int 5), some (.int (nI (cntN (fun e => if e = 0 then 0 else I 216 e) 0))), some (.int (nI 0))] [] (mk I L t) 0 0 P := by
  refine loop_up (G := G) (d := mdX12_counted) (pc := 4) (st := []) (uc := 0) (us := 0) (P := P) 4 (fun k => mk I L t) (fun k => [some (.ref 200), some (.int 5), some (.int (nI (cntN (fun e => if e = 0 then 0 else I 216 e) k))), some (.int (nI k))]) ?_ ?_ 0 (Nat.zero_le _)
  · intro k hk ih
    refine ex_iload_n dX12_counted_4 rfl ?_
    refine ex_iconst (v := 4) dX12_counted_5 (by decide) ?_
    refine ex_icmp_ge 83 dX12_counted_6 (by decide) (fun h6 => ?_) (fun h6 => ?_)
    · exact absurd h6 (nI_ge hk (by decide))
    · skip
      refine ex_iload_n dX12_counted_9 rfl ?_
      refine ex_iload_n dX12_counted_10 rfl ?_
      refine ex_if_ne 23 dX12_counted_11 (by decide) (fun h11 => ?_) (fun h11 => ?_)
      · skip
        refine ex_iload_n dX12_counted_23 rfl ?_
        refine ex_iconst (v := 1) dX12_counted_24 (by decide) ?_
        refine ex_icmp_ne 37 dX12_counted_25 (by decide) (fun h25 => ?_) (fun h25 => ?_)
        · skip
          refine ex_iload_n dX12_counted_37 rfl ?_
          refine ex_iconst (v := 5) dX12_counted_38 (by decide) ?_
          refine ex_icmp_ne 55 dX12_counted_39 (by decide) (fun h39 => ?_) (fun h39 => ?_)
          · exact absurd h39 (by decide)
          · skip
            refine ex_iload_n dX12_counted_42 rfl ?_
            refine ex_if_le 55 dX12_counted_43 (by decide) (fun h43 => ?_) (fun h43 => ?_)
            · have k0 : k = 0 := by
                have := (nI_leI (b := 0) (by omega) (by decide)).mp h43
                omega
              have hc : cntN (fun e => if e = 0 then 0 else I 216 e) (k + 1) = cntN (fun e => if e = 0 then 0 else I 216 e) k := cntN_s.trans (if_pos (if_pos k0))
              refine ex_iload_n dX12_counted_55 rfl ?_
              refine ex_bipush (v := 7) dX12_counted_56 (by decide) ?_
              refine ex_icmp_ne 74 dX12_counted_58 (by decide) (fun h58 => ?_) (fun h58 => ?_)
              · skip
                refine ex_iconst (v := 0) dX12_counted_74 (by decide) ?_
                refine ex_iadd dX12_counted_75 ?_
                refine st_i2 dX12_counted_76 (by first | exact rfl | exact trivial) ?_
                refine inc3 (v := _ + 1) dX12_counted_77 (by rfl) (by first | exact rfl | exact trivial) ?_
                refine ex_goto 4 dX12_counted_80 (by decide) ?_
                simp only [Int32.add_zero, nI_1]
                rw [hc] at ih
                exact ih
              · exact absurd h58 (by decide)
            · have k0 : ¬ k = 0 := fun z => h43 (by rw [z]; decide)
              refine ex_aload_n dX12_counted_46 rfl ?_
              refine g_12_22 dX12_counted_47 rfl wf_X12_57 (by first | assumption | rfl) (show Rt _ 200 22 = some 216 from rfl) ?_
              refine ex_iload_n dX12_counted_50 rfl ?_
              refine rx_zald dX12_counted_51 (by first | assumption | rfl) (vp_in_nI hk (by decide)) ?_
              rw [nI_clamp (by omega)]
              refine ex_if_ne 70 dX12_counted_52 (by decide) (fun h52 => ?_) (fun h52 => ?_)
              · have hc : cntN (fun e => if e = 0 then 0 else I 216 e) (k + 1) = cntN (fun e => if e = 0 then 0 else I 216 e) k + 1 := cntN_s.trans (if_neg (fun z => h52 ((if_neg k0).symm.trans z)))
                refine ex_iconst (v := 1) dX12_counted_70 (by decide) ?_
                refine ex_goto 75 dX12_counted_71 (by decide) ?_
                refine ex_iadd dX12_counted_75 ?_
                refine st_i2 dX12_counted_76 (by first | exact rfl | exact trivial) ?_
                refine inc3 (v := _ + 1) dX12_counted_77 (by rfl) (by first | exact rfl | exact trivial) ?_
                refine ex_goto 4 dX12_counted_80 (by decide) ?_
                simp only [Int32.add_zero, nI_1]
                rw [hc] at ih
                exact ih
              · have hc : cntN (fun e => if e = 0 then 0 else I 216 e) (k + 1) = cntN (fun e => if e = 0 then 0 else I 216 e) k := cntN_s.trans (if_pos ((if_neg k0).trans h52))
                refine ex_iload_n dX12_counted_55 rfl ?_
                refine ex_bipush (v := 7) dX12_counted_56 (by decide) ?_
                refine ex_icmp_ne 74 dX12_counted_58 (by decide) (fun h58 => ?_) (fun h58 => ?_)
                · skip
                  refine ex_iconst (v := 0) dX12_counted_74 (by decide) ?_
                  refine ex_iadd dX12_counted_75 ?_
                  refine st_i2 dX12_counted_76 (by first | exact rfl | exact trivial) ?_
                  refine inc3 (v := _ + 1) dX12_counted_77 (by rfl) (by first | exact rfl | exact trivial) ?_
                  refine ex_goto 4 dX12_counted_80 (by decide) ?_
                  simp only [Int32.add_zero, nI_1]
                  rw [hc] at ih
                  exact ih
                · exact absurd h58 (by decide)
        · exact absurd h25 (by decide)
      · exact absurd h11 (by decide)
  · skip
    refine ex_iload_n dX12_counted_4 rfl ?_
    refine ex_iconst (v := 4) dX12_counted_5 (by decide) ?_
    refine ex_icmp_ge 83 dX12_counted_6 (by decide) (fun h6 => ?_) (fun h6 => ?_)
    · skip
      exact kont
    · exact absurd (by decide : nI 4 ≤ nI 4) h6
set_option maxRecDepth 100000 in
set_option maxHeartbeats 4000000 in
theorem lm_c5_2 {P : Option Value → Mem → Prop} {a : Int32} (kont : Ex G mdX12_counted 118 [some (.ref 200), some (.int 5), some (.int a), some (.int (nI 3))] [] (mk I L t) 0 0 P) : Ex G mdX12_counted 85 [some (.ref 200), some (.int 5), some (.int a), some (.int (nI 0))] [] (mk I L t) 0 0 P := by
  refine loop_up (G := G) (d := mdX12_counted) (pc := 85) (st := []) (uc := 0) (us := 0) (P := P) 3 (fun k => mk I L t) (fun k => [some (.ref 200), some (.int 5), some (.int a), some (.int (nI k))]) ?_ ?_ 0 (Nat.zero_le _)
  · intro k hk ih
    refine ex_iload_n dX12_counted_85 rfl ?_
    refine ex_iconst (v := 3) dX12_counted_86 (by decide) ?_
    refine ex_icmp_ge 118 dX12_counted_87 (by decide) (fun h87 => ?_) (fun h87 => ?_)
    · exact absurd h87 (nI_ge hk (by decide))
    · skip
      refine ex_iload_n dX12_counted_90 rfl ?_
      refine ex_iload_n dX12_counted_91 rfl ?_
      refine ex_iconst (v := 2) dX12_counted_92 (by decide) ?_
      refine ex_icmp_ne 109 dX12_counted_93 (by decide) (fun h93 => ?_) (fun h93 => ?_)
      · skip
        refine ex_iconst (v := 0) dX12_counted_109 (by decide) ?_
        refine ex_iadd dX12_counted_110 ?_
        refine st_i2 dX12_counted_111 (by first | exact rfl | exact trivial) ?_
        refine inc3 (v := _ + 1) dX12_counted_112 (by rfl) (by first | exact rfl | exact trivial) ?_
        refine ex_goto 85 dX12_counted_115 (by decide) ?_
        simp only [Int32.add_zero, nI_1]
        exact ih
      · exact absurd h93 (by decide)
  · skip
    refine ex_iload_n dX12_counted_85 rfl ?_
    refine ex_iconst (v := 3) dX12_counted_86 (by decide) ?_
    refine ex_icmp_ge 118 dX12_counted_87 (by decide) (fun h87 => ?_) (fun h87 => ?_)
    · skip
      exact kont
    · exact absurd (by decide : nI 3 ≤ nI 3) h87
set_option maxRecDepth 100000 in
set_option maxHeartbeats 4000000 in
theorem lm_c5_3 {P : Option Value → Mem → Prop} {a : Int32} (kont : Ex G mdX12_counted 155 [some (.ref 200), some (.int 5), some (.int a), some (.int (nI 6))] [] (mk I L t) 0 0 P) : Ex G mdX12_counted 120 [some (.ref 200), some (.int 5), some (.int a), some (.int (nI 0))] [] (mk I L t) 0 0 P := by
  refine loop_up (G := G) (d := mdX12_counted) (pc := 120) (st := []) (uc := 0) (us := 0) (P := P) 6 (fun k => mk I L t) (fun k => [some (.ref 200), some (.int 5), some (.int a), some (.int (nI k))]) ?_ ?_ 0 (Nat.zero_le _)
  · intro k hk ih
    refine ex_iload_n dX12_counted_120 rfl ?_
    refine ex_bipush (v := 6) dX12_counted_121 (by decide) ?_
    refine ex_icmp_ge 155 dX12_counted_123 (by decide) (fun h123 => ?_) (fun h123 => ?_)
    · exact absurd h123 (nI_ge hk (by decide))
    · skip
      refine ex_iload_n dX12_counted_126 rfl ?_
      refine ex_iload_n dX12_counted_127 rfl ?_
      refine ex_bipush (v := 6) dX12_counted_128 (by decide) ?_
      refine ex_icmp_ne 146 dX12_counted_130 (by decide) (fun h130 => ?_) (fun h130 => ?_)
      · skip
        refine ex_iconst (v := 0) dX12_counted_146 (by decide) ?_
        refine ex_iadd dX12_counted_147 ?_
        refine st_i2 dX12_counted_148 (by first | exact rfl | exact trivial) ?_
        refine inc3 (v := _ + 1) dX12_counted_149 (by rfl) (by first | exact rfl | exact trivial) ?_
        refine ex_goto 120 dX12_counted_152 (by decide) ?_
        simp only [Int32.add_zero, nI_1]
        exact ih
      · exact absurd h130 (by decide)
  · skip
    refine ex_iload_n dX12_counted_120 rfl ?_
    refine ex_bipush (v := 6) dX12_counted_121 (by decide) ?_
    refine ex_icmp_ge 155 dX12_counted_123 (by decide) (fun h123 => ?_) (fun h123 => ?_)
    · skip
      exact kont
    · exact absurd (by decide : nI 6 ≤ nI 6) h123
set_option maxRecDepth 100000 in
set_option maxHeartbeats 4000000 in
theorem s_counted5 : Ca G mdX12_counted [.ref 200, .int 5] (mk I L t) (Rs (.int (nI (cntN (fun e => if e = 0 then 0 else I 216 e) 4))) (mk (lkI I 0) L t)) := by
  refine Ca.intro [some (.ref 200), some (.int 5), none, none] (by decide) (Nat.le_of_ble_eq_true rfl) rfl rfl ?_
  refine ex_iconst (v := 0) dX12_counted_0 (by decide) ?_
  refine st_i2 dX12_counted_1 (by first | exact rfl | exact trivial) ?_
  refine ex_iconst (v := 0) dX12_counted_2 (by decide) ?_
  refine st_i3 dX12_counted_3 (by first | exact rfl | exact trivial) ?_
  have key1 := lm_c5_1 (G := G) (I := I) (L := L) (t := t) (P := Rs (.int (nI (cntN (fun e => if e = 0 then 0 else I 216 e) 4))) (mk (lkI I 0) L t)) ?_
  · rw [cntN_0] at key1
    exact key1
  refine ex_iconst (v := 0) dX12_counted_83 (by decide) ?_
  refine st_i3 dX12_counted_84 (by first | exact rfl | exact trivial) ?_
  refine lm_c5_2 ?_
  refine ex_iconst (v := 0) dX12_counted_118 (by decide) ?_
  refine st_i3 dX12_counted_119 (by first | exact rfl | exact trivial) ?_
  refine lm_c5_3 ?_
  refine ex_aload_n dX12_counted_155 rfl ?_
  refine ex_iconst (v := 0) dX12_counted_156 (by decide) ?_
  refine rx_cV (kd := 12) dX12_counted_157 rfl lk_X12_167 rfl (by decide) (by first | assumption | rfl) ⟨⟨rfl, rfl⟩, by decide, by decide⟩ rfl (Nat.le_of_ble_eq_true rfl) rfl s_X12_look (Rv.k ?_)
  refine ex_iload_n dX12_counted_160 rfl ?_
  refine ex_iconst (v := 3) dX12_counted_161 (by decide) ?_
  refine ex_icmp_ne 172 dX12_counted_162 (by decide) (fun h162 => ?_) (fun h162 => ?_)
  · skip
    refine ex_iload_n dX12_counted_172 rfl ?_
    refine ex_iconst (v := 4) dX12_counted_173 (by decide) ?_
    refine ex_icmp_ne 199 dX12_counted_174 (by decide) (fun h174 => ?_) (fun h174 => ?_)
    · skip
      refine ex_iload_n dX12_counted_199 rfl ?_
      refine ex_iret dX12_counted_200 rfl rfl ⟨rfl, Nat.le_refl _⟩ ?_
      exact ⟨rfl, rfl⟩
    · exact absurd h174 (by decide)
  · exact absurd h162 (by decide)
set_option maxRecDepth 100000 in
set_option maxHeartbeats 4000000 in
theorem lm_c6_1 {P : Option Value → Mem → Prop} {a : Int32} (kont : Ex G mdX12_counted 83 [some (.ref 200), some (.int 6), some (.int a), some (.int (nI 4))] [] (mk I L t) 0 0 P) : Ex G mdX12_counted 4 [some (.ref 200), some (.int 6), some (.int a), some (.int (nI 0))] [] (mk I L t) 0 0 P := by
  refine loop_up (G := G) (d := mdX12_counted) (pc := 4) (st := []) (uc := 0) (us := 0) (P := P) 4 (fun k => mk I L t) (fun k => [some (.ref 200), some (.int 6), some (.int a), some (.int (nI k))]) ?_ ?_ 0 (Nat.zero_le _)
  · intro k hk ih
    refine ex_iload_n dX12_counted_4 rfl ?_
    refine ex_iconst (v := 4) dX12_counted_5 (by decide) ?_
    refine ex_icmp_ge 83 dX12_counted_6 (by decide) (fun h6 => ?_) (fun h6 => ?_)
    · exact absurd h6 (nI_ge hk (by decide))
    · skip
      refine ex_iload_n dX12_counted_9 rfl ?_
      refine ex_iload_n dX12_counted_10 rfl ?_
      refine ex_if_ne 23 dX12_counted_11 (by decide) (fun h11 => ?_) (fun h11 => ?_)
      · skip
        refine ex_iload_n dX12_counted_23 rfl ?_
        refine ex_iconst (v := 1) dX12_counted_24 (by decide) ?_
        refine ex_icmp_ne 37 dX12_counted_25 (by decide) (fun h25 => ?_) (fun h25 => ?_)
        · skip
          refine ex_iload_n dX12_counted_37 rfl ?_
          refine ex_iconst (v := 5) dX12_counted_38 (by decide) ?_
          refine ex_icmp_ne 55 dX12_counted_39 (by decide) (fun h39 => ?_) (fun h39 => ?_)
          · skip
            refine ex_iload_n dX12_counted_55 rfl ?_
            refine ex_bipush (v := 7) dX12_counted_56 (by decide) ?_
            refine ex_icmp_ne 74 dX12_counted_58 (by decide) (fun h58 => ?_) (fun h58 => ?_)
            · skip
              refine ex_iconst (v := 0) dX12_counted_74 (by decide) ?_
              refine ex_iadd dX12_counted_75 ?_
              refine st_i2 dX12_counted_76 (by first | exact rfl | exact trivial) ?_
              refine inc3 (v := _ + 1) dX12_counted_77 (by rfl) (by first | exact rfl | exact trivial) ?_
              refine ex_goto 4 dX12_counted_80 (by decide) ?_
              simp only [Int32.add_zero, nI_1]
              exact ih
            · exact absurd h58 (by decide)
          · exact absurd h39 (by decide)
        · exact absurd h25 (by decide)
      · exact absurd h11 (by decide)
  · skip
    refine ex_iload_n dX12_counted_4 rfl ?_
    refine ex_iconst (v := 4) dX12_counted_5 (by decide) ?_
    refine ex_icmp_ge 83 dX12_counted_6 (by decide) (fun h6 => ?_) (fun h6 => ?_)
    · skip
      exact kont
    · exact absurd (by decide : nI 4 ≤ nI 4) h6
set_option maxRecDepth 100000 in
set_option maxHeartbeats 4000000 in
theorem lm_c6_2 {P : Option Value → Mem → Prop} {a : Int32} (kont : Ex G mdX12_counted 118 [some (.ref 200), some (.int 6), some (.int a), some (.int (nI 3))] [] (mk I L t) 0 0 P) : Ex G mdX12_counted 85 [some (.ref 200), some (.int 6), some (.int a), some (.int (nI 0))] [] (mk I L t) 0 0 P := by
  refine loop_up (G := G) (d := mdX12_counted) (pc := 85) (st := []) (uc := 0) (us := 0) (P := P) 3 (fun k => mk I L t) (fun k => [some (.ref 200), some (.int 6), some (.int a), some (.int (nI k))]) ?_ ?_ 0 (Nat.zero_le _)
  · intro k hk ih
    refine ex_iload_n dX12_counted_85 rfl ?_
    refine ex_iconst (v := 3) dX12_counted_86 (by decide) ?_
    refine ex_icmp_ge 118 dX12_counted_87 (by decide) (fun h87 => ?_) (fun h87 => ?_)
    · exact absurd h87 (nI_ge hk (by decide))
    · skip
      refine ex_iload_n dX12_counted_90 rfl ?_
      refine ex_iload_n dX12_counted_91 rfl ?_
      refine ex_iconst (v := 2) dX12_counted_92 (by decide) ?_
      refine ex_icmp_ne 109 dX12_counted_93 (by decide) (fun h93 => ?_) (fun h93 => ?_)
      · skip
        refine ex_iconst (v := 0) dX12_counted_109 (by decide) ?_
        refine ex_iadd dX12_counted_110 ?_
        refine st_i2 dX12_counted_111 (by first | exact rfl | exact trivial) ?_
        refine inc3 (v := _ + 1) dX12_counted_112 (by rfl) (by first | exact rfl | exact trivial) ?_
        refine ex_goto 85 dX12_counted_115 (by decide) ?_
        simp only [Int32.add_zero, nI_1]
        exact ih
      · exact absurd h93 (by decide)
  · skip
    refine ex_iload_n dX12_counted_85 rfl ?_
    refine ex_iconst (v := 3) dX12_counted_86 (by decide) ?_
    refine ex_icmp_ge 118 dX12_counted_87 (by decide) (fun h87 => ?_) (fun h87 => ?_)
    · skip
      exact kont
    · exact absurd (by decide : nI 3 ≤ nI 3) h87
set_option maxRecDepth 100000 in
set_option maxHeartbeats 4000000 in
theorem lm_c6_3 {P : Option Value → Mem → Prop}  (kont : Ex G mdX12_counted 155 [some (.ref 200), some (.int 6), some (.int (nI (cntN (fun e => if I 202 e < 0 then 0 else 1) 6))), some (.int (nI 6))] [] (mk I L t) 0 0 P) : Ex G mdX12_counted 120 [some (.ref 200), some (.int 6), some (.int (nI (cntN (fun e => if I 202 e < 0 then 0 else 1) 0))), some (.int (nI 0))] [] (mk I L t) 0 0 P := by
  refine loop_up (G := G) (d := mdX12_counted) (pc := 120) (st := []) (uc := 0) (us := 0) (P := P) 6 (fun k => mk I L t) (fun k => [some (.ref 200), some (.int 6), some (.int (nI (cntN (fun e => if I 202 e < 0 then 0 else 1) k))), some (.int (nI k))]) ?_ ?_ 0 (Nat.zero_le _)
  · intro k hk ih
    refine ex_iload_n dX12_counted_120 rfl ?_
    refine ex_bipush (v := 6) dX12_counted_121 (by decide) ?_
    refine ex_icmp_ge 155 dX12_counted_123 (by decide) (fun h123 => ?_) (fun h123 => ?_)
    · exact absurd h123 (nI_ge hk (by decide))
    · skip
      refine ex_iload_n dX12_counted_126 rfl ?_
      refine ex_iload_n dX12_counted_127 rfl ?_
      refine ex_bipush (v := 6) dX12_counted_128 (by decide) ?_
      refine ex_icmp_ne 146 dX12_counted_130 (by decide) (fun h130 => ?_) (fun h130 => ?_)
      · exact absurd h130 (by decide)
      · skip
        refine ex_aload_n dX12_counted_133 rfl ?_
        refine g_12_5 dX12_counted_134 rfl wf_X12_13 (by first | assumption | rfl) (show Rt _ 200 5 = some 202 from rfl) ?_
        refine ex_iload_n dX12_counted_137 rfl ?_
        refine rx_iald dX12_counted_138 (by first | assumption | rfl) (vp_in_nI hk (by decide)) ?_
        rw [nI_clamp (by omega)]
        refine ex_if_lt 146 dX12_counted_139 (by decide) (fun h139 => ?_) (fun h139 => ?_)
        · have hc : cntN (fun e => if I 202 e < 0 then 0 else 1) (k + 1) = cntN (fun e => if I 202 e < 0 then 0 else 1) k := cntN_s.trans (if_pos (if_pos h139))
          refine ex_iconst (v := 0) dX12_counted_146 (by decide) ?_
          refine ex_iadd dX12_counted_147 ?_
          refine st_i2 dX12_counted_148 (by first | exact rfl | exact trivial) ?_
          refine inc3 (v := _ + 1) dX12_counted_149 (by rfl) (by first | exact rfl | exact trivial) ?_
          refine ex_goto 120 dX12_counted_152 (by decide) ?_
          simp only [Int32.add_zero, nI_1]
          rw [hc] at ih
          exact ih
        · have hc : cntN (fun e => if I 202 e < 0 then 0 else 1) (k + 1) = cntN (fun e => if I 202 e < 0 then 0 else 1) k + 1 := cntN_s.trans (if_neg (fun z => absurd ((if_neg h139).symm.trans z) (by decide)))
          refine ex_iconst (v := 1) dX12_counted_142 (by decide) ?_
          refine ex_goto 147 dX12_counted_143 (by decide) ?_
          refine ex_iadd dX12_counted_147 ?_
          refine st_i2 dX12_counted_148 (by first | exact rfl | exact trivial) ?_
          refine inc3 (v := _ + 1) dX12_counted_149 (by rfl) (by first | exact rfl | exact trivial) ?_
          refine ex_goto 120 dX12_counted_152 (by decide) ?_
          simp only [Int32.add_zero, nI_1]
          rw [hc] at ih
          exact ih
  · skip
    refine ex_iload_n dX12_counted_120 rfl ?_
    refine ex_bipush (v := 6) dX12_counted_121 (by decide) ?_
    refine ex_icmp_ge 155 dX12_counted_123 (by decide) (fun h123 => ?_) (fun h123 => ?_)
    · skip
      exact kont
    · exact absurd (by decide : nI 6 ≤ nI 6) h123
set_option maxRecDepth 100000 in
set_option maxHeartbeats 4000000 in
theorem s_counted6 : Ca G mdX12_counted [.ref 200, .int 6] (mk I L t) (Rs (.int (nI (cntN (fun e => if I 202 e < 0 then 0 else 1) 6))) (mk (lkI I 0) L t)) := by
  refine Ca.intro [some (.ref 200), some (.int 6), none, none] (by decide) (Nat.le_of_ble_eq_true rfl) rfl rfl ?_
  refine ex_iconst (v := 0) dX12_counted_0 (by decide) ?_
  refine st_i2 dX12_counted_1 (by first | exact rfl | exact trivial) ?_
  refine ex_iconst (v := 0) dX12_counted_2 (by decide) ?_
  refine st_i3 dX12_counted_3 (by first | exact rfl | exact trivial) ?_
  refine lm_c6_1 ?_
  refine ex_iconst (v := 0) dX12_counted_83 (by decide) ?_
  refine st_i3 dX12_counted_84 (by first | exact rfl | exact trivial) ?_
  refine lm_c6_2 ?_
  refine ex_iconst (v := 0) dX12_counted_118 (by decide) ?_
  refine st_i3 dX12_counted_119 (by first | exact rfl | exact trivial) ?_
  have key3 := lm_c6_3 (G := G) (I := I) (L := L) (t := t) (P := Rs (.int (nI (cntN (fun e => if I 202 e < 0 then 0 else 1) 6))) (mk (lkI I 0) L t)) ?_
  · rw [cntN_0] at key3
    exact key3
  refine ex_aload_n dX12_counted_155 rfl ?_
  refine ex_iconst (v := 0) dX12_counted_156 (by decide) ?_
  refine rx_cV (kd := 12) dX12_counted_157 rfl lk_X12_167 rfl (by decide) (by first | assumption | rfl) ⟨⟨rfl, rfl⟩, by decide, by decide⟩ rfl (Nat.le_of_ble_eq_true rfl) rfl s_X12_look (Rv.k ?_)
  refine ex_iload_n dX12_counted_160 rfl ?_
  refine ex_iconst (v := 3) dX12_counted_161 (by decide) ?_
  refine ex_icmp_ne 172 dX12_counted_162 (by decide) (fun h162 => ?_) (fun h162 => ?_)
  · skip
    refine ex_iload_n dX12_counted_172 rfl ?_
    refine ex_iconst (v := 4) dX12_counted_173 (by decide) ?_
    refine ex_icmp_ne 199 dX12_counted_174 (by decide) (fun h174 => ?_) (fun h174 => ?_)
    · skip
      refine ex_iload_n dX12_counted_199 rfl ?_
      refine ex_iret dX12_counted_200 rfl rfl ⟨rfl, Nat.le_refl _⟩ ?_
      exact ⟨rfl, rfl⟩
    · exact absurd h174 (by decide)
  · exact absurd h162 (by decide)
set_option maxRecDepth 100000 in
set_option maxHeartbeats 4000000 in
theorem lm_c7_1 {P : Option Value → Mem → Prop}  (kont : Ex G mdX12_counted 83 [some (.ref 200), some (.int 7), some (.int (nI (cntN (fun e => if I 205 e < 0 then 0 else 1) 4))), some (.int (nI 4))] [] (mk I L t) 0 0 P) : Ex G mdX12_counted 4 [some (.ref 200), some (.int 7), some (.int (nI (cntN (fun e => if I 205 e < 0 then 0 else 1) 0))), some (.int (nI 0))] [] (mk I L t) 0 0 P := by
  refine loop_up (G := G) (d := mdX12_counted) (pc := 4) (st := []) (uc := 0) (us := 0) (P := P) 4 (fun k => mk I L t) (fun k => [some (.ref 200), some (.int 7), some (.int (nI (cntN (fun e => if I 205 e < 0 then 0 else 1) k))), some (.int (nI k))]) ?_ ?_ 0 (Nat.zero_le _)
  · intro k hk ih
    refine ex_iload_n dX12_counted_4 rfl ?_
    refine ex_iconst (v := 4) dX12_counted_5 (by decide) ?_
    refine ex_icmp_ge 83 dX12_counted_6 (by decide) (fun h6 => ?_) (fun h6 => ?_)
    · exact absurd h6 (nI_ge hk (by decide))
    · skip
      refine ex_iload_n dX12_counted_9 rfl ?_
      refine ex_iload_n dX12_counted_10 rfl ?_
      refine ex_if_ne 23 dX12_counted_11 (by decide) (fun h11 => ?_) (fun h11 => ?_)
      · skip
        refine ex_iload_n dX12_counted_23 rfl ?_
        refine ex_iconst (v := 1) dX12_counted_24 (by decide) ?_
        refine ex_icmp_ne 37 dX12_counted_25 (by decide) (fun h25 => ?_) (fun h25 => ?_)
        · skip
          refine ex_iload_n dX12_counted_37 rfl ?_
          refine ex_iconst (v := 5) dX12_counted_38 (by decide) ?_
          refine ex_icmp_ne 55 dX12_counted_39 (by decide) (fun h39 => ?_) (fun h39 => ?_)
          · skip
            refine ex_iload_n dX12_counted_55 rfl ?_
            refine ex_bipush (v := 7) dX12_counted_56 (by decide) ?_
            refine ex_icmp_ne 74 dX12_counted_58 (by decide) (fun h58 => ?_) (fun h58 => ?_)
            · exact absurd h58 (by decide)
            · skip
              refine ex_aload_n dX12_counted_61 rfl ?_
              refine g_12_8 dX12_counted_62 rfl wf_X12_22 (by first | assumption | rfl) (show Rt _ 200 8 = some 205 from rfl) ?_
              refine ex_iload_n dX12_counted_65 rfl ?_
              refine rx_iald dX12_counted_66 (by first | assumption | rfl) (vp_in_nI hk (by decide)) ?_
              rw [nI_clamp (by omega)]
              refine ex_if_lt 74 dX12_counted_67 (by decide) (fun h67 => ?_) (fun h67 => ?_)
              · have hc : cntN (fun e => if I 205 e < 0 then 0 else 1) (k + 1) = cntN (fun e => if I 205 e < 0 then 0 else 1) k := cntN_s.trans (if_pos (if_pos h67))
                refine ex_iconst (v := 0) dX12_counted_74 (by decide) ?_
                refine ex_iadd dX12_counted_75 ?_
                refine st_i2 dX12_counted_76 (by first | exact rfl | exact trivial) ?_
                refine inc3 (v := _ + 1) dX12_counted_77 (by rfl) (by first | exact rfl | exact trivial) ?_
                refine ex_goto 4 dX12_counted_80 (by decide) ?_
                simp only [Int32.add_zero, nI_1]
                rw [hc] at ih
                exact ih
              · have hc : cntN (fun e => if I 205 e < 0 then 0 else 1) (k + 1) = cntN (fun e => if I 205 e < 0 then 0 else 1) k + 1 := cntN_s.trans (if_neg (fun z => absurd ((if_neg h67).symm.trans z) (by decide)))
                refine ex_iconst (v := 1) dX12_counted_70 (by decide) ?_
                refine ex_goto 75 dX12_counted_71 (by decide) ?_
                refine ex_iadd dX12_counted_75 ?_
                refine st_i2 dX12_counted_76 (by first | exact rfl | exact trivial) ?_
                refine inc3 (v := _ + 1) dX12_counted_77 (by rfl) (by first | exact rfl | exact trivial) ?_
                refine ex_goto 4 dX12_counted_80 (by decide) ?_
                simp only [Int32.add_zero, nI_1]
                rw [hc] at ih
                exact ih
          · exact absurd h39 (by decide)
        · exact absurd h25 (by decide)
      · exact absurd h11 (by decide)
  · skip
    refine ex_iload_n dX12_counted_4 rfl ?_
    refine ex_iconst (v := 4) dX12_counted_5 (by decide) ?_
    refine ex_icmp_ge 83 dX12_counted_6 (by decide) (fun h6 => ?_) (fun h6 => ?_)
    · skip
      exact kont
    · exact absurd (by decide : nI 4 ≤ nI 4) h6
set_option maxRecDepth 100000 in
set_option maxHeartbeats 4000000 in
theorem lm_c7_2 {P : Option Value → Mem → Prop} {a : Int32} (kont : Ex G mdX12_counted 118 [some (.ref 200), some (.int 7), some (.int a), some (.int (nI 3))] [] (mk I L t) 0 0 P) : Ex G mdX12_counted 85 [some (.ref 200), some (.int 7), some (.int a), some (.int (nI 0))] [] (mk I L t) 0 0 P := by
  refine loop_up (G := G) (d := mdX12_counted) (pc := 85) (st := []) (uc := 0) (us := 0) (P := P) 3 (fun k => mk I L t) (fun k => [some (.ref 200), some (.int 7), some (.int a), some (.int (nI k))]) ?_ ?_ 0 (Nat.zero_le _)
  · intro k hk ih
    refine ex_iload_n dX12_counted_85 rfl ?_
    refine ex_iconst (v := 3) dX12_counted_86 (by decide) ?_
    refine ex_icmp_ge 118 dX12_counted_87 (by decide) (fun h87 => ?_) (fun h87 => ?_)
    · exact absurd h87 (nI_ge hk (by decide))
    · skip
      refine ex_iload_n dX12_counted_90 rfl ?_
      refine ex_iload_n dX12_counted_91 rfl ?_
      refine ex_iconst (v := 2) dX12_counted_92 (by decide) ?_
      refine ex_icmp_ne 109 dX12_counted_93 (by decide) (fun h93 => ?_) (fun h93 => ?_)
      · skip
        refine ex_iconst (v := 0) dX12_counted_109 (by decide) ?_
        refine ex_iadd dX12_counted_110 ?_
        refine st_i2 dX12_counted_111 (by first | exact rfl | exact trivial) ?_
        refine inc3 (v := _ + 1) dX12_counted_112 (by rfl) (by first | exact rfl | exact trivial) ?_
        refine ex_goto 85 dX12_counted_115 (by decide) ?_
        simp only [Int32.add_zero, nI_1]
        exact ih
      · exact absurd h93 (by decide)
  · skip
    refine ex_iload_n dX12_counted_85 rfl ?_
    refine ex_iconst (v := 3) dX12_counted_86 (by decide) ?_
    refine ex_icmp_ge 118 dX12_counted_87 (by decide) (fun h87 => ?_) (fun h87 => ?_)
    · skip
      exact kont
    · exact absurd (by decide : nI 3 ≤ nI 3) h87
set_option maxRecDepth 100000 in
set_option maxHeartbeats 4000000 in
theorem lm_c7_3 {P : Option Value → Mem → Prop} {a : Int32} (kont : Ex G mdX12_counted 155 [some (.ref 200), some (.int 7), some (.int a), some (.int (nI 6))] [] (mk I L t) 0 0 P) : Ex G mdX12_counted 120 [some (.ref 200), some (.int 7), some (.int a), some (.int (nI 0))] [] (mk I L t) 0 0 P := by
  refine loop_up (G := G) (d := mdX12_counted) (pc := 120) (st := []) (uc := 0) (us := 0) (P := P) 6 (fun k => mk I L t) (fun k => [some (.ref 200), some (.int 7), some (.int a), some (.int (nI k))]) ?_ ?_ 0 (Nat.zero_le _)
  · intro k hk ih
    refine ex_iload_n dX12_counted_120 rfl ?_
    refine ex_bipush (v := 6) dX12_counted_121 (by decide) ?_
    refine ex_icmp_ge 155 dX12_counted_123 (by decide) (fun h123 => ?_) (fun h123 => ?_)
    · exact absurd h123 (nI_ge hk (by decide))
    · skip
      refine ex_iload_n dX12_counted_126 rfl ?_
      refine ex_iload_n dX12_counted_127 rfl ?_
      refine ex_bipush (v := 6) dX12_counted_128 (by decide) ?_
      refine ex_icmp_ne 146 dX12_counted_130 (by decide) (fun h130 => ?_) (fun h130 => ?_)
      · skip
        refine ex_iconst (v := 0) dX12_counted_146 (by decide) ?_
        refine ex_iadd dX12_counted_147 ?_
        refine st_i2 dX12_counted_148 (by first | exact rfl | exact trivial) ?_
        refine inc3 (v := _ + 1) dX12_counted_149 (by rfl) (by first | exact rfl | exact trivial) ?_
        refine ex_goto 120 dX12_counted_152 (by decide) ?_
        simp only [Int32.add_zero, nI_1]
        exact ih
      · exact absurd h130 (by decide)
  · skip
    refine ex_iload_n dX12_counted_120 rfl ?_
    refine ex_bipush (v := 6) dX12_counted_121 (by decide) ?_
    refine ex_icmp_ge 155 dX12_counted_123 (by decide) (fun h123 => ?_) (fun h123 => ?_)
    · skip
      exact kont
    · exact absurd (by decide : nI 6 ≤ nI 6) h123
set_option maxRecDepth 100000 in
set_option maxHeartbeats 4000000 in
theorem s_counted7 : Ca G mdX12_counted [.ref 200, .int 7] (mk I L t) (Rs (.int (nI (cntN (fun e => if I 205 e < 0 then 0 else 1) 4))) (mk (lkI I 0) L t)) := by
  refine Ca.intro [some (.ref 200), some (.int 7), none, none] (by decide) (Nat.le_of_ble_eq_true rfl) rfl rfl ?_
  refine ex_iconst (v := 0) dX12_counted_0 (by decide) ?_
  refine st_i2 dX12_counted_1 (by first | exact rfl | exact trivial) ?_
  refine ex_iconst (v := 0) dX12_counted_2 (by decide) ?_
  refine st_i3 dX12_counted_3 (by first | exact rfl | exact trivial) ?_
  have key1 := lm_c7_1 (G := G) (I := I) (L := L) (t := t) (P := Rs (.int (nI (cntN (fun e => if I 205 e < 0 then 0 else 1) 4))) (mk (lkI I 0) L t)) ?_
  · rw [cntN_0] at key1
    exact key1
  refine ex_iconst (v := 0) dX12_counted_83 (by decide) ?_
  refine st_i3 dX12_counted_84 (by first | exact rfl | exact trivial) ?_
  refine lm_c7_2 ?_
  refine ex_iconst (v := 0) dX12_counted_118 (by decide) ?_
  refine st_i3 dX12_counted_119 (by first | exact rfl | exact trivial) ?_
  refine lm_c7_3 ?_
  refine ex_aload_n dX12_counted_155 rfl ?_
  refine ex_iconst (v := 0) dX12_counted_156 (by decide) ?_
  refine rx_cV (kd := 12) dX12_counted_157 rfl lk_X12_167 rfl (by decide) (by first | assumption | rfl) ⟨⟨rfl, rfl⟩, by decide, by decide⟩ rfl (Nat.le_of_ble_eq_true rfl) rfl s_X12_look (Rv.k ?_)
  refine ex_iload_n dX12_counted_160 rfl ?_
  refine ex_iconst (v := 3) dX12_counted_161 (by decide) ?_
  refine ex_icmp_ne 172 dX12_counted_162 (by decide) (fun h162 => ?_) (fun h162 => ?_)
  · skip
    refine ex_iload_n dX12_counted_172 rfl ?_
    refine ex_iconst (v := 4) dX12_counted_173 (by decide) ?_
    refine ex_icmp_ne 199 dX12_counted_174 (by decide) (fun h174 => ?_) (fun h174 => ?_)
    · skip
      refine ex_iload_n dX12_counted_199 rfl ?_
      refine ex_iret dX12_counted_200 rfl rfl ⟨rfl, Nat.le_refl _⟩ ?_
      exact ⟨rfl, rfl⟩
    · exact absurd h174 (by decide)
  · exact absurd h162 (by decide)
def f_counted (I : Im) (w : Int32) : Int32 := if w = 0 then nI (cntN (I 207) 4) else if w = 1 then nI (cntN (I 209) 4) else if w = 2 then nI (cntN (I 214) 3) else if w = 3 then I 200 37 else if w = 4 then (if I 216 0 = 0 then 0 else I 217 30) else if w = 5 then nI (cntN (fun e => if e = 0 then 0 else I 216 e) 4) else if w = 6 then nI (cntN (fun e => if I 202 e < 0 then 0 else 1) 6) else nI (cntN (fun e => if I 205 e < 0 then 0 else 1) 4)
theorem s_countedG {w : Int32} (vw : vp_in w 8) : Ca G mdX12_counted [.ref 200, .int w] (mk I L t) (Rs (.int (f_counted I w)) (mk (lkI I 0) L t)) := by
  obtain ⟨h1, h2⟩ := vpn vw
  generalize w.toNatClampNeg = j at h1 h2
  subst h2
  rcases (by omega : j = 0 ∨ j = 1 ∨ j = 2 ∨ j = 3 ∨ j = 4 ∨ j = 5 ∨ j = 6 ∨ j = 7) with rfl | rfl | rfl | rfl | rfl | rfl | rfl | rfl
  · exact s_counted0
  · exact s_counted1
  · exact s_counted2
  · exact s_counted3
  · exact s_counted4
  · exact s_counted5
  · exact s_counted6
  · exact s_counted7
def f_X12_count (I : Im) (w : Int32) : Int32 × Im :=
  if (b2i (0 ≤ w ∧ w ≤ 7)) = 0 then
    ((-1), I)
  else
    let I1 : Im := lkI I 0
    (f_counted I w, I1)
set_option maxRecDepth 100000 in
set_option maxHeartbeats 4000000 in
theorem s_X12_count  {w : Int32}  : Ca G mdX12_count [.ref 200, .int w] (mk I L t) (Rs (.int (f_X12_count I w).1) (mk ((f_X12_count I w).2) L t)) := by
  refine Ca.intro [some (.ref 200), some (.int w)] (by decide) (Nat.le_of_ble_eq_true rfl) rfl rfl ?_
  refine ex_iload_n dX12_count_0 rfl ?_
  refine ex_iconst (v := 0) dX12_count_1 (by decide) ?_
  refine ex_bipush (v := 7) dX12_count_2 (by decide) ?_
  refine rx_cS dX12_count_4 rfl lk_X12_86 ⟨⟨rfl, rfl⟩, by decide, by decide⟩ rfl (Nat.le_of_ble_eq_true rfl) rfl s_X12_in (Rs.k ?_)
  refine ex_if_eq 18 dX12_count_7 (by decide) (fun h7 => ?_) (fun h7 => ?_)
  · skip
    refine ex_iconst (v := (-1)) dX12_count_18 (by decide) ?_
    refine ex_iret dX12_count_19 rfl rfl ⟨rfl, Nat.le_refl _⟩ ?_
    exact ⟨(by simp only [f_X12_count, ↓eq_true h7, if_true, if_false, not_true_eq_false, not_false_eq_true]), (by simp only [f_X12_count, ↓eq_true h7, if_true, if_false, not_true_eq_false, not_false_eq_true])⟩
  · have qw := (cl_lt (N := 8) (by decide) h7).1
    have vw := (cl_lt (N := 8) (by decide) h7).2
    refine ex_aload_n dX12_count_10 rfl ?_
    refine ex_iload_n dX12_count_11 rfl ?_
    refine rx_cV (kd := 12) dX12_count_12 rfl lk_X12_356 rfl (by decide) (by first | assumption | rfl) ⟨⟨rfl, rfl⟩, by decide, by decide⟩ rfl (Nat.le_of_ble_eq_true rfl) rfl (s_countedG vw) (Rs.k ?_)
    refine ex_goto 19 dX12_count_15 (by decide) ?_
    refine ex_iret dX12_count_19 rfl rfl ⟨rfl, Nat.le_refl _⟩ ?_
    exact ⟨(by simp only [f_X12_count, ↓eq_false h7, if_true, if_false, not_true_eq_false, not_false_eq_true]), (by simp only [f_X12_count, ↓eq_false h7, if_true, if_false, not_true_eq_false, not_false_eq_true])⟩
end M22
