section M24
variable {G : Gp} {I : Im} {L : Nat → Nat → Int64} {t : Nat}
def hs (L : Nat → Nat → Int64) (h : Int64) : Nat → Nat → Int64 := up2 L 200 39 h
theorem hs_r {h : Int64} : hs L h 200 39 = h := u2_s
theorem hs_w {h v : Int64} : up2 (hs L h) 200 39 v = hs L v := by
  funext e j
  unfold hs up2
  by_cases c : e = 200 ∧ j = 39
  · rw [if_pos c, if_pos c]
  · rw [if_neg c, if_neg c, if_neg c]
set_option maxRecDepth 100000 in
set_option maxHeartbeats 4000000 in
theorem s_X12_mix {h v : Int64} : Ca G mdX12_mix [.ref 200, .long v] (mk I (hs L h) t) (Rv (mk I (hs L (31 * h + v)) t)) := by
  refine Ca.intro [some (.ref 200), some (.long v), none] (by decide) (Nat.le_of_ble_eq_true rfl) rfl rfl ?_
  refine ex_aload_n dX12_mix_0 rfl ?_
  refine ex_ldc2 dX12_mix_1 rfl wl_X12_359 ?_
  refine ex_aload_n dX12_mix_4 rfl ?_
  refine g_12_39 dX12_mix_5 rfl wf_X12_361 (by first | assumption | rfl) ?_
  rw [hs_r]
  refine ex_lmul dX12_mix_8 ?_
  refine ex_lload_n dX12_mix_9 rfl ?_
  refine ex_ladd dX12_mix_10 ?_
  refine p_12_39 dX12_mix_11 rfl wf_X12_361 (by first | assumption | rfl) ?_
  rw [hs_w]
  refine ex_vret dX12_mix_14 rfl ⟨rfl, Nat.le_refl _⟩ ?_
  exact ⟨rfl, rfl⟩
def HnS (I : Im) : Prop := ∀ q, q < 4 → ∃ n, n ≤ 16 ∧ I 208 (21 * q) = nI n
def hbX (I : Im) (q : Nat) (h : Int64) : Int64 := if I 207 q = 0 then 31 * h + (-1) else mixL (fun i => I 208 (21 * q + i)) h (5 + (I 208 (21 * q)).toNatClampNeg)
def seX (I : Im) (q : Nat) (h : Int64) : Int64 := if I 209 q = 0 then 31 * h + (-1) else mixL (fun i => I 211 (8 * q + i)) h (2 * (I 210 q).toNatClampNeg)
def shX (I : Im) (q : Nat) (h : Int64) : Int64 := if I 214 q = 0 then 31 * h + (-1) else mixL (fun i => I 215 (5 * q + i)) h 5
set_option maxRecDepth 100000 in
set_option maxHeartbeats 4000000 in
theorem lm_mih {P : Option Value → Mem → Prop} {h : Int64} {q n : Nat} (hq : q < 4) (hz : ¬ I 207 q = 0) (hn : n ≤ 16) (en : I 208 (21 * q) = nI n) (kont : Ex G mdX12_mixBooks 71 [some (.ref 200), some (.int (nI q)), some (.int (nI (5 + n)))] [] (mk I (hs L (mixL (fun i => I 208 (21 * q + i)) h (5 + n))) t) 0 0 P) : Ex G mdX12_mixBooks 25 [some (.ref 200), some (.int (nI q)), some (.int (nI 0))] [] (mk I (hs L (mixL (fun i => I 208 (21 * q + i)) h 0)) t) 0 0 P := by
  refine loop_up (G := G) (d := mdX12_mixBooks) (pc := 25) (st := []) (uc := 0) (us := 0) (P := P) (5 + n) (fun k => mk I (hs L (mixL (fun i => I 208 (21 * q + i)) h k)) t) (fun k => [some (.ref 200), some (.int (nI q)), some (.int (nI k))]) ?_ ?_ 0 (Nat.zero_le _)
  · intro k hk ih
    refine ex_iload_n dX12_mixBooks_25 rfl ?_
    refine ex_iconst (v := 5) dX12_mixBooks_26 (by decide) ?_
    refine ex_aload_n dX12_mixBooks_27 rfl ?_
    refine g_12_11 dX12_mixBooks_28 rfl wf_X12_33 (by first | assumption | rfl) (show Rt _ 200 11 = some 208 from rfl) ?_
    refine ex_bipush (v := 21) dX12_mixBooks_31 (by decide) ?_
    refine ex_iload_n dX12_mixBooks_33 rfl ?_
    refine ex_imul dX12_mixBooks_34 ?_
    refine rx_iald dX12_mixBooks_35 (by first | assumption | rfl) (ixz (c := 21) (C := 21) (R := 4) rfl (by decide) (vp_in_nI hq (by decide)) (by decide)).1 ?_
    rw [(ixz (c := 21) (C := 21) (R := 4) rfl (by decide) (vp_in_nI hq (by decide)) (by decide)).2, nI_clamp (by omega), en]
    refine ex_iadd dX12_mixBooks_36 ?_
    rw [show (5 : Int32) = nI 5 from rfl, nI_add]
    refine ex_icmp_ge 71 dX12_mixBooks_37 (by decide) (fun h37 => ?_) (fun h37 => ?_)
    · exact absurd h37 (nI_ge hk (by omega))
    · skip
      refine ex_aload_n dX12_mixBooks_40 rfl ?_
      refine g_12_10 dX12_mixBooks_41 rfl wf_X12_29 (by first | assumption | rfl) (show Rt _ 200 10 = some 207 from rfl) ?_
      refine ex_iload_n dX12_mixBooks_44 rfl ?_
      refine rx_zald dX12_mixBooks_45 (by first | assumption | rfl) (vp_in_nI hq (by decide)) ?_
      rw [nI_clamp (by omega)]
      refine ex_if_eq 71 dX12_mixBooks_46 (by decide) (fun h46 => ?_) (fun h46 => ?_)
      · exact absurd h46 hz
      · skip
        refine ex_aload_n dX12_mixBooks_49 rfl ?_
        refine ex_aload_n dX12_mixBooks_50 rfl ?_
        refine g_12_11 dX12_mixBooks_51 rfl wf_X12_33 (by first | assumption | rfl) (show Rt _ 200 11 = some 208 from rfl) ?_
        refine ex_bipush (v := 21) dX12_mixBooks_54 (by decide) ?_
        refine ex_iload_n dX12_mixBooks_56 rfl ?_
        refine ex_imul dX12_mixBooks_57 ?_
        refine ex_iload_n dX12_mixBooks_58 rfl ?_
        refine ex_iadd dX12_mixBooks_59 ?_
        refine rx_iald dX12_mixBooks_60 (by first | assumption | rfl) (ixm (c := 21) (C := 21) (R := 4) rfl (vp_in_nI hq (by decide)) (vp_in_nI (show k < 21 by omega) (by decide)) (by decide)).1 ?_
        rw [(ixm (c := 21) (C := 21) (R := 4) rfl (vp_in_nI hq (by decide)) (vp_in_nI (show k < 21 by omega) (by decide)) (by decide)).2, nI_clamp (show q < 2 ^ 31 by omega), nI_clamp (show k < 2 ^ 31 by omega)]
        refine ex_i2l dX12_mixBooks_61 ?_
        refine rx_cV (kd := 12) dX12_mixBooks_62 rfl lk_X12_366 rfl (by decide) (by first | assumption | rfl) ⟨⟨rfl, rfl⟩, by decide, by decide⟩ rfl (Nat.le_of_ble_eq_true rfl) rfl s_X12_mix (Rv.k ?_)
        refine inc2 (v := _ + 1) dX12_mixBooks_65 (by rfl) (by first | exact rfl | exact trivial) ?_
        refine ex_goto 25 dX12_mixBooks_68 (by decide) ?_
        rw [nI_1]
        exact ih
  · skip
    refine ex_iload_n dX12_mixBooks_25 rfl ?_
    refine ex_iconst (v := 5) dX12_mixBooks_26 (by decide) ?_
    refine ex_aload_n dX12_mixBooks_27 rfl ?_
    refine g_12_11 dX12_mixBooks_28 rfl wf_X12_33 (by first | assumption | rfl) (show Rt _ 200 11 = some 208 from rfl) ?_
    refine ex_bipush (v := 21) dX12_mixBooks_31 (by decide) ?_
    refine ex_iload_n dX12_mixBooks_33 rfl ?_
    refine ex_imul dX12_mixBooks_34 ?_
    refine rx_iald dX12_mixBooks_35 (by first | assumption | rfl) (ixz (c := 21) (C := 21) (R := 4) rfl (by decide) (vp_in_nI hq (by decide)) (by decide)).1 ?_
    rw [(ixz (c := 21) (C := 21) (R := 4) rfl (by decide) (vp_in_nI hq (by decide)) (by decide)).2, nI_clamp (by omega), en]
    refine ex_iadd dX12_mixBooks_36 ?_
    rw [show (5 : Int32) = nI 5 from rfl, nI_add]
    refine ex_icmp_ge 71 dX12_mixBooks_37 (by decide) (fun h37 => ?_) (fun h37 => ?_)
    · skip
      exact kont
    · exact absurd (Int32.le_refl _) h37
set_option maxRecDepth 100000 in
set_option maxHeartbeats 4000000 in
theorem lm_moh {P : Option Value → Mem → Prop} {h : Int64} (hN : HnS I) (kont : Ex G mdX12_mixBooks 77 [some (.ref 200), some (.int (nI 4)), none] [] (mk I (hs L (dgN (hbX I) h 4)) t) 0 0 P) : Ex G mdX12_mixBooks 2 [some (.ref 200), some (.int (nI 0)), none] [] (mk I (hs L (dgN (hbX I) h 0)) t) 0 0 P := by
  refine loop_up (G := G) (d := mdX12_mixBooks) (pc := 2) (st := []) (uc := 0) (us := 0) (P := P) 4 (fun k => mk I (hs L (dgN (hbX I) h k)) t) (fun k => [some (.ref 200), some (.int (nI k)), none]) ?_ ?_ 0 (Nat.zero_le _)
  · intro k hk ih
    obtain ⟨n, hn, en⟩ := hN k hk
    refine ex_iload_n dX12_mixBooks_2 rfl ?_
    refine ex_iconst (v := 4) dX12_mixBooks_3 (by decide) ?_
    refine ex_icmp_ge 77 dX12_mixBooks_4 (by decide) (fun h4 => ?_) (fun h4 => ?_)
    · exact absurd h4 (nI_ge hk (by decide))
    · skip
      refine ex_aload_n dX12_mixBooks_7 rfl ?_
      refine g_12_10 dX12_mixBooks_8 rfl wf_X12_29 (by first | assumption | rfl) (show Rt _ 200 10 = some 207 from rfl) ?_
      refine ex_iload_n dX12_mixBooks_11 rfl ?_
      refine rx_zald dX12_mixBooks_12 (by first | assumption | rfl) (vp_in_nI hk (by decide)) ?_
      rw [nI_clamp (by omega)]
      refine ex_if_ne 23 dX12_mixBooks_13 (by decide) (fun h13 => ?_) (fun h13 => ?_)
      · have hz := h13
        refine ex_iconst (v := 0) dX12_mixBooks_23 (by decide) ?_
        refine st_i2 dX12_mixBooks_24 (by first | exact rfl | exact trivial) ?_
        have key := lm_mih (G := G) (I := I) (L := L) (t := t) (h := (dgN (hbX I) h k)) (q := k) (P := P) hk hz hn en ?_
        · exact key
        refine inc1 (v := _ + 1) dX12_mixBooks_71 (by rfl) (by first | exact rfl | exact trivial) ?_
        refine ex_goto 2 dX12_mixBooks_74 (by decide) ?_
        refine fg2 ?_
        rw [nI_1]
        rw [dgN_s] at ih
        unfold hbX at ih
        rw [if_neg hz, en, nI_clamp (by omega)] at ih
        exact ih
      · have hz := h13
        refine ex_aload_n dX12_mixBooks_16 rfl ?_
        refine ex_ldc2 dX12_mixBooks_17 rfl wl_X12_364 ?_
        refine rx_cV (kd := 12) dX12_mixBooks_20 rfl lk_X12_366 rfl (by decide) (by first | assumption | rfl) ⟨⟨rfl, rfl⟩, by decide, by decide⟩ rfl (Nat.le_of_ble_eq_true rfl) rfl s_X12_mix (Rv.k ?_)
        refine ex_iconst (v := 0) dX12_mixBooks_23 (by decide) ?_
        refine st_i2 dX12_mixBooks_24 (by first | exact rfl | exact trivial) ?_
        refine ex_iload_n dX12_mixBooks_25 rfl ?_
        refine ex_iconst (v := 5) dX12_mixBooks_26 (by decide) ?_
        refine ex_aload_n dX12_mixBooks_27 rfl ?_
        refine g_12_11 dX12_mixBooks_28 rfl wf_X12_33 (by first | assumption | rfl) (show Rt _ 200 11 = some 208 from rfl) ?_
        refine ex_bipush (v := 21) dX12_mixBooks_31 (by decide) ?_
        refine ex_iload_n dX12_mixBooks_33 rfl ?_
        refine ex_imul dX12_mixBooks_34 ?_
        refine rx_iald dX12_mixBooks_35 (by first | assumption | rfl) (ixz (c := 21) (C := 21) (R := 4) rfl (by decide) (vp_in_nI hk (by decide)) (by decide)).1 ?_
        rw [(ixz (c := 21) (C := 21) (R := 4) rfl (by decide) (vp_in_nI hk (by decide)) (by decide)).2, nI_clamp (by omega), en]
        refine ex_iadd dX12_mixBooks_36 ?_
        rw [show (5 : Int32) = nI 5 from rfl, nI_add]
        refine ex_icmp_ge 71 dX12_mixBooks_37 (by decide) (fun h37 => ?_) (fun h37 => ?_)
        · skip
          refine inc1 (v := _ + 1) dX12_mixBooks_71 (by rfl) (by first | exact rfl | exact trivial) ?_
          refine ex_goto 2 dX12_mixBooks_74 (by decide) ?_
          refine fg2 ?_
          rw [nI_1]
          rw [dgN_s] at ih
          unfold hbX at ih
          rw [if_pos hz] at ih
          exact ih
        · skip
          refine ex_aload_n dX12_mixBooks_40 rfl ?_
          refine g_12_10 dX12_mixBooks_41 rfl wf_X12_29 (by first | assumption | rfl) (show Rt _ 200 10 = some 207 from rfl) ?_
          refine ex_iload_n dX12_mixBooks_44 rfl ?_
          refine rx_zald dX12_mixBooks_45 (by first | assumption | rfl) (vp_in_nI hk (by decide)) ?_
          rw [nI_clamp (by omega)]
          refine ex_if_eq 71 dX12_mixBooks_46 (by decide) (fun h46 => ?_) (fun h46 => ?_)
          · skip
            refine inc1 (v := _ + 1) dX12_mixBooks_71 (by rfl) (by first | exact rfl | exact trivial) ?_
            refine ex_goto 2 dX12_mixBooks_74 (by decide) ?_
            refine fg2 ?_
            rw [nI_1]
            rw [dgN_s] at ih
            unfold hbX at ih
            rw [if_pos hz] at ih
            exact ih
          · exact absurd hz h46
  · skip
    refine ex_iload_n dX12_mixBooks_2 rfl ?_
    refine ex_iconst (v := 4) dX12_mixBooks_3 (by decide) ?_
    refine ex_icmp_ge 77 dX12_mixBooks_4 (by decide) (fun h4 => ?_) (fun h4 => ?_)
    · skip
      exact kont
    · exact absurd (by decide : nI 4 ≤ nI 4) h4
set_option maxRecDepth 100000 in
set_option maxHeartbeats 4000000 in
theorem lm_mis {P : Option Value → Mem → Prop} {h : Int64} {q n : Nat} (hq : q < 4) (hz : ¬ I 209 q = 0) (hn : n ≤ 4) (en : I 210 q = nI n) (kont : Ex G mdX12_mixBooks 145 [some (.ref 200), some (.int (nI q)), some (.int (nI (2 * n)))] [] (mk I (hs L (mixL (fun i => I 211 (8 * q + i)) h (2 * n))) t) 0 0 P) : Ex G mdX12_mixBooks 102 [some (.ref 200), some (.int (nI q)), some (.int (nI 0))] [] (mk I (hs L (mixL (fun i => I 211 (8 * q + i)) h 0)) t) 0 0 P := by
  refine loop_up (G := G) (d := mdX12_mixBooks) (pc := 102) (st := []) (uc := 0) (us := 0) (P := P) (2 * n) (fun k => mk I (hs L (mixL (fun i => I 211 (8 * q + i)) h k)) t) (fun k => [some (.ref 200), some (.int (nI q)), some (.int (nI k))]) ?_ ?_ 0 (Nat.zero_le _)
  · intro k hk ih
    refine ex_iload_n dX12_mixBooks_102 rfl ?_
    refine ex_iconst (v := 2) dX12_mixBooks_103 (by decide) ?_
    refine ex_aload_n dX12_mixBooks_104 rfl ?_
    refine g_12_13 dX12_mixBooks_105 rfl wf_X12_39 (by first | assumption | rfl) (show Rt _ 200 13 = some 210 from rfl) ?_
    refine ex_iload_n dX12_mixBooks_108 rfl ?_
    refine rx_iald dX12_mixBooks_109 (by first | assumption | rfl) (vp_in_nI hq (by decide)) ?_
    rw [nI_clamp (by omega), en]
    refine ex_imul dX12_mixBooks_110 ?_
    rw [show (2 : Int32) = nI 2 from rfl, pk_mul]
    refine ex_icmp_ge 145 dX12_mixBooks_111 (by decide) (fun h111 => ?_) (fun h111 => ?_)
    · exact absurd h111 (nI_ge hk (by omega))
    · skip
      refine ex_aload_n dX12_mixBooks_114 rfl ?_
      refine g_12_12 dX12_mixBooks_115 rfl wf_X12_36 (by first | assumption | rfl) (show Rt _ 200 12 = some 209 from rfl) ?_
      refine ex_iload_n dX12_mixBooks_118 rfl ?_
      refine rx_zald dX12_mixBooks_119 (by first | assumption | rfl) (vp_in_nI hq (by decide)) ?_
      rw [nI_clamp (by omega)]
      refine ex_if_eq 145 dX12_mixBooks_120 (by decide) (fun h120 => ?_) (fun h120 => ?_)
      · exact absurd h120 hz
      · skip
        refine ex_aload_n dX12_mixBooks_123 rfl ?_
        refine ex_aload_n dX12_mixBooks_124 rfl ?_
        refine g_12_14 dX12_mixBooks_125 rfl wf_X12_42 (by first | assumption | rfl) (show Rt _ 200 14 = some 211 from rfl) ?_
        refine ex_bipush (v := 8) dX12_mixBooks_128 (by decide) ?_
        refine ex_iload_n dX12_mixBooks_130 rfl ?_
        refine ex_imul dX12_mixBooks_131 ?_
        refine ex_iload_n dX12_mixBooks_132 rfl ?_
        refine ex_iadd dX12_mixBooks_133 ?_
        refine rx_iald dX12_mixBooks_134 (by first | assumption | rfl) (ixm (c := 8) (C := 8) (R := 4) rfl (vp_in_nI hq (by decide)) (vp_in_nI (show k < 8 by omega) (by decide)) (by decide)).1 ?_
        rw [(ixm (c := 8) (C := 8) (R := 4) rfl (vp_in_nI hq (by decide)) (vp_in_nI (show k < 8 by omega) (by decide)) (by decide)).2, nI_clamp (show q < 2 ^ 31 by omega), nI_clamp (show k < 2 ^ 31 by omega)]
        refine ex_i2l dX12_mixBooks_135 ?_
        refine rx_cV (kd := 12) dX12_mixBooks_136 rfl lk_X12_366 rfl (by decide) (by first | assumption | rfl) ⟨⟨rfl, rfl⟩, by decide, by decide⟩ rfl (Nat.le_of_ble_eq_true rfl) rfl s_X12_mix (Rv.k ?_)
        refine inc2 (v := _ + 1) dX12_mixBooks_139 (by rfl) (by first | exact rfl | exact trivial) ?_
        refine ex_goto 102 dX12_mixBooks_142 (by decide) ?_
        rw [nI_1]
        exact ih
  · skip
    refine ex_iload_n dX12_mixBooks_102 rfl ?_
    refine ex_iconst (v := 2) dX12_mixBooks_103 (by decide) ?_
    refine ex_aload_n dX12_mixBooks_104 rfl ?_
    refine g_12_13 dX12_mixBooks_105 rfl wf_X12_39 (by first | assumption | rfl) (show Rt _ 200 13 = some 210 from rfl) ?_
    refine ex_iload_n dX12_mixBooks_108 rfl ?_
    refine rx_iald dX12_mixBooks_109 (by first | assumption | rfl) (vp_in_nI hq (by decide)) ?_
    rw [nI_clamp (by omega), en]
    refine ex_imul dX12_mixBooks_110 ?_
    rw [show (2 : Int32) = nI 2 from rfl, pk_mul]
    refine ex_icmp_ge 145 dX12_mixBooks_111 (by decide) (fun h111 => ?_) (fun h111 => ?_)
    · skip
      exact kont
    · exact absurd (Int32.le_refl _) h111
set_option maxRecDepth 100000 in
set_option maxHeartbeats 4000000 in
theorem lm_mos {P : Option Value → Mem → Prop} {h : Int64} (hN : SmS I) (kont : Ex G mdX12_mixBooks 151 [some (.ref 200), some (.int (nI 4)), none] [] (mk I (hs L (dgN (seX I) h 4)) t) 0 0 P) : Ex G mdX12_mixBooks 79 [some (.ref 200), some (.int (nI 0)), none] [] (mk I (hs L (dgN (seX I) h 0)) t) 0 0 P := by
  refine loop_up (G := G) (d := mdX12_mixBooks) (pc := 79) (st := []) (uc := 0) (us := 0) (P := P) 4 (fun k => mk I (hs L (dgN (seX I) h k)) t) (fun k => [some (.ref 200), some (.int (nI k)), none]) ?_ ?_ 0 (Nat.zero_le _)
  · intro k hk ih
    obtain ⟨n, hn, en⟩ := hN k hk
    refine ex_iload_n dX12_mixBooks_79 rfl ?_
    refine ex_iconst (v := 4) dX12_mixBooks_80 (by decide) ?_
    refine ex_icmp_ge 151 dX12_mixBooks_81 (by decide) (fun h81 => ?_) (fun h81 => ?_)
    · exact absurd h81 (nI_ge hk (by decide))
    · skip
      refine ex_aload_n dX12_mixBooks_84 rfl ?_
      refine g_12_12 dX12_mixBooks_85 rfl wf_X12_36 (by first | assumption | rfl) (show Rt _ 200 12 = some 209 from rfl) ?_
      refine ex_iload_n dX12_mixBooks_88 rfl ?_
      refine rx_zald dX12_mixBooks_89 (by first | assumption | rfl) (vp_in_nI hk (by decide)) ?_
      rw [nI_clamp (by omega)]
      refine ex_if_ne 100 dX12_mixBooks_90 (by decide) (fun h90 => ?_) (fun h90 => ?_)
      · have hz := h90
        refine ex_iconst (v := 0) dX12_mixBooks_100 (by decide) ?_
        refine st_i2 dX12_mixBooks_101 (by first | exact rfl | exact trivial) ?_
        have key := lm_mis (G := G) (I := I) (L := L) (t := t) (h := (dgN (seX I) h k)) (q := k) (P := P) hk hz hn en ?_
        · exact key
        refine inc1 (v := _ + 1) dX12_mixBooks_145 (by rfl) (by first | exact rfl | exact trivial) ?_
        refine ex_goto 79 dX12_mixBooks_148 (by decide) ?_
        refine fg2 ?_
        rw [nI_1]
        rw [dgN_s] at ih
        unfold seX at ih
        rw [if_neg hz, en, nI_clamp (by omega)] at ih
        exact ih
      · have hz := h90
        refine ex_aload_n dX12_mixBooks_93 rfl ?_
        refine ex_ldc2 dX12_mixBooks_94 rfl wl_X12_364 ?_
        refine rx_cV (kd := 12) dX12_mixBooks_97 rfl lk_X12_366 rfl (by decide) (by first | assumption | rfl) ⟨⟨rfl, rfl⟩, by decide, by decide⟩ rfl (Nat.le_of_ble_eq_true rfl) rfl s_X12_mix (Rv.k ?_)
        refine ex_iconst (v := 0) dX12_mixBooks_100 (by decide) ?_
        refine st_i2 dX12_mixBooks_101 (by first | exact rfl | exact trivial) ?_
        refine ex_iload_n dX12_mixBooks_102 rfl ?_
        refine ex_iconst (v := 2) dX12_mixBooks_103 (by decide) ?_
        refine ex_aload_n dX12_mixBooks_104 rfl ?_
        refine g_12_13 dX12_mixBooks_105 rfl wf_X12_39 (by first | assumption | rfl) (show Rt _ 200 13 = some 210 from rfl) ?_
        refine ex_iload_n dX12_mixBooks_108 rfl ?_
        refine rx_iald dX12_mixBooks_109 (by first | assumption | rfl) (vp_in_nI hk (by decide)) ?_
        rw [nI_clamp (by omega), en]
        refine ex_imul dX12_mixBooks_110 ?_
        rw [show (2 : Int32) = nI 2 from rfl, pk_mul]
        refine ex_icmp_ge 145 dX12_mixBooks_111 (by decide) (fun h111 => ?_) (fun h111 => ?_)
        · skip
          refine inc1 (v := _ + 1) dX12_mixBooks_145 (by rfl) (by first | exact rfl | exact trivial) ?_
          refine ex_goto 79 dX12_mixBooks_148 (by decide) ?_
          refine fg2 ?_
          rw [nI_1]
          rw [dgN_s] at ih
          unfold seX at ih
          rw [if_pos hz] at ih
          exact ih
        · skip
          refine ex_aload_n dX12_mixBooks_114 rfl ?_
          refine g_12_12 dX12_mixBooks_115 rfl wf_X12_36 (by first | assumption | rfl) (show Rt _ 200 12 = some 209 from rfl) ?_
          refine ex_iload_n dX12_mixBooks_118 rfl ?_
          refine rx_zald dX12_mixBooks_119 (by first | assumption | rfl) (vp_in_nI hk (by decide)) ?_
          rw [nI_clamp (by omega)]
          refine ex_if_eq 145 dX12_mixBooks_120 (by decide) (fun h120 => ?_) (fun h120 => ?_)
          · skip
            refine inc1 (v := _ + 1) dX12_mixBooks_145 (by rfl) (by first | exact rfl | exact trivial) ?_
            refine ex_goto 79 dX12_mixBooks_148 (by decide) ?_
            refine fg2 ?_
            rw [nI_1]
            rw [dgN_s] at ih
            unfold seX at ih
            rw [if_pos hz] at ih
            exact ih
          · exact absurd hz h120
  · skip
    refine ex_iload_n dX12_mixBooks_79 rfl ?_
    refine ex_iconst (v := 4) dX12_mixBooks_80 (by decide) ?_
    refine ex_icmp_ge 151 dX12_mixBooks_81 (by decide) (fun h81 => ?_) (fun h81 => ?_)
    · skip
      exact kont
    · exact absurd (by decide : nI 4 ≤ nI 4) h81
set_option maxRecDepth 100000 in
set_option maxHeartbeats 4000000 in
theorem lm_mip {P : Option Value → Mem → Prop} {h : Int64} {q n : Nat} (hq : q < 3) (hz : ¬ I 214 q = 0) (kont : Ex G mdX12_mixBooks 211 [some (.ref 200), some (.int (nI q)), some (.int (nI (5)))] [] (mk I (hs L (mixL (fun i => I 215 (5 * q + i)) h (5))) t) 0 0 P) : Ex G mdX12_mixBooks 176 [some (.ref 200), some (.int (nI q)), some (.int (nI 0))] [] (mk I (hs L (mixL (fun i => I 215 (5 * q + i)) h 0)) t) 0 0 P := by
  refine loop_up (G := G) (d := mdX12_mixBooks) (pc := 176) (st := []) (uc := 0) (us := 0) (P := P) (5) (fun k => mk I (hs L (mixL (fun i => I 215 (5 * q + i)) h k)) t) (fun k => [some (.ref 200), some (.int (nI q)), some (.int (nI k))]) ?_ ?_ 0 (Nat.zero_le _)
  · intro k hk ih
    refine ex_iload_n dX12_mixBooks_176 rfl ?_
    refine ex_iconst (v := 5) dX12_mixBooks_177 (by decide) ?_
    refine ex_icmp_ge 211 dX12_mixBooks_178 (by decide) (fun h178 => ?_) (fun h178 => ?_)
    · exact absurd h178 (nI_ge (b := 5) hk (by decide))
    · skip
      refine ex_aload_n dX12_mixBooks_181 rfl ?_
      refine g_12_20 dX12_mixBooks_182 rfl wf_X12_51 (by first | assumption | rfl) (show Rt _ 200 20 = some 214 from rfl) ?_
      refine ex_iload_n dX12_mixBooks_185 rfl ?_
      refine rx_zald dX12_mixBooks_186 (by first | assumption | rfl) (vp_in_nI hq (by decide)) ?_
      rw [nI_clamp (by omega)]
      refine ex_if_eq 211 dX12_mixBooks_187 (by decide) (fun h187 => ?_) (fun h187 => ?_)
      · exact absurd h187 hz
      · skip
        refine ex_aload_n dX12_mixBooks_190 rfl ?_
        refine ex_aload_n dX12_mixBooks_191 rfl ?_
        refine g_12_21 dX12_mixBooks_192 rfl wf_X12_54 (by first | assumption | rfl) (show Rt _ 200 21 = some 215 from rfl) ?_
        refine ex_iconst (v := 5) dX12_mixBooks_195 (by decide) ?_
        refine ex_iload_n dX12_mixBooks_196 rfl ?_
        refine ex_imul dX12_mixBooks_197 ?_
        refine ex_iload_n dX12_mixBooks_198 rfl ?_
        refine ex_iadd dX12_mixBooks_199 ?_
        refine rx_iald dX12_mixBooks_200 (by first | assumption | rfl) (ixm (c := 5) (C := 5) (R := 3) rfl (vp_in_nI hq (by decide)) (vp_in_nI (show k < 5 by omega) (by decide)) (by decide)).1 ?_
        rw [(ixm (c := 5) (C := 5) (R := 3) rfl (vp_in_nI hq (by decide)) (vp_in_nI (show k < 5 by omega) (by decide)) (by decide)).2, nI_clamp (show q < 2 ^ 31 by omega), nI_clamp (show k < 2 ^ 31 by omega)]
        refine ex_i2l dX12_mixBooks_201 ?_
        refine rx_cV (kd := 12) dX12_mixBooks_202 rfl lk_X12_366 rfl (by decide) (by first | assumption | rfl) ⟨⟨rfl, rfl⟩, by decide, by decide⟩ rfl (Nat.le_of_ble_eq_true rfl) rfl s_X12_mix (Rv.k ?_)
        refine inc2 (v := _ + 1) dX12_mixBooks_205 (by rfl) (by first | exact rfl | exact trivial) ?_
        refine ex_goto 176 dX12_mixBooks_208 (by decide) ?_
        rw [nI_1]
        exact ih
  · skip
    refine ex_iload_n dX12_mixBooks_176 rfl ?_
    refine ex_iconst (v := 5) dX12_mixBooks_177 (by decide) ?_
    refine ex_icmp_ge 211 dX12_mixBooks_178 (by decide) (fun h178 => ?_) (fun h178 => ?_)
    · skip
      exact kont
    · exact absurd (Int32.le_refl _) h178
set_option maxRecDepth 100000 in
set_option maxHeartbeats 4000000 in
theorem lm_mop {P : Option Value → Mem → Prop} {h : Int64}  (kont : Ex G mdX12_mixBooks 217 [some (.ref 200), some (.int (nI 3)), none] [] (mk I (hs L (dgN (shX I) h 3)) t) 0 0 P) : Ex G mdX12_mixBooks 153 [some (.ref 200), some (.int (nI 0)), none] [] (mk I (hs L (dgN (shX I) h 0)) t) 0 0 P := by
  refine loop_up (G := G) (d := mdX12_mixBooks) (pc := 153) (st := []) (uc := 0) (us := 0) (P := P) 3 (fun k => mk I (hs L (dgN (shX I) h k)) t) (fun k => [some (.ref 200), some (.int (nI k)), none]) ?_ ?_ 0 (Nat.zero_le _)
  · intro k hk ih
    refine ex_iload_n dX12_mixBooks_153 rfl ?_
    refine ex_iconst (v := 3) dX12_mixBooks_154 (by decide) ?_
    refine ex_icmp_ge 217 dX12_mixBooks_155 (by decide) (fun h155 => ?_) (fun h155 => ?_)
    · exact absurd h155 (nI_ge hk (by decide))
    · skip
      refine ex_aload_n dX12_mixBooks_158 rfl ?_
      refine g_12_20 dX12_mixBooks_159 rfl wf_X12_51 (by first | assumption | rfl) (show Rt _ 200 20 = some 214 from rfl) ?_
      refine ex_iload_n dX12_mixBooks_162 rfl ?_
      refine rx_zald dX12_mixBooks_163 (by first | assumption | rfl) (vp_in_nI hk (by decide)) ?_
      rw [nI_clamp (by omega)]
      refine ex_if_ne 174 dX12_mixBooks_164 (by decide) (fun h164 => ?_) (fun h164 => ?_)
      · have hz := h164
        refine ex_iconst (v := 0) dX12_mixBooks_174 (by decide) ?_
        refine st_i2 dX12_mixBooks_175 (by first | exact rfl | exact trivial) ?_
        have key := lm_mip (G := G) (I := I) (L := L) (t := t) (h := (dgN (shX I) h k)) (q := k) (P := P) (n := 0) hk hz ?_
        · exact key
        refine inc1 (v := _ + 1) dX12_mixBooks_211 (by rfl) (by first | exact rfl | exact trivial) ?_
        refine ex_goto 153 dX12_mixBooks_214 (by decide) ?_
        refine fg2 ?_
        rw [nI_1]
        rw [dgN_s] at ih
        unfold shX at ih
        rw [if_neg hz] at ih
        exact ih
      · have hz := h164
        refine ex_aload_n dX12_mixBooks_167 rfl ?_
        refine ex_ldc2 dX12_mixBooks_168 rfl wl_X12_364 ?_
        refine rx_cV (kd := 12) dX12_mixBooks_171 rfl lk_X12_366 rfl (by decide) (by first | assumption | rfl) ⟨⟨rfl, rfl⟩, by decide, by decide⟩ rfl (Nat.le_of_ble_eq_true rfl) rfl s_X12_mix (Rv.k ?_)
        refine ex_iconst (v := 0) dX12_mixBooks_174 (by decide) ?_
        refine st_i2 dX12_mixBooks_175 (by first | exact rfl | exact trivial) ?_
        refine ex_iload_n dX12_mixBooks_176 rfl ?_
        refine ex_iconst (v := 5) dX12_mixBooks_177 (by decide) ?_
        refine ex_icmp_ge 211 dX12_mixBooks_178 (by decide) (fun h178 => ?_) (fun h178 => ?_)
        · skip
          refine inc1 (v := _ + 1) dX12_mixBooks_211 (by rfl) (by first | exact rfl | exact trivial) ?_
          refine ex_goto 153 dX12_mixBooks_214 (by decide) ?_
          refine fg2 ?_
          rw [nI_1]
          rw [dgN_s] at ih
          unfold shX at ih
          rw [if_pos hz] at ih
          exact ih
        · skip
          refine ex_aload_n dX12_mixBooks_181 rfl ?_
          refine g_12_20 dX12_mixBooks_182 rfl wf_X12_51 (by first | assumption | rfl) (show Rt _ 200 20 = some 214 from rfl) ?_
          refine ex_iload_n dX12_mixBooks_185 rfl ?_
          refine rx_zald dX12_mixBooks_186 (by first | assumption | rfl) (vp_in_nI hk (by decide)) ?_
          rw [nI_clamp (by omega)]
          refine ex_if_eq 211 dX12_mixBooks_187 (by decide) (fun h187 => ?_) (fun h187 => ?_)
          · skip
            refine inc1 (v := _ + 1) dX12_mixBooks_211 (by rfl) (by first | exact rfl | exact trivial) ?_
            refine ex_goto 153 dX12_mixBooks_214 (by decide) ?_
            refine fg2 ?_
            rw [nI_1]
            rw [dgN_s] at ih
            unfold shX at ih
            rw [if_pos hz] at ih
            exact ih
          · exact absurd hz h187
  · skip
    refine ex_iload_n dX12_mixBooks_153 rfl ?_
    refine ex_iconst (v := 3) dX12_mixBooks_154 (by decide) ?_
    refine ex_icmp_ge 217 dX12_mixBooks_155 (by decide) (fun h155 => ?_) (fun h155 => ?_)
    · skip
      exact kont
    · exact absurd (by decide : nI 3 ≤ nI 3) h155
set_option maxRecDepth 100000 in
set_option maxHeartbeats 4000000 in
theorem lm_mow {P : Option Value → Mem → Prop} {h : Int64} {m : Nat} (h5 : m ≤ 5) (hm : I 200 37 = nI m) (kont : Ex G mdX12_mixBooks 246 [some (.ref 200), some (.int (nI (4 * m))), none] [] (mk I (hs L (mixL (I 222) h (4 * m))) t) 0 0 P) : Ex G mdX12_mixBooks 219 [some (.ref 200), some (.int (nI 0)), none] [] (mk I (hs L (mixL (I 222) h 0)) t) 0 0 P := by
  refine loop_up (G := G) (d := mdX12_mixBooks) (pc := 219) (st := []) (uc := 0) (us := 0) (P := P) (4 * m) (fun k => mk I (hs L (mixL (I 222) h k)) t) (fun k => [some (.ref 200), some (.int (nI k)), none]) ?_ ?_ 0 (Nat.zero_le _)
  · intro k hk ih
    refine ex_iload_n dX12_mixBooks_219 rfl ?_
    refine ex_iconst (v := 4) dX12_mixBooks_220 (by decide) ?_
    refine ex_aload_n dX12_mixBooks_221 rfl ?_
    refine g_12_37 dX12_mixBooks_222 rfl wf_X12_337 (by first | assumption | rfl) ?_
    rw [hm]
    refine ex_imul dX12_mixBooks_225 ?_
    rw [show (4 : Int32) = nI 4 from rfl, pk_mul]
    refine ex_icmp_ge 246 dX12_mixBooks_226 (by decide) (fun h226 => ?_) (fun h226 => ?_)
    · exact absurd h226 (nI_ge hk (by omega))
    · skip
      refine ex_aload_n dX12_mixBooks_229 rfl ?_
      refine ex_aload_n dX12_mixBooks_230 rfl ?_
      refine g_12_38 dX12_mixBooks_231 rfl wf_X12_75 (by first | assumption | rfl) (show Rt _ 200 38 = some 222 from rfl) ?_
      refine ex_iload_n dX12_mixBooks_234 rfl ?_
      refine rx_iald dX12_mixBooks_235 (by first | assumption | rfl) (vp_in_nI (by omega) (by decide)) ?_
      rw [nI_clamp (by omega)]
      refine ex_i2l dX12_mixBooks_236 ?_
      refine rx_cV (kd := 12) dX12_mixBooks_237 rfl lk_X12_366 rfl (by decide) (by first | assumption | rfl) ⟨⟨rfl, rfl⟩, by decide, by decide⟩ rfl (Nat.le_of_ble_eq_true rfl) rfl s_X12_mix (Rv.k ?_)
      refine inc1 (v := _ + 1) dX12_mixBooks_240 (by rfl) (by first | exact rfl | exact trivial) ?_
      refine ex_goto 219 dX12_mixBooks_243 (by decide) ?_
      rw [nI_1]
      exact ih
  · skip
    refine ex_iload_n dX12_mixBooks_219 rfl ?_
    refine ex_iconst (v := 4) dX12_mixBooks_220 (by decide) ?_
    refine ex_aload_n dX12_mixBooks_221 rfl ?_
    refine g_12_37 dX12_mixBooks_222 rfl wf_X12_337 (by first | assumption | rfl) ?_
    rw [hm]
    refine ex_imul dX12_mixBooks_225 ?_
    rw [show (4 : Int32) = nI 4 from rfl, pk_mul]
    refine ex_icmp_ge 246 dX12_mixBooks_226 (by decide) (fun h226 => ?_) (fun h226 => ?_)
    · skip
      exact kont
    · exact absurd (Int32.le_refl _) h226
def bkX (I : Im) (h : Int64) : Int64 := mixL (I 222) (dgN (shX I) (dgN (seX I) (dgN (hbX I) h 4) 4) 3) (4 * (I 200 37).toNatClampNeg)
set_option maxRecDepth 100000 in
set_option maxHeartbeats 4000000 in
theorem s_X12_mixBooks {h : Int64} (hN : HnS I) (hSm : SmS I) (hM : WmS I) : Ca G mdX12_mixBooks [.ref 200] (mk I (hs L h) t) (Rv (mk I (hs L (bkX I h)) t)) := by
  refine Ca.intro [some (.ref 200), none, none] (by decide) (Nat.le_of_ble_eq_true rfl) rfl rfl ?_
  obtain ⟨m, h5, em⟩ := hM
  refine ex_iconst (v := 0) dX12_mixBooks_0 (by decide) ?_
  refine st_i1 dX12_mixBooks_1 (by first | exact rfl | exact trivial) ?_
  have keyh := lm_moh (G := G) (I := I) (L := L) (t := t) (h := h) (P := Rv (mk I (hs L (bkX I h)) t)) hN ?_
  · rw [dgN_0] at keyh
    exact keyh
  refine fg1 ?_
  refine ex_iconst (v := 0) dX12_mixBooks_77 (by decide) ?_
  refine st_i1 dX12_mixBooks_78 (by first | exact rfl | exact trivial) ?_
  have keys := lm_mos (G := G) (I := I) (L := L) (t := t) (h := (dgN (hbX I) h 4)) (P := Rv (mk I (hs L (bkX I h)) t)) hSm ?_
  · rw [dgN_0] at keys
    exact keys
  refine fg1 ?_
  refine ex_iconst (v := 0) dX12_mixBooks_151 (by decide) ?_
  refine st_i1 dX12_mixBooks_152 (by first | exact rfl | exact trivial) ?_
  have keyp := lm_mop (G := G) (I := I) (L := L) (t := t) (h := (dgN (seX I) (dgN (hbX I) h 4) 4)) (P := Rv (mk I (hs L (bkX I h)) t)) ?_
  · rw [dgN_0] at keyp
    exact keyp
  refine fg1 ?_
  refine ex_iconst (v := 0) dX12_mixBooks_217 (by decide) ?_
  refine st_i1 dX12_mixBooks_218 (by first | exact rfl | exact trivial) ?_
  have keyw := lm_mow (G := G) (I := I) (L := L) (t := t) (h := (dgN (shX I) (dgN (seX I) (dgN (hbX I) h 4) 4) 3)) (P := Rv (mk I (hs L (bkX I h)) t)) h5 em ?_
  · exact keyw
  refine ex_vret dX12_mixBooks_246 rfl ⟨rfl, Nat.le_refl _⟩ ?_
  refine ⟨rfl, ?_⟩
  unfold bkX
  rw [em, nI_clamp (by omega)]
def nsX (N : Nat → Int32) (q : Nat) (h : Int64) : Int64 := if N (95 + 10 * q) = 1 then mixL (fun i => N (95 + 10 * q + 6 + i)) h 4 else h
def ntX (I : Im) (h : Int64) : Int64 := if I 216 0 = 0 then 31 * h + (-1) else dgN (nsX (rdw I 0)) (mixP (fun k => I 217 (31 + k)) (fFr (rdw I 0) (I 217 0).toNatClampNeg) h (I 217 0).toNatClampNeg) 3
set_option maxRecDepth 100000 in
set_option maxHeartbeats 4000000 in
theorem lm_mn1 {P : Option Value → Mem → Prop} {h : Int64} {n : Nat} (hn16 : n ≤ 16) (hn : I 217 0 = nI n) (hb : I 200 24 = nI 0) (kont : Ex G mdX12_mixNight 62 [some (.ref 200), some (.int (nI n)), none] [] (mk I (hs L (mixP (fun e => I 217 (31 + e)) (fFr (rdw I 0) n) h n)) t) 0 0 P) : Ex G mdX12_mixNight 24 [some (.ref 200), some (.int (nI 0)), none] [] (mk I (hs L (mixP (fun e => I 217 (31 + e)) (fFr (rdw I 0) n) h 0)) t) 0 0 P := by
  refine loop_up (G := G) (d := mdX12_mixNight) (pc := 24) (st := []) (uc := 0) (us := 0) (P := P) n (fun k => mk I (hs L (mixP (fun e => I 217 (31 + e)) (fFr (rdw I 0) n) h k)) t) (fun k => [some (.ref 200), some (.int (nI k)), none]) ?_ ?_ 0 (Nat.zero_le _)
  · intro k hk ih
    refine ex_iload_n dX12_mixNight_24 rfl ?_
    refine ex_aload_n dX12_mixNight_25 rfl ?_
    refine ex_iconst (v := 0) dX12_mixNight_26 (by decide) ?_
    refine rx_cV (kd := 12) dX12_mixNight_27 rfl lk_X12_183 rfl (by decide) (by first | assumption | rfl) ⟨⟨rfl, rfl⟩, by decide, by decide⟩ rfl (Nat.le_of_ble_eq_true rfl) rfl (s_v0 (B := 0) (by unfold vp_in; decide) hb (by decide)) (Rs.k ?_)
    rw [show I 217 (0 + (0 : Int32).toNatClampNeg) = nI n from hn]
    refine ex_icmp_ge 62 dX12_mixNight_30 (by decide) (fun h30 => ?_) (fun h30 => ?_)
    · exact absurd h30 (nI_ge hk (by omega))
    · skip
      refine ex_aload_n dX12_mixNight_33 rfl ?_
      refine ex_aload_n dX12_mixNight_34 rfl ?_
      refine ex_bipush (v := 31) dX12_mixNight_35 (by decide) ?_
      refine ex_iload_n dX12_mixNight_37 rfl ?_
      refine ex_iadd dX12_mixNight_38 ?_
      refine rx_cV (kd := 12) dX12_mixNight_39 rfl lk_X12_183 rfl (by decide) (by first | assumption | rfl) ⟨⟨rfl, rfl⟩, by decide, by decide⟩ rfl (Nat.le_of_ble_eq_true rfl) rfl (s_v0 (B := 0) (vpa (C := 31) (c := 31) rfl (vp_in_nI (show k < 16 by omega) (by decide)) (by decide) (by decide)) hb (by decide)) (Rs.k ?_)
      rw [show (31 : Int32) = nI 31 from rfl, nI_add, nI_clamp (by omega), Nat.zero_add]
      refine ex_i2l dX12_mixNight_42 ?_
      refine rx_cV (kd := 12) dX12_mixNight_43 rfl lk_X12_366 rfl (by decide) (by first | assumption | rfl) ⟨⟨rfl, rfl⟩, by decide, by decide⟩ rfl (Nat.le_of_ble_eq_true rfl) rfl s_X12_mix (Rv.k ?_)
      refine ex_aload_n dX12_mixNight_46 rfl ?_
      refine ex_aload_n dX12_mixNight_47 rfl ?_
      refine ex_iload_n dX12_mixNight_48 rfl ?_
      refine rx_cV (kd := 12) dX12_mixNight_49 rfl lk_X12_195 rfl (by decide) (by first | assumption | rfl) ⟨⟨rfl, rfl⟩, by decide, by decide⟩ rfl (Nat.le_of_ble_eq_true rfl) rfl (s_ff0 (B := 0) (vp_in_nI (show k < 16 by omega) (by decide)) ⟨n, hn16, hn⟩ hb (by decide)) (Rs.k ?_)
      rw [nI_clamp (by omega), hn, nI_clamp (by omega)]
      refine ex_i2l dX12_mixNight_52 ?_
      refine rx_cV (kd := 12) dX12_mixNight_53 rfl lk_X12_366 rfl (by decide) (by first | assumption | rfl) ⟨⟨rfl, rfl⟩, by decide, by decide⟩ rfl (Nat.le_of_ble_eq_true rfl) rfl s_X12_mix (Rv.k ?_)
      refine inc1 (v := _ + 1) dX12_mixNight_56 (by rfl) (by first | exact rfl | exact trivial) ?_
      refine ex_goto 24 dX12_mixNight_59 (by decide) ?_
      rw [nI_1]
      exact ih
  · skip
    refine ex_iload_n dX12_mixNight_24 rfl ?_
    refine ex_aload_n dX12_mixNight_25 rfl ?_
    refine ex_iconst (v := 0) dX12_mixNight_26 (by decide) ?_
    refine rx_cV (kd := 12) dX12_mixNight_27 rfl lk_X12_183 rfl (by decide) (by first | assumption | rfl) ⟨⟨rfl, rfl⟩, by decide, by decide⟩ rfl (Nat.le_of_ble_eq_true rfl) rfl (s_v0 (B := 0) (by unfold vp_in; decide) hb (by decide)) (Rs.k ?_)
    rw [show I 217 (0 + (0 : Int32).toNatClampNeg) = nI n from hn]
    refine ex_icmp_ge 62 dX12_mixNight_30 (by decide) (fun h30 => ?_) (fun h30 => ?_)
    · skip
      exact kont
    · exact absurd (Int32.le_refl _) h30
set_option maxRecDepth 100000 in
set_option maxHeartbeats 4000000 in
theorem lm_mn2 {P : Option Value → Mem → Prop} {h : Int64} {q : Nat} (hq : q < 3) (h1 : I 217 (95 + 10 * q) = 1) (hb : I 200 24 = nI 0) (kont : Ex G mdX12_mixNight 105 [some (.ref 200), some (.int (nI q)), some (.int (nI 4))] [] (mk I (hs L (mixL (fun e => I 217 (95 + 10 * q + 6 + e)) h 4)) t) 0 0 P) : Ex G mdX12_mixNight 71 [some (.ref 200), some (.int (nI q)), some (.int (nI 0))] [] (mk I (hs L (mixL (fun e => I 217 (95 + 10 * q + 6 + e)) h 0)) t) 0 0 P := by
  refine loop_up (G := G) (d := mdX12_mixNight) (pc := 71) (st := []) (uc := 0) (us := 0) (P := P) 4 (fun k => mk I (hs L (mixL (fun e => I 217 (95 + 10 * q + 6 + e)) h k)) t) (fun k => [some (.ref 200), some (.int (nI q)), some (.int (nI k))]) ?_ ?_ 0 (Nat.zero_le _)
  · intro k hk ih
    refine ex_iload_n dX12_mixNight_71 rfl ?_
    refine ex_iconst (v := 4) dX12_mixNight_72 (by decide) ?_
    refine ex_icmp_ge 105 dX12_mixNight_73 (by decide) (fun h73 => ?_) (fun h73 => ?_)
    · exact absurd h73 (nI_ge (b := 4) hk (by decide))
    · skip
      refine ex_aload_n dX12_mixNight_76 rfl ?_
      refine ex_iload_n dX12_mixNight_77 rfl ?_
      refine rx_cS dX12_mixNight_78 rfl lk_X12_164 ⟨⟨rfl, rfl⟩, by decide, by decide⟩ rfl (Nat.le_of_ble_eq_true rfl) rfl s_X12_rider (Rs.k ?_)
      refine rx_cV (kd := 12) dX12_mixNight_81 rfl lk_X12_183 rfl (by decide) (by first | assumption | rfl) ⟨⟨rfl, rfl⟩, by decide, by decide⟩ rfl (Nat.le_of_ble_eq_true rfl) rfl (s_v0 (B := 0) (vp_in_nI (show 95 + 10 * q < 125 by omega) (by decide)) hb (by decide)) (Rs.k ?_)
      rw [nI_clamp (by omega), Nat.zero_add]
      refine ex_iconst (v := 1) dX12_mixNight_84 (by decide) ?_
      refine ex_icmp_ne 105 dX12_mixNight_85 (by decide) (fun h85 => ?_) (fun h85 => ?_)
      · exact absurd h1 h85
      · skip
        refine ex_aload_n dX12_mixNight_88 rfl ?_
        refine ex_aload_n dX12_mixNight_89 rfl ?_
        refine ex_iload_n dX12_mixNight_90 rfl ?_
        refine ex_iload_n dX12_mixNight_91 rfl ?_
        refine rx_cV (kd := 12) dX12_mixNight_92 rfl lk_X12_226 rfl (by decide) (by first | assumption | rfl) ⟨⟨rfl, rfl⟩, by decide, by decide⟩ rfl (Nat.le_of_ble_eq_true rfl) rfl (s_rt0 (B := 0) (vp_in_nI hq (by decide)) (vp_in_nI hk (by decide)) hb (by decide)) (Rs.k ?_)
        rw [nI_clamp (by omega), nI_clamp (by omega), Nat.zero_add]
        refine ex_i2l dX12_mixNight_95 ?_
        refine rx_cV (kd := 12) dX12_mixNight_96 rfl lk_X12_366 rfl (by decide) (by first | assumption | rfl) ⟨⟨rfl, rfl⟩, by decide, by decide⟩ rfl (Nat.le_of_ble_eq_true rfl) rfl s_X12_mix (Rv.k ?_)
        refine inc2 (v := _ + 1) dX12_mixNight_99 (by rfl) (by first | exact rfl | exact trivial) ?_
        refine ex_goto 71 dX12_mixNight_102 (by decide) ?_
        rw [nI_1]
        exact ih
  · skip
    refine ex_iload_n dX12_mixNight_71 rfl ?_
    refine ex_iconst (v := 4) dX12_mixNight_72 (by decide) ?_
    refine ex_icmp_ge 105 dX12_mixNight_73 (by decide) (fun h73 => ?_) (fun h73 => ?_)
    · skip
      exact kont
    · exact absurd (by decide : nI 4 ≤ nI 4) h73
set_option maxRecDepth 100000 in
set_option maxHeartbeats 4000000 in
theorem lm_mn3 {P : Option Value → Mem → Prop} {h : Int64} (hb : I 200 24 = nI 0) (kont : Ex G mdX12_mixNight 111 [some (.ref 200), some (.int (nI 3)), none] [] (mk I (hs L (dgN (nsX (rdw I 0)) h 3)) t) 0 0 P) : Ex G mdX12_mixNight 64 [some (.ref 200), some (.int (nI 0)), none] [] (mk I (hs L (dgN (nsX (rdw I 0)) h 0)) t) 0 0 P := by
  refine loop_up (G := G) (d := mdX12_mixNight) (pc := 64) (st := []) (uc := 0) (us := 0) (P := P) 3 (fun k => mk I (hs L (dgN (nsX (rdw I 0)) h k)) t) (fun k => [some (.ref 200), some (.int (nI k)), none]) ?_ ?_ 0 (Nat.zero_le _)
  · intro k hk ih
    refine ex_iload_n dX12_mixNight_64 rfl ?_
    refine ex_iconst (v := 3) dX12_mixNight_65 (by decide) ?_
    refine ex_icmp_ge 111 dX12_mixNight_66 (by decide) (fun h66 => ?_) (fun h66 => ?_)
    · exact absurd h66 (nI_ge hk (by decide))
    · skip
      refine ex_iconst (v := 0) dX12_mixNight_69 (by decide) ?_
      refine st_i2 dX12_mixNight_70 (by first | exact rfl | exact trivial) ?_
      by_cases hz : I 217 (95 + 10 * k) = 1
      · have key := lm_mn2 (G := G) (I := I) (L := L) (t := t) (h := (dgN (nsX (rdw I 0)) h k)) (q := k) (P := P) hk hz hb ?_
        · exact key
        refine inc1 (v := _ + 1) dX12_mixNight_105 (by rfl) (by first | exact rfl | exact trivial) ?_
        refine ex_goto 64 dX12_mixNight_108 (by decide) ?_
        refine fg2 ?_
        rw [nI_1]
        rw [dgN_s, show nsX (rdw I 0) k (dgN (nsX (rdw I 0)) h k) = mixL (fun e => I 217 (95 + 10 * k + 6 + e)) (dgN (nsX (rdw I 0)) h k) 4 by unfold nsX; rw [if_pos (show rdw I 0 (95 + 10 * k) = 1 by unfold rdw; rw [Nat.zero_add]; exact hz)]; unfold rdw; simp only [Nat.zero_add]] at ih
        exact ih
      · refine ex_iload_n dX12_mixNight_71 rfl ?_
        refine ex_iconst (v := 4) dX12_mixNight_72 (by decide) ?_
        refine ex_icmp_ge 105 dX12_mixNight_73 (by decide) (fun h73 => ?_) (fun h73 => ?_)
        · exact absurd h73 (by decide)
        · skip
          refine ex_aload_n dX12_mixNight_76 rfl ?_
          refine ex_iload_n dX12_mixNight_77 rfl ?_
          refine rx_cS dX12_mixNight_78 rfl lk_X12_164 ⟨⟨rfl, rfl⟩, by decide, by decide⟩ rfl (Nat.le_of_ble_eq_true rfl) rfl s_X12_rider (Rs.k ?_)
          refine rx_cV (kd := 12) dX12_mixNight_81 rfl lk_X12_183 rfl (by decide) (by first | assumption | rfl) ⟨⟨rfl, rfl⟩, by decide, by decide⟩ rfl (Nat.le_of_ble_eq_true rfl) rfl (s_v0 (B := 0) (vp_in_nI (show 95 + 10 * k < 125 by omega) (by decide)) hb (by decide)) (Rs.k ?_)
          rw [nI_clamp (by omega), Nat.zero_add]
          refine ex_iconst (v := 1) dX12_mixNight_84 (by decide) ?_
          refine ex_icmp_ne 105 dX12_mixNight_85 (by decide) (fun h85 => ?_) (fun h85 => ?_)
          · skip
            refine inc1 (v := _ + 1) dX12_mixNight_105 (by rfl) (by first | exact rfl | exact trivial) ?_
            refine ex_goto 64 dX12_mixNight_108 (by decide) ?_
            refine fg2 ?_
            rw [nI_1]
            rw [dgN_s, show nsX (rdw I 0) k (dgN (nsX (rdw I 0)) h k) = (dgN (nsX (rdw I 0)) h k) by unfold nsX; rw [if_neg (show ¬ rdw I 0 (95 + 10 * k) = 1 by unfold rdw; rw [Nat.zero_add]; exact hz)]] at ih
            exact ih
          · exact absurd h85 hz
  · skip
    refine ex_iload_n dX12_mixNight_64 rfl ?_
    refine ex_iconst (v := 3) dX12_mixNight_65 (by decide) ?_
    refine ex_icmp_ge 111 dX12_mixNight_66 (by decide) (fun h66 => ?_) (fun h66 => ?_)
    · skip
      exact kont
    · exact absurd (by decide : nI 3 ≤ nI 3) h66
set_option maxRecDepth 100000 in
set_option maxHeartbeats 4000000 in
theorem s_X12_mixNight {h : Int64} (hn : ¬ I 216 0 = 0 → ∃ n, n ≤ 16 ∧ I 217 0 = nI n) : Ca G mdX12_mixNight [.ref 200] (mk I (hs L h) t) (Rv (mk (lkI I 0) (hs L (ntX I h)) t)) := by
  refine Ca.intro [some (.ref 200), none, none] (by decide) (Nat.le_of_ble_eq_true rfl) rfl rfl ?_
  refine ex_aload_n dX12_mixNight_0 rfl ?_
  refine ex_iconst (v := 0) dX12_mixNight_1 (by decide) ?_
  refine rx_cV (kd := 12) dX12_mixNight_2 rfl lk_X12_167 rfl (by decide) (by first | assumption | rfl) ⟨⟨rfl, rfl⟩, by decide, by decide⟩ rfl (Nat.le_of_ble_eq_true rfl) rfl s_X12_look (Rv.k ?_)
  refine ex_aload_n dX12_mixNight_5 rfl ?_
  refine g_12_22 dX12_mixNight_6 rfl wf_X12_57 (by first | assumption | rfl) (show Rt _ 200 22 = some 216 from rfl) ?_
  refine ex_iconst (v := 0) dX12_mixNight_9 (by decide) ?_
  refine rx_zald dX12_mixNight_10 (by first | assumption | rfl) (by first | assumption | (unfold vp_in; decide)) ?_
  rw [lk_off (by decide), show (0 : Int32).toNatClampNeg = 0 from rfl]
  refine ex_if_ne 22 dX12_mixNight_11 (by decide) (fun h11 => ?_) (fun h11 => ?_)
  · have hX : ntX I h = dgN (nsX (rdw I 0)) (mixP (fun k => I 217 (31 + k)) (fFr (rdw I 0) (I 217 0).toNatClampNeg) h (I 217 0).toNatClampNeg) 3 := if_neg h11
    obtain ⟨n, hn16, hn⟩ := hn h11
    refine ex_iconst (v := 0) dX12_mixNight_22 (by decide) ?_
    refine st_i1 dX12_mixNight_23 (by first | exact rfl | exact trivial) ?_
    have key := lm_mn1 (G := G) (I := lkI I 0) (L := L) (t := t) (h := h) (P := Rv (mk (lkI I 0) (hs L (ntX I h)) t)) hn16 (by rw [lk_off (by decide)]; exact hn) lk_0 ?_
    · exact key
    refine fg1 ?_
    refine ex_iconst (v := 0) dX12_mixNight_62 (by decide) ?_
    refine st_i1 dX12_mixNight_63 (by first | exact rfl | exact trivial) ?_
    have key2 := lm_mn3 (G := G) (I := lkI I 0) (L := L) (t := t) (h := (mixP (fun e => lkI I 0 217 (31 + e)) (fFr (rdw (lkI I 0) 0) n) h n)) (P := Rv (mk (lkI I 0) (hs L (ntX I h)) t)) lk_0 ?_
    · rw [dgN_0] at key2
      exact key2
    refine ex_vret dX12_mixNight_111 rfl ⟨rfl, Nat.le_refl _⟩ ?_
    refine ⟨rfl, ?_⟩
    rw [hX, hn, nI_clamp (by omega), show rdw (lkI I 0) 0 = rdw I 0 from rfl, lk_off (by decide)]
  · have hX : ntX I h = 31 * h + (-1) := if_pos h11
    refine ex_aload_n dX12_mixNight_14 rfl ?_
    refine ex_ldc2 dX12_mixNight_15 rfl wl_X12_364 ?_
    refine rx_cV (kd := 12) dX12_mixNight_18 rfl lk_X12_366 rfl (by decide) (by first | assumption | rfl) ⟨⟨rfl, rfl⟩, by decide, by decide⟩ rfl (Nat.le_of_ble_eq_true rfl) rfl s_X12_mix (Rv.k ?_)
    refine ex_vret dX12_mixNight_21 rfl ⟨rfl, Nat.le_refl _⟩ ?_
    exact ⟨rfl, by rw [hX]⟩
def dgI (I : Im) (k : Nat) : Im := if k = 0 then I else lkI I 0
theorem dgI_off {k e : Nat} (h : e ≠ 200) : dgI I k e = I e := by
  unfold dgI
  split
  · rfl
  · exact lk_off h
theorem dgI_o {k j : Nat} (h : j ≠ 24) : dgI I k 200 j = I 200 j := by
  unfold dgI
  split
  · rfl
  · exact u2_j h
theorem dgI_lk {k : Nat} : lkI (dgI I k) 0 = dgI I (k + 1) := by
  unfold dgI
  rw [if_neg (Nat.succ_ne_zero k)]
  split
  · rfl
  · exact u2_u2
theorem cnt_c {J : Im} {w : Int32} (h : ∀ e, e ≠ 200 → J e = I e) (h7 : J 200 37 = I 200 37) : f_counted J w = f_counted I w := by
  unfold f_counted
  rw [h 207 (by decide), h 209 (by decide), h 214 (by decide), h7, h 216 (by decide), h 217 (by decide), h 202 (by decide), h 205 (by decide)]
def coX (I : Im) (q : Nat) (h : Int64) : Int64 := 31 * h + (f_counted I (nI q)).toInt64
def roX (I : Im) (q : Nat) (h : Int64) : Int64 := mixL (fun i => I 203 (60 * q + i)) (31 * h + (I 202 q).toInt64) (I 202 q).toNatClampNeg
def teX (I : Im) (q : Nat) (h : Int64) : Int64 := mixL (byF (I 206) q (I 205 q).toNatClampNeg) (31 * h + (I 205 q).toInt64) (I 205 q).toNatClampNeg
set_option maxRecDepth 100000 in
set_option maxHeartbeats 4000000 in
theorem lm_dg1 {P : Option Value → Mem → Prop} {h : Int64} (kont : Ex G mdX12_digest 31 [some (.ref 200), some (.int (nI 8)), none] [] (mk (dgI I 8) (hs L (dgN (coX I) h 8)) t) 0 0 P) : Ex G mdX12_digest 9 [some (.ref 200), some (.int (nI 0)), none] [] (mk (dgI I 0) (hs L (dgN (coX I) h 0)) t) 0 0 P := by
  refine loop_up (G := G) (d := mdX12_digest) (pc := 9) (st := []) (uc := 0) (us := 0) (P := P) 8 (fun k => mk (dgI I k) (hs L (dgN (coX I) h k)) t) (fun k => [some (.ref 200), some (.int (nI k)), none]) ?_ ?_ 0 (Nat.zero_le _)
  · intro k hk ih
    refine ex_iload_n dX12_digest_9 rfl ?_
    refine ex_bipush (v := 8) dX12_digest_10 (by decide) ?_
    refine ex_icmp_ge 31 dX12_digest_12 (by decide) (fun h12 => ?_) (fun h12 => ?_)
    · exact absurd h12 (nI_ge hk (by decide))
    · skip
      refine ex_aload_n dX12_digest_15 rfl ?_
      refine ex_aload_n dX12_digest_16 rfl ?_
      refine ex_iload_n dX12_digest_17 rfl ?_
      refine rx_cV (kd := 12) dX12_digest_18 rfl lk_X12_356 rfl (by decide) (by first | assumption | rfl) ⟨⟨rfl, rfl⟩, by decide, by decide⟩ rfl (Nat.le_of_ble_eq_true rfl) rfl (s_countedG (vp_in_nI hk (by decide))) (Rs.k ?_)
      rw [cnt_c (fun e he => dgI_off he) (dgI_o (by decide)), dgI_lk]
      refine ex_i2l dX12_digest_21 ?_
      refine rx_cV (kd := 12) dX12_digest_22 rfl lk_X12_366 rfl (by decide) (by first | assumption | rfl) ⟨⟨rfl, rfl⟩, by decide, by decide⟩ rfl (Nat.le_of_ble_eq_true rfl) rfl s_X12_mix (Rv.k ?_)
      refine inc1 (v := _ + 1) dX12_digest_25 (by rfl) (by first | exact rfl | exact trivial) ?_
      refine ex_goto 9 dX12_digest_28 (by decide) ?_
      rw [nI_1]
      rw [dgN_s] at ih
      exact ih
  · skip
    refine ex_iload_n dX12_digest_9 rfl ?_
    refine ex_bipush (v := 8) dX12_digest_10 (by decide) ?_
    refine ex_icmp_ge 31 dX12_digest_12 (by decide) (fun h12 => ?_) (fun h12 => ?_)
    · skip
      exact kont
    · exact absurd (by decide : nI 8 ≤ nI 8) h12
set_option maxRecDepth 100000 in
set_option maxHeartbeats 4000000 in
theorem lm_dgir {P : Option Value → Mem → Prop} {h : Int64} {q m : Nat} (hq : q < 6) (hl : m ≤ 60) (hm : I 202 q = nI m) (kont : Ex G mdX12_digest 87 [some (.ref 200), some (.int (nI q)), some (.int (nI m))] [] (mk I (hs L (mixL (fun e => I 203 (60 * q + e)) h m)) t) 0 0 P) : Ex G mdX12_digest 60 [some (.ref 200), some (.int (nI q)), some (.int (nI 0))] [] (mk I (hs L (mixL (fun e => I 203 (60 * q + e)) h 0)) t) 0 0 P := by
  refine loop_up (G := G) (d := mdX12_digest) (pc := 60) (st := []) (uc := 0) (us := 0) (P := P) m (fun k => mk I (hs L (mixL (fun e => I 203 (60 * q + e)) h k)) t) (fun k => [some (.ref 200), some (.int (nI q)), some (.int (nI k))]) ?_ ?_ 0 (Nat.zero_le _)
  · intro k hk ih
    refine ex_iload_n dX12_digest_60 rfl ?_
    refine ex_aload_n dX12_digest_61 rfl ?_
    refine g_12_5 dX12_digest_62 rfl wf_X12_13 (by first | assumption | rfl) (show Rt _ 200 5 = some 202 from rfl) ?_
    refine ex_iload_n dX12_digest_65 rfl ?_
    refine rx_iald dX12_digest_66 (by first | assumption | rfl) (vp_in_nI hq (by decide)) ?_
    rw [nI_clamp (show q < 2 ^ 31 by omega), hm]
    refine ex_icmp_ge 87 dX12_digest_67 (by decide) (fun h67 => ?_) (fun h67 => ?_)
    · exact absurd h67 (nI_ge hk (by omega))
    · skip
      refine ex_aload_n dX12_digest_70 rfl ?_
      refine ex_aload_n dX12_digest_71 rfl ?_
      refine ex_iload_n dX12_digest_72 rfl ?_
      refine ex_iload_n dX12_digest_73 rfl ?_
      refine rx_cV (kd := 12) dX12_digest_74 rfl lk_X12_104 rfl (by decide) (by first | assumption | rfl) ⟨⟨rfl, rfl⟩, by decide, by decide⟩ rfl (Nat.le_of_ble_eq_true rfl) rfl (s_X12_rowAt (vp_in_nI hq (by decide)) (vp_in_nI (by omega) (by decide))) (Rs.k ?_)
      rw [(ixm (c := 60) (C := 60) (R := 6) rfl (vp_in_nI hq (by decide)) (vp_in_nI (show k < 60 by omega) (by decide)) (by decide)).2, nI_clamp (show q < 2 ^ 31 by omega), nI_clamp (show k < 2 ^ 31 by omega)]
      refine ex_i2l dX12_digest_77 ?_
      refine rx_cV (kd := 12) dX12_digest_78 rfl lk_X12_366 rfl (by decide) (by first | assumption | rfl) ⟨⟨rfl, rfl⟩, by decide, by decide⟩ rfl (Nat.le_of_ble_eq_true rfl) rfl s_X12_mix (Rv.k ?_)
      refine inc2 (v := _ + 1) dX12_digest_81 (by rfl) (by first | exact rfl | exact trivial) ?_
      refine ex_goto 60 dX12_digest_84 (by decide) ?_
      rw [nI_1]
      exact ih
  · skip
    refine ex_iload_n dX12_digest_60 rfl ?_
    refine ex_aload_n dX12_digest_61 rfl ?_
    refine g_12_5 dX12_digest_62 rfl wf_X12_13 (by first | assumption | rfl) (show Rt _ 200 5 = some 202 from rfl) ?_
    refine ex_iload_n dX12_digest_65 rfl ?_
    refine rx_iald dX12_digest_66 (by first | assumption | rfl) (vp_in_nI hq (by decide)) ?_
    rw [nI_clamp (show q < 2 ^ 31 by omega), hm]
    refine ex_icmp_ge 87 dX12_digest_67 (by decide) (fun h67 => ?_) (fun h67 => ?_)
    · skip
      exact kont
    · exact absurd (Int32.le_refl _) h67
set_option maxRecDepth 100000 in
set_option maxHeartbeats 4000000 in
theorem lm_dgor {P : Option Value → Mem → Prop} {h : Int64} (hZ : SzS I) (kont : Ex G mdX12_digest 93 [some (.ref 200), some (.int (nI 6)), none] [] (mk I (hs L (dgN (roX I) h 6)) t) 0 0 P) : Ex G mdX12_digest 41 [some (.ref 200), some (.int (nI 0)), none] [] (mk I (hs L (dgN (roX I) h 0)) t) 0 0 P := by
  refine loop_up (G := G) (d := mdX12_digest) (pc := 41) (st := []) (uc := 0) (us := 0) (P := P) 6 (fun k => mk I (hs L (dgN (roX I) h k)) t) (fun k => [some (.ref 200), some (.int (nI k)), none]) ?_ ?_ 0 (Nat.zero_le _)
  · intro k hk ih
    refine ex_iload_n dX12_digest_41 rfl ?_
    refine ex_bipush (v := 6) dX12_digest_42 (by decide) ?_
    refine ex_icmp_ge 93 dX12_digest_44 (by decide) (fun h44 => ?_) (fun h44 => ?_)
    · exact absurd h44 (nI_ge hk (by decide))
    · skip
      refine ex_aload_n dX12_digest_47 rfl ?_
      refine ex_aload_n dX12_digest_48 rfl ?_
      refine g_12_5 dX12_digest_49 rfl wf_X12_13 (by first | assumption | rfl) (show Rt _ 200 5 = some 202 from rfl) ?_
      refine ex_iload_n dX12_digest_52 rfl ?_
      refine rx_iald dX12_digest_53 (by first | assumption | rfl) (vp_in_nI hk (by decide)) ?_
      rw [nI_clamp (by omega)]
      refine ex_i2l dX12_digest_54 ?_
      refine rx_cV (kd := 12) dX12_digest_55 rfl lk_X12_366 rfl (by decide) (by first | assumption | rfl) ⟨⟨rfl, rfl⟩, by decide, by decide⟩ rfl (Nat.le_of_ble_eq_true rfl) rfl s_X12_mix (Rv.k ?_)
      refine ex_iconst (v := 0) dX12_digest_58 (by decide) ?_
      refine st_i2 dX12_digest_59 (by first | exact rfl | exact trivial) ?_
      rcases hZ k hk with hm | ⟨m, hl, hm⟩
      · rw [hm]
        refine ex_iload_n dX12_digest_60 rfl ?_
        refine ex_aload_n dX12_digest_61 rfl ?_
        refine g_12_5 dX12_digest_62 rfl wf_X12_13 (by first | assumption | rfl) (show Rt _ 200 5 = some 202 from rfl) ?_
        refine ex_iload_n dX12_digest_65 rfl ?_
        refine rx_iald dX12_digest_66 (by first | assumption | rfl) (vp_in_nI hk (by decide)) ?_
        rw [nI_clamp (by omega), hm]
        refine ex_icmp_ge 87 dX12_digest_67 (by decide) (fun h67 => ?_) (fun h67 => ?_)
        · skip
          refine inc1 (v := _ + 1) dX12_digest_87 (by rfl) (by first | exact rfl | exact trivial) ?_
          refine ex_goto 41 dX12_digest_90 (by decide) ?_
          refine fg2 ?_
          rw [nI_1]
          rw [dgN_s] at ih
          unfold roX at ih
          rw [hm] at ih
          exact ih
        · exact absurd (by decide) h67
      · rw [hm]
        have key := lm_dgir (G := G) (I := I) (L := L) (t := t) (h := 31 * (dgN (roX I) h k) + (nI m).toInt64) (q := k) (P := P) hk hl hm ?_
        · exact key
        refine inc1 (v := _ + 1) dX12_digest_87 (by rfl) (by first | exact rfl | exact trivial) ?_
        refine ex_goto 41 dX12_digest_90 (by decide) ?_
        refine fg2 ?_
        rw [nI_1]
        rw [dgN_s] at ih
        unfold roX at ih
        rw [hm, nI_clamp (show m < 2 ^ 31 by omega)] at ih
        exact ih
  · skip
    refine ex_iload_n dX12_digest_41 rfl ?_
    refine ex_bipush (v := 6) dX12_digest_42 (by decide) ?_
    refine ex_icmp_ge 93 dX12_digest_44 (by decide) (fun h44 => ?_) (fun h44 => ?_)
    · skip
      exact kont
    · exact absurd (by decide : nI 6 ≤ nI 6) h44
set_option maxRecDepth 100000 in
set_option maxHeartbeats 4000000 in
theorem lm_dgit {P : Option Value → Mem → Prop} {h : Int64} {q m : Nat} (hq : q < 4) (hl : m ≤ 100) (hm : I 205 q = nI m) (kont : Ex G mdX12_digest 140 [some (.ref 200), some (.int (nI q)), some (.int (nI m))] [] (mk I (hs L (mixL (byF (I 206) q m) h m)) t) 0 0 P) : Ex G mdX12_digest 113 [some (.ref 200), some (.int (nI q)), some (.int (nI 0))] [] (mk I (hs L (mixL (byF (I 206) q m) h 0)) t) 0 0 P := by
  refine loop_up (G := G) (d := mdX12_digest) (pc := 113) (st := []) (uc := 0) (us := 0) (P := P) m (fun k => mk I (hs L (mixL (byF (I 206) q m) h k)) t) (fun k => [some (.ref 200), some (.int (nI q)), some (.int (nI k))]) ?_ ?_ 0 (Nat.zero_le _)
  · intro k hk ih
    refine ex_iload_n dX12_digest_113 rfl ?_
    refine ex_aload_n dX12_digest_114 rfl ?_
    refine g_12_8 dX12_digest_115 rfl wf_X12_22 (by first | assumption | rfl) (show Rt _ 200 8 = some 205 from rfl) ?_
    refine ex_iload_n dX12_digest_118 rfl ?_
    refine rx_iald dX12_digest_119 (by first | assumption | rfl) (vp_in_nI hq (by decide)) ?_
    rw [nI_clamp (show q < 2 ^ 31 by omega), hm]
    refine ex_icmp_ge 140 dX12_digest_120 (by decide) (fun h120 => ?_) (fun h120 => ?_)
    · exact absurd h120 (nI_ge hk (by omega))
    · skip
      refine ex_aload_n dX12_digest_123 rfl ?_
      refine ex_aload_n dX12_digest_124 rfl ?_
      refine ex_iload_n dX12_digest_125 rfl ?_
      refine ex_iload_n dX12_digest_126 rfl ?_
      refine rx_cV (kd := 12) dX12_digest_127 rfl lk_X12_117 rfl (by decide) (by first | assumption | rfl) ⟨⟨rfl, rfl⟩, by decide, by decide⟩ rfl (Nat.le_of_ble_eq_true rfl) rfl (s_X12_byteAt hq hl hm (by omega)) (Rs.k ?_)
      refine ex_i2l dX12_digest_130 ?_
      refine rx_cV (kd := 12) dX12_digest_131 rfl lk_X12_366 rfl (by decide) (by first | assumption | rfl) ⟨⟨rfl, rfl⟩, by decide, by decide⟩ rfl (Nat.le_of_ble_eq_true rfl) rfl s_X12_mix (Rv.k ?_)
      refine inc2 (v := _ + 1) dX12_digest_134 (by rfl) (by first | exact rfl | exact trivial) ?_
      refine ex_goto 113 dX12_digest_137 (by decide) ?_
      rw [nI_1]
      exact ih
  · skip
    refine ex_iload_n dX12_digest_113 rfl ?_
    refine ex_aload_n dX12_digest_114 rfl ?_
    refine g_12_8 dX12_digest_115 rfl wf_X12_22 (by first | assumption | rfl) (show Rt _ 200 8 = some 205 from rfl) ?_
    refine ex_iload_n dX12_digest_118 rfl ?_
    refine rx_iald dX12_digest_119 (by first | assumption | rfl) (vp_in_nI hq (by decide)) ?_
    rw [nI_clamp (show q < 2 ^ 31 by omega), hm]
    refine ex_icmp_ge 140 dX12_digest_120 (by decide) (fun h120 => ?_) (fun h120 => ?_)
    · skip
      exact kont
    · exact absurd (Int32.le_refl _) h120
set_option maxRecDepth 100000 in
set_option maxHeartbeats 4000000 in
theorem lm_dgot {P : Option Value → Mem → Prop} {h : Int64} (hZ : TzS I) (kont : Ex G mdX12_digest 146 [some (.ref 200), some (.int (nI 4)), none] [] (mk I (hs L (dgN (teX I) h 4)) t) 0 0 P) : Ex G mdX12_digest 95 [some (.ref 200), some (.int (nI 0)), none] [] (mk I (hs L (dgN (teX I) h 0)) t) 0 0 P := by
  refine loop_up (G := G) (d := mdX12_digest) (pc := 95) (st := []) (uc := 0) (us := 0) (P := P) 4 (fun k => mk I (hs L (dgN (teX I) h k)) t) (fun k => [some (.ref 200), some (.int (nI k)), none]) ?_ ?_ 0 (Nat.zero_le _)
  · intro k hk ih
    refine ex_iload_n dX12_digest_95 rfl ?_
    refine ex_iconst (v := 4) dX12_digest_96 (by decide) ?_
    refine ex_icmp_ge 146 dX12_digest_97 (by decide) (fun h97 => ?_) (fun h97 => ?_)
    · exact absurd h97 (nI_ge hk (by decide))
    · skip
      refine ex_aload_n dX12_digest_100 rfl ?_
      refine ex_aload_n dX12_digest_101 rfl ?_
      refine g_12_8 dX12_digest_102 rfl wf_X12_22 (by first | assumption | rfl) (show Rt _ 200 8 = some 205 from rfl) ?_
      refine ex_iload_n dX12_digest_105 rfl ?_
      refine rx_iald dX12_digest_106 (by first | assumption | rfl) (vp_in_nI hk (by decide)) ?_
      rw [nI_clamp (by omega)]
      refine ex_i2l dX12_digest_107 ?_
      refine rx_cV (kd := 12) dX12_digest_108 rfl lk_X12_366 rfl (by decide) (by first | assumption | rfl) ⟨⟨rfl, rfl⟩, by decide, by decide⟩ rfl (Nat.le_of_ble_eq_true rfl) rfl s_X12_mix (Rv.k ?_)
      refine ex_iconst (v := 0) dX12_digest_111 (by decide) ?_
      refine st_i2 dX12_digest_112 (by first | exact rfl | exact trivial) ?_
      rcases hZ k hk with hm | ⟨m, hl, hm⟩
      · rw [hm]
        refine ex_iload_n dX12_digest_113 rfl ?_
        refine ex_aload_n dX12_digest_114 rfl ?_
        refine g_12_8 dX12_digest_115 rfl wf_X12_22 (by first | assumption | rfl) (show Rt _ 200 8 = some 205 from rfl) ?_
        refine ex_iload_n dX12_digest_118 rfl ?_
        refine rx_iald dX12_digest_119 (by first | assumption | rfl) (vp_in_nI hk (by decide)) ?_
        rw [nI_clamp (by omega), hm]
        refine ex_icmp_ge 140 dX12_digest_120 (by decide) (fun h120 => ?_) (fun h120 => ?_)
        · skip
          refine inc1 (v := _ + 1) dX12_digest_140 (by rfl) (by first | exact rfl | exact trivial) ?_
          refine ex_goto 95 dX12_digest_143 (by decide) ?_
          refine fg2 ?_
          rw [nI_1]
          rw [dgN_s] at ih
          unfold teX at ih
          rw [hm] at ih
          exact ih
        · exact absurd (by decide) h120
      · rw [hm]
        have key := lm_dgit (G := G) (I := I) (L := L) (t := t) (h := 31 * (dgN (teX I) h k) + (nI m).toInt64) (q := k) (P := P) hk hl hm ?_
        · exact key
        refine inc1 (v := _ + 1) dX12_digest_140 (by rfl) (by first | exact rfl | exact trivial) ?_
        refine ex_goto 95 dX12_digest_143 (by decide) ?_
        refine fg2 ?_
        rw [nI_1]
        rw [dgN_s] at ih
        unfold teX at ih
        rw [hm, nI_clamp (show m < 2 ^ 31 by omega)] at ih
        exact ih
  · skip
    refine ex_iload_n dX12_digest_95 rfl ?_
    refine ex_iconst (v := 4) dX12_digest_96 (by decide) ?_
    refine ex_icmp_ge 146 dX12_digest_97 (by decide) (fun h97 => ?_) (fun h97 => ?_)
    · skip
      exact kont
    · exact absurd (by decide : nI 4 ≤ nI 4) h97
theorem HnS_of {J : Im} (h : J 208 = I 208) (hN : HnS I) : HnS J := by
  unfold HnS
  rw [h]
  exact hN
theorem SmS_of {J : Im} (h : J 210 = I 210) (hN : SmS I) : SmS J := by
  unfold SmS
  rw [h]
  exact hN
theorem bk_c {J : Im} {h : Int64} (e : ∀ e, e ≠ 200 → J e = I e) (h7 : J 200 37 = I 200 37) : bkX J h = bkX I h := by
  unfold bkX
  rw [show hbX J = hbX I by funext q h; unfold hbX; rw [e 207 (by decide), e 208 (by decide)], show seX J = seX I by funext q h; unfold seX; rw [e 209 (by decide), e 210 (by decide), e 211 (by decide)], show shX J = shX I by funext q h; unfold shX; rw [e 214 (by decide), e 215 (by decide)], e 222 (by decide), h7]
theorem nt_c {h : Int64} : ntX (lkI I 0) h = ntX I h := by
  unfold ntX
  rw [lk_off (by decide), lk_off (by decide), show rdw (lkI I 0) 0 = rdw I 0 from rfl]
theorem ro_c : roX (lkI I 0) = roX I := by
  funext q h
  unfold roX
  rw [lk_off (by decide), lk_off (by decide)]
theorem te_c : teX (lkI I 0) = teX I := by
  funext q h
  unfold teX
  rw [lk_off (by decide), lk_off (by decide)]
def f_digest (I : Im) : Int64 := dgN (teX I) (dgN (roX I) (ntX I (bkX I (dgN (coX I) 17 8))) 6) 4
set_option maxRecDepth 100000 in
set_option maxHeartbeats 4000000 in
theorem s_X12_digest (hN : HnS I) (hSm : SmS I) (hM : WmS I) (hn : ¬ I 216 0 = 0 → ∃ n, n ≤ 16 ∧ I 217 0 = nI n) (hSz : SzS I) (hTz : TzS I) : Ca G mdX12_digest [.ref 200] (mk I L t) (Rs (.long (f_digest I)) (mk (lkI I 0) (hs L (f_digest I)) t)) := by
  refine Ca.intro [some (.ref 200), none, none] (by decide) (Nat.le_of_ble_eq_true rfl) rfl rfl ?_
  refine ex_aload_n dX12_digest_0 rfl ?_
  refine ex_ldc2 dX12_digest_1 rfl wl_X12_370 ?_
  refine p_12_39 dX12_digest_4 rfl wf_X12_361 (by first | assumption | rfl) ?_
  refine ex_iconst (v := 0) dX12_digest_7 (by decide) ?_
  refine st_i1 dX12_digest_8 (by first | exact rfl | exact trivial) ?_
  have key1 := lm_dg1 (G := G) (I := I) (L := L) (t := t) (h := 17) (P := Rs (.long (f_digest I)) (mk (lkI I 0) (hs L (f_digest I)) t)) ?_
  · rw [dgN_0] at key1
    exact key1
  refine fg1 ?_
  rw [show dgI I 8 = lkI I 0 from if_neg (by decide)]
  refine ex_aload_n dX12_digest_31 rfl ?_
  refine rx_cV (kd := 12) dX12_digest_32 rfl lk_X12_372 rfl (by decide) (by first | assumption | rfl) ⟨⟨rfl, rfl⟩, by decide, by decide⟩ rfl (Nat.le_of_ble_eq_true rfl) rfl (s_X12_mixBooks (HnS_of (lk_off (by decide)) hN) (SmS_of (lk_off (by decide)) hSm) (by unfold WmS; rw [show lkI I 0 200 37 = I 200 37 from u2_j (by decide)]; exact hM)) (Rv.k ?_)
  rw [bk_c (fun e he => lk_off he) (u2_j (by decide))]
  refine ex_aload_n dX12_digest_35 rfl ?_
  refine rx_cV (kd := 12) dX12_digest_36 rfl lk_X12_375 rfl (by decide) (by first | assumption | rfl) ⟨⟨rfl, rfl⟩, by decide, by decide⟩ rfl (Nat.le_of_ble_eq_true rfl) rfl (s_X12_mixNight (by rw [lk_off (by decide), lk_off (by decide)]; exact hn)) (Rv.k ?_)
  rw [nt_c, show lkI (lkI I 0) 0 = lkI I 0 from u2_u2]
  refine ex_iconst (v := 0) dX12_digest_39 (by decide) ?_
  refine st_i1 dX12_digest_40 (by first | exact rfl | exact trivial) ?_
  have key2 := lm_dgor (G := G) (I := lkI I 0) (L := L) (t := t) (h := (ntX I (bkX I (dgN (coX I) 17 8)))) (P := Rs (.long (f_digest I)) (mk (lkI I 0) (hs L (f_digest I)) t)) (by unfold SzS; rw [lk_off (by decide)]; exact hSz) ?_
  · rw [dgN_0] at key2
    exact key2
  refine fg1 ?_
  rw [ro_c]
  refine ex_iconst (v := 0) dX12_digest_93 (by decide) ?_
  refine st_i1 dX12_digest_94 (by first | exact rfl | exact trivial) ?_
  have key3 := lm_dgot (G := G) (I := lkI I 0) (L := L) (t := t) (h := (dgN (roX I) (ntX I (bkX I (dgN (coX I) 17 8))) 6)) (P := Rs (.long (f_digest I)) (mk (lkI I 0) (hs L (f_digest I)) t)) (by unfold TzS; rw [lk_off (by decide)]; exact hTz) ?_
  · rw [dgN_0] at key3
    exact key3
  rw [te_c]
  refine ex_aload_n dX12_digest_146 rfl ?_
  refine g_12_39 dX12_digest_147 rfl wf_X12_361 (by first | assumption | rfl) ?_
  rw [hs_r]
  refine ex_lret dX12_digest_150 rfl ⟨rfl, Nat.le_refl _⟩ ?_
  exact ⟨rfl, rfl⟩
end M24
