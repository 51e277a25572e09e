section N13
variable {G : Gp} {I : Im} {L : Nat → Nat → Int64} {t : Nat}
def dgN (f : Nat → Int64 → Int64) (h : Int64) (k : Nat) : Int64 :=
  match k with
  | 0 => h
  | k + 1 => f k (dgN f h k)
termination_by k
theorem dgN_0 {f : Nat → Int64 → Int64} {h : Int64} : dgN f h 0 = h := by rw [dgN]
theorem dgN_s {f : Nat → Int64 → Int64} {h : Int64} {k : Nat} : dgN f h (k + 1) = f k (dgN f h k) := by rw [dgN]
def HarC (I : Im) : Prop := ∀ q, q < 4 → ∃ n, n ≤ 16 ∧ I (124 + 2 * q) 2 = nI n
theorem s_mixH {a : Nat} {h : Int64} (ha : K0 a = (0, 7)) (hc : ∃ n, n ≤ 16 ∧ I a 2 = nI n) : Ca G mdX0_mixInto [.ref a, .long h] (mk I L t) (Rs (.long (baMix I a (I a 2).toNatClampNeg h)) (mk I L t)) := by
  obtain ⟨n, hn, e⟩ := hc
  rw [e, nI_clamp (by omega)]
  exact s_X0_mixInto ha hn e
theorem s_mixS {a : Nat} {h : Int64} (ha : SOk I a) : Ca G mdX8_mixInto [.ref a, .long h] (mk I L t) (Rs (.long (swMix I a (I a 3).toNatClampNeg h)) (mk I L t)) := by
  obtain ⟨ka, -, -, c, hc, e⟩ := ha
  rw [e, nI_clamp (by omega)]
  exact s_X8_mixInto ka e hc
theorem s_mixR {a : Nat} {h : Int64} (ha : K0 a = (6, 3)) (hc : ∃ n, n ≤ 60 ∧ I a 1 = nI n) : Ca G mdX6_mixInto [.ref a, .long h] (mk I L t) (Rs (.long (rowMix I a (I a 1).toNatClampNeg h)) (mk I L t)) := by
  obtain ⟨n, hn, e⟩ := hc
  rw [e, nI_clamp (by omega)]
  exact s_X6_mixInto ha hn e
theorem s_mixT {a : Nat} {h : Int64} (ha : K0 a = (4, 3)) (hc : ∃ n, n ≤ 100 ∧ I a 1 = nI n) : Ca G mdX4_mixInto [.ref a, .long h] (mk I L t) (Rs (.long (rowMix I a (I a 1).toNatClampNeg h)) (mk I L t)) := by
  obtain ⟨n, hn, e⟩ := hc
  rw [e, nI_clamp (by omega)]
  exact s_X4_mixInto ha hn e
def niMx (I : Im) (h : Int64) : Int64 := if I 8 3 = 0 then 31 * h + (-1) else niMix I 8 (I 10 2).toNatClampNeg 3 h
theorem s_mixN {h : Int64} (hN : NW I 8) : Ca G mdX5_mixInto [.ref 8, .long h] (mk I L t) (Rs (.long (niMx I h)) (mk I L t)) := by
  unfold niMx
  by_cases c : I 8 3 = 0
  · have key := s_X5_mixInto (G := G) (I := I) (L := L) (t := t) (a := 8) (m := 3) (n := 3) (h := h) rfl rfl (fun z => absurd c z) (by decide) (by decide) (fun z => absurd c z)
    unfold niMix at key
    rw [if_pos c] at key ⊢
    exact key
  · obtain ⟨e2, ⟨n, h3, hn, e⟩, -⟩ := hN.2 c
    have e' : I 10 2 = nI n := e
    rw [if_neg c, e', nI_clamp (by omega)]
    exact s_X5_mixInto (a := 8) rfl rfl (fun _ => e2) (by decide) hn (fun _ => e)
set_option maxRecDepth 100000 in
set_option maxHeartbeats 4000000 in
theorem lp_dg_cnt {P : Option Value → Mem → Prop} {h : Int64}  (kont : Ex G mdX11_digest 29 [some (.ref 0), some (.long (dgN (fun q h => 31 * h + (f_X11_count I (nI q)).toInt64) h 8)), none, some (.int (nI 8))] [] (mk I L t) 0 0 P) : Ex G mdX11_digest 6 [some (.ref 0), some (.long (dgN (fun q h => 31 * h + (f_X11_count I (nI q)).toInt64) h 0)), none, some (.int (nI 0))] [] (mk I L t) 0 0 P := by
  refine loop_up (G := G) (d := mdX11_digest) (pc := 6) (st := []) (uc := 0) (us := 0) (P := P) 8 (fun k => mk I L t) (fun k => [some (.ref 0), some (.long (dgN (fun q h => 31 * h + (f_X11_count I (nI q)).toInt64) h k)), none, some (.int (nI k))]) ?_ ?_ 0 (Nat.zero_le _)
  · intro k hk ih
    refine ex_iload_n dX11_digest_6 rfl ?_
    refine ex_bipush (v := 8) dX11_digest_7 (by decide) ?_
    refine ex_icmp_ge 29 dX11_digest_9 (by decide) (fun h9 => ?_) (fun h9 => ?_)
    · exact absurd h9 (nI_ge hk (by decide))
    · skip
      refine ex_lload_n dX11_digest_12 rfl ?_
      refine ex_aload_n dX11_digest_13 rfl ?_
      refine ex_iload_n dX11_digest_14 rfl ?_
      refine rx_cV (kd := 11) dX11_digest_15 rfl lk_X11_413 rfl (by decide) (by first | assumption | rfl) ⟨⟨rfl, rfl⟩, by decide, by decide⟩ rfl (Nat.le_of_ble_eq_true rfl) rfl s_X11_count (Rs.k ?_)
      refine ex_i2l dX11_digest_18 ?_
      refine rx_cS dX11_digest_19 rfl lk_X11_498 ⟨⟨rfl, rfl⟩, by decide, by decide⟩ rfl (Nat.le_of_ble_eq_true rfl) rfl s_X11_mix (Rs.k ?_)
      refine st_l1 dX11_digest_22 (by first | exact rfl | exact trivial) ?_
      refine inc3 (v := _ + 1) dX11_digest_23 (by rfl) (by first | exact rfl | exact trivial) ?_
      refine ex_goto 6 dX11_digest_26 (by decide) ?_
      rw [nI_1]
      rw [dgN_s] at ih
      exact ih
  · skip
    refine ex_iload_n dX11_digest_6 rfl ?_
    refine ex_bipush (v := 8) dX11_digest_7 (by decide) ?_
    refine ex_icmp_ge 29 dX11_digest_9 (by decide) (fun h9 => ?_) (fun h9 => ?_)
    · skip
      exact kont
    · exact absurd (by decide : nI 8 ≤ nI 8) h9
theorem lq_dg_cnt {P : Option Value → Mem → Prop} {h : Int64}  (kont : Ex G mdX11_digest 29 [some (.ref 0), some (.long (dgN (fun q h => 31 * h + (f_X11_count I (nI q)).toInt64) h 8)), none, none] [] (mk I L t) 0 0 P) : Ex G mdX11_digest 6 [some (.ref 0), some (.long h), none, some (.int 0)] [] (mk I L t) 0 0 P := by
  have key := lp_dg_cnt (G := G) (L := L) (h := h) (P := P) (fg3 kont)
  rw [dgN_0] at key
  exact key
set_option maxRecDepth 100000 in
set_option maxHeartbeats 4000000 in
theorem lp_dg_har {P : Option Value → Mem → Prop} {h : Int64} (hC : HarC I) (kont : Ex G mdX11_digest 53 [some (.ref 0), some (.long (dgN (fun q h => baMix I (124 + 2 * q) (I (124 + 2 * q) 2).toNatClampNeg h) h 4)), none, some (.int (nI 4))] [] (mk I L t) 0 0 P) : Ex G mdX11_digest 31 [some (.ref 0), some (.long (dgN (fun q h => baMix I (124 + 2 * q) (I (124 + 2 * q) 2).toNatClampNeg h) h 0)), none, some (.int (nI 0))] [] (mk I L t) 0 0 P := by
  refine loop_up (G := G) (d := mdX11_digest) (pc := 31) (st := []) (uc := 0) (us := 0) (P := P) 4 (fun k => mk I L t) (fun k => [some (.ref 0), some (.long (dgN (fun q h => baMix I (124 + 2 * q) (I (124 + 2 * q) 2).toNatClampNeg h) h k)), none, some (.int (nI k))]) ?_ ?_ 0 (Nat.zero_le _)
  · intro k hk ih
    refine ex_iload_n dX11_digest_31 rfl ?_
    refine ex_iconst (v := 4) dX11_digest_32 (by decide) ?_
    refine ex_icmp_ge 53 dX11_digest_33 (by decide) (fun h33 => ?_) (fun h33 => ?_)
    · exact absurd h33 (nI_ge hk (by decide))
    · skip
      refine ex_aload_n dX11_digest_36 rfl ?_
      refine g_11_2 dX11_digest_37 rfl wf_X11_23 (by first | assumption | rfl) (show Rt _ 0 2 = some 3 from rfl) ?_
      refine ex_iload_n dX11_digest_40 rfl ?_
      refine rx_aald dX11_digest_41 (by first | assumption | rfl) (by decide) rfl (vp_in_nI hk (by decide)) (by rw [nI_clamp (by omega)]; exact ly_har hk) ?_
      refine ex_lload_n dX11_digest_42 rfl ?_
      refine rx_cV (kd := 0) dX11_digest_43 rfl lk_X11_502 rfl (by decide) (ky_har hk) ⟨⟨rfl, rfl⟩, by decide, by decide⟩ rfl (Nat.le_of_ble_eq_true rfl) rfl (s_mixH (ky_har hk) (hC k hk)) (Rs.k ?_)
      refine st_l1 dX11_digest_46 (by first | exact rfl | exact trivial) ?_
      refine inc3 (v := _ + 1) dX11_digest_47 (by rfl) (by first | exact rfl | exact trivial) ?_
      refine ex_goto 31 dX11_digest_50 (by decide) ?_
      rw [nI_1]
      rw [dgN_s] at ih
      exact ih
  · skip
    refine ex_iload_n dX11_digest_31 rfl ?_
    refine ex_iconst (v := 4) dX11_digest_32 (by decide) ?_
    refine ex_icmp_ge 53 dX11_digest_33 (by decide) (fun h33 => ?_) (fun h33 => ?_)
    · skip
      exact kont
    · exact absurd (by decide : nI 4 ≤ nI 4) h33
theorem lq_dg_har {P : Option Value → Mem → Prop} {h : Int64} (hC : HarC I) (kont : Ex G mdX11_digest 53 [some (.ref 0), some (.long (dgN (fun q h => baMix I (124 + 2 * q) (I (124 + 2 * q) 2).toNatClampNeg h) h 4)), none, none] [] (mk I L t) 0 0 P) : Ex G mdX11_digest 31 [some (.ref 0), some (.long h), none, some (.int 0)] [] (mk I L t) 0 0 P := by
  have key := lp_dg_har (G := G) (L := L) (h := h) hC (P := P) (fg3 kont)
  rw [dgN_0] at key
  exact key
set_option maxRecDepth 100000 in
set_option maxHeartbeats 4000000 in
theorem lp_dg_sea {P : Option Value → Mem → Prop} {h : Int64} (hSea : SeaS I) (kont : Ex G mdX11_digest 77 [some (.ref 0), some (.long (dgN (fun q h => swMix I (132 + 3 * q) (I (132 + 3 * q) 3).toNatClampNeg h) h 4)), none, some (.int (nI 4))] [] (mk I L t) 0 0 P) : Ex G mdX11_digest 55 [some (.ref 0), some (.long (dgN (fun q h => swMix I (132 + 3 * q) (I (132 + 3 * q) 3).toNatClampNeg h) h 0)), none, some (.int (nI 0))] [] (mk I L t) 0 0 P := by
  refine loop_up (G := G) (d := mdX11_digest) (pc := 55) (st := []) (uc := 0) (us := 0) (P := P) 4 (fun k => mk I L t) (fun k => [some (.ref 0), some (.long (dgN (fun q h => swMix I (132 + 3 * q) (I (132 + 3 * q) 3).toNatClampNeg h) h k)), none, some (.int (nI k))]) ?_ ?_ 0 (Nat.zero_le _)
  · intro k hk ih
    refine ex_iload_n dX11_digest_55 rfl ?_
    refine ex_iconst (v := 4) dX11_digest_56 (by decide) ?_
    refine ex_icmp_ge 77 dX11_digest_57 (by decide) (fun h57 => ?_) (fun h57 => ?_)
    · exact absurd h57 (nI_ge hk (by decide))
    · skip
      refine ex_aload_n dX11_digest_60 rfl ?_
      refine g_11_3 dX11_digest_61 rfl wf_X11_29 (by first | assumption | rfl) (show Rt _ 0 3 = some 4 from rfl) ?_
      refine ex_iload_n dX11_digest_64 rfl ?_
      refine rx_aald dX11_digest_65 (by first | assumption | rfl) (by decide) rfl (vp_in_nI hk (by decide)) (by rw [nI_clamp (by omega)]; exact ly_sea hk) ?_
      refine ex_lload_n dX11_digest_66 rfl ?_
      refine rx_cV (kd := 8) dX11_digest_67 rfl lk_X11_506 rfl (by decide) (ky_sea hk) ⟨⟨rfl, rfl⟩, by decide, by decide⟩ rfl (Nat.le_of_ble_eq_true rfl) rfl (s_mixS (SOk_s hSea hk)) (Rs.k ?_)
      refine st_l1 dX11_digest_70 (by first | exact rfl | exact trivial) ?_
      refine inc3 (v := _ + 1) dX11_digest_71 (by rfl) (by first | exact rfl | exact trivial) ?_
      refine ex_goto 55 dX11_digest_74 (by decide) ?_
      rw [nI_1]
      rw [dgN_s] at ih
      exact ih
  · skip
    refine ex_iload_n dX11_digest_55 rfl ?_
    refine ex_iconst (v := 4) dX11_digest_56 (by decide) ?_
    refine ex_icmp_ge 77 dX11_digest_57 (by decide) (fun h57 => ?_) (fun h57 => ?_)
    · skip
      exact kont
    · exact absurd (by decide : nI 4 ≤ nI 4) h57
theorem lq_dg_sea {P : Option Value → Mem → Prop} {h : Int64} (hSea : SeaS I) (kont : Ex G mdX11_digest 77 [some (.ref 0), some (.long (dgN (fun q h => swMix I (132 + 3 * q) (I (132 + 3 * q) 3).toNatClampNeg h) h 4)), none, none] [] (mk I L t) 0 0 P) : Ex G mdX11_digest 55 [some (.ref 0), some (.long h), none, some (.int 0)] [] (mk I L t) 0 0 P := by
  have key := lp_dg_sea (G := G) (L := L) (h := h) hSea (P := P) (fg3 kont)
  rw [dgN_0] at key
  exact key
set_option maxRecDepth 100000 in
set_option maxHeartbeats 4000000 in
theorem lp_dg_shp {P : Option Value → Mem → Prop} {h : Int64}  (kont : Ex G mdX11_digest 101 [some (.ref 0), some (.long (dgN (fun q h => boMix I (144 + q) h) h 3)), none, some (.int (nI 3))] [] (mk I L t) 0 0 P) : Ex G mdX11_digest 79 [some (.ref 0), some (.long (dgN (fun q h => boMix I (144 + q) h) h 0)), none, some (.int (nI 0))] [] (mk I L t) 0 0 P := by
  refine loop_up (G := G) (d := mdX11_digest) (pc := 79) (st := []) (uc := 0) (us := 0) (P := P) 3 (fun k => mk I L t) (fun k => [some (.ref 0), some (.long (dgN (fun q h => boMix I (144 + q) h) h k)), none, some (.int (nI k))]) ?_ ?_ 0 (Nat.zero_le _)
  · intro k hk ih
    refine ex_iload_n dX11_digest_79 rfl ?_
    refine ex_iconst (v := 3) dX11_digest_80 (by decide) ?_
    refine ex_icmp_ge 101 dX11_digest_81 (by decide) (fun h81 => ?_) (fun h81 => ?_)
    · exact absurd h81 (nI_ge hk (by decide))
    · skip
      refine ex_aload_n dX11_digest_84 rfl ?_
      refine g_11_4 dX11_digest_85 rfl wf_X11_35 (by first | assumption | rfl) (show Rt _ 0 4 = some 5 from rfl) ?_
      refine ex_iload_n dX11_digest_88 rfl ?_
      refine rx_aald dX11_digest_89 (by first | assumption | rfl) (by decide) rfl (vp_in_nI hk (by decide)) (by rw [nI_clamp (by omega)]; exact ly_shp hk) ?_
      refine ex_lload_n dX11_digest_90 rfl ?_
      refine rx_cV (kd := 1) dX11_digest_91 rfl lk_X11_507 rfl (by decide) (ky_shp hk) ⟨⟨rfl, rfl⟩, by decide, by decide⟩ rfl (Nat.le_of_ble_eq_true rfl) rfl (s_X1_mixInto (ky_shp hk)) (Rs.k ?_)
      refine st_l1 dX11_digest_94 (by first | exact rfl | exact trivial) ?_
      refine inc3 (v := _ + 1) dX11_digest_95 (by rfl) (by first | exact rfl | exact trivial) ?_
      refine ex_goto 79 dX11_digest_98 (by decide) ?_
      rw [nI_1]
      rw [dgN_s] at ih
      exact ih
  · skip
    refine ex_iload_n dX11_digest_79 rfl ?_
    refine ex_iconst (v := 3) dX11_digest_80 (by decide) ?_
    refine ex_icmp_ge 101 dX11_digest_81 (by decide) (fun h81 => ?_) (fun h81 => ?_)
    · skip
      exact kont
    · exact absurd (by decide : nI 3 ≤ nI 3) h81
theorem lq_dg_shp {P : Option Value → Mem → Prop} {h : Int64}  (kont : Ex G mdX11_digest 101 [some (.ref 0), some (.long (dgN (fun q h => boMix I (144 + q) h) h 3)), none, none] [] (mk I L t) 0 0 P) : Ex G mdX11_digest 79 [some (.ref 0), some (.long h), none, some (.int 0)] [] (mk I L t) 0 0 P := by
  have key := lp_dg_shp (G := G) (L := L) (h := h) (P := P) (fg3 kont)
  rw [dgN_0] at key
  exact key
set_option maxRecDepth 100000 in
set_option maxHeartbeats 4000000 in
theorem lp_dg_row {P : Option Value → Mem → Prop} {h : Int64} (hRow : RowS I) (kont : Ex G mdX11_digest 162 [some (.ref 0), some (.long (dgN (fun q h => rowMix I (104 + 2 * q) (I (104 + 2 * q) 1).toNatClampNeg h) h 6)), none, some (.int (nI 6))] [] (mk I L t) 0 0 P) : Ex G mdX11_digest 139 [some (.ref 0), some (.long (dgN (fun q h => rowMix I (104 + 2 * q) (I (104 + 2 * q) 1).toNatClampNeg h) h 0)), none, some (.int (nI 0))] [] (mk I L t) 0 0 P := by
  refine loop_up (G := G) (d := mdX11_digest) (pc := 139) (st := []) (uc := 0) (us := 0) (P := P) 6 (fun k => mk I L t) (fun k => [some (.ref 0), some (.long (dgN (fun q h => rowMix I (104 + 2 * q) (I (104 + 2 * q) 1).toNatClampNeg h) h k)), none, some (.int (nI k))]) ?_ ?_ 0 (Nat.zero_le _)
  · intro k hk ih
    refine ex_iload_n dX11_digest_139 rfl ?_
    refine ex_bipush (v := 6) dX11_digest_140 (by decide) ?_
    refine ex_icmp_ge 162 dX11_digest_142 (by decide) (fun h142 => ?_) (fun h142 => ?_)
    · exact absurd h142 (nI_ge hk (by decide))
    · skip
      refine ex_aload_n dX11_digest_145 rfl ?_
      refine g_11_0 dX11_digest_146 rfl wf_X11_11 (by first | assumption | rfl) (show Rt _ 0 0 = some 1 from rfl) ?_
      refine ex_iload_n dX11_digest_149 rfl ?_
      refine rx_aald dX11_digest_150 (by first | assumption | rfl) (by decide) rfl (vp_in_nI hk (by decide)) (by rw [nI_clamp (by omega)]; exact ly_row hk) ?_
      refine ex_lload_n dX11_digest_151 rfl ?_
      refine rx_cV (kd := 6) dX11_digest_152 rfl lk_X11_510 rfl (by decide) (ky_row hk) ⟨⟨rfl, rfl⟩, by decide, by decide⟩ rfl (Nat.le_of_ble_eq_true rfl) rfl (s_mixR (ky_row hk) (hRow k hk)) (Rs.k ?_)
      refine st_l1 dX11_digest_155 (by first | exact rfl | exact trivial) ?_
      refine inc3 (v := _ + 1) dX11_digest_156 (by rfl) (by first | exact rfl | exact trivial) ?_
      refine ex_goto 139 dX11_digest_159 (by decide) ?_
      rw [nI_1]
      rw [dgN_s] at ih
      exact ih
  · skip
    refine ex_iload_n dX11_digest_139 rfl ?_
    refine ex_bipush (v := 6) dX11_digest_140 (by decide) ?_
    refine ex_icmp_ge 162 dX11_digest_142 (by decide) (fun h142 => ?_) (fun h142 => ?_)
    · skip
      exact kont
    · exact absurd (by decide : nI 6 ≤ nI 6) h142
theorem lq_dg_row {P : Option Value → Mem → Prop} {h : Int64} (hRow : RowS I) (kont : Ex G mdX11_digest 162 [some (.ref 0), some (.long (dgN (fun q h => rowMix I (104 + 2 * q) (I (104 + 2 * q) 1).toNatClampNeg h) h 6)), none, none] [] (mk I L t) 0 0 P) : Ex G mdX11_digest 139 [some (.ref 0), some (.long h), none, some (.int 0)] [] (mk I L t) 0 0 P := by
  have key := lp_dg_row (G := G) (L := L) (h := h) hRow (P := P) (fg3 kont)
  rw [dgN_0] at key
  exact key
set_option maxRecDepth 100000 in
set_option maxHeartbeats 4000000 in
theorem lp_dg_txt {P : Option Value → Mem → Prop} {h : Int64} (hTxt : TxtS I) (kont : Ex G mdX11_digest 186 [some (.ref 0), some (.long (dgN (fun q h => rowMix I (116 + 2 * q) (I (116 + 2 * q) 1).toNatClampNeg h) h 4)), none, some (.int (nI 4))] [] (mk I L t) 0 0 P) : Ex G mdX11_digest 164 [some (.ref 0), some (.long (dgN (fun q h => rowMix I (116 + 2 * q) (I (116 + 2 * q) 1).toNatClampNeg h) h 0)), none, some (.int (nI 0))] [] (mk I L t) 0 0 P := by
  refine loop_up (G := G) (d := mdX11_digest) (pc := 164) (st := []) (uc := 0) (us := 0) (P := P) 4 (fun k => mk I L t) (fun k => [some (.ref 0), some (.long (dgN (fun q h => rowMix I (116 + 2 * q) (I (116 + 2 * q) 1).toNatClampNeg h) h k)), none, some (.int (nI k))]) ?_ ?_ 0 (Nat.zero_le _)
  · intro k hk ih
    refine ex_iload_n dX11_digest_164 rfl ?_
    refine ex_iconst (v := 4) dX11_digest_165 (by decide) ?_
    refine ex_icmp_ge 186 dX11_digest_166 (by decide) (fun h166 => ?_) (fun h166 => ?_)
    · exact absurd h166 (nI_ge hk (by decide))
    · skip
      refine ex_aload_n dX11_digest_169 rfl ?_
      refine g_11_1 dX11_digest_170 rfl wf_X11_17 (by first | assumption | rfl) (show Rt _ 0 1 = some 2 from rfl) ?_
      refine ex_iload_n dX11_digest_173 rfl ?_
      refine rx_aald dX11_digest_174 (by first | assumption | rfl) (by decide) rfl (vp_in_nI hk (by decide)) (by rw [nI_clamp (by omega)]; exact ly_txt hk) ?_
      refine ex_lload_n dX11_digest_175 rfl ?_
      refine rx_cV (kd := 4) dX11_digest_176 rfl lk_X11_511 rfl (by decide) (ky_txt hk) ⟨⟨rfl, rfl⟩, by decide, by decide⟩ rfl (Nat.le_of_ble_eq_true rfl) rfl (s_mixT (ky_txt hk) (hTxt k hk)) (Rs.k ?_)
      refine st_l1 dX11_digest_179 (by first | exact rfl | exact trivial) ?_
      refine inc3 (v := _ + 1) dX11_digest_180 (by rfl) (by first | exact rfl | exact trivial) ?_
      refine ex_goto 164 dX11_digest_183 (by decide) ?_
      rw [nI_1]
      rw [dgN_s] at ih
      exact ih
  · skip
    refine ex_iload_n dX11_digest_164 rfl ?_
    refine ex_iconst (v := 4) dX11_digest_165 (by decide) ?_
    refine ex_icmp_ge 186 dX11_digest_166 (by decide) (fun h166 => ?_) (fun h166 => ?_)
    · skip
      exact kont
    · exact absurd (by decide : nI 4 ≤ nI 4) h166
theorem lq_dg_txt {P : Option Value → Mem → Prop} {h : Int64} (hTxt : TxtS I) (kont : Ex G mdX11_digest 186 [some (.ref 0), some (.long (dgN (fun q h => rowMix I (116 + 2 * q) (I (116 + 2 * q) 1).toNatClampNeg h) h 4)), none, none] [] (mk I L t) 0 0 P) : Ex G mdX11_digest 164 [some (.ref 0), some (.long h), none, some (.int 0)] [] (mk I L t) 0 0 P := by
  have key := lp_dg_txt (G := G) (L := L) (h := h) hTxt (P := P) (fg3 kont)
  rw [dgN_0] at key
  exact key
set_option maxRecDepth 100000 in
set_option maxHeartbeats 4000000 in
theorem lp_dg_wrk {P : Option Value → Mem → Prop} {h : Int64} {m : Nat} (hm : m ≤ 5) (hW : I 0 16 = nI m) (kont : Ex G mdX11_digest 128 [some (.ref 0), some (.long (dgN (fun q h => woMix I (147 + q) h) h m)), none, some (.int (nI m))] [] (mk I L t) 0 0 P) : Ex G mdX11_digest 103 [some (.ref 0), some (.long (dgN (fun q h => woMix I (147 + q) h) h 0)), none, some (.int (nI 0))] [] (mk I L t) 0 0 P := by
  refine loop_up (G := G) (d := mdX11_digest) (pc := 103) (st := []) (uc := 0) (us := 0) (P := P) m (fun k => mk I L t) (fun k => [some (.ref 0), some (.long (dgN (fun q h => woMix I (147 + q) h) h k)), none, some (.int (nI k))]) ?_ ?_ 0 (Nat.zero_le _)
  · intro k hk ih
    refine ex_iload_n dX11_digest_103 rfl ?_
    refine ex_aload_n dX11_digest_104 rfl ?_
    refine g_11_16 dX11_digest_105 rfl wf_X11_97 (by first | assumption | rfl) ?_
    rw [hW]
    refine ex_icmp_ge 128 dX11_digest_108 (by decide) (fun h108 => ?_) (fun h108 => ?_)
    · exact absurd h108 (nI_ge hk (by omega))
    · skip
      refine ex_aload_n dX11_digest_111 rfl ?_
      refine g_11_5 dX11_digest_112 rfl wf_X11_41 (by first | assumption | rfl) (show Rt _ 0 5 = some 6 from rfl) ?_
      refine ex_iload_n dX11_digest_115 rfl ?_
      refine rx_aald dX11_digest_116 (by first | assumption | rfl) (by decide) rfl (vp_in_nI (by omega) (by decide)) (by rw [nI_clamp (by omega)]; exact ly_wrk (by omega)) ?_
      refine ex_lload_n dX11_digest_117 rfl ?_
      refine rx_cV (kd := 10) dX11_digest_118 rfl lk_X11_508 rfl (by decide) (ky_wrk (by omega)) ⟨⟨rfl, rfl⟩, by decide, by decide⟩ rfl (Nat.le_of_ble_eq_true rfl) rfl (s_X10_mixInto (ky_wrk (by omega))) (Rs.k ?_)
      refine st_l1 dX11_digest_121 (by first | exact rfl | exact trivial) ?_
      refine inc3 (v := _ + 1) dX11_digest_122 (by rfl) (by first | exact rfl | exact trivial) ?_
      refine ex_goto 103 dX11_digest_125 (by decide) ?_
      rw [nI_1]
      rw [dgN_s] at ih
      exact ih
  · skip
    refine ex_iload_n dX11_digest_103 rfl ?_
    refine ex_aload_n dX11_digest_104 rfl ?_
    refine g_11_16 dX11_digest_105 rfl wf_X11_97 (by first | assumption | rfl) ?_
    refine ex_icmp_ge 128 dX11_digest_108 (by decide) (fun h108 => ?_) (fun h108 => ?_)
    · skip
      exact kont
    · exact absurd (by rw [hW]; exact Int32.le_refl _) h108
theorem lq_dg_wrk {P : Option Value → Mem → Prop} {h : Int64} (hW : WrkS I) (kont : Ex G mdX11_digest 128 [some (.ref 0), some (.long (dgN (fun q h => woMix I (147 + q) h) h (I 0 16).toNatClampNeg)), none, none] [] (mk I L t) 0 0 P) : Ex G mdX11_digest 103 [some (.ref 0), some (.long h), none, some (.int 0)] [] (mk I L t) 0 0 P := by
  obtain ⟨m, hm, e⟩ := hW
  rw [e, nI_clamp (by omega)] at kont
  have key := lp_dg_wrk (G := G) (L := L) (h := h) hm e (P := P) (fg3 kont)
  rw [dgN_0] at key
  exact key
def f_X11_digest (I : Im) : Int64 :=
  dgN (fun q h => rowMix I (116 + 2 * q) (I (116 + 2 * q) 1).toNatClampNeg h) (dgN (fun q h => rowMix I (104 + 2 * q) (I (104 + 2 * q) 1).toNatClampNeg h) (niMx I (dgN (fun q h => woMix I (147 + q) h) (dgN (fun q h => boMix I (144 + q) h) (dgN (fun q h => swMix I (132 + 3 * q) (I (132 + 3 * q) 3).toNatClampNeg h) (dgN (fun q h => baMix I (124 + 2 * q) (I (124 + 2 * q) 2).toNatClampNeg h) (dgN (fun q h => 31 * h + (f_X11_count I (nI q)).toInt64) 17 8) 4) 4) 3) (I 0 16).toNatClampNeg)) 6) 4
set_option maxRecDepth 100000 in
set_option maxHeartbeats 4000000 in
theorem s_X11_digest  (hC : HarC I) (hSea : SeaS I) (hW : WrkS I) (hN : NW I 8) (hRow : RowS I) (hTxt : TxtS I) : Ca G mdX11_digest [.ref 0] (mk I L t) (Rs (.long (f_X11_digest I)) (mk I L t)) := by
  refine Ca.intro [some (.ref 0), none, none, none] (by decide) (Nat.le_of_ble_eq_true rfl) rfl rfl ?_
  refine ex_ldc2 dX11_digest_0 rfl wl_X11_496 ?_
  refine st_l1 dX11_digest_3 (by first | exact rfl | exact trivial) ?_
  refine ex_iconst (v := 0) dX11_digest_4 (by decide) ?_
  refine st_i3 dX11_digest_5 (by first | exact rfl | exact trivial) ?_
  refine lq_dg_cnt ?_
  refine ex_iconst (v := 0) dX11_digest_29 (by decide) ?_
  refine st_i3 dX11_digest_30 (by first | exact rfl | exact trivial) ?_
  refine (lq_dg_har hC) ?_
  refine ex_iconst (v := 0) dX11_digest_53 (by decide) ?_
  refine st_i3 dX11_digest_54 (by first | exact rfl | exact trivial) ?_
  refine (lq_dg_sea hSea) ?_
  refine ex_iconst (v := 0) dX11_digest_77 (by decide) ?_
  refine st_i3 dX11_digest_78 (by first | exact rfl | exact trivial) ?_
  refine lq_dg_shp ?_
  refine ex_iconst (v := 0) dX11_digest_101 (by decide) ?_
  refine st_i3 dX11_digest_102 (by first | exact rfl | exact trivial) ?_
  refine (lq_dg_wrk hW) ?_
  refine ex_aload_n dX11_digest_128 rfl ?_
  refine g_11_7 dX11_digest_129 rfl wf_X11_54 (by first | assumption | rfl) (show Rt _ 0 7 = some 8 from rfl) ?_
  refine ex_lload_n dX11_digest_132 rfl ?_
  refine rx_cV (kd := 5) dX11_digest_133 rfl lk_X11_509 rfl (by decide) (by first | assumption | rfl) ⟨⟨rfl, rfl⟩, by decide, by decide⟩ rfl (Nat.le_of_ble_eq_true rfl) rfl (s_mixN hN) (Rs.k ?_)
  refine st_l1 dX11_digest_136 (by first | exact rfl | exact trivial) ?_
  refine ex_iconst (v := 0) dX11_digest_137 (by decide) ?_
  refine st_i3 dX11_digest_138 (by first | exact rfl | exact trivial) ?_
  refine (lq_dg_row hRow) ?_
  refine ex_iconst (v := 0) dX11_digest_162 (by decide) ?_
  refine st_i3 dX11_digest_163 (by first | exact rfl | exact trivial) ?_
  refine (lq_dg_txt hTxt) ?_
  refine ex_lload_n dX11_digest_186 rfl ?_
  refine ex_lret dX11_digest_187 rfl ⟨rfl, Nat.le_refl _⟩ ?_
  exact ⟨(by simp only [f_X11_digest, if_true, if_false, not_true_eq_false, not_false_eq_true]), rfl⟩
end N13
