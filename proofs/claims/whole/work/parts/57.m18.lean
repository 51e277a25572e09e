section M18
variable {G : Gp} {I : Im} {L : Nat → Nat → Int64} {t : Nat}
def tfN (I : Im) (s q z k : Nat) : Im :=
  match k with
  | 0 => I
  | k + 1 => up2 (up2 (plI (tfN I s q z k) s q z (nI k) (tfN I s q z k 215 (5 * s + 2))) 219 (16 * s + k) ((plI (tfN I s q z k) s q z (nI k) (tfN I s q z k 215 (5 * s + 2))) 200 32)) 220 (16 * s + k) (if (plI (tfN I s q z k) s q z (nI k) (tfN I s q z k 215 (5 * s + 2))) 200 33 = -9 then 0 else 1)
termination_by k
theorem tfN_0 {s q z : Nat} : tfN I s q z 0 = I := by rw [tfN]
theorem tfN_s {s q z k : Nat} : tfN I s q z (k + 1) = up2 (up2 (plI (tfN I s q z k) s q z (nI k) (tfN I s q z k 215 (5 * s + 2))) 219 (16 * s + k) ((plI (tfN I s q z k) s q z (nI k) (tfN I s q z k 215 (5 * s + 2))) 200 32)) 220 (16 * s + k) (if (plI (tfN I s q z k) s q z (nI k) (tfN I s q z k 215 (5 * s + 2))) 200 33 = -9 then 0 else 1) := by rw [tfN]
theorem tfN_off {s q z e : Nat} (h : e ≠ 217) (h2 : e ≠ 200) (h3 : e ≠ 219) (h4 : e ≠ 220) : ∀ k, tfN I s q z k e = I e := by
  intro k
  induction k with
  | zero => rw [tfN_0]
  | succ k ih => rw [tfN_s, up2_off h4, up2_off h3, plI_off h h2, ih]
def tsN (I : Im) (q z n k : Nat) : Im :=
  match k with
  | 0 => I
  | k + 1 => if tsN I q z n k 214 k = 0 then tsN I q z n k else tfN (tsN I q z n k) k q z n
termination_by k
theorem tsN_0 {q z n : Nat} : tsN I q z n 0 = I := by rw [tsN]
theorem tsN_s {q z n k : Nat} : tsN I q z n (k + 1) = if tsN I q z n k 214 k = 0 then tsN I q z n k else tfN (tsN I q z n k) k q z n := by rw [tsN]
theorem tsN_off {q z n e : Nat} (h : e ≠ 217) (h2 : e ≠ 200) (h3 : e ≠ 219) (h4 : e ≠ 220) : ∀ k, tsN I q z n k e = I e := by
  intro k
  induction k with
  | zero => rw [tsN_0]
  | succ k ih =>
    rw [tsN_s]
    split
    · exact ih
    · rw [tfN_off h h2 h3 h4, ih]
set_option maxRecDepth 100000 in
set_option maxHeartbeats 4000000 in
theorem lm_tf {P : Option Value → Mem → Prop} {y z r : Int32} {s n : Nat} (hs : s < 3) (vk : vp_in y 4) (vz : vp_in z 4) (hn16 : n ≤ 16) (hH : HmS I) (hS : SbS I) (hP : SpS I) (hh : ¬ I 207 y.toNatClampNeg = 0) (hp : ¬ I 214 s = 0) (kont : Ex G mdX12_tonight 188 [some (.ref 200), some (.int y), some (.int z), some (.int r), some (.int (nI n)), some (.int (nI s)), some (.int (nI n))] [] (mk (tfN I s y.toNatClampNeg z.toNatClampNeg n) L t) 0 0 P) : Ex G mdX12_tonight 100 [some (.ref 200), some (.int y), some (.int z), some (.int r), some (.int (nI n)), some (.int (nI s)), some (.int (nI 0))] [] (mk (tfN I s y.toNatClampNeg z.toNatClampNeg 0) L t) 0 0 P := by
  refine loop_up (G := G) (d := mdX12_tonight) (pc := 100) (st := []) (uc := 0) (us := 0) (P := P) n (fun k => mk (tfN I s y.toNatClampNeg z.toNatClampNeg k) L t) (fun k => [some (.ref 200), some (.int y), some (.int z), some (.int r), some (.int (nI n)), some (.int (nI s)), some (.int (nI k))]) ?_ ?_ 0 (Nat.zero_le _)
  · intro k hk ih
    have hHk : HmS (tfN I s y.toNatClampNeg z.toNatClampNeg k) := HmS_of (tfN_off (by decide) (by decide) (by decide) (by decide) k) (tfN_off (by decide) (by decide) (by decide) (by decide) k) hH
    have hSk : SbS (tfN I s y.toNatClampNeg z.toNatClampNeg k) := SbS_of (tfN_off (by decide) (by decide) (by decide) (by decide) k) (tfN_off (by decide) (by decide) (by decide) (by decide) k) hS
    have hPk : SpS (tfN I s y.toNatClampNeg z.toNatClampNeg k) := SpS_of (tfN_off (by decide) (by decide) (by decide) (by decide) k) (tfN_off (by decide) (by decide) (by decide) (by decide) k) hP
    have gk : ¬ (tfN I s y.toNatClampNeg z.toNatClampNeg k) 207 y.toNatClampNeg = 0 := by rw [tfN_off (by decide) (by decide) (by decide) (by decide) k]; exact hh
    have pk : ¬ (tfN I s y.toNatClampNeg z.toNatClampNeg k) 214 (nI s).toNatClampNeg = 0 := by rw [nI_clamp (by omega), tfN_off (by decide) (by decide) (by decide) (by decide) k]; exact hp
    refine ex_iload dX12_tonight_100 rfl ?_
    refine ex_iload dX12_tonight_102 rfl ?_
    refine ex_icmp_ge 188 dX12_tonight_104 (by decide) (fun h104 => ?_) (fun h104 => ?_)
    · exact absurd h104 (nI_ge hk (by omega))
    · skip
      refine ex_aload_n dX12_tonight_107 rfl ?_
      refine g_12_20 dX12_tonight_108 rfl wf_X12_51 (by first | assumption | rfl) (show Rt _ 200 20 = some 214 from rfl) ?_
      refine ex_iload dX12_tonight_111 rfl ?_
      refine rx_zald dX12_tonight_113 (by first | assumption | rfl) (vp_in_nI hs (by decide)) ?_
      refine ex_if_eq 188 dX12_tonight_114 (by decide) (fun h114 => ?_) (fun h114 => ?_)
      · exact absurd h114 pk
      · skip
        refine ex_aload_n dX12_tonight_117 rfl ?_
        refine ex_iload dX12_tonight_118 rfl ?_
        refine ex_iload_n dX12_tonight_120 rfl ?_
        refine ex_iload_n dX12_tonight_121 rfl ?_
        refine ex_iload dX12_tonight_122 rfl ?_
        refine ex_aload_n dX12_tonight_124 rfl ?_
        refine g_12_21 dX12_tonight_125 rfl wf_X12_54 (by first | assumption | rfl) (show Rt _ 200 21 = some 215 from rfl) ?_
        refine ex_iconst (v := 5) dX12_tonight_128 (by decide) ?_
        refine ex_iload dX12_tonight_129 rfl ?_
        refine ex_imul dX12_tonight_131 ?_
        refine ex_iconst (v := 2) dX12_tonight_132 (by decide) ?_
        refine ex_iadd dX12_tonight_133 ?_
        refine rx_iald dX12_tonight_134 (by first | assumption | rfl) (ixm (c := 5) (C := 5) (R := 3) rfl (vp_in_nI hs (by decide)) (i := 2) (by unfold vp_in; decide) (by decide)).1 ?_
        rw [(ixm (c := 5) (C := 5) (R := 3) rfl (vp_in_nI hs (by decide)) (i := 2) (by unfold vp_in; decide) (by decide)).2, nI_clamp (show s < 2 ^ 31 by omega), show (2 : Int32).toNatClampNeg = 2 from rfl]
        refine rx_cV (kd := 12) dX12_tonight_135 rfl lk_X12_327 rfl (by decide) (by first | assumption | rfl) ⟨⟨rfl, rfl⟩, by decide, by decide⟩ rfl (Nat.le_of_ble_eq_true rfl) rfl (s_plG (vp_in_nI hs (by decide)) vk vz (vp_in_nI (show k < 16 by omega) (by decide)) hHk gk hSk hPk pk) (Rv.k ?_)
        rw [nI_clamp (show s < 2 ^ 31 by omega)]
        refine ex_aload_n dX12_tonight_138 rfl ?_
        refine g_12_34 dX12_tonight_139 rfl wf_X12_66 (by first | assumption | rfl) (show Rt _ 200 34 = some 219 from rfl) ?_
        refine ex_bipush (v := 16) dX12_tonight_142 (by decide) ?_
        refine ex_iload dX12_tonight_144 rfl ?_
        refine ex_imul dX12_tonight_146 ?_
        refine ex_iload dX12_tonight_147 rfl ?_
        refine ex_iadd dX12_tonight_149 ?_
        refine ex_aload_n dX12_tonight_150 rfl ?_
        refine g_12_32 dX12_tonight_151 rfl wf_X12_317 (by first | assumption | rfl) ?_
        refine rx_iast dX12_tonight_154 (by first | assumption | rfl) (ixm (c := 16) (C := 16) (R := 3) rfl (vp_in_nI hs (by decide)) (vp_in_nI (show k < 16 by omega) (by decide)) (by decide)).1 ?_
        rw [(ixm (c := 16) (C := 16) (R := 3) rfl (vp_in_nI hs (by decide)) (vp_in_nI (show k < 16 by omega) (by decide)) (by decide)).2, nI_clamp (show s < 2 ^ 31 by omega), nI_clamp (show k < 2 ^ 31 by omega)]
        refine ex_aload_n dX12_tonight_155 rfl ?_
        refine g_12_35 dX12_tonight_156 rfl wf_X12_69 (by first | assumption | rfl) (show Rt _ 200 35 = some 220 from rfl) ?_
        refine ex_bipush (v := 16) dX12_tonight_159 (by decide) ?_
        refine ex_iload dX12_tonight_161 rfl ?_
        refine ex_imul dX12_tonight_163 ?_
        refine ex_iload dX12_tonight_164 rfl ?_
        refine ex_iadd dX12_tonight_166 ?_
        refine ex_aload_n dX12_tonight_167 rfl ?_
        refine g_12_33 dX12_tonight_168 rfl wf_X12_320 (by first | assumption | rfl) ?_
        rw [up2_off (by decide)]
        refine ex_bipush (v := (-9)) dX12_tonight_171 (by decide) ?_
        refine ex_icmp_eq 180 dX12_tonight_173 (by decide) (fun h173 => ?_) (fun h173 => ?_)
        · have hc : (if (plI (tfN I s y.toNatClampNeg z.toNatClampNeg k) s y.toNatClampNeg z.toNatClampNeg (nI k) ((tfN I s y.toNatClampNeg z.toNatClampNeg k) 215 (5 * s + 2))) 200 33 = -9 then (0 : Int32) else 1) = 0 := if_pos h173
          refine ex_iconst (v := 0) dX12_tonight_180 (by decide) ?_
          refine rx_zast dX12_tonight_181 (by first | assumption | rfl) (ixm (c := 16) (C := 16) (R := 3) rfl (vp_in_nI hs (by decide)) (vp_in_nI (show k < 16 by omega) (by decide)) (by decide)).1 rfl ?_
          refine inc6 (v := _ + 1) dX12_tonight_182 (by rfl) (by first | exact rfl | exact trivial) ?_
          refine ex_goto 100 dX12_tonight_185 (by decide) ?_
          rw [(ixm (c := 16) (C := 16) (R := 3) rfl (vp_in_nI hs (by decide)) (vp_in_nI (show k < 16 by omega) (by decide)) (by decide)).2, nI_clamp (show s < 2 ^ 31 by omega), nI_clamp (show k < 2 ^ 31 by omega), nI_1]
          rw [tfN_s, hc] at ih
          exact ih
        · have hc : (if (plI (tfN I s y.toNatClampNeg z.toNatClampNeg k) s y.toNatClampNeg z.toNatClampNeg (nI k) ((tfN I s y.toNatClampNeg z.toNatClampNeg k) 215 (5 * s + 2))) 200 33 = -9 then (0 : Int32) else 1) = 1 := if_neg h173
          refine ex_iconst (v := 1) dX12_tonight_176 (by decide) ?_
          refine ex_goto 181 dX12_tonight_177 (by decide) ?_
          refine rx_zast dX12_tonight_181 (by first | assumption | rfl) (ixm (c := 16) (C := 16) (R := 3) rfl (vp_in_nI hs (by decide)) (vp_in_nI (show k < 16 by omega) (by decide)) (by decide)).1 rfl ?_
          refine inc6 (v := _ + 1) dX12_tonight_182 (by rfl) (by first | exact rfl | exact trivial) ?_
          refine ex_goto 100 dX12_tonight_185 (by decide) ?_
          rw [(ixm (c := 16) (C := 16) (R := 3) rfl (vp_in_nI hs (by decide)) (vp_in_nI (show k < 16 by omega) (by decide)) (by decide)).2, nI_clamp (show s < 2 ^ 31 by omega), nI_clamp (show k < 2 ^ 31 by omega), nI_1]
          rw [tfN_s, hc] at ih
          exact ih
  · skip
    refine ex_iload dX12_tonight_100 rfl ?_
    refine ex_iload dX12_tonight_102 rfl ?_
    refine ex_icmp_ge 188 dX12_tonight_104 (by decide) (fun h104 => ?_) (fun h104 => ?_)
    · skip
      exact kont
    · exact absurd (Int32.le_refl _) h104
set_option maxRecDepth 100000 in
set_option maxHeartbeats 4000000 in
theorem lm_ts {P : Option Value → Mem → Prop} {y z r : Int32} {n : Nat} (hn3 : 3 ≤ n) (vk : vp_in y 4) (vz : vp_in z 4) (hn16 : n ≤ 16) (hH : HmS I) (hS : SbS I) (hP : SpS I) (hh : ¬ I 207 y.toNatClampNeg = 0) (kont : Ex G mdX12_tonight 194 [some (.ref 200), some (.int y), some (.int z), some (.int r), some (.int (nI n)), some (.int (nI 3)), none] [] (mk (tsN I y.toNatClampNeg z.toNatClampNeg n 3) L t) 0 0 P) : Ex G mdX12_tonight 91 [some (.ref 200), some (.int y), some (.int z), some (.int r), some (.int (nI n)), some (.int (nI 0)), none] [] (mk (tsN I y.toNatClampNeg z.toNatClampNeg n 0) L t) 0 0 P := by
  refine loop_up (G := G) (d := mdX12_tonight) (pc := 91) (st := []) (uc := 0) (us := 0) (P := P) 3 (fun k => mk (tsN I y.toNatClampNeg z.toNatClampNeg n k) L t) (fun k => [some (.ref 200), some (.int y), some (.int z), some (.int r), some (.int (nI n)), some (.int (nI k)), none]) ?_ ?_ 0 (Nat.zero_le _)
  · intro k hk ih
    have hHk : HmS (tsN I y.toNatClampNeg z.toNatClampNeg n k) := HmS_of (tsN_off (by decide) (by decide) (by decide) (by decide) k) (tsN_off (by decide) (by decide) (by decide) (by decide) k) hH
    have hSk : SbS (tsN I y.toNatClampNeg z.toNatClampNeg n k) := SbS_of (tsN_off (by decide) (by decide) (by decide) (by decide) k) (tsN_off (by decide) (by decide) (by decide) (by decide) k) hS
    have hPk : SpS (tsN I y.toNatClampNeg z.toNatClampNeg n k) := SpS_of (tsN_off (by decide) (by decide) (by decide) (by decide) k) (tsN_off (by decide) (by decide) (by decide) (by decide) k) hP
    have gk : ¬ (tsN I y.toNatClampNeg z.toNatClampNeg n k) 207 y.toNatClampNeg = 0 := by rw [tsN_off (by decide) (by decide) (by decide) (by decide) k]; exact hh
    refine ex_iload dX12_tonight_91 rfl ?_
    refine ex_iconst (v := 3) dX12_tonight_93 (by decide) ?_
    refine ex_icmp_ge 194 dX12_tonight_94 (by decide) (fun h94 => ?_) (fun h94 => ?_)
    · exact absurd h94 (nI_ge hk (by decide))
    · skip
      refine ex_iconst (v := 0) dX12_tonight_97 (by decide) ?_
      refine st_i6 dX12_tonight_98 (by first | exact rfl | exact trivial) ?_
      by_cases c : (tsN I y.toNatClampNeg z.toNatClampNeg n k) 214 k = 0
      · refine ex_iload dX12_tonight_100 rfl ?_
        refine ex_iload dX12_tonight_102 rfl ?_
        refine ex_icmp_ge 188 dX12_tonight_104 (by decide) (fun h104 => ?_) (fun h104 => ?_)
        · exact absurd h104 (nI_ge (a := 0) (by omega) (by omega))
        · skip
          refine ex_aload_n dX12_tonight_107 rfl ?_
          refine g_12_20 dX12_tonight_108 rfl wf_X12_51 (by first | assumption | rfl) (show Rt _ 200 20 = some 214 from rfl) ?_
          refine ex_iload dX12_tonight_111 rfl ?_
          refine rx_zald dX12_tonight_113 (by first | assumption | rfl) (vp_in_nI hk (by decide)) ?_
          refine ex_if_eq 188 dX12_tonight_114 (by decide) (fun h114 => ?_) (fun h114 => ?_)
          · skip
            refine inc5 (v := _ + 1) dX12_tonight_188 (by rfl) (by first | exact rfl | exact trivial) ?_
            refine ex_goto 91 dX12_tonight_191 (by decide) ?_
            refine fg6 ?_
            rw [nI_1]
            rw [tsN_s, if_pos c] at ih
            exact ih
          · exact absurd (by rw [nI_clamp (by omega)]; exact c) h114
      · have key := lm_tf (G := G) (I := (tsN I y.toNatClampNeg z.toNatClampNeg n k)) (L := L) (t := t) (r := r) (P := P) hk vk vz hn16 hHk hSk hPk gk c ?_
        · rw [tfN_0] at key
          exact key
        · refine inc5 (v := _ + 1) dX12_tonight_188 (by rfl) (by first | exact rfl | exact trivial) ?_
          refine ex_goto 91 dX12_tonight_191 (by decide) ?_
          refine fg6 ?_
          rw [nI_1]
          rw [tsN_s, if_neg c] at ih
          exact ih
  · skip
    refine ex_iload dX12_tonight_91 rfl ?_
    refine ex_iconst (v := 3) dX12_tonight_93 (by decide) ?_
    refine ex_icmp_ge 194 dX12_tonight_94 (by decide) (fun h94 => ?_) (fun h94 => ?_)
    · skip
      exact kont
    · exact absurd (by decide : nI 3 ≤ nI 3) h94
def smN (I : Im) (k : Nat) : Int32 × Int32 :=
  match k with
  | 0 => (0, 0)
  | k + 1 => ((smN I k).1 + (if I 214 k = 0 then 0 else if I 220 (16 * k + (I 221 k).toNatClampNeg) = 0 then 0 else 1), (smN I k).2 + (if I 214 k = 0 then 0 else I 219 (16 * k + (I 221 k).toNatClampNeg)))
termination_by k
theorem smN_0 : smN I 0 = (0, 0) := by rw [smN]
theorem smN_s {k : Nat} : smN I (k + 1) = ((smN I k).1 + (if I 214 k = 0 then 0 else if I 220 (16 * k + (I 221 k).toNatClampNeg) = 0 then 0 else 1), (smN I k).2 + (if I 214 k = 0 then 0 else I 219 (16 * k + (I 221 k).toNatClampNeg))) := by rw [smN]
set_option maxRecDepth 100000 in
set_option maxHeartbeats 4000000 in
theorem lm_sm {P : Option Value → Mem → Prop} {n : Nat} {r b f l c : Int32} (hL : ∀ i, i < 3 → ∃ d, d < 16 ∧ I 221 i = nI d) (kont : Ex G mdX12_lie 162 [some (.ref 200), some (.int (nI n)), some (.int r), some (.int b), some (.int f), some (.int l), some (.int c), some (.int (smN I 3).1), some (.int (smN I 3).2), some (.int (nI 3))] [] (mk I L t) 0 0 P) : Ex G mdX12_lie 72 [some (.ref 200), some (.int (nI n)), some (.int r), some (.int b), some (.int f), some (.int l), some (.int c), some (.int (smN I 0).1), some (.int (smN I 0).2), some (.int (nI 0))] [] (mk I L t) 0 0 P := by
  refine loop_up (G := G) (d := mdX12_lie) (pc := 72) (st := []) (uc := 0) (us := 0) (P := P) 3 (fun k => mk I L t) (fun k => [some (.ref 200), some (.int (nI n)), some (.int r), some (.int b), some (.int f), some (.int l), some (.int c), some (.int (smN I k).1), some (.int (smN I k).2), some (.int (nI k))]) ?_ ?_ 0 (Nat.zero_le _)
  · intro k hk ih
    obtain ⟨d, hd, ed⟩ := hL k hk
    have ed2 : (I 221 k).toNatClampNeg = d := by rw [ed, nI_clamp (by omega)]
    refine ex_iload dX12_lie_72 rfl ?_
    refine ex_iconst (v := 3) dX12_lie_74 (by decide) ?_
    refine ex_icmp_ge 162 dX12_lie_75 (by decide) (fun h75 => ?_) (fun h75 => ?_)
    · exact absurd h75 (nI_ge hk (by decide))
    · skip
      refine ex_iload dX12_lie_78 rfl ?_
      refine ex_aload_n dX12_lie_80 rfl ?_
      refine g_12_20 dX12_lie_81 rfl wf_X12_51 (by first | assumption | rfl) (show Rt _ 200 20 = some 214 from rfl) ?_
      refine ex_iload dX12_lie_84 rfl ?_
      refine rx_zald dX12_lie_86 (by first | assumption | rfl) (vp_in_nI hk (by decide)) ?_
      rw [nI_clamp (show k < 2 ^ 31 by omega)]
      refine ex_if_eq 115 dX12_lie_87 (by decide) (fun h87 => ?_) (fun h87 => ?_)
      · have h1 : (if I 214 k = 0 then (0 : Int32) else if I 220 (16 * k + (I 221 k).toNatClampNeg) = 0 then 0 else 1) = 0 := by rw [if_pos h87]
        refine ex_iconst (v := 0) dX12_lie_115 (by decide) ?_
        refine ex_iadd dX12_lie_116 ?_
        refine st_i7 dX12_lie_117 (by first | exact rfl | exact trivial) ?_
        refine ex_iload dX12_lie_119 rfl ?_
        refine ex_aload_n dX12_lie_121 rfl ?_
        refine g_12_20 dX12_lie_122 rfl wf_X12_51 (by first | assumption | rfl) (show Rt _ 200 20 = some 214 from rfl) ?_
        refine ex_iload dX12_lie_125 rfl ?_
        refine rx_zald dX12_lie_127 (by first | assumption | rfl) (vp_in_nI hk (by decide)) ?_
        rw [nI_clamp (show k < 2 ^ 31 by omega)]
        refine ex_if_eq 152 dX12_lie_128 (by decide) (fun h128 => ?_) (fun h128 => ?_)
        · have h2 : (if I 214 k = 0 then (0 : Int32) else I 219 (16 * k + (I 221 k).toNatClampNeg)) = 0 := by rw [if_pos h128]
          refine ex_iconst (v := 0) dX12_lie_152 (by decide) ?_
          refine ex_iadd dX12_lie_153 ?_
          refine st_i8 dX12_lie_154 (by first | exact rfl | exact trivial) ?_
          refine inc9 (v := _ + 1) dX12_lie_156 (by rfl) (by first | exact rfl | exact trivial) ?_
          refine ex_goto 72 dX12_lie_159 (by decide) ?_
          rw [nI_1]
          rw [smN_s, h1, h2] at ih
          exact ih
        · have h2 : (if I 214 k = 0 then (0 : Int32) else I 219 (16 * k + (I 221 k).toNatClampNeg)) = I 219 (16 * k + d) := by rw [if_neg h128, ed2]
          refine ex_aload_n dX12_lie_131 rfl ?_
          refine g_12_34 dX12_lie_132 rfl wf_X12_66 (by first | assumption | rfl) (show Rt _ 200 34 = some 219 from rfl) ?_
          refine ex_bipush (v := 16) dX12_lie_135 (by decide) ?_
          refine ex_iload dX12_lie_137 rfl ?_
          refine ex_imul dX12_lie_139 ?_
          refine ex_aload_n dX12_lie_140 rfl ?_
          refine g_12_36 dX12_lie_141 rfl wf_X12_72 (by first | assumption | rfl) (show Rt _ 200 36 = some 221 from rfl) ?_
          refine ex_iload dX12_lie_144 rfl ?_
          refine rx_iald dX12_lie_146 (by first | assumption | rfl) (vp_in_nI hk (by decide)) ?_
          rw [nI_clamp (by omega), ed]
          refine ex_iadd dX12_lie_147 ?_
          refine rx_iald dX12_lie_148 (by first | assumption | rfl) (ixm (c := 16) (C := 16) (R := 3) rfl (vp_in_nI hk (by decide)) (vp_in_nI hd (by decide)) (by decide)).1 ?_
          rw [(ixm (c := 16) (C := 16) (R := 3) rfl (vp_in_nI hk (by decide)) (vp_in_nI hd (by decide)) (by decide)).2, nI_clamp (show k < 2 ^ 31 by omega), nI_clamp (show d < 2 ^ 31 by omega)]
          refine ex_goto 153 dX12_lie_149 (by decide) ?_
          refine ex_iadd dX12_lie_153 ?_
          refine st_i8 dX12_lie_154 (by first | exact rfl | exact trivial) ?_
          refine inc9 (v := _ + 1) dX12_lie_156 (by rfl) (by first | exact rfl | exact trivial) ?_
          refine ex_goto 72 dX12_lie_159 (by decide) ?_
          rw [nI_1]
          rw [smN_s, h1, h2] at ih
          exact ih
      · skip
        refine ex_aload_n dX12_lie_90 rfl ?_
        refine g_12_35 dX12_lie_91 rfl wf_X12_69 (by first | assumption | rfl) (show Rt _ 200 35 = some 220 from rfl) ?_
        refine ex_bipush (v := 16) dX12_lie_94 (by decide) ?_
        refine ex_iload dX12_lie_96 rfl ?_
        refine ex_imul dX12_lie_98 ?_
        refine ex_aload_n dX12_lie_99 rfl ?_
        refine g_12_36 dX12_lie_100 rfl wf_X12_72 (by first | assumption | rfl) (show Rt _ 200 36 = some 221 from rfl) ?_
        refine ex_iload dX12_lie_103 rfl ?_
        refine rx_iald dX12_lie_105 (by first | assumption | rfl) (vp_in_nI hk (by decide)) ?_
        rw [nI_clamp (by omega), ed]
        refine ex_iadd dX12_lie_106 ?_
        refine rx_zald dX12_lie_107 (by first | assumption | rfl) (ixm (c := 16) (C := 16) (R := 3) rfl (vp_in_nI hk (by decide)) (vp_in_nI hd (by decide)) (by decide)).1 ?_
        rw [(ixm (c := 16) (C := 16) (R := 3) rfl (vp_in_nI hk (by decide)) (vp_in_nI hd (by decide)) (by decide)).2, nI_clamp (show k < 2 ^ 31 by omega), nI_clamp (show d < 2 ^ 31 by omega)]
        refine ex_if_eq 115 dX12_lie_108 (by decide) (fun h108 => ?_) (fun h108 => ?_)
        · have h1 : (if I 214 k = 0 then (0 : Int32) else if I 220 (16 * k + (I 221 k).toNatClampNeg) = 0 then 0 else 1) = 0 := by rw [if_neg h87, ed2, if_pos h108]
          refine ex_iconst (v := 0) dX12_lie_115 (by decide) ?_
          refine ex_iadd dX12_lie_116 ?_
          refine st_i7 dX12_lie_117 (by first | exact rfl | exact trivial) ?_
          refine ex_iload dX12_lie_119 rfl ?_
          refine ex_aload_n dX12_lie_121 rfl ?_
          refine g_12_20 dX12_lie_122 rfl wf_X12_51 (by first | assumption | rfl) (show Rt _ 200 20 = some 214 from rfl) ?_
          refine ex_iload dX12_lie_125 rfl ?_
          refine rx_zald dX12_lie_127 (by first | assumption | rfl) (vp_in_nI hk (by decide)) ?_
          rw [nI_clamp (show k < 2 ^ 31 by omega)]
          refine ex_if_eq 152 dX12_lie_128 (by decide) (fun h128 => ?_) (fun h128 => ?_)
          · have h2 : (if I 214 k = 0 then (0 : Int32) else I 219 (16 * k + (I 221 k).toNatClampNeg)) = 0 := by rw [if_pos h128]
            refine ex_iconst (v := 0) dX12_lie_152 (by decide) ?_
            refine ex_iadd dX12_lie_153 ?_
            refine st_i8 dX12_lie_154 (by first | exact rfl | exact trivial) ?_
            refine inc9 (v := _ + 1) dX12_lie_156 (by rfl) (by first | exact rfl | exact trivial) ?_
            refine ex_goto 72 dX12_lie_159 (by decide) ?_
            rw [nI_1]
            rw [smN_s, h1, h2] at ih
            exact ih
          · have h2 : (if I 214 k = 0 then (0 : Int32) else I 219 (16 * k + (I 221 k).toNatClampNeg)) = I 219 (16 * k + d) := by rw [if_neg h128, ed2]
            refine ex_aload_n dX12_lie_131 rfl ?_
            refine g_12_34 dX12_lie_132 rfl wf_X12_66 (by first | assumption | rfl) (show Rt _ 200 34 = some 219 from rfl) ?_
            refine ex_bipush (v := 16) dX12_lie_135 (by decide) ?_
            refine ex_iload dX12_lie_137 rfl ?_
            refine ex_imul dX12_lie_139 ?_
            refine ex_aload_n dX12_lie_140 rfl ?_
            refine g_12_36 dX12_lie_141 rfl wf_X12_72 (by first | assumption | rfl) (show Rt _ 200 36 = some 221 from rfl) ?_
            refine ex_iload dX12_lie_144 rfl ?_
            refine rx_iald dX12_lie_146 (by first | assumption | rfl) (vp_in_nI hk (by decide)) ?_
            rw [nI_clamp (by omega), ed]
            refine ex_iadd dX12_lie_147 ?_
            refine rx_iald dX12_lie_148 (by first | assumption | rfl) (ixm (c := 16) (C := 16) (R := 3) rfl (vp_in_nI hk (by decide)) (vp_in_nI hd (by decide)) (by decide)).1 ?_
            rw [(ixm (c := 16) (C := 16) (R := 3) rfl (vp_in_nI hk (by decide)) (vp_in_nI hd (by decide)) (by decide)).2, nI_clamp (show k < 2 ^ 31 by omega), nI_clamp (show d < 2 ^ 31 by omega)]
            refine ex_goto 153 dX12_lie_149 (by decide) ?_
            refine ex_iadd dX12_lie_153 ?_
            refine st_i8 dX12_lie_154 (by first | exact rfl | exact trivial) ?_
            refine inc9 (v := _ + 1) dX12_lie_156 (by rfl) (by first | exact rfl | exact trivial) ?_
            refine ex_goto 72 dX12_lie_159 (by decide) ?_
            rw [nI_1]
            rw [smN_s, h1, h2] at ih
            exact ih
        · have h1 : (if I 214 k = 0 then (0 : Int32) else if I 220 (16 * k + (I 221 k).toNatClampNeg) = 0 then 0 else 1) = 1 := by rw [if_neg h87, ed2, if_neg h108]
          refine ex_iconst (v := 1) dX12_lie_111 (by decide) ?_
          refine ex_goto 116 dX12_lie_112 (by decide) ?_
          refine ex_iadd dX12_lie_116 ?_
          refine st_i7 dX12_lie_117 (by first | exact rfl | exact trivial) ?_
          refine ex_iload dX12_lie_119 rfl ?_
          refine ex_aload_n dX12_lie_121 rfl ?_
          refine g_12_20 dX12_lie_122 rfl wf_X12_51 (by first | assumption | rfl) (show Rt _ 200 20 = some 214 from rfl) ?_
          refine ex_iload dX12_lie_125 rfl ?_
          refine rx_zald dX12_lie_127 (by first | assumption | rfl) (vp_in_nI hk (by decide)) ?_
          rw [nI_clamp (show k < 2 ^ 31 by omega)]
          refine ex_if_eq 152 dX12_lie_128 (by decide) (fun h128 => ?_) (fun h128 => ?_)
          · have h2 : (if I 214 k = 0 then (0 : Int32) else I 219 (16 * k + (I 221 k).toNatClampNeg)) = 0 := by rw [if_pos h128]
            refine ex_iconst (v := 0) dX12_lie_152 (by decide) ?_
            refine ex_iadd dX12_lie_153 ?_
            refine st_i8 dX12_lie_154 (by first | exact rfl | exact trivial) ?_
            refine inc9 (v := _ + 1) dX12_lie_156 (by rfl) (by first | exact rfl | exact trivial) ?_
            refine ex_goto 72 dX12_lie_159 (by decide) ?_
            rw [nI_1]
            rw [smN_s, h1, h2] at ih
            exact ih
          · have h2 : (if I 214 k = 0 then (0 : Int32) else I 219 (16 * k + (I 221 k).toNatClampNeg)) = I 219 (16 * k + d) := by rw [if_neg h128, ed2]
            refine ex_aload_n dX12_lie_131 rfl ?_
            refine g_12_34 dX12_lie_132 rfl wf_X12_66 (by first | assumption | rfl) (show Rt _ 200 34 = some 219 from rfl) ?_
            refine ex_bipush (v := 16) dX12_lie_135 (by decide) ?_
            refine ex_iload dX12_lie_137 rfl ?_
            refine ex_imul dX12_lie_139 ?_
            refine ex_aload_n dX12_lie_140 rfl ?_
            refine g_12_36 dX12_lie_141 rfl wf_X12_72 (by first | assumption | rfl) (show Rt _ 200 36 = some 221 from rfl) ?_
            refine ex_iload dX12_lie_144 rfl ?_
            refine rx_iald dX12_lie_146 (by first | assumption | rfl) (vp_in_nI hk (by decide)) ?_
            rw [nI_clamp (by omega), ed]
            refine ex_iadd dX12_lie_147 ?_
            refine rx_iald dX12_lie_148 (by first | assumption | rfl) (ixm (c := 16) (C := 16) (R := 3) rfl (vp_in_nI hk (by decide)) (vp_in_nI hd (by decide)) (by decide)).1 ?_
            rw [(ixm (c := 16) (C := 16) (R := 3) rfl (vp_in_nI hk (by decide)) (vp_in_nI hd (by decide)) (by decide)).2, nI_clamp (show k < 2 ^ 31 by omega), nI_clamp (show d < 2 ^ 31 by omega)]
            refine ex_goto 153 dX12_lie_149 (by decide) ?_
            refine ex_iadd dX12_lie_153 ?_
            refine st_i8 dX12_lie_154 (by first | exact rfl | exact trivial) ?_
            refine inc9 (v := _ + 1) dX12_lie_156 (by rfl) (by first | exact rfl | exact trivial) ?_
            refine ex_goto 72 dX12_lie_159 (by decide) ?_
            rw [nI_1]
            rw [smN_s, h1, h2] at ih
            exact ih
  · skip
    refine ex_iload dX12_lie_72 rfl ?_
    refine ex_iconst (v := 3) dX12_lie_74 (by decide) ?_
    refine ex_icmp_ge 162 dX12_lie_75 (by decide) (fun h75 => ?_) (fun h75 => ?_)
    · skip
      exact kont
    · exact absurd (by decide : nI 3 ≤ nI 3) h75
def li3 (M : Im) (n k : Nat) : Im := up2 (up2 (up2 M 221 0 (nI (k / (n * n)))) 221 1 (nI (k / n % n))) 221 2 (nI (k % n))
theorem li3_off {M : Im} {n k e : Nat} (h : e ≠ 221) : li3 M n k e = M e := by
  unfold li3
  rw [up2_off h, up2_off h, up2_off h]
theorem li3_0 {M : Im} {n k : Nat} : li3 M n k 221 0 = nI (k / (n * n)) := by
  unfold li3
  rw [u2_j (by decide), u2_j (by decide), u2_s]
theorem li3_1 {M : Im} {n k : Nat} : li3 M n k 221 1 = nI (k / n % n) := by
  unfold li3
  rw [u2_j (by decide), u2_s]
theorem li3_2 {M : Im} {n k : Nat} : li3 M n k 221 2 = nI (k % n) := by
  unfold li3
  rw [u2_s]
theorem li3_L {M : Im} {n k : Nat} (hn3 : 3 ≤ n) (hn : n ≤ 16) (hk : k < n * n * n) : ∀ i, i < 3 → ∃ d, d < 16 ∧ li3 M n k 221 i = nI d := by
  intro i hi
  rcases (by omega : i = 0 ∨ i = 1 ∨ i = 2) with rfl | rfl | rfl
  · refine ⟨_, ?_, li3_0⟩
    have : k / (n * n) < n := Nat.div_lt_of_lt_mul hk
    omega
  · refine ⟨_, ?_, li3_1⟩
    have := Nat.mod_lt (k / n) (show n > 0 by omega)
    omega
  · refine ⟨_, ?_, li3_2⟩
    have := Nat.mod_lt k (show n > 0 by omega)
    omega
def liN (I : Im) (n k : Nat) : Int32 × Int32 × Int32 × Im :=
  match k with
  | 0 => (-9, 0, 0, I)
  | k + 1 => if apN (li3 (liN I n k).2.2.2 n k) 3 = 0 then ((liN I n k).1, (liN I n k).2.1, (liN I n k).2.2.1, (li3 (liN I n k).2.2.2 n k)) else if (liN I n k).1 = -9 ∨ (smN (li3 (liN I n k).2.2.2 n k) 3).1 < (liN I n k).2.1 ∨ ((smN (li3 (liN I n k).2.2.2 n k) 3).1 = (liN I n k).2.1 ∧ (smN (li3 (liN I n k).2.2.2 n k) 3).2 < (liN I n k).2.2.1) then (nI k, (smN (li3 (liN I n k).2.2.2 n k) 3).1, (smN (li3 (liN I n k).2.2.2 n k) 3).2, (li3 (liN I n k).2.2.2 n k)) else ((liN I n k).1, (liN I n k).2.1, (liN I n k).2.2.1, (li3 (liN I n k).2.2.2 n k))
termination_by k
theorem liN_0 {n : Nat} : liN I n 0 = (-9, 0, 0, I) := by rw [liN]
theorem liN_s {n k : Nat} : liN I n (k + 1) = if apN (li3 (liN I n k).2.2.2 n k) 3 = 0 then ((liN I n k).1, (liN I n k).2.1, (liN I n k).2.2.1, (li3 (liN I n k).2.2.2 n k)) else if (liN I n k).1 = -9 ∨ (smN (li3 (liN I n k).2.2.2 n k) 3).1 < (liN I n k).2.1 ∨ ((smN (li3 (liN I n k).2.2.2 n k) 3).1 = (liN I n k).2.1 ∧ (smN (li3 (liN I n k).2.2.2 n k) 3).2 < (liN I n k).2.2.1) then (nI k, (smN (li3 (liN I n k).2.2.2 n k) 3).1, (smN (li3 (liN I n k).2.2.2 n k) 3).2, (li3 (liN I n k).2.2.2 n k)) else ((liN I n k).1, (liN I n k).2.1, (liN I n k).2.2.1, (li3 (liN I n k).2.2.2 n k)) := by rw [liN]
theorem liN_off {n e : Nat} (h : e ≠ 221) : ∀ k, (liN I n k).2.2.2 e = I e := by
  intro k
  induction k with
  | zero => rw [liN_0]
  | succ k ih =>
    rw [liN_s]
    split
    · exact (li3_off h).trans ih
    · split
      · exact (li3_off h).trans ih
      · exact (li3_off h).trans ih
theorem n3_le {n : Nat} (hn : n ≤ 16) : n * n * n ≤ 4096 := Nat.le_trans (Nat.mul_le_mul (Nat.mul_le_mul hn hn) hn) (by decide)
set_option maxRecDepth 100000 in
set_option maxHeartbeats 4000000 in
theorem lm_lie {P : Option Value → Mem → Prop} {n : Nat} {r : Int32} (hn3 : 3 ≤ n) (hn16 : n ≤ 16) (kont : Ex G mdX12_lie 206 [some (.ref 200), some (.int (nI n)), some (.int r), some (.int (liN I n (n * n * n)).1), some (.int (liN I n (n * n * n)).2.1), some (.int (liN I n (n * n * n)).2.2.1), some (.int (nI (n * n * n))), none, none, none] [] (mk (liN I n (n * n * n)).2.2.2 L t) 0 0 P) : Ex G mdX12_lie 12 [some (.ref 200), some (.int (nI n)), some (.int r), some (.int (liN I n 0).1), some (.int (liN I n 0).2.1), some (.int (liN I n 0).2.2.1), some (.int (nI 0)), none, none, none] [] (mk (liN I n 0).2.2.2 L t) 0 0 P := by
  refine loop_up (G := G) (d := mdX12_lie) (pc := 12) (st := []) (uc := 0) (us := 0) (P := P) (n * n * n) (fun k => mk (liN I n k).2.2.2 L t) (fun k => [some (.ref 200), some (.int (nI n)), some (.int r), some (.int (liN I n k).1), some (.int (liN I n k).2.1), some (.int (liN I n k).2.2.1), some (.int (nI k)), none, none, none]) ?_ ?_ 0 (Nat.zero_le _)
  · intro k hk ih
    have h4 := n3_le hn16
    have hnn : n * n ≤ 256 := Nat.le_trans (Nat.mul_le_mul hn16 hn16) (by decide)
    have hnp : 0 < n * n := Nat.mul_pos (by omega) (by omega)
    have e3 : nI n * nI n * nI n = nI (n * n * n) := by rw [pk_mul, pk_mul]
    have eq1 : nI k / (nI n * nI n) = nI (k / (n * n)) := by rw [pk_mul, pk_div (by omega) hnp (by omega)]
    have eq2 : nI k / nI n - nI k / nI n / nI n * nI n = nI (k / n % n) := by rw [pk_div (by omega) (by omega) (by omega), pk_rem (Nat.lt_of_le_of_lt (Nat.div_le_self _ _) (by omega)) (by omega) (by omega)]
    have eq3 : nI k - nI k / nI n * nI n = nI (k % n) := by rw [pk_rem (by omega) (by omega) (by omega)]
    refine ex_iload dX12_lie_12 rfl ?_
    refine ex_iload_n dX12_lie_14 rfl ?_
    refine ex_iload_n dX12_lie_15 rfl ?_
    refine ex_imul dX12_lie_16 ?_
    refine ex_iload_n dX12_lie_17 rfl ?_
    refine ex_imul dX12_lie_18 ?_
    rw [e3]
    refine ex_icmp_ge 206 dX12_lie_19 (by decide) (fun h19 => ?_) (fun h19 => ?_)
    · exact absurd h19 (nI_ge hk (by omega))
    · skip
      refine ex_aload_n dX12_lie_22 rfl ?_
      refine g_12_36 dX12_lie_23 rfl wf_X12_72 (by first | assumption | rfl) (show Rt _ 200 36 = some 221 from rfl) ?_
      refine ex_iconst (v := 0) dX12_lie_26 (by decide) ?_
      refine ex_iload dX12_lie_27 rfl ?_
      refine ex_iload_n dX12_lie_29 rfl ?_
      refine ex_iload_n dX12_lie_30 rfl ?_
      refine ex_imul dX12_lie_31 ?_
      refine ex_idiv dX12_lie_32 (by rw [pk_mul]; exact nI_ne0 hnp (by omega)) ?_
      refine rx_iast dX12_lie_33 (by first | assumption | rfl) (by first | assumption | (unfold vp_in; decide)) ?_
      refine ex_aload_n dX12_lie_34 rfl ?_
      refine g_12_36 dX12_lie_35 rfl wf_X12_72 (by first | assumption | rfl) (show Rt _ 200 36 = some 221 from rfl) ?_
      refine ex_iconst (v := 1) dX12_lie_38 (by decide) ?_
      refine ex_iload dX12_lie_39 rfl ?_
      refine ex_iload_n dX12_lie_41 rfl ?_
      refine ex_idiv dX12_lie_42 (nI_ne0 (by omega) (by omega)) ?_
      refine ex_iload_n dX12_lie_43 rfl ?_
      refine ex_irem dX12_lie_44 (nI_ne0 (by omega) (by omega)) ?_
      refine rx_iast dX12_lie_45 (by first | assumption | rfl) (by first | assumption | (unfold vp_in; decide)) ?_
      refine ex_aload_n dX12_lie_46 rfl ?_
      refine g_12_36 dX12_lie_47 rfl wf_X12_72 (by first | assumption | rfl) (show Rt _ 200 36 = some 221 from rfl) ?_
      refine ex_iconst (v := 2) dX12_lie_50 (by decide) ?_
      refine ex_iload dX12_lie_51 rfl ?_
      refine ex_iload_n dX12_lie_53 rfl ?_
      refine ex_irem dX12_lie_54 (nI_ne0 (by omega) (by omega)) ?_
      refine rx_iast dX12_lie_55 (by first | assumption | rfl) (by first | assumption | (unfold vp_in; decide)) ?_
      rw [eq1, eq2, eq3, show up2 (up2 (up2 (liN I n k).2.2.2 221 (0 : Int32).toNatClampNeg (nI (k / (n * n)))) 221 (1 : Int32).toNatClampNeg (nI (k / n % n))) 221 (2 : Int32).toNatClampNeg (nI (k % n)) = (li3 (liN I n k).2.2.2 n k) from rfl]
      refine ex_aload_n dX12_lie_56 rfl ?_
      refine rx_cV (kd := 12) dX12_lie_57 rfl lk_X12_334 rfl (by decide) (by first | assumption | rfl) ⟨⟨rfl, rfl⟩, by decide, by decide⟩ rfl (Nat.le_of_ble_eq_true rfl) rfl s_X12_areApart (Rs.k ?_)
      refine ex_if_eq 200 dX12_lie_60 (by decide) (fun h60 => ?_) (fun h60 => ?_)
      · have hc : liN I n (k + 1) = ((liN I n k).1, (liN I n k).2.1, (liN I n k).2.2.1, (li3 (liN I n k).2.2.2 n k)) := liN_s.trans (if_pos h60)
        refine inc6 (v := _ + 1) dX12_lie_200 (by rfl) (by first | exact rfl | exact trivial) ?_
        refine ex_goto 12 dX12_lie_203 (by decide) ?_
        refine fg7 (fg8 (fg9 ?_))
        rw [nI_1]
        rw [hc] at ih
        exact ih
      · skip
        refine ex_iconst (v := 0) dX12_lie_63 (by decide) ?_
        refine st_i7 dX12_lie_64 (by first | exact rfl | exact trivial) ?_
        refine ex_iconst (v := 0) dX12_lie_66 (by decide) ?_
        refine st_i8 dX12_lie_67 (by first | exact rfl | exact trivial) ?_
        refine ex_iconst (v := 0) dX12_lie_69 (by decide) ?_
        refine st_i9 dX12_lie_70 (by first | exact rfl | exact trivial) ?_
        have key := lm_sm (G := G) (I := (li3 (liN I n k).2.2.2 n k)) (L := L) (t := t) (n := n) (r := r) (b := (liN I n k).1) (f := (liN I n k).2.1) (l := (liN I n k).2.2.1) (c := nI k) (P := P) (li3_L hn3 hn16 hk) ?_
        · rw [smN_0] at key
          exact key
        refine ex_iload_n dX12_lie_162 rfl ?_
        refine ex_bipush (v := (-9)) dX12_lie_163 (by decide) ?_
        refine ex_icmp_eq 189 dX12_lie_165 (by decide) (fun h165 => ?_) (fun h165 => ?_)
        · have hc : liN I n (k + 1) = (nI k, (smN (li3 (liN I n k).2.2.2 n k) 3).1, (smN (li3 (liN I n k).2.2.2 n k) 3).2, (li3 (liN I n k).2.2.2 n k)) := liN_s.trans ((if_neg h60).trans (if_pos (Or.inl h165)))
          refine ex_iload dX12_lie_189 rfl ?_
          refine st_i3 dX12_lie_191 (by first | exact rfl | exact trivial) ?_
          refine ex_iload dX12_lie_192 rfl ?_
          refine st_i4 dX12_lie_194 (by first | exact rfl | exact trivial) ?_
          refine ex_iload dX12_lie_196 rfl ?_
          refine st_i5 dX12_lie_198 (by first | exact rfl | exact trivial) ?_
          refine inc6 (v := _ + 1) dX12_lie_200 (by rfl) (by first | exact rfl | exact trivial) ?_
          refine ex_goto 12 dX12_lie_203 (by decide) ?_
          refine fg7 (fg8 (fg9 ?_))
          rw [nI_1]
          rw [hc] at ih
          exact ih
        · skip
          refine ex_iload dX12_lie_168 rfl ?_
          refine ex_iload dX12_lie_170 rfl ?_
          refine ex_icmp_lt 189 dX12_lie_172 (by decide) (fun h172 => ?_) (fun h172 => ?_)
          · have hc : liN I n (k + 1) = (nI k, (smN (li3 (liN I n k).2.2.2 n k) 3).1, (smN (li3 (liN I n k).2.2.2 n k) 3).2, (li3 (liN I n k).2.2.2 n k)) := liN_s.trans ((if_neg h60).trans (if_pos (Or.inr (Or.inl h172))))
            refine ex_iload dX12_lie_189 rfl ?_
            refine st_i3 dX12_lie_191 (by first | exact rfl | exact trivial) ?_
            refine ex_iload dX12_lie_192 rfl ?_
            refine st_i4 dX12_lie_194 (by first | exact rfl | exact trivial) ?_
            refine ex_iload dX12_lie_196 rfl ?_
            refine st_i5 dX12_lie_198 (by first | exact rfl | exact trivial) ?_
            refine inc6 (v := _ + 1) dX12_lie_200 (by rfl) (by first | exact rfl | exact trivial) ?_
            refine ex_goto 12 dX12_lie_203 (by decide) ?_
            refine fg7 (fg8 (fg9 ?_))
            rw [nI_1]
            rw [hc] at ih
            exact ih
          · skip
            refine ex_iload dX12_lie_175 rfl ?_
            refine ex_iload dX12_lie_177 rfl ?_
            refine ex_icmp_ne 200 dX12_lie_179 (by decide) (fun h179 => ?_) (fun h179 => ?_)
            · have hc : liN I n (k + 1) = ((liN I n k).1, (liN I n k).2.1, (liN I n k).2.2.1, (li3 (liN I n k).2.2.2 n k)) := liN_s.trans ((if_neg h60).trans (if_neg (fun z => z.elim h165 (fun y => y.elim (fun y => absurd y h172) (fun y => h179 y.1)))))
              refine inc6 (v := _ + 1) dX12_lie_200 (by rfl) (by first | exact rfl | exact trivial) ?_
              refine ex_goto 12 dX12_lie_203 (by decide) ?_
              refine fg7 (fg8 (fg9 ?_))
              rw [nI_1]
              rw [hc] at ih
              exact ih
            · skip
              refine ex_iload dX12_lie_182 rfl ?_
              refine ex_iload dX12_lie_184 rfl ?_
              refine ex_icmp_ge 200 dX12_lie_186 (by decide) (fun h186 => ?_) (fun h186 => ?_)
              · have hc : liN I n (k + 1) = ((liN I n k).1, (liN I n k).2.1, (liN I n k).2.2.1, (li3 (liN I n k).2.2.2 n k)) := liN_s.trans ((if_neg h60).trans (if_neg (fun z => z.elim h165 (fun y => y.elim (fun y => absurd y h172) (fun y => absurd y.2 (Int32.not_lt.mpr h186))))))
                refine inc6 (v := _ + 1) dX12_lie_200 (by rfl) (by first | exact rfl | exact trivial) ?_
                refine ex_goto 12 dX12_lie_203 (by decide) ?_
                refine fg7 (fg8 (fg9 ?_))
                rw [nI_1]
                rw [hc] at ih
                exact ih
              · have hc : liN I n (k + 1) = (nI k, (smN (li3 (liN I n k).2.2.2 n k) 3).1, (smN (li3 (liN I n k).2.2.2 n k) 3).2, (li3 (liN I n k).2.2.2 n k)) := liN_s.trans ((if_neg h60).trans (if_pos (Or.inr (Or.inr ⟨h179, Int32.not_le.mp h186⟩))))
                refine ex_iload dX12_lie_189 rfl ?_
                refine st_i3 dX12_lie_191 (by first | exact rfl | exact trivial) ?_
                refine ex_iload dX12_lie_192 rfl ?_
                refine st_i4 dX12_lie_194 (by first | exact rfl | exact trivial) ?_
                refine ex_iload dX12_lie_196 rfl ?_
                refine st_i5 dX12_lie_198 (by first | exact rfl | exact trivial) ?_
                refine inc6 (v := _ + 1) dX12_lie_200 (by rfl) (by first | exact rfl | exact trivial) ?_
                refine ex_goto 12 dX12_lie_203 (by decide) ?_
                refine fg7 (fg8 (fg9 ?_))
                rw [nI_1]
                rw [hc] at ih
                exact ih
  · skip
    refine ex_iload dX12_lie_12 rfl ?_
    refine ex_iload_n dX12_lie_14 rfl ?_
    refine ex_iload_n dX12_lie_15 rfl ?_
    refine ex_imul dX12_lie_16 ?_
    refine ex_iload_n dX12_lie_17 rfl ?_
    refine ex_imul dX12_lie_18 ?_
    rw [show nI n * nI n * nI n = nI (n * n * n) by rw [pk_mul, pk_mul]]
    refine ex_icmp_ge 206 dX12_lie_19 (by decide) (fun h19 => ?_) (fun h19 => ?_)
    · skip
      exact kont
    · exact absurd (Int32.le_refl _) h19
set_option maxRecDepth 100000 in
set_option maxHeartbeats 4000000 in
theorem lm_lz {P : Option Value → Mem → Prop} {n : Nat} {r b f l c : Int32} (vr : vp_in r 6) (kont : Ex G mdX12_lie 269 [some (.ref 200), some (.int (nI n)), some (.int r), some (.int b), some (.int f), some (.int l), some (.int c), some (.int (nI 60)), none, none] [] (mk (flw I 203 (60 * r.toNatClampNeg) 60 (fun _ => 0)) L t) 0 0 P) : Ex G mdX12_lie 243 [some (.ref 200), some (.int (nI n)), some (.int r), some (.int b), some (.int f), some (.int l), some (.int c), some (.int (nI 0)), none, none] [] (mk (flw I 203 (60 * r.toNatClampNeg) 0 (fun _ => 0)) L t) 0 0 P := by
  refine loop_up (G := G) (d := mdX12_lie) (pc := 243) (st := []) (uc := 0) (us := 0) (P := P) 60 (fun k => mk (flw I 203 (60 * r.toNatClampNeg) k (fun _ => 0)) L t) (fun k => [some (.ref 200), some (.int (nI n)), some (.int r), some (.int b), some (.int f), some (.int l), some (.int c), some (.int (nI k)), none, none]) ?_ ?_ 0 (Nat.zero_le _)
  · intro k hk ih
    refine ex_iload dX12_lie_243 rfl ?_
    refine ex_bipush (v := 60) dX12_lie_245 (by decide) ?_
    refine ex_icmp_ge 269 dX12_lie_247 (by decide) (fun h247 => ?_) (fun h247 => ?_)
    · exact absurd h247 (nI_ge hk (by decide))
    · skip
      refine ex_aload_n dX12_lie_250 rfl ?_
      refine g_12_6 dX12_lie_251 rfl wf_X12_16 (by first | assumption | rfl) (show Rt _ 200 6 = some 203 from rfl) ?_
      refine ex_bipush (v := 60) dX12_lie_254 (by decide) ?_
      refine ex_iload_n dX12_lie_256 rfl ?_
      refine ex_imul dX12_lie_257 ?_
      refine ex_iload dX12_lie_258 rfl ?_
      refine ex_iadd dX12_lie_260 ?_
      refine ex_iconst (v := 0) dX12_lie_261 (by decide) ?_
      refine rx_iast dX12_lie_262 (by first | assumption | rfl) (ixm (c := 60) (C := 60) (R := 6) rfl vr (vp_in_nI hk (by decide)) (by decide)).1 ?_
      refine inc7 (v := _ + 1) dX12_lie_263 (by rfl) (by first | exact rfl | exact trivial) ?_
      refine ex_goto 243 dX12_lie_266 (by decide) ?_
      rw [(ixm (c := 60) (C := 60) (R := 6) rfl vr (vp_in_nI hk (by decide)) (by decide)).2, nI_clamp (by omega), nI_1]
      rw [← flw_s] at ih
      exact ih
  · skip
    refine ex_iload dX12_lie_243 rfl ?_
    refine ex_bipush (v := 60) dX12_lie_245 (by decide) ?_
    refine ex_icmp_ge 269 dX12_lie_247 (by decide) (fun h247 => ?_) (fun h247 => ?_)
    · skip
      exact kont
    · exact absurd (by decide : nI 60 ≤ nI 60) h247
def rsN (I : Im) (r k : Nat) : Nat × Im :=
  match k with
  | 0 => (0, I)
  | k + 1 => if (rsN I r k).2 214 k = 0 then rsN I r k else ((rsN I r k).1 + 1, up2 (rsN I r k).2 203 (60 * r + (rsN I r k).1) ((rsN I r k).2 221 k))
termination_by k
theorem rsN_0 {r : Nat} : rsN I r 0 = (0, I) := by rw [rsN]
theorem rsN_s {r k : Nat} : rsN I r (k + 1) = if (rsN I r k).2 214 k = 0 then rsN I r k else ((rsN I r k).1 + 1, up2 (rsN I r k).2 203 (60 * r + (rsN I r k).1) ((rsN I r k).2 221 k)) := by rw [rsN]
theorem rsN_le {r : Nat} : ∀ k, (rsN I r k).1 ≤ k := by
  intro k
  induction k with
  | zero => rw [rsN_0]; exact Nat.le_refl 0
  | succ k ih =>
    rw [rsN_s]
    split
    · omega
    · dsimp only
      omega
theorem rsN_off {r e : Nat} (h : e ≠ 203) : ∀ k, (rsN I r k).2 e = I e := by
  intro k
  induction k with
  | zero => rw [rsN_0]
  | succ k ih =>
    rw [rsN_s]
    split
    · exact ih
    · exact (up2_off h).trans ih
set_option maxRecDepth 100000 in
set_option maxHeartbeats 4000000 in
theorem lm_lr {P : Option Value → Mem → Prop} {n : Nat} {r b f l : Int32} (vr : vp_in r 6) (kont : Ex G mdX12_lie 316 [some (.ref 200), some (.int (nI n)), some (.int r), some (.int b), some (.int f), some (.int l), some (.int (nI (rsN I r.toNatClampNeg 3).1)), some (.int (nI 3)), none, none] [] (mk (rsN I r.toNatClampNeg 3).2 L t) 0 0 P) : Ex G mdX12_lie 272 [some (.ref 200), some (.int (nI n)), some (.int r), some (.int b), some (.int f), some (.int l), some (.int (nI (rsN I r.toNatClampNeg 0).1)), some (.int (nI 0)), none, none] [] (mk (rsN I r.toNatClampNeg 0).2 L t) 0 0 P := by
  refine loop_up (G := G) (d := mdX12_lie) (pc := 272) (st := []) (uc := 0) (us := 0) (P := P) 3 (fun k => mk (rsN I r.toNatClampNeg k).2 L t) (fun k => [some (.ref 200), some (.int (nI n)), some (.int r), some (.int b), some (.int f), some (.int l), some (.int (nI (rsN I r.toNatClampNeg k).1)), some (.int (nI k)), none, none]) ?_ ?_ 0 (Nat.zero_le _)
  · intro k hk ih
    have hl := rsN_le (I := I) (r := r.toNatClampNeg) k
    refine ex_iload dX12_lie_272 rfl ?_
    refine ex_iconst (v := 3) dX12_lie_274 (by decide) ?_
    refine ex_icmp_ge 316 dX12_lie_275 (by decide) (fun h275 => ?_) (fun h275 => ?_)
    · exact absurd h275 (nI_ge hk (by decide))
    · skip
      refine ex_aload_n dX12_lie_278 rfl ?_
      refine g_12_20 dX12_lie_279 rfl wf_X12_51 (by first | assumption | rfl) (show Rt _ 200 20 = some 214 from rfl) ?_
      refine ex_iload dX12_lie_282 rfl ?_
      refine rx_zald dX12_lie_284 (by first | assumption | rfl) (vp_in_nI hk (by decide)) ?_
      rw [nI_clamp (by omega)]
      refine ex_if_eq 310 dX12_lie_285 (by decide) (fun h285 => ?_) (fun h285 => ?_)
      · have hc : rsN I r.toNatClampNeg (k + 1) = (rsN I r.toNatClampNeg k) := rsN_s.trans (if_pos h285)
        refine inc7 (v := _ + 1) dX12_lie_310 (by rfl) (by first | exact rfl | exact trivial) ?_
        refine ex_goto 272 dX12_lie_313 (by decide) ?_
        simp only [nI_1]
        rw [hc] at ih
        exact ih
      · have hc : rsN I r.toNatClampNeg (k + 1) = ((rsN I r.toNatClampNeg k).1 + 1, up2 (rsN I r.toNatClampNeg k).2 203 (60 * r.toNatClampNeg + (rsN I r.toNatClampNeg k).1) ((rsN I r.toNatClampNeg k).2 221 k)) := rsN_s.trans (if_neg h285)
        refine ex_aload_n dX12_lie_288 rfl ?_
        refine g_12_6 dX12_lie_289 rfl wf_X12_16 (by first | assumption | rfl) (show Rt _ 200 6 = some 203 from rfl) ?_
        refine ex_bipush (v := 60) dX12_lie_292 (by decide) ?_
        refine ex_iload_n dX12_lie_294 rfl ?_
        refine ex_imul dX12_lie_295 ?_
        refine ex_iload dX12_lie_296 rfl ?_
        refine ex_iadd dX12_lie_298 ?_
        refine ex_aload_n dX12_lie_299 rfl ?_
        refine g_12_36 dX12_lie_300 rfl wf_X12_72 (by first | assumption | rfl) (show Rt _ 200 36 = some 221 from rfl) ?_
        refine ex_iload dX12_lie_303 rfl ?_
        refine rx_iald dX12_lie_305 (by first | assumption | rfl) (vp_in_nI hk (by decide)) ?_
        rw [nI_clamp (show k < 2 ^ 31 by omega)]
        refine rx_iast dX12_lie_306 (by first | assumption | rfl) (ixm (c := 60) (C := 60) (R := 6) rfl vr (vp_in_nI (show (rsN I r.toNatClampNeg k).1 < 60 by omega) (by decide)) (by decide)).1 ?_
        rw [(ixm (c := 60) (C := 60) (R := 6) rfl vr (vp_in_nI (show (rsN I r.toNatClampNeg k).1 < 60 by omega) (by decide)) (by decide)).2, nI_clamp (show (rsN I r.toNatClampNeg k).1 < 2 ^ 31 by omega)]
        refine inc6 (v := _ + 1) dX12_lie_307 (by rfl) (by first | exact rfl | exact trivial) ?_
        refine inc7 (v := _ + 1) dX12_lie_310 (by rfl) (by first | exact rfl | exact trivial) ?_
        refine ex_goto 272 dX12_lie_313 (by decide) ?_
        simp only [nI_1]
        rw [hc] at ih
        exact ih
  · skip
    refine ex_iload dX12_lie_272 rfl ?_
    refine ex_iconst (v := 3) dX12_lie_274 (by decide) ?_
    refine ex_icmp_ge 316 dX12_lie_275 (by decide) (fun h275 => ?_) (fun h275 => ?_)
    · skip
      exact kont
    · exact absurd (by decide : nI 3 ≤ nI 3) h275
def lib (M : Im) (w b : Int32) : Im := up2 (up2 (up2 M 221 0 (b / (w * w))) 221 1 (b / w - b / w / w * w)) 221 2 (b - b / w * w)
def liE (I : Im) (n : Nat) : Int32 × Int32 × Int32 × Im := liN I n (n * n * n)
def liR (I : Im) (n r : Nat) : Nat × Im := rsN (flw (lib (liE I n).2.2.2 (nI n) (liE I n).1) 203 (60 * r) 60 (fun _ => 0)) r 3
def liI (I : Im) (n r : Nat) : Im := up2 (up2 (liR I n r).2 202 r (nI (liR I n r).1)) 200 2 (liE I n).2.2.1
set_option maxRecDepth 100000 in
set_option maxHeartbeats 4000000 in
theorem s_X12_lie {n : Nat} {r : Int32} (hn3 : 3 ≤ n) (hn16 : n ≤ 16) (vr : vp_in r 6) : Ca G mdX12_lie [.ref 200, .int (nI n), .int r] (mk I L t) (Rs (.int (liE I n).2.1) (mk (liI I n r.toNatClampNeg) L t)) := by
  refine Ca.intro [some (.ref 200), some (.int (nI n)), some (.int r), none, none, none, none, none, none, none] (by decide) (Nat.le_of_ble_eq_true rfl) rfl rfl ?_
  have hnn : n * n ≤ 256 := Nat.le_trans (Nat.mul_le_mul hn16 hn16) (by decide)
  have hnp : 0 < n * n := Nat.mul_pos (by omega) (by omega)
  refine ex_bipush (v := (-9)) dX12_lie_0 (by decide) ?_
  refine st_i3 dX12_lie_2 (by first | exact rfl | exact trivial) ?_
  refine ex_iconst (v := 0) dX12_lie_3 (by decide) ?_
  refine st_i4 dX12_lie_4 (by first | exact rfl | exact trivial) ?_
  refine ex_iconst (v := 0) dX12_lie_6 (by decide) ?_
  refine st_i5 dX12_lie_7 (by first | exact rfl | exact trivial) ?_
  refine ex_iconst (v := 0) dX12_lie_9 (by decide) ?_
  refine st_i6 dX12_lie_10 (by first | exact rfl | exact trivial) ?_
  have key := lm_lie (G := G) (I := I) (L := L) (t := t) (r := r) (P := Rs (.int (liE I n).2.1) (mk (liI I n r.toNatClampNeg) L t)) hn3 hn16 ?_
  · rw [liN_0] at key
    exact key
  refine fg6 ?_
  refine ex_aload_n dX12_lie_206 rfl ?_
  refine g_12_36 dX12_lie_207 rfl wf_X12_72 (by first | assumption | rfl) (show Rt _ 200 36 = some 221 from rfl) ?_
  refine ex_iconst (v := 0) dX12_lie_210 (by decide) ?_
  refine ex_iload_n dX12_lie_211 rfl ?_
  refine ex_iload_n dX12_lie_212 rfl ?_
  refine ex_iload_n dX12_lie_213 rfl ?_
  refine ex_imul dX12_lie_214 ?_
  refine ex_idiv dX12_lie_215 (by rw [pk_mul]; exact nI_ne0 hnp (by omega)) ?_
  refine rx_iast dX12_lie_216 (by first | assumption | rfl) (by first | assumption | (unfold vp_in; decide)) ?_
  refine ex_aload_n dX12_lie_217 rfl ?_
  refine g_12_36 dX12_lie_218 rfl wf_X12_72 (by first | assumption | rfl) (show Rt _ 200 36 = some 221 from rfl) ?_
  refine ex_iconst (v := 1) dX12_lie_221 (by decide) ?_
  refine ex_iload_n dX12_lie_222 rfl ?_
  refine ex_iload_n dX12_lie_223 rfl ?_
  refine ex_idiv dX12_lie_224 (nI_ne0 (by omega) (by omega)) ?_
  refine ex_iload_n dX12_lie_225 rfl ?_
  refine ex_irem dX12_lie_226 (nI_ne0 (by omega) (by omega)) ?_
  refine rx_iast dX12_lie_227 (by first | assumption | rfl) (by first | assumption | (unfold vp_in; decide)) ?_
  refine ex_aload_n dX12_lie_228 rfl ?_
  refine g_12_36 dX12_lie_229 rfl wf_X12_72 (by first | assumption | rfl) (show Rt _ 200 36 = some 221 from rfl) ?_
  refine ex_iconst (v := 2) dX12_lie_232 (by decide) ?_
  refine ex_iload_n dX12_lie_233 rfl ?_
  refine ex_iload_n dX12_lie_234 rfl ?_
  refine ex_irem dX12_lie_235 (nI_ne0 (by omega) (by omega)) ?_
  refine rx_iast dX12_lie_236 (by first | assumption | rfl) (by first | assumption | (unfold vp_in; decide)) ?_
  refine ex_iconst (v := 0) dX12_lie_237 (by decide) ?_
  refine st_i6 dX12_lie_238 (by first | exact rfl | exact trivial) ?_
  refine ex_iconst (v := 0) dX12_lie_240 (by decide) ?_
  refine st_i7 dX12_lie_241 (by first | exact rfl | exact trivial) ?_
  rw [show up2 (up2 (up2 (liN I n (n * n * n)).2.2.2 221 (0 : Int32).toNatClampNeg ((liN I n (n * n * n)).1 / (nI n * nI n))) 221 (1 : Int32).toNatClampNeg ((liN I n (n * n * n)).1 / nI n - (liN I n (n * n * n)).1 / nI n / nI n * nI n)) 221 (2 : Int32).toNatClampNeg ((liN I n (n * n * n)).1 - (liN I n (n * n * n)).1 / nI n * nI n) = (lib (liE I n).2.2.2 (nI n) (liE I n).1) from rfl]
  have key := lm_lz (G := G) (I := (lib (liE I n).2.2.2 (nI n) (liE I n).1)) (L := L) (t := t) (n := n) (b := (liN I n (n * n * n)).1) (f := (liN I n (n * n * n)).2.1) (l := (liN I n (n * n * n)).2.2.1) (c := 0) (P := Rs (.int (liE I n).2.1) (mk (liI I n r.toNatClampNeg) L t)) vr ?_
  · rw [flw_0] at key
    exact key
  refine fg7 ?_
  refine ex_iconst (v := 0) dX12_lie_269 (by decide) ?_
  refine st_i7 dX12_lie_270 (by first | exact rfl | exact trivial) ?_
  have key := lm_lr (G := G) (I := flw (lib (liE I n).2.2.2 (nI n) (liE I n).1) 203 (60 * r.toNatClampNeg) 60 (fun _ => 0)) (L := L) (t := t) (n := n) (b := (liN I n (n * n * n)).1) (f := (liN I n (n * n * n)).2.1) (l := (liN I n (n * n * n)).2.2.1) (P := Rs (.int (liE I n).2.1) (mk (liI I n r.toNatClampNeg) L t)) vr ?_
  · rw [rsN_0] at key
    exact key
  refine ex_aload_n dX12_lie_316 rfl ?_
  refine g_12_5 dX12_lie_317 rfl wf_X12_13 (by first | assumption | rfl) (show Rt _ 200 5 = some 202 from rfl) ?_
  refine ex_iload_n dX12_lie_320 rfl ?_
  refine ex_iload dX12_lie_321 rfl ?_
  refine rx_iast dX12_lie_323 (by first | assumption | rfl) vr ?_
  refine ex_aload_n dX12_lie_324 rfl ?_
  refine ex_iload dX12_lie_325 rfl ?_
  refine ex_iload dX12_lie_327 rfl ?_
  refine rx_cV (kd := 12) dX12_lie_329 rfl lk_X12_108 rfl (by decide) (by first | assumption | rfl) ⟨⟨rfl, rfl⟩, by decide, by decide⟩ rfl (Nat.le_of_ble_eq_true rfl) rfl s_X12_tells (Rs.k ?_)
  refine ex_iret dX12_lie_332 rfl rfl ⟨rfl, Nat.le_refl _⟩ ?_
  exact ⟨rfl, rfl⟩
end M18
