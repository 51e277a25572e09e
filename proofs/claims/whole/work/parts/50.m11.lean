section M11
variable {G : Gp} {I : Im} {L : Nat → Nat → Int64} {t : Nat}
theorem nw_c {B c j : Nat} {N : Nat → Int32} {v : Int32} (h : c ≠ 217) : up2 (nw I B N) c j v = nw (up2 I c j v) B N := by
  funext e i
  unfold nw flw up2
  dsimp only
  by_cases h1 : e = 217 ∧ B ≤ i ∧ i < B + 125
  · rw [if_neg (by omega), if_pos h1, if_pos h1]
  · rw [if_neg h1, if_neg h1]
theorem u2_u2 {f : Im} {a j : Nat} {v w : Int32} : up2 (up2 f a j v) a j w = up2 f a j w := by
  funext e i
  unfold up2
  by_cases h : e = a ∧ i = j
  · rw [if_pos h, if_pos h]
  · rw [if_neg h, if_neg h, if_neg h]
def gaG (N : Nat → Int32) (n mo c m q i : Nat) : Int32 := if i < m then secI N n mo c (i + 1) (31 + q) else 0
def gaM (I : Im) (r : Nat) (N : Nat → Int32) (n mo c m q k : Nat) : Im := nw (flw I 203 (60 * r) k (gaG N n mo c m q)) 0 (secI N n mo c (min k m))
set_option maxRecDepth 100000 in
set_option maxHeartbeats 4000000 in
theorem lm_gau {P : Option Value → Mem → Prop} {N : Nat → Int32} {n mo c m : Nat} {x r : Int32} (hm : m ≤ 60) (hx1 : x.toNatClampNeg < 16) (hx2 : x = nI x.toNatClampNeg) (vr : vp_in r 6) (hw : WfN N n mo c) (hb : I 200 24 = nI 0) (kont : Ex G mdX12_gauge 144 [some (.ref 200), some (.int x), some (.int (nI m)), some (.int r), some (.int (nI 60))] [] (mk (gaM I r.toNatClampNeg N n mo c m x.toNatClampNeg 60) L t) 0 0 P) : Ex G mdX12_gauge 88 [some (.ref 200), some (.int x), some (.int (nI m)), some (.int r), some (.int (nI 0))] [] (mk (gaM I r.toNatClampNeg N n mo c m x.toNatClampNeg 0) L t) 0 0 P := by
  refine loop_up (G := G) (d := mdX12_gauge) (pc := 88) (st := []) (uc := 0) (us := 0) (P := P) 60 (fun k => mk (gaM I r.toNatClampNeg N n mo c m x.toNatClampNeg k) L t) (fun k => [some (.ref 200), some (.int x), some (.int (nI m)), some (.int r), some (.int (nI k))]) ?_ ?_ 0 (Nat.zero_le _)
  · intro k hk ih
    unfold gaM
    refine ex_iload dX12_gauge_88 rfl ?_
    refine ex_bipush (v := 60) dX12_gauge_90 (by decide) ?_
    refine ex_icmp_ge 144 dX12_gauge_92 (by decide) (fun h92 => ?_) (fun h92 => ?_)
    · exact absurd h92 (nI_ge hk (by decide))
    · skip
      refine ex_aload_n dX12_gauge_95 rfl ?_
      refine g_12_6 dX12_gauge_96 rfl wf_X12_16 (by first | assumption | rfl) (show Rt _ 200 6 = some 203 from rfl) ?_
      refine ex_bipush (v := 60) dX12_gauge_99 (by decide) ?_
      refine ex_iload_n dX12_gauge_101 rfl ?_
      refine ex_imul dX12_gauge_102 ?_
      refine ex_iload dX12_gauge_103 rfl ?_
      refine ex_iadd dX12_gauge_105 ?_
      refine ex_iconst (v := 0) dX12_gauge_106 (by decide) ?_
      refine rx_iast dX12_gauge_107 (by first | assumption | rfl) (ixm (c := 60) (C := 60) (R := 6) rfl vr (vp_in_nI hk (by decide)) (by decide)).1 ?_
      rw [(ixm (c := 60) (C := 60) (R := 6) rfl vr (vp_in_nI hk (by decide)) (by decide)).2, nI_clamp (by omega), nw_c (by decide)]
      refine ex_iload dX12_gauge_108 rfl ?_
      refine ex_iload_n dX12_gauge_110 rfl ?_
      refine ex_icmp_ge 138 dX12_gauge_111 (by decide) (fun h111 => ?_) (fun h111 => ?_)
      · have g1 : m ≤ k := (nI_leI (by omega) (by omega)).mp h111
        have hv : gaG N n mo c m x.toNatClampNeg k = 0 := if_neg (by omega)
        have hm2 : min (k + 1) m = min k m := by omega
        refine inc4 (v := _ + 1) dX12_gauge_138 (by rfl) (by first | exact rfl | exact trivial) ?_
        refine ex_goto 88 dX12_gauge_141 (by decide) ?_
        rw [nI_1]
        unfold gaM at ih
        rw [← flw_s, hv, hm2] at ih
        first | exact ih | (rw [secI_s] at ih; exact ih)
      · have g1 : k < m := Nat.not_le.mp (fun z => h111 (nI_le z (by omega)))
        have hv : gaG N n mo c m x.toNatClampNeg k = secI N n mo c (k + 1) (31 + x.toNatClampNeg) := if_pos g1
        have hm1 : min k m = k := by omega
        have hm2 : min (k + 1) m = k + 1 := by omega
        rw [hm1]
        refine ex_aload_n dX12_gauge_114 rfl ?_
        refine rx_cV (kd := 12) dX12_gauge_115 rfl lk_X12_220 rfl (by decide) (by first | assumption | rfl) ⟨⟨rfl, rfl⟩, by decide, by decide⟩ rfl (Nat.le_of_ble_eq_true rfl) rfl (s_X12_second (WfN_i hw k) (by rw [up2_off (by decide), flw_off (by decide)]; exact hb) (by decide)) (Rv.k ?_)
        refine ex_aload_n dX12_gauge_118 rfl ?_
        refine g_12_6 dX12_gauge_119 rfl wf_X12_16 (by first | assumption | rfl) (show Rt _ 200 6 = some 203 from rfl) ?_
        refine ex_bipush (v := 60) dX12_gauge_122 (by decide) ?_
        refine ex_iload_n dX12_gauge_124 rfl ?_
        refine ex_imul dX12_gauge_125 ?_
        refine ex_iload dX12_gauge_126 rfl ?_
        refine ex_iadd dX12_gauge_128 ?_
        refine ex_aload_n dX12_gauge_129 rfl ?_
        refine ex_bipush (v := 31) dX12_gauge_130 (by decide) ?_
        refine ex_iload_n dX12_gauge_132 rfl ?_
        refine ex_iadd dX12_gauge_133 ?_
        refine rx_cV (kd := 12) dX12_gauge_134 rfl lk_X12_183 rfl (by decide) (by first | assumption | rfl) ⟨⟨rfl, rfl⟩, by decide, by decide⟩ rfl (Nat.le_of_ble_eq_true rfl) rfl (s_X12_v (p := 31 + x.toNatClampNeg) (by rw [show (31 : Int32) + x = nI 31 + nI x.toNatClampNeg by rw [← hx2]; rfl, nI_add]) (by omega) (by rw [up2_off (by decide), flw_off (by decide)]; exact hb) (by decide)) (Rs.k ?_)
        refine rx_iast dX12_gauge_137 (by first | assumption | rfl) (ixm (c := 60) (C := 60) (R := 6) rfl vr (vp_in_nI hk (by decide)) (by decide)).1 ?_
        rw [(ixm (c := 60) (C := 60) (R := 6) rfl vr (vp_in_nI hk (by decide)) (by decide)).2, nI_clamp (by omega), nw_c (by decide), u2_u2]
        refine inc4 (v := _ + 1) dX12_gauge_138 (by rfl) (by first | exact rfl | exact trivial) ?_
        refine ex_goto 88 dX12_gauge_141 (by decide) ?_
        rw [nI_1]
        unfold gaM at ih
        rw [← flw_s, hv, hm2] at ih
        first | exact ih | (rw [secI_s] at ih; exact ih)
  · skip
    refine ex_iload dX12_gauge_88 rfl ?_
    refine ex_bipush (v := 60) dX12_gauge_90 (by decide) ?_
    refine ex_icmp_ge 144 dX12_gauge_92 (by decide) (fun h92 => ?_) (fun h92 => ?_)
    · skip
      exact kont
    · exact absurd (by decide : nI 60 ≤ nI 60) h92
def gauW (I : Im) (x y r : Int32) : Im := gaM I r.toNatClampNeg (rdw I 0) (I 217 0).toNatClampNeg (I 217 (0 + 1)).toNatClampNeg (I 217 (0 + 21)).toNatClampNeg y.toNatClampNeg x.toNatClampNeg 60
theorem gauW_off {x y r : Int32} {e : Nat} (h : e ≠ 217) (h2 : e ≠ 203) : gauW I x y r e = I e := by
  unfold gauW gaM
  rw [nw_off h, flw_off h2]
theorem lm_gau_0 {P : Option Value → Mem → Prop} {x y r : Int32} (h0 : 0 ≤ y) (h60 : y ≤ 60) (vx : vp_in x 16) (vr : vp_in r 6) (hw : WfS I 0) (hb : I 200 24 = nI 0) (kont : Ex G mdX12_gauge 144 [some (.ref 200), some (.int x), some (.int y), some (.int r), none] [] (mk (gauW I x y r) L t) 0 0 P) : Ex G mdX12_gauge 88 [some (.ref 200), some (.int x), some (.int y), some (.int r), some (.int 0)] [] (mk I L t) 0 0 P := by
  obtain ⟨m, hm, rfl⟩ := nI_of2 (M := 60) (n := 60) (by decide) (Int32.not_lt.mpr h0) h60
  unfold gauW at kont
  rw [nI_clamp (by omega)] at kont
  have h := lm_gau (G := G) (I := I) (L := L) hm (vpn vx).1 (vpn vx).2 vr hw hb (P := P) (fg4 kont)
  unfold gaM at h
  rw [flw_0, Nat.zero_min, secI_0, nw_rd] at h
  exact h
def f_X12_gauge (I : Im) (k : Int32) (n : Int32) (r : Int32) : Int32 × Im :=
  if (b2i (0 ≤ k ∧ k ≤ 15)) = 0 then
    ((-1), I)
  else
    if (b2i (0 ≤ n ∧ n ≤ 60)) = 0 then
      ((-1), I)
    else
      if (b2i (0 ≤ r ∧ r ≤ 5)) = 0 then
        ((-1), I)
      else
        if (I 216 (0 : Int32).toNatClampNeg) = 0 then
          ((-4), I)
        else
          let I1 : Im := lkI I 0
          if k < (I1 217 (0 + (0 : Int32).toNatClampNeg)) then
            if ((I1 217 (0 + (30 : Int32).toNatClampNeg)) + n) ≤ 10000 then
              let I2 : Im := up2 I1 202 r.toNatClampNeg n
              let I3 : Im := gauW I2 k n r
              (I3 217 (0 + (30 : Int32).toNatClampNeg), I3)
            else
              ((-6), I1)
          else
            let I4 : Im := meI I1 2
            ((-3), I4)
set_option maxRecDepth 100000 in
set_option maxHeartbeats 4000000 in
theorem s_X12_gauge  {k : Int32} {n : Int32} {r : Int32} (hW : ¬ I 216 0 = 0 → WfS I 0) : Ca G mdX12_gauge [.ref 200, .int k, .int n, .int r] (mk I L t) (Rs (.int (f_X12_gauge I k n r).1) (mk ((f_X12_gauge I k n r).2) L t)) := by
  refine Ca.intro [some (.ref 200), some (.int k), some (.int n), some (.int r), none] (by decide) (Nat.le_of_ble_eq_true rfl) rfl rfl ?_
  refine ex_iload_n dX12_gauge_0 rfl ?_
  refine ex_iconst (v := 0) dX12_gauge_1 (by decide) ?_
  refine ex_bipush (v := 15) dX12_gauge_2 (by decide) ?_
  refine rx_cS dX12_gauge_4 rfl lk_X12_86 ⟨⟨rfl, rfl⟩, by decide, by decide⟩ rfl (Nat.le_of_ble_eq_true rfl) rfl s_X12_in (Rs.k ?_)
  refine ex_if_eq 27 dX12_gauge_7 (by decide) (fun h7 => ?_) (fun h7 => ?_)
  · skip
    refine ex_iconst (v := (-1)) dX12_gauge_27 (by decide) ?_
    refine ex_iret dX12_gauge_28 rfl rfl ⟨rfl, Nat.le_refl _⟩ ?_
    exact ⟨(by simp only [f_X12_gauge, ↓eq_true h7, if_true, if_false, not_true_eq_false, not_false_eq_true]), (by simp only [f_X12_gauge, ↓eq_true h7, if_true, if_false, not_true_eq_false, not_false_eq_true])⟩
  · have qk := (cl_lt (N := 16) (by decide) h7).1
    have vk := (cl_lt (N := 16) (by decide) h7).2
    refine ex_iload_n dX12_gauge_10 rfl ?_
    refine ex_iconst (v := 0) dX12_gauge_11 (by decide) ?_
    refine ex_bipush (v := 60) dX12_gauge_12 (by decide) ?_
    refine rx_cS dX12_gauge_14 rfl lk_X12_86 ⟨⟨rfl, rfl⟩, by decide, by decide⟩ rfl (Nat.le_of_ble_eq_true rfl) rfl s_X12_in (Rs.k ?_)
    refine ex_if_eq 27 dX12_gauge_17 (by decide) (fun h17 => ?_) (fun h17 => ?_)
    · skip
      refine ex_iconst (v := (-1)) dX12_gauge_27 (by decide) ?_
      refine ex_iret dX12_gauge_28 rfl rfl ⟨rfl, Nat.le_refl _⟩ ?_
      exact ⟨(by simp only [f_X12_gauge, ↓eq_false h7, ↓eq_true h17, if_true, if_false, not_true_eq_false, not_false_eq_true]), (by simp only [f_X12_gauge, ↓eq_false h7, ↓eq_true h17, if_true, if_false, not_true_eq_false, not_false_eq_true])⟩
    · have n0 := b2i_n0.mp h17
      refine ex_iload_n dX12_gauge_20 rfl ?_
      refine rx_cS dX12_gauge_21 rfl lk_X12_96 ⟨⟨rfl, rfl⟩, by decide, by decide⟩ rfl (Nat.le_of_ble_eq_true rfl) rfl s_X12_isRow (Rs.k ?_)
      refine ex_if_ne 29 dX12_gauge_24 (by decide) (fun h24 => ?_) (fun h24 => ?_)
      · have qr := (cl_lt (N := 6) (by decide) h24).1
        have vr := (cl_lt (N := 6) (by decide) h24).2
        refine ex_aload_n dX12_gauge_29 rfl ?_
        refine g_12_22 dX12_gauge_30 rfl wf_X12_57 (by first | assumption | rfl) (show Rt _ 200 22 = some 216 from rfl) ?_
        refine ex_iconst (v := 0) dX12_gauge_33 (by decide) ?_
        refine rx_zald dX12_gauge_34 (by first | assumption | rfl) (by first | assumption | (unfold vp_in; decide)) ?_
        refine ex_if_ne 41 dX12_gauge_35 (by decide) (fun h35 => ?_) (fun h35 => ?_)
        · skip
          refine ex_aload_n dX12_gauge_41 rfl ?_
          refine ex_iconst (v := 0) dX12_gauge_42 (by decide) ?_
          refine rx_cV (kd := 12) dX12_gauge_43 rfl lk_X12_167 rfl (by decide) (by first | assumption | rfl) ⟨⟨rfl, rfl⟩, by decide, by decide⟩ rfl (Nat.le_of_ble_eq_true rfl) rfl s_X12_look (Rv.k ?_)
          refine ex_iload_n dX12_gauge_46 rfl ?_
          refine ex_aload_n dX12_gauge_47 rfl ?_
          refine ex_iconst (v := 0) dX12_gauge_48 (by decide) ?_
          refine rx_cV (kd := 12) dX12_gauge_49 rfl lk_X12_183 rfl (by decide) (by first | assumption | rfl) ⟨⟨rfl, rfl⟩, by decide, by decide⟩ rfl (Nat.le_of_ble_eq_true rfl) rfl (s_v0 (B := 0) (by unfold vp_in; decide) lk_0 (by decide)) (Rs.k ?_)
          refine ex_icmp_lt 61 dX12_gauge_52 (by decide) (fun h52 => ?_) (fun h52 => ?_)
          · skip
            refine ex_aload_n dX12_gauge_61 rfl ?_
            refine ex_bipush (v := 30) dX12_gauge_62 (by decide) ?_
            refine rx_cV (kd := 12) dX12_gauge_64 rfl lk_X12_183 rfl (by decide) (by first | assumption | rfl) ⟨⟨rfl, rfl⟩, by decide, by decide⟩ rfl (Nat.le_of_ble_eq_true rfl) rfl (s_v0 (B := 0) (by unfold vp_in; decide) lk_0 (by decide)) (Rs.k ?_)
            refine ex_iload_n dX12_gauge_67 rfl ?_
            refine ex_iadd dX12_gauge_68 ?_
            refine ex_sipush (v := 10000) dX12_gauge_69 (by decide) ?_
            refine ex_icmp_le 78 dX12_gauge_72 (by decide) (fun h72 => ?_) (fun h72 => ?_)
            · skip
              refine ex_aload_n dX12_gauge_78 rfl ?_
              refine g_12_5 dX12_gauge_79 rfl wf_X12_13 (by first | assumption | rfl) (show Rt _ 200 5 = some 202 from rfl) ?_
              refine ex_iload_n dX12_gauge_82 rfl ?_
              refine ex_iload_n dX12_gauge_83 rfl ?_
              refine rx_iast dX12_gauge_84 (by first | assumption | rfl) (by first | assumption | (unfold vp_in; decide)) ?_
              refine ex_iconst (v := 0) dX12_gauge_85 (by decide) ?_
              refine st_i4 dX12_gauge_86 (by first | exact rfl | exact trivial) ?_
              refine (lm_gau_0 n0.1 n0.2 vk vr (WfS_of (by rw [up2_off (by decide), lk_off (by decide)]) (hW h35)) ((congrFun (up2_off (by decide)) 24).trans lk_0)) ?_
              refine ex_aload_n dX12_gauge_144 rfl ?_
              refine ex_bipush (v := 30) dX12_gauge_145 (by decide) ?_
              refine rx_cV (kd := 12) dX12_gauge_147 rfl lk_X12_183 rfl (by decide) (by first | assumption | rfl) ⟨⟨rfl, rfl⟩, by decide, by decide⟩ rfl (Nat.le_of_ble_eq_true rfl) rfl (s_v0 (B := 0) (by unfold vp_in; decide) ((congrFun (gauW_off (by decide) (by decide)) 24).trans ((congrFun (up2_off (by decide)) 24).trans lk_0)) (by decide)) (Rs.k ?_)
              refine ex_iret dX12_gauge_150 rfl rfl ⟨rfl, Nat.le_refl _⟩ ?_
              exact ⟨(by simp only [f_X12_gauge, ↓eq_false h7, ↓eq_false h17, ↓eq_false h24, ↓eq_false h35, ↓h52, ↓h72, if_true, if_false, not_true_eq_false, not_false_eq_true]), (by simp only [f_X12_gauge, ↓eq_false h7, ↓eq_false h17, ↓eq_false h24, ↓eq_false h35, ↓h52, ↓h72, if_true, if_false, not_true_eq_false, not_false_eq_true])⟩
            · skip
              refine ex_bipush (v := (-6)) dX12_gauge_75 (by decide) ?_
              refine ex_iret dX12_gauge_77 rfl rfl ⟨rfl, Nat.le_refl _⟩ ?_
              exact ⟨(by simp only [f_X12_gauge, ↓eq_false h7, ↓eq_false h17, ↓eq_false h24, ↓eq_false h35, ↓h52, ↓h72, if_true, if_false, not_true_eq_false, not_false_eq_true]), (by simp only [f_X12_gauge, ↓eq_false h7, ↓eq_false h17, ↓eq_false h24, ↓eq_false h35, ↓h52, ↓h72, if_true, if_false, not_true_eq_false, not_false_eq_true])⟩
          · skip
            refine ex_aload_n dX12_gauge_55 rfl ?_
            refine ex_iconst (v := 2) dX12_gauge_56 (by decide) ?_
            refine rx_cV (kd := 12) dX12_gauge_57 rfl lk_X12_100 rfl (by decide) (by first | assumption | rfl) ⟨⟨rfl, rfl⟩, by decide, by decide⟩ rfl (Nat.le_of_ble_eq_true rfl) rfl (s_X12_meets (by unfold vp_in; decide)) (Rs.k ?_)
            refine ex_iret dX12_gauge_60 rfl rfl ⟨rfl, Nat.le_refl _⟩ ?_
            exact ⟨(by simp only [f_X12_gauge, ↓eq_false h7, ↓eq_false h17, ↓eq_false h24, ↓eq_false h35, ↓h52, if_true, if_false, not_true_eq_false, not_false_eq_true]), (by simp only [f_X12_gauge, ↓eq_false h7, ↓eq_false h17, ↓eq_false h24, ↓eq_false h35, ↓h52, if_true, if_false, not_true_eq_false, not_false_eq_true])⟩
        · skip
          refine ex_bipush (v := (-4)) dX12_gauge_38 (by decide) ?_
          refine ex_iret dX12_gauge_40 rfl rfl ⟨rfl, Nat.le_refl _⟩ ?_
          exact ⟨(by simp only [f_X12_gauge, ↓eq_false h7, ↓eq_false h17, ↓eq_false h24, ↓eq_true h35, if_true, if_false, not_true_eq_false, not_false_eq_true]), (by simp only [f_X12_gauge, ↓eq_false h7, ↓eq_false h17, ↓eq_false h24, ↓eq_true h35, if_true, if_false, not_true_eq_false, not_false_eq_true])⟩
      · skip
        refine ex_iconst (v := (-1)) dX12_gauge_27 (by decide) ?_
        refine ex_iret dX12_gauge_28 rfl rfl ⟨rfl, Nat.le_refl _⟩ ?_
        exact ⟨(by simp only [f_X12_gauge, ↓eq_false h7, ↓eq_false h17, ↓eq_true h24, if_true, if_false, not_true_eq_false, not_false_eq_true]), (by simp only [f_X12_gauge, ↓eq_false h7, ↓eq_false h17, ↓eq_true h24, if_true, if_false, not_true_eq_false, not_false_eq_true])⟩
def crM (I : Im) (v : Cr) : Im := fun a j => if a = 200 then (if j = 27 then v.1 else if j = 28 then v.2.1 else if j = 29 then v.2.2.1 else if j = 30 then v.2.2.2.1 else if j = 31 then v.2.2.2.2 else I 200 j) else I a j
theorem crM_off {v : Cr} {e : Nat} (h : e ≠ 200) : crM I v e = I e := by
  funext j
  exact if_neg h
theorem crM_o {v : Cr} {j : Nat} (h : j < 27 ∨ 31 < j) : crM I v 200 j = I 200 j := by
  unfold crM
  rw [if_pos rfl, if_neg (by omega), if_neg (by omega), if_neg (by omega), if_neg (by omega), if_neg (by omega)]
theorem cM27 {v : Cr} : crM I v 200 27 = v.1 := rfl
theorem cM28 {v : Cr} : crM I v 200 28 = v.2.1 := rfl
theorem cM29 {v : Cr} : crM I v 200 29 = v.2.2.1 := rfl
theorem cM30 {v : Cr} : crM I v 200 30 = v.2.2.2.1 := rfl
theorem cM31 {v : Cr} : crM I v 200 31 = v.2.2.2.2 := rfl
theorem cw27 {v : Cr} {x : Int32} : up2 (crM I v) 200 27 x = crM I (x, v.2) := by
  funext a j
  unfold up2 crM
  by_cases h : a = 200
  · subst h
    by_cases h1 : j = 27
    · simp [h1]
    · simp [h1]
  · simp [h]
theorem cw28 {v : Cr} {x : Int32} : up2 (crM I v) 200 28 x = crM I (v.1, x, v.2.2) := by
  funext a j
  unfold up2 crM
  by_cases h : a = 200
  · subst h
    by_cases h1 : j = 28
    · simp [h1]
    · simp [h1]
  · simp [h]
theorem cw29 {v : Cr} {x : Int32} : up2 (crM I v) 200 29 x = crM I (v.1, v.2.1, x, v.2.2.2) := by
  funext a j
  unfold up2 crM
  by_cases h : a = 200
  · subst h
    by_cases h1 : j = 29
    · simp [h1]
    · simp [h1]
  · simp [h]
theorem cw30 {v : Cr} {x : Int32} : up2 (crM I v) 200 30 x = crM I (v.1, v.2.1, v.2.2.1, x, v.2.2.2.2) := by
  funext a j
  unfold up2 crM
  by_cases h : a = 200
  · subst h
    by_cases h1 : j = 30
    · simp [h1]
    · simp [h1]
  · simp [h]
theorem cw31 {v : Cr} {x : Int32} : up2 (crM I v) 200 31 x = crM I (v.1, v.2.1, v.2.2.1, v.2.2.2.1, x) := by
  funext a j
  unfold up2 crM
  by_cases h : a = 200
  · subst h
    by_cases h1 : j = 31
    · simp [h1]
    · simp [h1]
  · simp [h]
theorem crM_id : crM I (I 200 27, I 200 28, I 200 29, I 200 30, I 200 31) = I := by
  funext a j
  unfold crM
  split
  · next h =>
    subst h
    repeat' split
    all_goals first | rfl | (subst_vars; rfl)
  · rfl
def cr1M (i : Int32) (v : Cr) : Cr := (v.1 + 1, (if v.1 = 0 then i else v.2.1), i, (if v.1 = 0 then v.2.2.2.1 else if v.1 = 1 then i - v.2.2.1 else if v.2.2.2.1 < i - v.2.2.1 then v.2.2.2.1 else i - v.2.2.1), (if v.1 = 0 then v.2.2.2.2 else if i - v.2.2.1 < v.2.2.2.2 then v.2.2.2.2 else i - v.2.2.1))
def mcN (f : Nat → Int32) (v0 : Cr) (k : Nat) : Cr :=
  match k with
  | 0 => v0
  | k + 1 => if f k < 0 ∧ 0 ≤ f (k + 1) then cr1M (nI (k + 1)) (mcN f v0 k) else mcN f v0 k
termination_by k
theorem mcN_0 {f : Nat → Int32} {v0 : Cr} : mcN f v0 0 = v0 := by rw [mcN]
theorem mcN_s {f : Nat → Int32} {v0 : Cr} {k : Nat} : mcN f v0 (k + 1) = if f k < 0 ∧ 0 ≤ f (k + 1) then cr1M (nI (k + 1)) (mcN f v0 k) else mcN f v0 k := by rw [mcN]
theorem cr_ini : up2 (up2 (up2 I 200 27 0) 200 30 0) 200 31 0 = crM I (0, I 200 28, I 200 29, 0, 0) := by
  have e : crM I (I 200 27, I 200 28, I 200 29, I 200 30, I 200 31) = I := crM_id
  have e2 : up2 (up2 (up2 (crM I (I 200 27, I 200 28, I 200 29, I 200 30, I 200 31)) 200 27 0) 200 30 0) 200 31 0 = crM I (0, I 200 28, I 200 29, 0, 0) := by rw [cw27, cw30, cw31]
  rw [e] at e2
  exact e2
set_option maxRecDepth 100000 in
set_option maxHeartbeats 4000000 in
theorem s_X12_crosses {m : Nat} (hm : m ≤ 400) (h26 : I 200 26 = nI m) : Ca G mdX12_crosses [.ref 200] (mk I L t) (Rv (mk (crM I (mcN (I 218) (0, I 200 28, I 200 29, 0, 0) (m - 1))) L t)) := by
  refine Ca.intro [some (.ref 200), none, none] (by decide) (Nat.le_of_ble_eq_true rfl) rfl rfl ?_
  refine ex_aload_n dX12_crosses_0 rfl ?_
  refine ex_iconst (v := 0) dX12_crosses_1 (by decide) ?_
  refine p_12_27 dX12_crosses_2 rfl wf_X12_232 (by first | assumption | rfl) ?_
  refine ex_aload_n dX12_crosses_5 rfl ?_
  refine ex_iconst (v := 0) dX12_crosses_6 (by decide) ?_
  refine p_12_30 dX12_crosses_7 rfl wf_X12_235 (by first | assumption | rfl) ?_
  refine ex_aload_n dX12_crosses_10 rfl ?_
  refine ex_iconst (v := 0) dX12_crosses_11 (by decide) ?_
  refine p_12_31 dX12_crosses_12 rfl wf_X12_238 (by first | assumption | rfl) ?_
  refine ex_iconst (v := 1) dX12_crosses_15 (by decide) ?_
  refine st_i1 dX12_crosses_16 (by first | exact rfl | exact trivial) ?_
  rw [cr_ini]
  generalize ((0, I 200 28, I 200 29, 0, 0) : Cr) = v0
  have key := loop_up (G := G) (d := mdX12_crosses) (pc := 17) (st := []) (uc := 0) (us := 0) (P := Rv (mk (crM I (mcN (I 218) v0 (m - 1))) L t)) (m - 1) (fun k => mk (crM I (mcN (I 218) v0 k)) L t) (fun k => [some (.ref 200), some (.int (nI (k + 1))), none]) ?_ ?_ 0 (Nat.zero_le _)
  · rw [mcN_0] at key
    exact key
  · intro k hk ih
    refine ex_iload_n dX12_crosses_17 rfl ?_
    refine ex_aload_n dX12_crosses_18 rfl ?_
    refine g_12_26 dX12_crosses_19 rfl wf_X12_241 (by first | assumption | rfl) ?_
    rw [crM_o (by omega), h26]
    refine ex_icmp_ge 124 dX12_crosses_22 (by decide) (fun h22 => ?_) (fun h22 => ?_)
    · exact absurd h22 (nI_ge (by omega) (by omega))
    · skip
      refine ex_aload_n dX12_crosses_25 rfl ?_
      refine g_12_25 dX12_crosses_26 rfl wf_X12_63 (by first | assumption | rfl) (show Rt _ 200 25 = some 218 from rfl) ?_
      refine ex_iload_n dX12_crosses_29 rfl ?_
      refine ex_iconst (v := 1) dX12_crosses_30 (by decide) ?_
      refine ex_isub dX12_crosses_31 ?_
      refine rx_iald dX12_crosses_32 (by first | assumption | rfl) (by rw [nI_pred]; exact vp_in_nI (by omega) (by decide)) ?_
      rw [nI_pred, nI_clamp (by omega), crM_off (by decide)]
      refine ex_if_ge 118 dX12_crosses_33 (by decide) (fun h33 => ?_) (fun h33 => ?_)
      · have hc : mcN (I 218) v0 (k + 1) = (mcN (I 218) v0 k) := mcN_s.trans (if_neg (fun z => absurd z.1 (Int32.not_lt.mpr h33)))
        refine inc1 (v := _ + 1) dX12_crosses_118 (by rfl) (by first | exact rfl | exact trivial) ?_
        refine ex_goto 17 dX12_crosses_121 (by decide) ?_
        refine fg2 ?_
        rw [nI_1]
        rw [hc] at ih
        try dsimp only at ih ⊢
        exact ih
      · skip
        refine ex_aload_n dX12_crosses_36 rfl ?_
        refine g_12_25 dX12_crosses_37 rfl wf_X12_63 (by first | assumption | rfl) (show Rt _ 200 25 = some 218 from rfl) ?_
        refine ex_iload_n dX12_crosses_40 rfl ?_
        refine rx_iald dX12_crosses_41 (by first | assumption | rfl) (vp_in_nI (by omega) (by decide)) ?_
        rw [nI_clamp (by omega), crM_off (by decide)]
        refine ex_if_lt 118 dX12_crosses_42 (by decide) (fun h42 => ?_) (fun h42 => ?_)
        · have hc : mcN (I 218) v0 (k + 1) = (mcN (I 218) v0 k) := mcN_s.trans (if_neg (fun z => absurd z.2 (Int32.not_le.mpr h42)))
          refine inc1 (v := _ + 1) dX12_crosses_118 (by rfl) (by first | exact rfl | exact trivial) ?_
          refine ex_goto 17 dX12_crosses_121 (by decide) ?_
          refine fg2 ?_
          rw [nI_1]
          rw [hc] at ih
          try dsimp only at ih ⊢
          exact ih
        · have hc0 : mcN (I 218) v0 (k + 1) = cr1M (nI (k + 1)) (mcN (I 218) v0 k) := mcN_s.trans (if_pos ⟨Int32.not_le.mp h33, Int32.not_lt.mp h42⟩)
          refine ex_iload_n dX12_crosses_45 rfl ?_
          refine ex_aload_n dX12_crosses_46 rfl ?_
          refine g_12_29 dX12_crosses_47 rfl wf_X12_244 (by first | assumption | rfl) ?_
          rw [cM29]
          refine ex_isub dX12_crosses_50 ?_
          refine st_i2 dX12_crosses_51 (by first | exact rfl | exact trivial) ?_
          refine ex_aload_n dX12_crosses_52 rfl ?_
          refine g_12_27 dX12_crosses_53 rfl wf_X12_232 (by first | assumption | rfl) ?_
          rw [cM27]
          refine ex_if_ne 67 dX12_crosses_56 (by decide) (fun h56 => ?_) (fun h56 => ?_)
          · skip
            refine ex_aload_n dX12_crosses_67 rfl ?_
            refine ex_aload_n dX12_crosses_68 rfl ?_
            refine g_12_27 dX12_crosses_69 rfl wf_X12_232 (by first | assumption | rfl) ?_
            rw [cM27]
            refine ex_iconst (v := 1) dX12_crosses_72 (by decide) ?_
            refine ex_icmp_ne 80 dX12_crosses_73 (by decide) (fun h73 => ?_) (fun h73 => ?_)
            · have hc := hc0
              unfold cr1M at hc
              rw [if_neg h56, if_neg h56, if_neg h73, if_neg h56] at hc
              refine ex_aload_n dX12_crosses_80 rfl ?_
              refine g_12_30 dX12_crosses_81 rfl wf_X12_235 (by first | assumption | rfl) ?_
              rw [cM30]
              refine ex_iload_n dX12_crosses_84 rfl ?_
              refine rx_cS dX12_crosses_85 rfl lk_X12_189 ⟨⟨rfl, rfl⟩, by decide, by decide⟩ rfl (Nat.le_of_ble_eq_true rfl) rfl s_X12_lesser (Rs.k ?_)
              refine p_12_30 dX12_crosses_88 rfl wf_X12_235 (by first | assumption | rfl) ?_
              rw [cw30]
              refine ex_aload_n dX12_crosses_91 rfl ?_
              refine ex_aload_n dX12_crosses_92 rfl ?_
              refine g_12_31 dX12_crosses_93 rfl wf_X12_238 (by first | assumption | rfl) ?_
              rw [cM31]
              refine ex_iload_n dX12_crosses_96 rfl ?_
              refine rx_cS dX12_crosses_97 rfl lk_X12_202 ⟨⟨rfl, rfl⟩, by decide, by decide⟩ rfl (Nat.le_of_ble_eq_true rfl) rfl s_X12_greater (Rs.k ?_)
              refine p_12_31 dX12_crosses_100 rfl wf_X12_238 (by first | assumption | rfl) ?_
              rw [cw31]
              refine ex_aload_n dX12_crosses_103 rfl ?_
              refine ex_iload_n dX12_crosses_104 rfl ?_
              refine p_12_29 dX12_crosses_105 rfl wf_X12_244 (by first | assumption | rfl) ?_
              rw [cw29]
              refine ex_aload_n dX12_crosses_108 rfl ?_
              refine ex_dup dX12_crosses_109 rfl ?_
              refine g_12_27 dX12_crosses_110 rfl wf_X12_232 (by first | assumption | rfl) ?_
              rw [cM27]
              refine ex_iconst (v := 1) dX12_crosses_113 (by decide) ?_
              refine ex_iadd dX12_crosses_114 ?_
              refine p_12_27 dX12_crosses_115 rfl wf_X12_232 (by first | assumption | rfl) ?_
              rw [cw27]
              refine inc1 (v := _ + 1) dX12_crosses_118 (by rfl) (by first | exact rfl | exact trivial) ?_
              refine ex_goto 17 dX12_crosses_121 (by decide) ?_
              refine fg2 ?_
              rw [nI_1]
              rw [hc] at ih
              try dsimp only at ih ⊢
              exact ih
            · have hc := hc0
              unfold cr1M at hc
              rw [if_neg h56, if_neg h56, if_pos h73, if_neg h56] at hc
              refine ex_iload_n dX12_crosses_76 rfl ?_
              refine ex_goto 88 dX12_crosses_77 (by decide) ?_
              refine p_12_30 dX12_crosses_88 rfl wf_X12_235 (by first | assumption | rfl) ?_
              rw [cw30]
              refine ex_aload_n dX12_crosses_91 rfl ?_
              refine ex_aload_n dX12_crosses_92 rfl ?_
              refine g_12_31 dX12_crosses_93 rfl wf_X12_238 (by first | assumption | rfl) ?_
              rw [cM31]
              refine ex_iload_n dX12_crosses_96 rfl ?_
              refine rx_cS dX12_crosses_97 rfl lk_X12_202 ⟨⟨rfl, rfl⟩, by decide, by decide⟩ rfl (Nat.le_of_ble_eq_true rfl) rfl s_X12_greater (Rs.k ?_)
              refine p_12_31 dX12_crosses_100 rfl wf_X12_238 (by first | assumption | rfl) ?_
              rw [cw31]
              refine ex_aload_n dX12_crosses_103 rfl ?_
              refine ex_iload_n dX12_crosses_104 rfl ?_
              refine p_12_29 dX12_crosses_105 rfl wf_X12_244 (by first | assumption | rfl) ?_
              rw [cw29]
              refine ex_aload_n dX12_crosses_108 rfl ?_
              refine ex_dup dX12_crosses_109 rfl ?_
              refine g_12_27 dX12_crosses_110 rfl wf_X12_232 (by first | assumption | rfl) ?_
              rw [cM27]
              refine ex_iconst (v := 1) dX12_crosses_113 (by decide) ?_
              refine ex_iadd dX12_crosses_114 ?_
              refine p_12_27 dX12_crosses_115 rfl wf_X12_232 (by first | assumption | rfl) ?_
              rw [cw27]
              refine inc1 (v := _ + 1) dX12_crosses_118 (by rfl) (by first | exact rfl | exact trivial) ?_
              refine ex_goto 17 dX12_crosses_121 (by decide) ?_
              refine fg2 ?_
              rw [nI_1]
              rw [hc] at ih
              try dsimp only at ih ⊢
              exact ih
          · have hc := hc0
            unfold cr1M at hc
            rw [if_pos h56, if_pos h56, if_pos h56] at hc
            refine ex_aload_n dX12_crosses_59 rfl ?_
            refine ex_iload_n dX12_crosses_60 rfl ?_
            refine p_12_28 dX12_crosses_61 rfl wf_X12_247 (by first | assumption | rfl) ?_
            rw [cw28]
            refine ex_goto 103 dX12_crosses_64 (by decide) ?_
            refine ex_aload_n dX12_crosses_103 rfl ?_
            refine ex_iload_n dX12_crosses_104 rfl ?_
            refine p_12_29 dX12_crosses_105 rfl wf_X12_244 (by first | assumption | rfl) ?_
            rw [cw29]
            refine ex_aload_n dX12_crosses_108 rfl ?_
            refine ex_dup dX12_crosses_109 rfl ?_
            refine g_12_27 dX12_crosses_110 rfl wf_X12_232 (by first | assumption | rfl) ?_
            rw [cM27]
            refine ex_iconst (v := 1) dX12_crosses_113 (by decide) ?_
            refine ex_iadd dX12_crosses_114 ?_
            refine p_12_27 dX12_crosses_115 rfl wf_X12_232 (by first | assumption | rfl) ?_
            rw [cw27]
            refine inc1 (v := _ + 1) dX12_crosses_118 (by rfl) (by first | exact rfl | exact trivial) ?_
            refine ex_goto 17 dX12_crosses_121 (by decide) ?_
            refine fg2 ?_
            rw [nI_1]
            rw [hc] at ih
            try dsimp only at ih ⊢
            exact ih
  · skip
    refine ex_iload_n dX12_crosses_17 rfl ?_
    refine ex_aload_n dX12_crosses_18 rfl ?_
    refine g_12_26 dX12_crosses_19 rfl wf_X12_241 (by first | assumption | rfl) ?_
    rw [crM_o (by omega), h26]
    refine ex_icmp_ge 124 dX12_crosses_22 (by decide) (fun h22 => ?_) (fun h22 => ?_)
    · skip
      refine ex_vret dX12_crosses_124 rfl ⟨rfl, Nat.le_refl _⟩ ?_
      exact ⟨rfl, rfl⟩
    · exact absurd (nI_le (by omega) (by omega)) h22
end M11
