section M21
variable {G : Gp} {I : Im} {L : Nat → Nat → Int64} {t : Nat}
def nfP (f : Nat → Int32) (k : Nat) : Prop := ∀ j, j < k → -10000 ≤ f j ∧ f j ≤ 10000
def nfB (f : Nat → Int32) (k : Nat) : Int32 := @b2i (nfP f k) (Nat.decidableBallLT k (fun j _ => -10000 ≤ f j ∧ f j ≤ 10000))
theorem nfB_0 {f : Nat → Int32} {k : Nat} : nfB f k = 0 ↔ ¬ nfP f k := @b2i_0 (nfP f k) (Nat.decidableBallLT k (fun j _ => -10000 ≤ f j ∧ f j ≤ 10000))
theorem nfB_n {f : Nat → Int32} {k : Nat} : ¬ nfB f k = 0 ↔ nfP f k := @b2i_n0 (nfP f k) (Nat.decidableBallLT k (fun j _ => -10000 ≤ f j ∧ f j ≤ 10000))
theorem nfB_1 {f : Nat → Int32} {k : Nat} (h : nfP f k) : nfB f k = 1 := @b2i_1 (nfP f k) (Nat.decidableBallLT k (fun j _ => -10000 ≤ f j ∧ f j ≤ 10000)) h
theorem ball_s {P : Nat → Prop} [DecidablePred P] {k : Nat} (h : ∀ j, j < k → P j) (hk : P k) : ∀ j, j < k + 1 → P j := by
  intro j hj
  by_cases e : j = k
  · exact e ▸ hk
  · exact h j (by omega)
set_option maxRecDepth 100000 in
set_option maxHeartbeats 4000000 in
theorem lm_nf {P : Option Value → Mem → Prop} {y w c v r n : Int32} {m : Nat} (vr : vp_in r 6) (h60 : m ≤ 60) (hm : I 202 r.toNatClampNeg = nI m) (kont : Ex G mdX12_needFloat 139 [some (.ref 200), some (.int y), some (.int w), some (.int c), some (.int v), some (.int r), some (.int n), some (.int (nfB (fun j => I 203 (60 * r.toNatClampNeg + j)) (m))), some (.int (nI m))] [] (mk I L t) 0 0 P) : Ex G mdX12_needFloat 89 [some (.ref 200), some (.int y), some (.int w), some (.int c), some (.int v), some (.int r), some (.int n), some (.int (nfB (fun j => I 203 (60 * r.toNatClampNeg + j)) (0))), some (.int (nI 0))] [] (mk I L t) 0 0 P := by
  refine loop_up (G := G) (d := mdX12_needFloat) (pc := 89) (st := []) (uc := 0) (us := 0) (P := P) m (fun k => mk I L t) (fun k => [some (.ref 200), some (.int y), some (.int w), some (.int c), some (.int v), some (.int r), some (.int n), some (.int (nfB (fun j => I 203 (60 * r.toNatClampNeg + j)) (k))), some (.int (nI k))]) ?_ ?_ 0 (Nat.zero_le _)
  · intro k hk ih
    refine ex_iload dX12_needFloat_89 rfl ?_
    refine ex_aload_n dX12_needFloat_91 rfl ?_
    refine g_12_5 dX12_needFloat_92 rfl wf_X12_13 (by first | assumption | rfl) (show Rt _ 200 5 = some 202 from rfl) ?_
    refine ex_iload dX12_needFloat_95 rfl ?_
    refine rx_iald dX12_needFloat_97 (by first | assumption | rfl) vr ?_
    rw [hm]
    refine ex_icmp_ge 139 dX12_needFloat_98 (by decide) (fun h98 => ?_) (fun h98 => ?_)
    · exact absurd h98 (nI_ge hk (by omega))
    · skip
      refine ex_iload dX12_needFloat_101 rfl ?_
      refine ex_if_eq 130 dX12_needFloat_103 (by decide) (fun h103 => ?_) (fun h103 => ?_)
      · have hc : (nfB (fun j => I 203 (60 * r.toNatClampNeg + j)) (k + 1)) = 0 := nfB_0.mpr (fun z => nfB_0.mp h103 (fun j hj => z j (by omega)))
        refine ex_iconst (v := 0) dX12_needFloat_130 (by decide) ?_
        refine st_i7 dX12_needFloat_131 (by first | exact rfl | exact trivial) ?_
        refine inc8 (v := _ + 1) dX12_needFloat_133 (by rfl) (by first | exact rfl | exact trivial) ?_
        refine ex_goto 89 dX12_needFloat_136 (by decide) ?_
        rw [nI_1]
        rw [hc] at ih
        exact ih
      · skip
        refine ex_aload_n dX12_needFloat_106 rfl ?_
        refine ex_iload dX12_needFloat_107 rfl ?_
        refine ex_iload dX12_needFloat_109 rfl ?_
        refine rx_cV (kd := 12) dX12_needFloat_111 rfl lk_X12_104 rfl (by decide) (by first | assumption | rfl) ⟨⟨rfl, rfl⟩, by decide, by decide⟩ rfl (Nat.le_of_ble_eq_true rfl) rfl (s_X12_rowAt vr (vp_in_nI (by omega) (by decide))) (Rs.k ?_)
        rw [(ixm (c := 60) (C := 60) (R := 6) rfl vr (vp_in_nI (show k < 60 by omega) (by decide)) (by decide)).2, nI_clamp (by omega)]
        refine ex_sipush (v := (-10000)) dX12_needFloat_114 (by decide) ?_
        refine ex_sipush (v := 10000) dX12_needFloat_117 (by decide) ?_
        refine rx_cS dX12_needFloat_120 rfl lk_X12_86 ⟨⟨rfl, rfl⟩, by decide, by decide⟩ rfl (Nat.le_of_ble_eq_true rfl) rfl s_X12_in (Rs.k ?_)
        refine ex_if_eq 130 dX12_needFloat_123 (by decide) (fun h123 => ?_) (fun h123 => ?_)
        · have hc : (nfB (fun j => I 203 (60 * r.toNatClampNeg + j)) (k + 1)) = 0 := nfB_0.mpr (fun z => b2i_0.mp h123 (z k (by omega)))
          refine ex_iconst (v := 0) dX12_needFloat_130 (by decide) ?_
          refine st_i7 dX12_needFloat_131 (by first | exact rfl | exact trivial) ?_
          refine inc8 (v := _ + 1) dX12_needFloat_133 (by rfl) (by first | exact rfl | exact trivial) ?_
          refine ex_goto 89 dX12_needFloat_136 (by decide) ?_
          rw [nI_1]
          rw [hc] at ih
          exact ih
        · have hc : (nfB (fun j => I 203 (60 * r.toNatClampNeg + j)) (k + 1)) = 1 := nfB_1 (ball_s (P := fun j => -10000 ≤ I 203 (60 * r.toNatClampNeg + j) ∧ I 203 (60 * r.toNatClampNeg + j) ≤ 10000) (nfB_n.mp h103) (b2i_n0.mp h123))
          refine ex_iconst (v := 1) dX12_needFloat_126 (by decide) ?_
          refine ex_goto 131 dX12_needFloat_127 (by decide) ?_
          refine st_i7 dX12_needFloat_131 (by first | exact rfl | exact trivial) ?_
          refine inc8 (v := _ + 1) dX12_needFloat_133 (by rfl) (by first | exact rfl | exact trivial) ?_
          refine ex_goto 89 dX12_needFloat_136 (by decide) ?_
          rw [nI_1]
          rw [hc] at ih
          exact ih
  · skip
    refine ex_iload dX12_needFloat_89 rfl ?_
    refine ex_aload_n dX12_needFloat_91 rfl ?_
    refine g_12_5 dX12_needFloat_92 rfl wf_X12_13 (by first | assumption | rfl) (show Rt _ 200 5 = some 202 from rfl) ?_
    refine ex_iload dX12_needFloat_95 rfl ?_
    refine rx_iald dX12_needFloat_97 (by first | assumption | rfl) vr ?_
    refine ex_icmp_ge 139 dX12_needFloat_98 (by decide) (fun h98 => ?_) (fun h98 => ?_)
    · skip
      exact kont
    · exact absurd (by rw [hm]; exact Int32.le_refl _) h98
theorem lm_nf0 {P : Option Value → Mem → Prop} {y w c v r n : Int32} (vr : vp_in r 6) (hm : ∃ m, m ≤ 60 ∧ I 202 r.toNatClampNeg = nI m) (kont : Ex G mdX12_needFloat 139 [some (.ref 200), some (.int y), some (.int w), some (.int c), some (.int v), some (.int r), some (.int n), some (.int (nfB (fun j => I 203 (60 * r.toNatClampNeg + j)) ((I 202 r.toNatClampNeg).toNatClampNeg))), none] [] (mk I L t) 0 0 P) : Ex G mdX12_needFloat 89 [some (.ref 200), some (.int y), some (.int w), some (.int c), some (.int v), some (.int r), some (.int n), some (.int 1), some (.int 0)] [] (mk I L t) 0 0 P := by
  obtain ⟨m, h60, e⟩ := hm
  have key := lm_nf (G := G) (I := I) (L := L) (t := t) (y := y) (w := w) (c := c) (v := v) (n := n) vr h60 e (P := P) ?_
  · rw [nfB_1 (show nfP (fun j => I 203 (60 * r.toNatClampNeg + j)) 0 from fun j hj => absurd hj (by omega))] at key
    exact key
  · refine fg8 ?_
    rw [show (nfB (fun j => I 203 (60 * r.toNatClampNeg + j)) ((I 202 r.toNatClampNeg).toNatClampNeg)) = (nfB (fun j => I 203 (60 * r.toNatClampNeg + j)) (m)) by rw [e, nI_clamp (show m < 2 ^ 31 by omega)]] at kont
    exact kont
def f_X12_needFloat (I : Im) (k : Int32) (w : Int32) (c : Int32) (v : Int32) (r : Int32) : Int32 × Im :=
  if (I 207 k.toNatClampNeg) = 0 then
    let I1 : Im := meI I 1
    ((-3), I1)
  else
    if w = 0 then
      let I2 : Im := meI I 1
      ((-3), I2)
    else
      if 0 ≤ (I 202 r.toNatClampNeg) then
        if (b2i (1 ≤ (I 202 r.toNatClampNeg) ∧ (I 202 r.toNatClampNeg) ≤ 60)) = 0 then
          let I6 : Im := meI I 5
          ((-3), I6)
        else
          if (I 208 (21 * k).toNatClampNeg) ≤ c then
            let I3 : Im := meI I 2
            ((-3), I3)
          else
            if (v + 1) < (I 208 (21 * k).toNatClampNeg) then
              if (nfB (fun j => I 203 (60 * r.toNatClampNeg + j)) ((I 202 r.toNatClampNeg).toNatClampNeg)) = 0 then
                let I4 : Im := meI I 3
                ((-3), I4)
              else
                (0, I)
            else
              let I5 : Im := meI I 2
              ((-3), I5)
      else
        let I7 : Im := meI I 1
        ((-3), I7)
set_option maxRecDepth 100000 in
set_option maxHeartbeats 4000000 in
theorem s_X12_needFloat  {k : Int32} {w : Int32} {c : Int32} {v : Int32} {r : Int32} (vk : vp_in k 4) (vr : vp_in r 6) (hSz : SzS I) : Ca G mdX12_needFloat [.ref 200, .int k, .int w, .int c, .int v, .int r] (mk I L t) (Rs (.int (f_X12_needFloat I k w c v r).1) (mk ((f_X12_needFloat I k w c v r).2) L t)) := by
  refine Ca.intro [some (.ref 200), some (.int k), some (.int w), some (.int c), some (.int v), some (.int r), none, none, none] (by decide) (Nat.le_of_ble_eq_true rfl) rfl rfl ?_
  refine ex_aload_n dX12_needFloat_0 rfl ?_
  refine g_12_10 dX12_needFloat_1 rfl wf_X12_29 (by first | assumption | rfl) (show Rt _ 200 10 = some 207 from rfl) ?_
  refine ex_iload_n dX12_needFloat_4 rfl ?_
  refine rx_zald dX12_needFloat_5 (by first | assumption | rfl) (by first | assumption | (unfold vp_in; decide)) ?_
  refine ex_if_eq 23 dX12_needFloat_6 (by decide) (fun h6 => ?_) (fun h6 => ?_)
  · skip
    refine ex_aload_n dX12_needFloat_23 rfl ?_
    refine ex_iconst (v := 1) dX12_needFloat_24 (by decide) ?_
    refine rx_cV (kd := 12) dX12_needFloat_25 rfl lk_X12_100 rfl (by decide) (by first | assumption | rfl) ⟨⟨rfl, rfl⟩, by decide, by decide⟩ rfl (Nat.le_of_ble_eq_true rfl) rfl (s_X12_meets (by unfold vp_in; decide)) (Rs.k ?_)
    refine ex_iret dX12_needFloat_28 rfl rfl ⟨rfl, Nat.le_refl _⟩ ?_
    exact ⟨(by simp only [f_X12_needFloat, ↓eq_true h6, if_true, if_false, not_true_eq_false, not_false_eq_true]), (by simp only [f_X12_needFloat, ↓eq_true h6, if_true, if_false, not_true_eq_false, not_false_eq_true])⟩
  · skip
    refine ex_iload_n dX12_needFloat_9 rfl ?_
    refine ex_if_eq 23 dX12_needFloat_10 (by decide) (fun h10 => ?_) (fun h10 => ?_)
    · skip
      refine ex_aload_n dX12_needFloat_23 rfl ?_
      refine ex_iconst (v := 1) dX12_needFloat_24 (by decide) ?_
      refine rx_cV (kd := 12) dX12_needFloat_25 rfl lk_X12_100 rfl (by decide) (by first | assumption | rfl) ⟨⟨rfl, rfl⟩, by decide, by decide⟩ rfl (Nat.le_of_ble_eq_true rfl) rfl (s_X12_meets (by unfold vp_in; decide)) (Rs.k ?_)
      refine ex_iret dX12_needFloat_28 rfl rfl ⟨rfl, Nat.le_refl _⟩ ?_
      exact ⟨(by simp only [f_X12_needFloat, ↓eq_false h6, ↓eq_true h10, if_true, if_false, not_true_eq_false, not_false_eq_true]), (by simp only [f_X12_needFloat, ↓eq_false h6, ↓eq_true h10, if_true, if_false, not_true_eq_false, not_false_eq_true])⟩
    · skip
      refine ex_aload_n dX12_needFloat_13 rfl ?_
      refine g_12_5 dX12_needFloat_14 rfl wf_X12_13 (by first | assumption | rfl) (show Rt _ 200 5 = some 202 from rfl) ?_
      refine ex_iload dX12_needFloat_17 rfl ?_
      refine rx_iald dX12_needFloat_19 (by first | assumption | rfl) (by first | assumption | (unfold vp_in; decide)) ?_
      refine ex_if_ge 29 dX12_needFloat_20 (by decide) (fun h20 => ?_) (fun h20 => ?_)
      · skip
        refine ex_aload_n dX12_needFloat_29 rfl ?_
        refine g_12_5 dX12_needFloat_30 rfl wf_X12_13 (by first | assumption | rfl) (show Rt _ 200 5 = some 202 from rfl) ?_
        refine ex_iload dX12_needFloat_33 rfl ?_
        refine rx_iald dX12_needFloat_35 (by first | assumption | rfl) (by first | assumption | (unfold vp_in; decide)) ?_
        refine ex_iconst (v := 1) dX12_needFloat_36 (by decide) ?_
        refine ex_bipush (v := 60) dX12_needFloat_37 (by decide) ?_
        refine rx_cS dX12_needFloat_39 rfl lk_X12_86 ⟨⟨rfl, rfl⟩, by decide, by decide⟩ rfl (Nat.le_of_ble_eq_true rfl) rfl s_X12_in (Rs.k ?_)
        refine ex_if_ne 51 dX12_needFloat_42 (by decide) (fun h42 => ?_) (fun h42 => ?_)
        · skip
          refine ex_aload_n dX12_needFloat_51 rfl ?_
          refine g_12_11 dX12_needFloat_52 rfl wf_X12_33 (by first | assumption | rfl) (show Rt _ 200 11 = some 208 from rfl) ?_
          refine ex_bipush (v := 21) dX12_needFloat_55 (by decide) ?_
          refine ex_iload_n dX12_needFloat_57 rfl ?_
          refine ex_imul dX12_needFloat_58 ?_
          refine rx_iald dX12_needFloat_59 (by first | assumption | rfl) (ixz (C := 21) (R := 4) rfl (by decide) vk (by decide)).1 ?_
          refine st_i6 dX12_needFloat_60 (by first | exact rfl | exact trivial) ?_
          refine ex_iload_n dX12_needFloat_62 rfl ?_
          refine ex_iload dX12_needFloat_63 rfl ?_
          refine ex_icmp_ge 77 dX12_needFloat_65 (by decide) (fun h65 => ?_) (fun h65 => ?_)
          · skip
            refine ex_aload_n dX12_needFloat_77 rfl ?_
            refine ex_iconst (v := 2) dX12_needFloat_78 (by decide) ?_
            refine rx_cV (kd := 12) dX12_needFloat_79 rfl lk_X12_100 rfl (by decide) (by first | assumption | rfl) ⟨⟨rfl, rfl⟩, by decide, by decide⟩ rfl (Nat.le_of_ble_eq_true rfl) rfl (s_X12_meets (by unfold vp_in; decide)) (Rs.k ?_)
            refine ex_iret dX12_needFloat_82 rfl rfl ⟨rfl, Nat.le_refl _⟩ ?_
            exact ⟨(by simp only [f_X12_needFloat, ↓eq_false h6, ↓eq_false h10, ↓h20, ↓eq_false h42, ↓h65, if_true, if_false, not_true_eq_false, not_false_eq_true]), (by simp only [f_X12_needFloat, ↓eq_false h6, ↓eq_false h10, ↓h20, ↓eq_false h42, ↓h65, if_true, if_false, not_true_eq_false, not_false_eq_true])⟩
          · skip
            refine ex_iload dX12_needFloat_68 rfl ?_
            refine ex_iconst (v := 1) dX12_needFloat_70 (by decide) ?_
            refine ex_iadd dX12_needFloat_71 ?_
            refine ex_iload dX12_needFloat_72 rfl ?_
            refine ex_icmp_lt 83 dX12_needFloat_74 (by decide) (fun h74 => ?_) (fun h74 => ?_)
            · skip
              refine ex_iconst (v := 1) dX12_needFloat_83 (by decide) ?_
              refine st_i7 dX12_needFloat_84 (by first | exact rfl | exact trivial) ?_
              refine ex_iconst (v := 0) dX12_needFloat_86 (by decide) ?_
              refine st_i8 dX12_needFloat_87 (by first | exact rfl | exact trivial) ?_
              refine (lm_nf0 vr (szn (hSz _ (vpn vr).1) h20)) ?_
              refine ex_iload dX12_needFloat_139 rfl ?_
              refine ex_if_eq 148 dX12_needFloat_141 (by decide) (fun h141 => ?_) (fun h141 => ?_)
              · skip
                refine ex_aload_n dX12_needFloat_148 rfl ?_
                refine ex_iconst (v := 3) dX12_needFloat_149 (by decide) ?_
                refine rx_cV (kd := 12) dX12_needFloat_150 rfl lk_X12_100 rfl (by decide) (by first | assumption | rfl) ⟨⟨rfl, rfl⟩, by decide, by decide⟩ rfl (Nat.le_of_ble_eq_true rfl) rfl (s_X12_meets (by unfold vp_in; decide)) (Rs.k ?_)
                refine ex_iret dX12_needFloat_153 rfl rfl ⟨rfl, Nat.le_refl _⟩ ?_
                exact ⟨(by simp only [f_X12_needFloat, ↓eq_false h6, ↓eq_false h10, ↓h20, ↓eq_false h42, ↓h65, ↓h74, ↓eq_true h141, if_true, if_false, not_true_eq_false, not_false_eq_true]), (by simp only [f_X12_needFloat, ↓eq_false h6, ↓eq_false h10, ↓h20, ↓eq_false h42, ↓h65, ↓h74, ↓eq_true h141, if_true, if_false, not_true_eq_false, not_false_eq_true])⟩
              · skip
                refine ex_iconst (v := 0) dX12_needFloat_144 (by decide) ?_
                refine ex_goto 153 dX12_needFloat_145 (by decide) ?_
                refine ex_iret dX12_needFloat_153 rfl rfl ⟨rfl, Nat.le_refl _⟩ ?_
                exact ⟨(by simp only [f_X12_needFloat, ↓eq_false h6, ↓eq_false h10, ↓h20, ↓eq_false h42, ↓h65, ↓h74, ↓eq_false h141, if_true, if_false, not_true_eq_false, not_false_eq_true]), (by simp only [f_X12_needFloat, ↓eq_false h6, ↓eq_false h10, ↓h20, ↓eq_false h42, ↓h65, ↓h74, ↓eq_false h141, if_true, if_false, not_true_eq_false, not_false_eq_true])⟩
            · skip
              refine ex_aload_n dX12_needFloat_77 rfl ?_
              refine ex_iconst (v := 2) dX12_needFloat_78 (by decide) ?_
              refine rx_cV (kd := 12) dX12_needFloat_79 rfl lk_X12_100 rfl (by decide) (by first | assumption | rfl) ⟨⟨rfl, rfl⟩, by decide, by decide⟩ rfl (Nat.le_of_ble_eq_true rfl) rfl (s_X12_meets (by unfold vp_in; decide)) (Rs.k ?_)
              refine ex_iret dX12_needFloat_82 rfl rfl ⟨rfl, Nat.le_refl _⟩ ?_
              exact ⟨(by simp only [f_X12_needFloat, ↓eq_false h6, ↓eq_false h10, ↓h20, ↓eq_false h42, ↓h65, ↓h74, if_true, if_false, not_true_eq_false, not_false_eq_true]), (by simp only [f_X12_needFloat, ↓eq_false h6, ↓eq_false h10, ↓h20, ↓eq_false h42, ↓h65, ↓h74, if_true, if_false, not_true_eq_false, not_false_eq_true])⟩
        · skip
          refine ex_aload_n dX12_needFloat_45 rfl ?_
          refine ex_iconst (v := 5) dX12_needFloat_46 (by decide) ?_
          refine rx_cV (kd := 12) dX12_needFloat_47 rfl lk_X12_100 rfl (by decide) (by first | assumption | rfl) ⟨⟨rfl, rfl⟩, by decide, by decide⟩ rfl (Nat.le_of_ble_eq_true rfl) rfl (s_X12_meets (by unfold vp_in; decide)) (Rs.k ?_)
          refine ex_iret dX12_needFloat_50 rfl rfl ⟨rfl, Nat.le_refl _⟩ ?_
          exact ⟨(by simp only [f_X12_needFloat, ↓eq_false h6, ↓eq_false h10, ↓h20, ↓eq_true h42, if_true, if_false, not_true_eq_false, not_false_eq_true]), (by simp only [f_X12_needFloat, ↓eq_false h6, ↓eq_false h10, ↓h20, ↓eq_true h42, if_true, if_false, not_true_eq_false, not_false_eq_true])⟩
      · skip
        refine ex_aload_n dX12_needFloat_23 rfl ?_
        refine ex_iconst (v := 1) dX12_needFloat_24 (by decide) ?_
        refine rx_cV (kd := 12) dX12_needFloat_25 rfl lk_X12_100 rfl (by decide) (by first | assumption | rfl) ⟨⟨rfl, rfl⟩, by decide, by decide⟩ rfl (Nat.le_of_ble_eq_true rfl) rfl (s_X12_meets (by unfold vp_in; decide)) (Rs.k ?_)
        refine ex_iret dX12_needFloat_28 rfl rfl ⟨rfl, Nat.le_refl _⟩ ?_
        exact ⟨(by simp only [f_X12_needFloat, ↓eq_false h6, ↓eq_false h10, ↓h20, if_true, if_false, not_true_eq_false, not_false_eq_true]), (by simp only [f_X12_needFloat, ↓eq_false h6, ↓eq_false h10, ↓h20, if_true, if_false, not_true_eq_false, not_false_eq_true])⟩
theorem nf0 {k w c v r : Int32} (h : 0 ≤ (f_X12_needFloat I k w c v r).1) : (f_X12_needFloat I k w c v r).2 = I ∧ ¬ I 207 k.toNatClampNeg = 0 ∧ ¬ w = 0 ∧ 0 ≤ I 202 r.toNatClampNeg := by
  unfold f_X12_needFloat at h ⊢
  by_cases c1 : I 207 k.toNatClampNeg = 0
  · rw [if_pos c1] at h
    exact absurd (show (0 : Int32) ≤ -3 from h) (by decide)
  rw [if_neg c1] at h ⊢
  by_cases c2 : w = 0
  · rw [if_pos c2] at h
    exact absurd (show (0 : Int32) ≤ -3 from h) (by decide)
  rw [if_neg c2] at h ⊢
  by_cases c3 : 0 ≤ I 202 r.toNatClampNeg
  · rw [if_pos c3] at h ⊢
    refine ⟨?_, c1, c2, c3⟩
    revert h
    split
    · exact fun h => absurd (show (0 : Int32) ≤ -3 from h) (by decide)
    · split
      · exact fun h => absurd (show (0 : Int32) ≤ -3 from h) (by decide)
      · split
        · split
          · exact fun h => absurd (show (0 : Int32) ≤ -3 from h) (by decide)
          · exact fun _ => rfl
        · exact fun h => absurd (show (0 : Int32) ≤ -3 from h) (by decide)
  · rw [if_neg c3] at h
    exact absurd (show (0 : Int32) ≤ -3 from h) (by decide)
def ofM (I : Im) (r : Nat) (N : Nat → Int32) (n mo c q k : Nat) : Int32 :=
  match k with
  | 0 => 0
  | k + 1 => ofM I r N n mo c q k + (if secI N n mo c (k + 1) (31 + q) < I 203 (60 * r + k) then I 203 (60 * r + k) - secI N n mo c (k + 1) (31 + q) else secI N n mo c (k + 1) (31 + q) - I 203 (60 * r + k))
termination_by k
theorem ofM_0 {r n mo c q : Nat} {N : Nat → Int32} : ofM I r N n mo c q 0 = 0 := by rw [ofM]
theorem ofM_s {r n mo c q k : Nat} {N : Nat → Int32} : ofM I r N n mo c q (k + 1) = ofM I r N n mo c q k + (if secI N n mo c (k + 1) (31 + q) < I 203 (60 * r + k) then I 203 (60 * r + k) - secI N n mo c (k + 1) (31 + q) else secI N n mo c (k + 1) (31 + q) - I 203 (60 * r + k)) := by rw [ofM]
set_option maxRecDepth 100000 in
set_option maxHeartbeats 4000000 in
theorem s_X12_offFloat {B n mo c m : Nat} {N : Nat → Int32} {y x r : Int32} (vy : vp_in y 4) (vx : vp_in x 16) (vr : vp_in r 6) (hw : WfN (wbN I N y.toNatClampNeg) n mo c) (h60 : m ≤ 60) (hm : I 202 r.toNatClampNeg = nI m) (hb : I 200 24 = nI B) (hB : B ≤ 500) : Ca G mdX12_offFloat [.ref 200, .int y, .int x, .int r] (mk (nw I B N) L t) (Rs (.int (ofM I r.toNatClampNeg (wbN I N y.toNatClampNeg) n mo c x.toNatClampNeg m)) (mk (nw I B (secI (wbN I N y.toNatClampNeg) n mo c m)) L t)) := by
  refine Ca.intro [some (.ref 200), some (.int y), some (.int x), some (.int r), none, none] (by decide) (Nat.le_of_ble_eq_true rfl) rfl rfl ?_
  refine ex_aload_n dX12_offFloat_0 rfl ?_
  refine ex_iload_n dX12_offFloat_1 rfl ?_
  refine rx_cV (kd := 12) dX12_offFloat_2 rfl lk_X12_174 rfl (by decide) (by first | assumption | rfl) ⟨⟨rfl, rfl⟩, by decide, by decide⟩ rfl (Nat.le_of_ble_eq_true rfl) rfl (s_X12_laySea vy hb hB) (Rv.k ?_)
  refine ex_aload_n dX12_offFloat_5 rfl ?_
  refine rx_cV (kd := 12) dX12_offFloat_6 rfl lk_X12_177 rfl (by decide) (by first | assumption | rfl) ⟨⟨rfl, rfl⟩, by decide, by decide⟩ rfl (Nat.le_of_ble_eq_true rfl) rfl (s_X12_begins hb hB) (Rv.k ?_)
  refine ex_iconst (v := 0) dX12_offFloat_9 (by decide) ?_
  refine st_i4 dX12_offFloat_10 (by first | exact rfl | exact trivial) ?_
  refine ex_iconst (v := 0) dX12_offFloat_12 (by decide) ?_
  refine st_i5 dX12_offFloat_13 (by first | exact rfl | exact trivial) ?_
  have key := loop_up (G := G) (d := mdX12_offFloat) (pc := 15) (st := []) (uc := 0) (us := 0) (P := Rs (.int (ofM I r.toNatClampNeg (wbN I N y.toNatClampNeg) n mo c x.toNatClampNeg m)) (mk (nw I B (secI (wbN I N y.toNatClampNeg) n mo c m)) L t)) m (fun k => mk (nw I B (secI (wbN I N y.toNatClampNeg) n mo c k)) L t) (fun k => [some (.ref 200), some (.int y), some (.int x), some (.int r), some (.int (ofM I r.toNatClampNeg (wbN I N y.toNatClampNeg) n mo c x.toNatClampNeg k)), some (.int (nI k))]) ?_ ?_ 0 (Nat.zero_le _)
  · rw [secI_0, ofM_0] at key
    exact key
  · intro k hk ih
    refine ex_iload dX12_offFloat_15 rfl ?_
    refine ex_aload_n dX12_offFloat_17 rfl ?_
    refine g_12_5 dX12_offFloat_18 rfl wf_X12_13 (by first | assumption | rfl) (show Rt _ 200 5 = some 202 from rfl) ?_
    refine ex_iload_n dX12_offFloat_21 rfl ?_
    refine rx_iald dX12_offFloat_22 (by first | assumption | rfl) vr ?_
    rw [nw_off (by decide), hm]
    refine ex_icmp_ge 59 dX12_offFloat_23 (by decide) (fun h23 => ?_) (fun h23 => ?_)
    · exact absurd h23 (nI_ge hk (by omega))
    · skip
      refine ex_aload_n dX12_offFloat_26 rfl ?_
      refine rx_cV (kd := 12) dX12_offFloat_27 rfl lk_X12_220 rfl (by decide) (by first | assumption | rfl) ⟨⟨rfl, rfl⟩, by decide, by decide⟩ rfl (Nat.le_of_ble_eq_true rfl) rfl (s_X12_second (WfN_i hw k) hb hB) (Rv.k ?_)
      rw [← secI_s]
      refine ex_iload dX12_offFloat_30 rfl ?_
      refine ex_aload_n dX12_offFloat_32 rfl ?_
      refine ex_bipush (v := 31) dX12_offFloat_33 (by decide) ?_
      refine ex_iload_n dX12_offFloat_35 rfl ?_
      refine ex_iadd dX12_offFloat_36 ?_
      refine rx_cV (kd := 12) dX12_offFloat_37 rfl lk_X12_183 rfl (by decide) (by first | assumption | rfl) ⟨⟨rfl, rfl⟩, by decide, by decide⟩ rfl (Nat.le_of_ble_eq_true rfl) rfl (s_X12_v (p := 31 + x.toNatClampNeg) (by rw [show (31 : Int32) + x = nI 31 + nI x.toNatClampNeg by rw [← (vpn vx).2]; rfl, nI_add]) (by have := (vpn vx).1; omega) hb hB) (Rs.k ?_)
      refine ex_aload_n dX12_offFloat_40 rfl ?_
      refine ex_iload_n dX12_offFloat_41 rfl ?_
      refine ex_iload dX12_offFloat_42 rfl ?_
      refine rx_cV (kd := 12) dX12_offFloat_44 rfl lk_X12_104 rfl (by decide) (by first | assumption | rfl) ⟨⟨rfl, rfl⟩, by decide, by decide⟩ rfl (Nat.le_of_ble_eq_true rfl) rfl (s_X12_rowAt vr (vp_in_nI (by omega) (by decide))) (Rs.k ?_)
      rw [nw_off (by decide), (ixm (c := 60) (C := 60) (R := 6) rfl vr (vp_in_nI (show k < 60 by omega) (by decide)) (by decide)).2, nI_clamp (by omega)]
      refine rx_cS dX12_offFloat_47 rfl lk_X12_283 ⟨⟨rfl, rfl⟩, by decide, by decide⟩ rfl (Nat.le_of_ble_eq_true rfl) rfl s_X12_far (Rs.k ?_)
      refine ex_iadd dX12_offFloat_50 ?_
      refine st_i4 dX12_offFloat_51 (by first | exact rfl | exact trivial) ?_
      refine inc5 (v := _ + 1) dX12_offFloat_53 (by rfl) (by first | exact rfl | exact trivial) ?_
      refine ex_goto 15 dX12_offFloat_56 (by decide) ?_
      rw [nI_1]
      rw [ofM_s] at ih
      exact ih
  · skip
    refine ex_iload dX12_offFloat_15 rfl ?_
    refine ex_aload_n dX12_offFloat_17 rfl ?_
    refine g_12_5 dX12_offFloat_18 rfl wf_X12_13 (by first | assumption | rfl) (show Rt _ 200 5 = some 202 from rfl) ?_
    refine ex_iload_n dX12_offFloat_21 rfl ?_
    refine rx_iald dX12_offFloat_22 (by first | assumption | rfl) vr ?_
    rw [nw_off (by decide), hm]
    refine ex_icmp_ge 59 dX12_offFloat_23 (by decide) (fun h23 => ?_) (fun h23 => ?_)
    · skip
      refine ex_iload dX12_offFloat_59 rfl ?_
      refine ex_iret dX12_offFloat_61 rfl rfl ⟨rfl, Nat.le_refl _⟩ ?_
      exact ⟨rfl, rfl⟩
    · exact absurd (Int32.le_refl _) h23
def fwN (I : Im) (q z : Nat) (w : Int32) : Nat → Int32 := wbN I (upn (cut (wnd (rdw (lkI I 4) 500) 0 21 (fun j => I 208 (21 * q + j)))) 4 w) z
theorem wbN_c {J : Im} {N : Nat → Int32} {z : Nat} (h0 : J 210 = I 210) (h1 : J 211 = I 211) : wbN J N z = wbN I N z := by
  unfold wbN
  rw [h0, h1]
theorem wbN_w {N : Nat → Int32} {z n mo : Nat} (hn3 : 3 ≤ n) (hn : n ≤ 16) (hm : mo < n) (e0 : N 0 = nI n) (e1 : N 1 = nI mo) (hS : SbS I) (hz : z < 4) : WfN (wbN I N z) n mo (I 210 z).toNatClampNeg := by
  obtain ⟨m, m4, em, hbt⟩ := hS z hz
  rw [em, nI_clamp (by omega)]
  refine ⟨⟨hn3, hn⟩, ?_, ⟨hm, ?_⟩, ⟨m4, ?_, fun i hi => ?_⟩, fun s hs h => ?_⟩
  · unfold wbN
    rw [wnd_out (by omega), wnd_out (by omega), upn_n (by omega), e0]
  · unfold wbN
    rw [wnd_out (by omega), wnd_out (by omega), upn_n (by omega), e1]
  · unfold wbN
    rw [wnd_out (by omega), wnd_out (by omega), upn_s]
    exact em
  · unfold wbN
    rw [wnd_out (by omega), wnd_in (by omega)]
    exact hbt i hi
  · have e := wnd_in (N := wnd (upn N 21 (I 210 z)) 22 8 (fun j => I 211 (8 * z + j))) (g := fun _ => (0 : Int32)) (o := 30) (k := 95) (j := 65 + 10 * s) (by omega)
    unfold wbN at h
    rw [show 95 + 10 * s = 30 + (65 + 10 * s) by omega, e] at h
    exact absurd h (by decide)
theorem secI_c {N : Nat → Int32} {n mo c p : Nat} (h : WfN N n mo c) (hp : p < 30) : ∀ k, secI N n mo c k p = N p := by
  intro k
  induction k with
  | zero => rw [secI_0]
  | succ k ih => rw [secI_s, secN_c h.1.2 h.2.2.1.1 hp, ih]
/-- the harbour that is looked at, before sea and seconds -/
def hbN (I : Im) (q : Nat) : Nat → Int32 := cut (wnd (rdw (lkI I 4) 500) 0 21 (fun j => I 208 (21 * q + j)))
theorem hbN_p {q p : Nat} (h : p < 21) : hbN I q p = I 208 (21 * q + p) := by
  unfold hbN cut
  have e := wnd_in (N := rdw (lkI I 4) 500) (g := fun j => I 208 (21 * q + j)) (o := 0) h
  rw [Nat.zero_add] at e
  rw [if_pos (by omega), e]
def siD (I : Im) (q z m : Nat) : Nat → Int32 := secI (wbN I (hbN I q) z) (I 208 (21 * q)).toNatClampNeg (I 208 (21 * q + 1)).toNatClampNeg (I 210 z).toNatClampNeg m
def siA (I : Im) (q z r c m : Nat) : Int32 := ofM I r (wbN I (hbN I q) z) (I 208 (21 * q)).toNatClampNeg (I 208 (21 * q + 1)).toNatClampNeg (I 210 z).toNatClampNeg c m
def siN (I : Im) (q z m : Nat) (k : Int32) : Nat → Int32 := upn (siD I q z m) 4 (siD I q z m 4 ||| 1 <<< (k &&& 31))
def siE (I : Im) (q z m : Nat) (k : Int32) : Nat → Int32 := secI (wbN I (siN I q z m k) z) (I 208 (21 * q)).toNatClampNeg (I 208 (21 * q + 1)).toNatClampNeg (I 210 z).toNatClampNeg m
def siB (I : Im) (q z r c m : Nat) (k : Int32) : Int32 := ofM I r (wbN I (siN I q z m k) z) (I 208 (21 * q)).toNatClampNeg (I 208 (21 * q + 1)).toNatClampNeg (I 210 z).toNatClampNeg c m
def siI (I : Im) (q z r c : Nat) (k : Int32) : Im := up2 (nw (lkI I 4) 500 (siE I q z (I 202 r).toNatClampNeg k)) 200 2 (if siA I q z r c (I 202 r).toNatClampNeg < siB I q z r c (I 202 r).toNatClampNeg k then siB I q z r c (I 202 r).toNatClampNeg k - siA I q z r c (I 202 r).toNatClampNeg else siA I q z r c (I 202 r).toNatClampNeg - siB I q z r c (I 202 r).toNatClampNeg k)
def siV (I : Im) (q z r c : Nat) (k : Int32) : Int32 := if siB I q z r c (I 202 r).toNatClampNeg k < siA I q z r c (I 202 r).toNatClampNeg then 1 else 0
theorem hb_w {q z : Nat} (hH : HmS I) (hq : q < 4) (hh : ¬ I 207 q = 0) (hS : SbS I) (hz : z < 4) : WfN (wbN I (hbN I q) z) (I 208 (21 * q)).toNatClampNeg (I 208 (21 * q + 1)).toNatClampNeg (I 210 z).toNatClampNeg := by
  obtain ⟨n, mo, h3, hn, hm, e0, e1⟩ := hH q hq hh
  rw [e0, e1, nI_clamp (show n < 2 ^ 31 by omega), nI_clamp (show mo < 2 ^ 31 by omega)]
  exact wbN_w h3 hn hm ((hbN_p (by decide)).trans e0) ((hbN_p (by decide)).trans e1) hS hz
theorem si_w {q z m : Nat} {k : Int32} (hH : HmS I) (hq : q < 4) (hh : ¬ I 207 q = 0) (hS : SbS I) (hz : z < 4) : WfN (wbN I (siN I q z m k) z) (I 208 (21 * q)).toNatClampNeg (I 208 (21 * q + 1)).toNatClampNeg (I 210 z).toNatClampNeg := by
  have hw := hb_w hH hq hh hS hz
  have hp : ∀ p, p < 2 → siN I q z m k p = I 208 (21 * q + p) := by
    intro p hp
    unfold siN siD
    rw [upn_n (by omega), secI_c hw (by omega)]
    unfold wbN
    rw [wnd_out (by omega), wnd_out (by omega), upn_n (by omega), hbN_p (by omega)]
  obtain ⟨n, mo, h3, hn, hm, e0, e1⟩ := hH q hq hh
  rw [e0, e1, nI_clamp (show n < 2 ^ 31 by omega), nI_clamp (show mo < 2 ^ 31 by omega)]
  exact wbN_w h3 hn hm ((hp 0 (by decide)).trans e0) ((hp 1 (by decide)).trans e1) hS hz
theorem s_ofG {q : Nat} {N : Nat → Int32} {n mo c : Nat} {y x r : Int32} (vy : vp_in y 4) (vx : vp_in x 16) (vr : vp_in r 6) (hw : WfN (wbN I N y.toNatClampNeg) n mo c) (hm : ∃ m, m ≤ 60 ∧ I 202 r.toNatClampNeg = nI m) : Ca G mdX12_offFloat [.ref 200, .int y, .int x, .int r] (mk (nw (lkI I 4) 500 N) L t) (Rs (.int (ofM I r.toNatClampNeg (wbN I N y.toNatClampNeg) n mo c x.toNatClampNeg (I 202 r.toNatClampNeg).toNatClampNeg)) (mk (nw (lkI I 4) 500 (secI (wbN I N y.toNatClampNeg) n mo c (I 202 r.toNatClampNeg).toNatClampNeg)) L t)) := by
  obtain ⟨m, h60, e⟩ := hm
  have ec : wbN (lkI I 4) N y.toNatClampNeg = wbN I N y.toNatClampNeg := wbN_c (lk_off (by decide)) (lk_off (by decide))
  have key := s_X12_offFloat (G := G) (I := lkI I 4) (L := L) (t := t) (N := N) vy vx vr (by rw [ec]; exact hw) h60 (by rw [lk_off (by decide)]; exact e) lk_4 (by decide)
  rw [ec] at key
  rw [e, nI_clamp (by omega)]
  have eo : ∀ k, ofM (lkI I 4) r.toNatClampNeg (wbN I N y.toNatClampNeg) n mo c x.toNatClampNeg k = ofM I r.toNatClampNeg (wbN I N y.toNatClampNeg) n mo c x.toNatClampNeg k := by
    intro k
    induction k with
    | zero => rw [ofM_0, ofM_0]
    | succ k ih => rw [ofM_s, ofM_s, ih, lk_off (by decide)]
  rw [eo] at key
  exact key
set_option maxRecDepth 100000 in
set_option maxHeartbeats 4000000 in
theorem lm_sin {k z c v r x : Int32} (vk : vp_in k 4) (vz : vp_in z 4) (vc : vp_in c 16) (vr : vp_in r 6) (hH : HmS I) (hS : SbS I) (g1 : ¬ I 207 k.toNatClampNeg = 0) (hm : ∃ m, m ≤ 60 ∧ I 202 r.toNatClampNeg = nI m) : Ex G mdX12_since 71 [some (.ref 200), some (.int k), some (.int z), some (.int c), some (.int v), some (.int r), some (.int x), none, none] [] (mk I L t) 0 0 (Rs (.int (siV I k.toNatClampNeg z.toNatClampNeg r.toNatClampNeg c.toNatClampNeg v)) (mk (siI I k.toNatClampNeg z.toNatClampNeg r.toNatClampNeg c.toNatClampNeg v) L t)) := by
  refine ex_aload_n dX12_since_71 rfl ?_
  refine ex_iconst (v := 4) dX12_since_72 (by decide) ?_
  refine rx_cV (kd := 12) dX12_since_73 rfl lk_X12_167 rfl (by decide) (by first | assumption | rfl) ⟨⟨rfl, rfl⟩, by decide, by decide⟩ rfl (Nat.le_of_ble_eq_true rfl) rfl s_X12_look (Rv.k ?_)
  rw [← nw_rd (I := lkI I 4) (B := 500)]
  refine ex_aload_n dX12_since_76 rfl ?_
  refine ex_iload_n dX12_since_77 rfl ?_
  refine rx_cV (kd := 12) dX12_since_78 rfl lk_X12_171 rfl (by decide) (by first | assumption | rfl) ⟨⟨rfl, rfl⟩, by decide, by decide⟩ rfl (Nat.le_of_ble_eq_true rfl) rfl (s_X12_layHarbour vk lk_4 (by decide)) (Rv.k ?_)
  rw [nw_cut, show cut (wnd (rdw (lkI I 4) 500) 0 21 (fun j => lkI I 4 208 (21 * k.toNatClampNeg + j))) = hbN I k.toNatClampNeg from rfl]
  refine ex_aload_n dX12_since_81 rfl ?_
  refine ex_iload_n dX12_since_82 rfl ?_
  refine ex_iload_n dX12_since_83 rfl ?_
  refine ex_iload dX12_since_84 rfl ?_
  refine rx_cV (kd := 12) dX12_since_86 rfl lk_X12_353 rfl (by decide) (by first | assumption | rfl) ⟨⟨rfl, rfl⟩, by decide, by decide⟩ rfl (Nat.le_of_ble_eq_true rfl) rfl (s_ofG (q := k.toNatClampNeg) vz vc vr (hb_w hH (vpn vk).1 g1 hS (vpn vz).1) hm) (Rs.k ?_)
  refine st_i7 dX12_since_89 (by first | exact rfl | exact trivial) ?_
  refine ex_aload_n dX12_since_91 rfl ?_
  refine ex_iconst (v := 4) dX12_since_92 (by decide) ?_
  refine ex_aload_n dX12_since_93 rfl ?_
  refine ex_iconst (v := 4) dX12_since_94 (by decide) ?_
  refine rx_cV (kd := 12) dX12_since_95 rfl lk_X12_183 rfl (by decide) (by first | assumption | rfl) ⟨⟨rfl, rfl⟩, by decide, by decide⟩ rfl (Nat.le_of_ble_eq_true rfl) rfl (s_X12_v (p := 4) rfl (by decide) lk_4 (by decide)) (Rs.k ?_)
  refine ex_iconst (v := 1) dX12_since_98 (by decide) ?_
  refine ex_iload dX12_since_99 rfl ?_
  refine ex_ishl dX12_since_101 ?_
  refine ex_ior dX12_since_102 ?_
  refine rx_cV (kd := 12) dX12_since_103 rfl lk_X12_160 rfl (by decide) (by first | assumption | rfl) ⟨⟨rfl, rfl⟩, by decide, by decide⟩ rfl (Nat.le_of_ble_eq_true rfl) rfl (s_X12_put_ (p := 4) rfl (by decide) lk_4 (by decide)) (Rv.k ?_)
  rw [show upn (secI (wbN I (hbN I k.toNatClampNeg) z.toNatClampNeg) (I 208 (21 * k.toNatClampNeg)).toNatClampNeg (I 208 (21 * k.toNatClampNeg + 1)).toNatClampNeg (I 210 z.toNatClampNeg).toNatClampNeg (I 202 r.toNatClampNeg).toNatClampNeg) 4 (secI (wbN I (hbN I k.toNatClampNeg) z.toNatClampNeg) (I 208 (21 * k.toNatClampNeg)).toNatClampNeg (I 208 (21 * k.toNatClampNeg + 1)).toNatClampNeg (I 210 z.toNatClampNeg).toNatClampNeg (I 202 r.toNatClampNeg).toNatClampNeg 4 ||| 1 <<< (v &&& 31)) = siN I k.toNatClampNeg z.toNatClampNeg (I 202 r.toNatClampNeg).toNatClampNeg v from rfl]
  refine ex_aload_n dX12_since_106 rfl ?_
  refine ex_iload_n dX12_since_107 rfl ?_
  refine ex_iload_n dX12_since_108 rfl ?_
  refine ex_iload dX12_since_109 rfl ?_
  refine rx_cV (kd := 12) dX12_since_111 rfl lk_X12_353 rfl (by decide) (by first | assumption | rfl) ⟨⟨rfl, rfl⟩, by decide, by decide⟩ rfl (Nat.le_of_ble_eq_true rfl) rfl (s_ofG (q := k.toNatClampNeg) vz vc vr (si_w hH (vpn vk).1 g1 hS (vpn vz).1) hm) (Rs.k ?_)
  refine st_i8 dX12_since_114 (by first | exact rfl | exact trivial) ?_
  refine ex_aload_n dX12_since_116 rfl ?_
  refine ex_iload dX12_since_117 rfl ?_
  refine ex_iload dX12_since_119 rfl ?_
  refine rx_cS dX12_since_121 rfl lk_X12_283 ⟨⟨rfl, rfl⟩, by decide, by decide⟩ rfl (Nat.le_of_ble_eq_true rfl) rfl s_X12_far (Rs.k ?_)
  refine ex_iload dX12_since_124 rfl ?_
  refine ex_iload dX12_since_126 rfl ?_
  refine ex_icmp_gt 135 dX12_since_128 (by decide) (fun h128 => ?_) (fun h128 => ?_)
  · have hc : siV I k.toNatClampNeg z.toNatClampNeg r.toNatClampNeg c.toNatClampNeg v = 1 := if_pos h128
    refine ex_iconst (v := 1) dX12_since_135 (by decide) ?_
    refine rx_cV (kd := 12) dX12_since_136 rfl lk_X12_108 rfl (by decide) (by first | assumption | rfl) ⟨⟨rfl, rfl⟩, by decide, by decide⟩ rfl (Nat.le_of_ble_eq_true rfl) rfl s_X12_tells (Rs.k ?_)
    refine ex_iret dX12_since_139 rfl rfl ⟨rfl, Nat.le_refl _⟩ ?_
    exact ⟨by rw [hc], rfl⟩
  · have hc : siV I k.toNatClampNeg z.toNatClampNeg r.toNatClampNeg c.toNatClampNeg v = 0 := if_neg h128
    refine ex_iconst (v := 0) dX12_since_131 (by decide) ?_
    refine ex_goto 136 dX12_since_132 (by decide) ?_
    refine rx_cV (kd := 12) dX12_since_136 rfl lk_X12_108 rfl (by decide) (by first | assumption | rfl) ⟨⟨rfl, rfl⟩, by decide, by decide⟩ rfl (Nat.le_of_ble_eq_true rfl) rfl s_X12_tells (Rs.k ?_)
    refine ex_iret dX12_since_139 rfl rfl ⟨rfl, Nat.le_refl _⟩ ?_
    exact ⟨by rw [hc], rfl⟩
def f_X12_since (I : Im) (k z c v r : Int32) : Int32 × Im := if b2i (0 ≤ k ∧ k ≤ 3) = 0 ∨ b2i (0 ≤ z ∧ z ≤ 3) = 0 ∨ b2i (0 ≤ c ∧ c ≤ 15) = 0 ∨ b2i (0 ≤ v ∧ v ≤ 15) = 0 ∨ b2i (0 ≤ r ∧ r ≤ 5) = 0 then (-1, I) else if 0 ≤ (f_X12_needFloat I k (I 209 z.toNatClampNeg) c v r).1 then (siV I k.toNatClampNeg z.toNatClampNeg r.toNatClampNeg c.toNatClampNeg v, siI I k.toNatClampNeg z.toNatClampNeg r.toNatClampNeg c.toNatClampNeg v) else f_X12_needFloat I k (I 209 z.toNatClampNeg) c v r
set_option maxRecDepth 100000 in
set_option maxHeartbeats 4000000 in
theorem s_X12_since {k z c v r : Int32} (hH : HmS I) (hS : SbS I) (hSz : SzS I) : Ca G mdX12_since [.ref 200, .int k, .int z, .int c, .int v, .int r] (mk I L t) (Rs (.int (f_X12_since I k z c v r).1) (mk (f_X12_since I k z c v r).2 L t)) := by
  refine Ca.intro [some (.ref 200), some (.int k), some (.int z), some (.int c), some (.int v), some (.int r), none, none, none] (by decide) (Nat.le_of_ble_eq_true rfl) rfl rfl ?_
  refine ex_iload_n dX12_since_0 rfl ?_
  refine rx_cS dX12_since_1 rfl lk_X12_151 ⟨⟨rfl, rfl⟩, by decide, by decide⟩ rfl (Nat.le_of_ble_eq_true rfl) rfl s_X12_isPlace (Rs.k ?_)
  refine ex_if_eq 43 dX12_since_4 (by decide) (fun h4 => ?_) (fun h4 => ?_)
  · have hF : (f_X12_since I k z c v r) = (-1, I) := if_pos (Or.inl h4)
    refine ex_iconst (v := (-1)) dX12_since_43 (by decide) ?_
    refine ex_iret dX12_since_44 rfl rfl ⟨rfl, Nat.le_refl _⟩ ?_
    exact ⟨by rw [hF], by rw [hF]⟩
  · have qk := (cl_lt (N := 4) (by decide) h4).1
    have vk := (cl_lt (N := 4) (by decide) h4).2
    refine ex_iload_n dX12_since_7 rfl ?_
    refine rx_cS dX12_since_8 rfl lk_X12_151 ⟨⟨rfl, rfl⟩, by decide, by decide⟩ rfl (Nat.le_of_ble_eq_true rfl) rfl s_X12_isPlace (Rs.k ?_)
    refine ex_if_eq 43 dX12_since_11 (by decide) (fun h11 => ?_) (fun h11 => ?_)
    · have hF : (f_X12_since I k z c v r) = (-1, I) := if_pos (Or.inr (Or.inl h11))
      refine ex_iconst (v := (-1)) dX12_since_43 (by decide) ?_
      refine ex_iret dX12_since_44 rfl rfl ⟨rfl, Nat.le_refl _⟩ ?_
      exact ⟨by rw [hF], by rw [hF]⟩
    · have qz := (cl_lt (N := 4) (by decide) h11).1
      have vz := (cl_lt (N := 4) (by decide) h11).2
      refine ex_iload_n dX12_since_14 rfl ?_
      refine ex_iconst (v := 0) dX12_since_15 (by decide) ?_
      refine ex_bipush (v := 15) dX12_since_16 (by decide) ?_
      refine rx_cS dX12_since_18 rfl lk_X12_86 ⟨⟨rfl, rfl⟩, by decide, by decide⟩ rfl (Nat.le_of_ble_eq_true rfl) rfl s_X12_in (Rs.k ?_)
      refine ex_if_eq 43 dX12_since_21 (by decide) (fun h21 => ?_) (fun h21 => ?_)
      · have hF : (f_X12_since I k z c v r) = (-1, I) := if_pos (Or.inr (Or.inr (Or.inl h21)))
        refine ex_iconst (v := (-1)) dX12_since_43 (by decide) ?_
        refine ex_iret dX12_since_44 rfl rfl ⟨rfl, Nat.le_refl _⟩ ?_
        exact ⟨by rw [hF], by rw [hF]⟩
      · have qc := (cl_lt (N := 16) (by decide) h21).1
        have vc := (cl_lt (N := 16) (by decide) h21).2
        refine ex_iload dX12_since_24 rfl ?_
        refine ex_iconst (v := 0) dX12_since_26 (by decide) ?_
        refine ex_bipush (v := 15) dX12_since_27 (by decide) ?_
        refine rx_cS dX12_since_29 rfl lk_X12_86 ⟨⟨rfl, rfl⟩, by decide, by decide⟩ rfl (Nat.le_of_ble_eq_true rfl) rfl s_X12_in (Rs.k ?_)
        refine ex_if_eq 43 dX12_since_32 (by decide) (fun h32 => ?_) (fun h32 => ?_)
        · have hF : (f_X12_since I k z c v r) = (-1, I) := if_pos (Or.inr (Or.inr (Or.inr (Or.inl h32))))
          refine ex_iconst (v := (-1)) dX12_since_43 (by decide) ?_
          refine ex_iret dX12_since_44 rfl rfl ⟨rfl, Nat.le_refl _⟩ ?_
          exact ⟨by rw [hF], by rw [hF]⟩
        · skip
          refine ex_iload dX12_since_35 rfl ?_
          refine rx_cS dX12_since_37 rfl lk_X12_96 ⟨⟨rfl, rfl⟩, by decide, by decide⟩ rfl (Nat.le_of_ble_eq_true rfl) rfl s_X12_isRow (Rs.k ?_)
          refine ex_if_ne 45 dX12_since_40 (by decide) (fun h40 => ?_) (fun h40 => ?_)
          · have qr := (cl_lt (N := 6) (by decide) h40).1
            have vr := (cl_lt (N := 6) (by decide) h40).2
            have hF0 : (f_X12_since I k z c v r) = (if 0 ≤ (f_X12_needFloat I k (I 209 z.toNatClampNeg) c v r).1 then (siV I k.toNatClampNeg z.toNatClampNeg r.toNatClampNeg c.toNatClampNeg v, siI I k.toNatClampNeg z.toNatClampNeg r.toNatClampNeg c.toNatClampNeg v) else f_X12_needFloat I k (I 209 z.toNatClampNeg) c v r) := if_neg (fun q => q.elim h4 (fun q => q.elim h11 (fun q => q.elim h21 (fun q => q.elim h32 h40))))
            refine ex_aload_n dX12_since_45 rfl ?_
            refine ex_iload_n dX12_since_46 rfl ?_
            refine ex_aload_n dX12_since_47 rfl ?_
            refine g_12_12 dX12_since_48 rfl wf_X12_36 (by first | assumption | rfl) (show Rt _ 200 12 = some 209 from rfl) ?_
            refine ex_iload_n dX12_since_51 rfl ?_
            refine rx_zald dX12_since_52 (by first | assumption | rfl) (by first | assumption | (unfold vp_in; decide)) ?_
            refine ex_iload_n dX12_since_53 rfl ?_
            refine ex_iload dX12_since_54 rfl ?_
            refine ex_iload dX12_since_56 rfl ?_
            refine rx_cV (kd := 12) dX12_since_58 rfl lk_X12_349 rfl (by decide) (by first | assumption | rfl) ⟨⟨rfl, rfl⟩, by decide, by decide⟩ rfl (Nat.le_of_ble_eq_true rfl) rfl (s_X12_needFloat vk vr hSz) (Rs.k ?_)
            refine st_i6 dX12_since_61 (by first | exact rfl | exact trivial) ?_
            refine ex_iload dX12_since_63 rfl ?_
            refine ex_if_ge 71 dX12_since_65 (by decide) (fun h65 => ?_) (fun h65 => ?_)
            · have hF := hF0.trans (if_pos h65)
              obtain ⟨hJ, g1, g2, g3⟩ := nf0 h65
              rw [hF, hJ]
              exact lm_sin vk vz vc vr hH hS g1 (szn (hSz _ qr) g3)
            · have hF := hF0.trans (if_neg h65)
              refine ex_iload dX12_since_68 rfl ?_
              refine ex_iret dX12_since_70 rfl rfl ⟨rfl, Nat.le_refl _⟩ ?_
              exact ⟨by rw [hF], by rw [hF]⟩
          · have hF : (f_X12_since I k z c v r) = (-1, I) := if_pos (Or.inr (Or.inr (Or.inr (Or.inr (h40)))))
            refine ex_iconst (v := (-1)) dX12_since_43 (by decide) ?_
            refine ex_iret dX12_since_44 rfl rfl ⟨rfl, Nat.le_refl _⟩ ?_
            exact ⟨by rw [hF], by rw [hF]⟩
end M21
