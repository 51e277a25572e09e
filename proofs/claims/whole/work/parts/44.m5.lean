section M5
variable {G : Gp} {I : Im} {L : Nat → Nat → Int64} {t : Nat}
def RxH (r : Int32 × Nat × Im) (L : Nat → Nat → Int64) (t : Nat) : Option Value → Mem → Prop := Rx (.int r.1) r.2.2 r.2.1 L t
set_option maxRecDepth 100000 in
set_option maxHeartbeats 4000000 in
theorem lm_hf1 {P : Option Value → Mem → Prop} {y : Int32} (kont : Ex G mdX12_harbourFault 49 [some (.ref 200), some (.int y), some (.int (nI 21))] [] (mk (flw I 212 0 21 rhG) L t) 0 0 P) : Ex G mdX12_harbourFault 7 [some (.ref 200), some (.int y), some (.int (nI 0))] [] (mk (flw I 212 0 0 rhG) L t) 0 0 P := by
  refine loop_up (G := G) (d := mdX12_harbourFault) (pc := 7) (st := []) (uc := 0) (us := 0) (P := P) 21 (fun k => mk (flw I 212 0 k rhG) L t) (fun k => [some (.ref 200), some (.int y), some (.int (nI k))]) ?_ ?_ 0 (Nat.zero_le _)
  · intro k hk ih
    refine ex_iload_n dX12_harbourFault_7 rfl ?_
    refine ex_bipush (v := 21) dX12_harbourFault_8 (by decide) ?_
    refine ex_icmp_ge 49 dX12_harbourFault_10 (by decide) (fun h10 => ?_) (fun h10 => ?_)
    · exact absurd h10 (nI_ge hk (by decide))
    · skip
      refine ex_aload_n dX12_harbourFault_13 rfl ?_
      refine g_12_18 dX12_harbourFault_14 rfl wf_X12_45 (by first | assumption | rfl) (show Rt _ 200 18 = some 212 from rfl) ?_
      refine ex_iload_n dX12_harbourFault_17 rfl ?_
      refine ex_iload_n dX12_harbourFault_18 rfl ?_
      refine ex_iconst (v := 5) dX12_harbourFault_19 (by decide) ?_
      refine ex_icmp_ge 28 dX12_harbourFault_20 (by decide) (fun h20 => ?_) (fun h20 => ?_)
      · have hv : rhG k = 4 := if_pos h20
        refine ex_iconst (v := 4) dX12_harbourFault_28 (by decide) ?_
        refine ex_goto 42 dX12_harbourFault_29 (by decide) ?_
        refine rx_iast dX12_harbourFault_42 (by first | assumption | rfl) (vp_in_nI hk (by decide)) ?_
        refine inc2 (v := _ + 1) dX12_harbourFault_43 (by rfl) (by first | exact rfl | exact trivial) ?_
        refine ex_goto 7 dX12_harbourFault_46 (by decide) ?_
        rw [nI_clamp (by omega), nI_1]
        rw [← flw_s, Nat.zero_add, hv] at ih
        exact ih
      · skip
        refine ex_iload_n dX12_harbourFault_23 rfl ?_
        refine ex_iconst (v := 2) dX12_harbourFault_24 (by decide) ?_
        refine ex_icmp_ne 32 dX12_harbourFault_25 (by decide) (fun h25 => ?_) (fun h25 => ?_)
        · skip
          refine ex_iload_n dX12_harbourFault_32 rfl ?_
          refine ex_iconst (v := 3) dX12_harbourFault_33 (by decide) ?_
          refine ex_icmp_ne 41 dX12_harbourFault_34 (by decide) (fun h34 => ?_) (fun h34 => ?_)
          · have hv : rhG k = 0 := (if_neg h20).trans ((if_neg h25).trans (if_neg h34))
            refine ex_iconst (v := 0) dX12_harbourFault_41 (by decide) ?_
            refine rx_iast dX12_harbourFault_42 (by first | assumption | rfl) (vp_in_nI hk (by decide)) ?_
            refine inc2 (v := _ + 1) dX12_harbourFault_43 (by rfl) (by first | exact rfl | exact trivial) ?_
            refine ex_goto 7 dX12_harbourFault_46 (by decide) ?_
            rw [nI_clamp (by omega), nI_1]
            rw [← flw_s, Nat.zero_add, hv] at ih
            exact ih
          · have hv : rhG k = 1 := (if_neg h20).trans ((if_neg h25).trans (if_pos h34))
            refine ex_iconst (v := 1) dX12_harbourFault_37 (by decide) ?_
            refine ex_goto 42 dX12_harbourFault_38 (by decide) ?_
            refine rx_iast dX12_harbourFault_42 (by first | assumption | rfl) (vp_in_nI hk (by decide)) ?_
            refine inc2 (v := _ + 1) dX12_harbourFault_43 (by rfl) (by first | exact rfl | exact trivial) ?_
            refine ex_goto 7 dX12_harbourFault_46 (by decide) ?_
            rw [nI_clamp (by omega), nI_1]
            rw [← flw_s, Nat.zero_add, hv] at ih
            exact ih
        · have hv : rhG k = 4 := (if_neg h20).trans (if_pos h25)
          refine ex_iconst (v := 4) dX12_harbourFault_28 (by decide) ?_
          refine ex_goto 42 dX12_harbourFault_29 (by decide) ?_
          refine rx_iast dX12_harbourFault_42 (by first | assumption | rfl) (vp_in_nI hk (by decide)) ?_
          refine inc2 (v := _ + 1) dX12_harbourFault_43 (by rfl) (by first | exact rfl | exact trivial) ?_
          refine ex_goto 7 dX12_harbourFault_46 (by decide) ?_
          rw [nI_clamp (by omega), nI_1]
          rw [← flw_s, Nat.zero_add, hv] at ih
          exact ih
  · skip
    refine ex_iload_n dX12_harbourFault_7 rfl ?_
    refine ex_bipush (v := 21) dX12_harbourFault_8 (by decide) ?_
    refine ex_icmp_ge 49 dX12_harbourFault_10 (by decide) (fun h10 => ?_) (fun h10 => ?_)
    · skip
      exact kont
    · exact absurd (by decide : nI 21 ≤ nI 21) h10
set_option maxRecDepth 100000 in
set_option maxHeartbeats 4000000 in
theorem lm_hfe {q m p : Nat} {J : Im} {x : Int32} (hJ : TqS J q m) (hmp : m ≤ p) (hp : p < 2 ^ 31) : Ex G mdX12_harbourFault 49 [some (.ref 200), some (.int (nI q)), none] [] (mk (rm J p x) L t) 0 0 (RxH (if J 212 0 = 0 then nI m else -9, p, J) L t) := by
  refine ex_aload_n dX12_harbourFault_49 rfl ?_
  refine g_12_15 dX12_harbourFault_50 rfl wf_X12_114 (by first | assumption | rfl) ?_
  rw [rm_p]
  refine ex_aload_n dX12_harbourFault_53 rfl ?_
  refine g_12_8 dX12_harbourFault_54 rfl wf_X12_22 (by first | assumption | rfl) (show Rt _ 200 8 = some 205 from rfl) ?_
  refine ex_iload_n dX12_harbourFault_57 rfl ?_
  refine rx_iald dX12_harbourFault_58 (by first | assumption | rfl) (vp_in_nI hJ.1 (by decide)) ?_
  rw [rm_off (by decide), nI_clamp (by have := hJ.1; omega), hJ.2.2.1]
  refine ex_icmp_ge 122 dX12_harbourFault_59 (by decide) (fun h59 => ?_) (fun h59 => ?_)
  · skip
    refine ex_aload_n dX12_harbourFault_122 rfl ?_
    refine g_12_18 dX12_harbourFault_123 rfl wf_X12_45 (by first | assumption | rfl) (show Rt _ 200 18 = some 212 from rfl) ?_
    refine ex_iconst (v := 0) dX12_harbourFault_126 (by decide) ?_
    refine rx_iald dX12_harbourFault_127 (by first | assumption | rfl) (by first | assumption | (unfold vp_in; decide)) ?_
    rw [rm_off (by decide), show (0 : Int32).toNatClampNeg = 0 from rfl]
    refine ex_if_ne 140 dX12_harbourFault_128 (by decide) (fun h128 => ?_) (fun h128 => ?_)
    · rw [if_neg h128]
      refine ex_bipush (v := (-9)) dX12_harbourFault_140 (by decide) ?_
      refine ex_iret dX12_harbourFault_142 rfl rfl ⟨rfl, Nat.le_refl _⟩ ?_
      exact ⟨rfl, x, rfl⟩
    · rw [if_pos h128]
      refine ex_aload_n dX12_harbourFault_131 rfl ?_
      refine g_12_8 dX12_harbourFault_132 rfl wf_X12_22 (by first | assumption | rfl) (show Rt _ 200 8 = some 205 from rfl) ?_
      refine ex_iload_n dX12_harbourFault_135 rfl ?_
      refine rx_iald dX12_harbourFault_136 (by first | assumption | rfl) (vp_in_nI hJ.1 (by decide)) ?_
      rw [rm_off (by decide), nI_clamp (by have := hJ.1; omega), hJ.2.2.1]
      refine ex_goto 142 dX12_harbourFault_137 (by decide) ?_
      refine ex_iret dX12_harbourFault_142 rfl rfl ⟨rfl, Nat.le_refl _⟩ ?_
      exact ⟨rfl, x, rfl⟩
  · exact absurd (nI_le hmp hp) h59
set_option maxRecDepth 100000 in
set_option maxHeartbeats 4000000 in
theorem lm_hf {q m : Nat} {f : Nat → Int32} : ∀ (k p : Nat) (J : Im) (x : Int32), TqS J q m → byF (J 206) q m = f → MzS J → p + 8 * k ≤ 1000 → m ≤ p + k → Ex G mdX12_harbourFault 49 [some (.ref 200), some (.int (nI q)), none] [] (mk (rm J p x) L t) 0 0 (RxH (mhF f m k p J) L t) := by
  intro k
  induction k with
  | zero =>
    intro p J x hJ hf hz h1 h2
    rw [mhF_e (by omega)]
    exact lm_hfe hJ (by omega) (by omega)
  | succ k ih =>
    intro p J x hJ hf hz h1 h2
    by_cases hmp : m ≤ p
    · rw [mhF_e hmp]
      exact lm_hfe hJ hmp (by omega)
    · rw [mhF_s hmp]
      refine ex_aload_n dX12_harbourFault_49 rfl ?_
      refine g_12_15 dX12_harbourFault_50 rfl wf_X12_114 (by first | assumption | rfl) ?_
      rw [rm_p]
      refine ex_aload_n dX12_harbourFault_53 rfl ?_
      refine g_12_8 dX12_harbourFault_54 rfl wf_X12_22 (by first | assumption | rfl) (show Rt _ 200 8 = some 205 from rfl) ?_
      refine ex_iload_n dX12_harbourFault_57 rfl ?_
      refine rx_iald dX12_harbourFault_58 (by first | assumption | rfl) (vp_in_nI hJ.1 (by decide)) ?_
      rw [rm_off (by decide), nI_clamp (by have := hJ.1; omega), hJ.2.2.1]
      refine ex_icmp_ge 122 dX12_harbourFault_59 (by decide) (fun h59 => ?_) (fun h59 => ?_)
      · exact absurd ((nI_leI (by have := hJ.2.1; omega) (by omega)).mp h59) hmp
      · skip
        refine ex_aload_n dX12_harbourFault_62 rfl ?_
        refine ex_iload_n dX12_harbourFault_63 rfl ?_
        refine ex_aload_n dX12_harbourFault_64 rfl ?_
        refine g_12_15 dX12_harbourFault_65 rfl wf_X12_114 (by first | assumption | rfl) ?_
        rw [rm_p]
        refine rx_cV (kd := 12) dX12_harbourFault_68 rfl lk_X12_117 rfl (by decide) (by first | assumption | rfl) ⟨⟨rfl, rfl⟩, by decide, by decide⟩ rfl (Nat.le_of_ble_eq_true rfl) rfl (s_X12_byteAt hJ.1 hJ.2.1 (by rw [rm_off (by decide)]; exact hJ.2.2.1) (by omega)) (Rs.k ?_)
        rw [rm_off (by decide), hf]
        refine ex_bipush (v := 32) dX12_harbourFault_71 (by decide) ?_
        refine ex_icmp_ne 89 dX12_harbourFault_73 (by decide) (fun h73 => ?_) (fun h73 => ?_)
        · rw [if_neg h73]
          refine ex_aload_n dX12_harbourFault_89 rfl ?_
          refine g_12_18 dX12_harbourFault_90 rfl wf_X12_45 (by first | assumption | rfl) (show Rt _ 200 18 = some 212 from rfl) ?_
          refine ex_iconst (v := 0) dX12_harbourFault_93 (by decide) ?_
          refine rx_iald dX12_harbourFault_94 (by first | assumption | rfl) (by first | assumption | (unfold vp_in; decide)) ?_
          rw [rm_off (by decide), show (0 : Int32).toNatClampNeg = 0 from rfl]
          refine ex_if_ne 109 dX12_harbourFault_95 (by decide) (fun h95 => ?_) (fun h95 => ?_)
          · rw [if_neg h95]
            obtain ⟨n, hn3, hn, en⟩ := hz.resolve_left h95
            rw [en, nI_clamp (by omega)]
            refine ex_aload_n dX12_harbourFault_109 rfl ?_
            refine ex_iload_n dX12_harbourFault_110 rfl ?_
            refine rx_cV (kd := 12) dX12_harbourFault_111 rfl lk_X12_136 rfl (by decide) (by first | assumption | rfl) ⟨⟨rfl, rfl⟩, by decide, by decide⟩ rfl (Nat.le_of_ble_eq_true rfl) rfl (s_X12_readsItem hJ (by omega) hn3 hn en) ?_
            refine Rx.k ?_
            intro x1
            rw [hf]
            refine ex_if_ne 49 dX12_harbourFault_114 (by decide) (fun h114 => ?_) (fun h114 => ?_)
            · rw [if_pos (b2i_n0.mp h114)]
              have jJ : TqS (itM J (itm f n p)) q m := TqS_of (itM_off (by decide)) (itM_off (by decide)) hJ
              have jf : byF (itM J (itm f n p) 206) q m = f := by rw [itM_off (by decide)]; exact hf
              have jz : MzS (itM J (itm f n p)) := it_z hz (itm_k hn3 hn)
              have jb := itm_b (f := f) (n := n) (p := p)
              have jc := jb.2 (b2i_n0.mp h114)
              have b1 : (itm f n p).2.1 + 8 * k ≤ 1000 := by omega
              have b2 : m ≤ (itm f n p).2.1 + k := by omega
              exact ih _ _ _ jJ jf jz b1 b2
            · rw [if_neg (b2i_0.mp h114)]
              refine ex_aload_n dX12_harbourFault_117 rfl ?_
              refine g_12_15 dX12_harbourFault_118 rfl wf_X12_114 (by first | assumption | rfl) ?_
              rw [rm_p]
              refine ex_iret dX12_harbourFault_121 rfl rfl ⟨rfl, Nat.le_refl _⟩ ?_
              exact ⟨rfl, _, rfl⟩
          · rw [if_pos h95]
            refine ex_aload_n dX12_harbourFault_98 rfl ?_
            refine ex_iload_n dX12_harbourFault_99 rfl ?_
            refine rx_cV (kd := 12) dX12_harbourFault_100 rfl lk_X12_133 rfl (by decide) (by first | assumption | rfl) ⟨⟨rfl, rfl⟩, by decide, by decide⟩ rfl (Nat.le_of_ble_eq_true rfl) rfl (s_X12_readsCells hJ (by omega)) ?_
            refine Rx.k ?_
            intro x1
            rw [hf]
            refine ex_if_eq 117 dX12_harbourFault_103 (by decide) (fun h103 => ?_) (fun h103 => ?_)
            · rw [if_neg (b2i_0.mp h103)]
              refine ex_aload_n dX12_harbourFault_117 rfl ?_
              refine g_12_15 dX12_harbourFault_118 rfl wf_X12_114 (by first | assumption | rfl) ?_
              rw [rm_p]
              refine ex_iret dX12_harbourFault_121 rfl rfl ⟨rfl, Nat.le_refl _⟩ ?_
              exact ⟨rfl, _, rfl⟩
            · rw [if_pos (b2i_n0.mp h103)]
              have jJ : TqS (rcI J f p) q m := TqS_of (rcI_off (by decide)) (rcI_off (by decide)) hJ
              have jf : byF (rcI J f p 206) q m = f := by rw [rcI_off (by decide)]; exact hf
              have jz : MzS (rcI J f p) := rc_z (b2i_n0.mp h103)
              have jb := rcP_b (f := f) (p := p)
              have jc := jb.2.2 (b2i_n0.mp h103).1
              have b1 : rcP f p + 8 * k ≤ 1000 := by omega
              have b2 : m ≤ rcP f p + k := by omega
              refine ex_goto 49 dX12_harbourFault_106 (by decide) ?_
              exact ih _ _ _ jJ jf jz b1 b2
        · rw [if_pos h73]
          have jJ := hJ
          have jf := hf
          have jz := hz
          have b1 : p + 1 + 8 * k ≤ 1000 := by omega
          have b2 : m ≤ p + 1 + k := by omega
          refine ex_aload_n dX12_harbourFault_76 rfl ?_
          refine ex_dup dX12_harbourFault_77 rfl ?_
          refine g_12_15 dX12_harbourFault_78 rfl wf_X12_114 (by first | assumption | rfl) ?_
          rw [rm_p]
          refine ex_iconst (v := 1) dX12_harbourFault_81 (by decide) ?_
          refine ex_iadd dX12_harbourFault_82 ?_
          refine p_12_15 dX12_harbourFault_83 rfl wf_X12_114 (by first | assumption | rfl) ?_
          rw [nI_1, rm_wp]
          refine ex_goto 49 dX12_harbourFault_86 (by decide) ?_
          exact ih _ _ _ jJ jf jz b1 b2
set_option maxRecDepth 100000 in
set_option maxHeartbeats 4000000 in
theorem s_X12_harbourFault {q m : Nat} (h : TqS I q m) : Ca G mdX12_harbourFault [.ref 200, .int (nI q)] (mk I L t) (RxH (mhF (byF (I 206) q m) m 100 0 (flw (up2 I 200 15 0) 212 0 21 rhG)) L t) := by
  refine Ca.intro [some (.ref 200), some (.int (nI q)), none] (by decide) (Nat.le_of_ble_eq_true rfl) rfl rfl ?_
  refine ex_aload_n dX12_harbourFault_0 rfl ?_
  refine ex_iconst (v := 0) dX12_harbourFault_1 (by decide) ?_
  refine p_12_15 dX12_harbourFault_2 rfl wf_X12_114 (by first | assumption | rfl) ?_
  refine ex_iconst (v := 0) dX12_harbourFault_5 (by decide) ?_
  refine st_i2 dX12_harbourFault_6 (by first | exact rfl | exact trivial) ?_
  have hJ : TqS (flw (up2 I 200 15 0) 212 0 21 rhG) q m := TqS_of (by rw [flw_off (by decide), up2_off (by decide)]) (by rw [flw_off (by decide), up2_off (by decide)]) h
  have e15 : (flw (up2 I 200 15 0) 212 0 21 rhG) 200 15 = nI 0 := by rw [flw_off (by decide), u2_s]; rfl
  have key := lm_hf1 (G := G) (I := up2 I 200 15 0) (L := L) (t := t) (y := nI q) (P := RxH (mhF (byF (I 206) q m) m 100 0 (flw (up2 I 200 15 0) 212 0 21 rhG)) L t) ?_
  · rw [flw_0] at key
    exact key
  · refine fg2 ?_
    have fin := lm_hf (G := G) (L := L) (t := t) (q := q) (m := m) (f := byF (I 206) q m) 100 0 (flw (up2 I 200 15 0) 212 0 21 rhG) ((flw (up2 I 200 15 0) 212 0 21 rhG) 200 16) hJ (by rw [flw_off (by decide), up2_off (by decide)]) (Or.inl ((flw_in (o := 0) (j := 0) (by decide)).trans rfl)) (by decide) (by have := h.2.1; omega)
    rw [← rm_id e15] at fin
    exact fin
def msF (f : Nat → Int32) (m k p c : Nat) (J : Im) : Int32 × Nat × Nat × Im :=
  match k with
  | 0 => (-9, p, c, J)
  | k + 1 => if m ≤ p then (-9, p, c, J) else if f p = 32 then msF f m k (p + 1) c J else if (itS f c p).1 = true then msF f m k (itS f c p).2.1 (c + 1) (itSM J c (itS f c p)) else (nI (itS f c p).2.1, (itS f c p).2.1, c, itSM J c (itS f c p))
termination_by k
theorem msF_e {f : Nat → Int32} {m p c : Nat} {J : Im} (h : m ≤ p) : ∀ k, msF f m k p c J = (-9, p, c, J) := by
  intro k
  cases k with
  | zero => rw [msF]
  | succ k => rw [msF, if_pos h]
theorem msF_s {f : Nat → Int32} {m k p c : Nat} {J : Im} (h : ¬ m ≤ p) : msF f m (k + 1) p c J = if f p = 32 then msF f m k (p + 1) c J else if (itS f c p).1 = true then msF f m k (itS f c p).2.1 (c + 1) (itSM J c (itS f c p)) else (nI (itS f c p).2.1, (itS f c p).2.1, c, itSM J c (itS f c p)) := by
  rw [msF, if_neg h]
theorem itSM_off {x : It} {c e : Nat} (h : e ≠ 213) (h2 : e ≠ 200) : itSM I c x e = I e := by
  unfold itSM
  split
  · rw [up2_off h2, up2_off h, up2_off h]
  · rfl
theorem itS_b {f : Nat → Int32} {c p : Nat} : (itS f c p).2.1 ≤ p + 7 ∧ ((itS f c p).1 = true → p + 1 ≤ (itS f c p).2.1 ∧ c < 4 ∧ (itS f c p).2.2.1 = 1) := by
  have h1 := numN_b (f := f) (p := p + 1)
  have h2 := numN_b (f := f) (p := numN f (p + 1) + 1)
  by_cases hc : 4 ≤ c
  · rw [itS0 hc]
    exact ⟨by dsimp only; omega, fun z => Bool.noConfusion z⟩
  by_cases e : f p = 112
  · by_cases d : numOk f (p + 1) 2 60
    · by_cases g : f (numN f (p + 1)) = 58
      · by_cases d2 : numOk f (numN f (p + 1) + 1) 0 99
        · rw [itS5 hc e d g d2]
          exact ⟨by dsimp only; omega, fun _ => ⟨by dsimp only; omega, by omega, rfl⟩⟩
        · rw [itS4 hc e d g d2]
          exact ⟨by dsimp only; omega, fun z => Bool.noConfusion z⟩
      · rw [itS3 hc e d g]
        exact ⟨by dsimp only; omega, fun z => Bool.noConfusion z⟩
    · rw [itS2 hc e d]
      exact ⟨by dsimp only; omega, fun z => Bool.noConfusion z⟩
  · rw [itS1q e]
    exact ⟨by dsimp only; omega, fun z => Bool.noConfusion z⟩
def RxT (r : Int32 × Nat × Nat × Im) (L : Nat → Nat → Int64) (t : Nat) : Option Value → Mem → Prop := Rx (.int r.1) r.2.2.2 r.2.1 L t
set_option maxRecDepth 100000 in
set_option maxHeartbeats 4000000 in
theorem lm_sfe {q m p : Nat} {J : Im} {x : Int32} (hJ : TqS J q m) {c : Nat} (hmp : m ≤ p) (hp : p < 2 ^ 31) : Ex G mdX12_seaFault 10 [some (.ref 200), some (.int (nI q))] [] (mk (rm J p x) L t) 0 0 (RxT (-9, p, c, J) L t) := by
  refine ex_aload_n dX12_seaFault_10 rfl ?_
  refine g_12_15 dX12_seaFault_11 rfl wf_X12_114 (by first | assumption | rfl) ?_
  rw [rm_p]
  refine ex_aload_n dX12_seaFault_14 rfl ?_
  refine g_12_8 dX12_seaFault_15 rfl wf_X12_22 (by first | assumption | rfl) (show Rt _ 200 8 = some 205 from rfl) ?_
  refine ex_iload_n dX12_seaFault_18 rfl ?_
  refine rx_iald dX12_seaFault_19 (by first | assumption | rfl) (vp_in_nI hJ.1 (by decide)) ?_
  rw [rm_off (by decide), nI_clamp (by have := hJ.1; omega), hJ.2.2.1]
  refine ex_icmp_ge 63 dX12_seaFault_20 (by decide) (fun h20 => ?_) (fun h20 => ?_)
  · skip
    refine ex_bipush (v := (-9)) dX12_seaFault_63 (by decide) ?_
    refine ex_iret dX12_seaFault_65 rfl rfl ⟨rfl, Nat.le_refl _⟩ ?_
    exact ⟨rfl, x, rfl⟩
  · exact absurd (nI_le hmp hp) h20
set_option maxRecDepth 100000 in
set_option maxHeartbeats 4000000 in
theorem lm_sf {q m : Nat} {f : Nat → Int32} : ∀ (k p c : Nat) (J : Im) (x : Int32), TqS J q m → byF (J 206) q m = f → c ≤ 4 → J 200 17 = nI c → p + 8 * k ≤ 1000 → m ≤ p + k → Ex G mdX12_seaFault 10 [some (.ref 200), some (.int (nI q))] [] (mk (rm J p x) L t) 0 0 (RxT (msF f m k p c J) L t) := by
  intro k
  induction k with
  | zero =>
    intro p c J x hJ hf hc4 hc h1 h2
    rw [msF_e (by omega)]
    exact lm_sfe hJ (by omega) (by omega)
  | succ k ih =>
    intro p c J x hJ hf hc4 hc h1 h2
    by_cases hmp : m ≤ p
    · rw [msF_e hmp]
      exact lm_sfe hJ hmp (by omega)
    · rw [msF_s hmp]
      refine ex_aload_n dX12_seaFault_10 rfl ?_
      refine g_12_15 dX12_seaFault_11 rfl wf_X12_114 (by first | assumption | rfl) ?_
      rw [rm_p]
      refine ex_aload_n dX12_seaFault_14 rfl ?_
      refine g_12_8 dX12_seaFault_15 rfl wf_X12_22 (by first | assumption | rfl) (show Rt _ 200 8 = some 205 from rfl) ?_
      refine ex_iload_n dX12_seaFault_18 rfl ?_
      refine rx_iald dX12_seaFault_19 (by first | assumption | rfl) (vp_in_nI hJ.1 (by decide)) ?_
      rw [rm_off (by decide), nI_clamp (by have := hJ.1; omega), hJ.2.2.1]
      refine ex_icmp_ge 63 dX12_seaFault_20 (by decide) (fun h20 => ?_) (fun h20 => ?_)
      · exact absurd ((nI_leI (by have := hJ.2.1; omega) (by omega)).mp h20) hmp
      · skip
        refine ex_aload_n dX12_seaFault_23 rfl ?_
        refine ex_iload_n dX12_seaFault_24 rfl ?_
        refine ex_aload_n dX12_seaFault_25 rfl ?_
        refine g_12_15 dX12_seaFault_26 rfl wf_X12_114 (by first | assumption | rfl) ?_
        rw [rm_p]
        refine rx_cV (kd := 12) dX12_seaFault_29 rfl lk_X12_117 rfl (by decide) (by first | assumption | rfl) ⟨⟨rfl, rfl⟩, by decide, by decide⟩ rfl (Nat.le_of_ble_eq_true rfl) rfl (s_X12_byteAt hJ.1 hJ.2.1 (by rw [rm_off (by decide)]; exact hJ.2.2.1) (by omega)) (Rs.k ?_)
        rw [rm_off (by decide), hf]
        refine ex_bipush (v := 32) dX12_seaFault_32 (by decide) ?_
        refine ex_icmp_ne 50 dX12_seaFault_34 (by decide) (fun h34 => ?_) (fun h34 => ?_)
        · rw [if_neg h34]
          refine ex_aload_n dX12_seaFault_50 rfl ?_
          refine ex_iload_n dX12_seaFault_51 rfl ?_
          refine rx_cV (kd := 12) dX12_seaFault_52 rfl lk_X12_142 rfl (by decide) (by first | assumption | rfl) ⟨⟨rfl, rfl⟩, by decide, by decide⟩ rfl (Nat.le_of_ble_eq_true rfl) rfl (s_X12_readsSet hJ (by omega) hc4 hc) ?_
          refine Rx.k ?_
          intro x1
          rw [hf]
          refine ex_if_ne 10 dX12_seaFault_55 (by decide) (fun h55 => ?_) (fun h55 => ?_)
          · rw [if_pos (b2i_n0.mp h55)]
            have jb := itS_b (f := f) (c := c) (p := p)
            have jc := jb.2 (b2i_n0.mp h55)
            have jJ : TqS (itSM J c (itS f c p)) q m := TqS_of (itSM_off (by decide) (by decide)) (itSM_off (by decide) (by decide)) hJ
            have jf : byF (itSM J c (itS f c p) 206) q m = f := by rw [itSM_off (by decide) (by decide)]; exact hf
            have j4 : c + 1 ≤ 4 := jc.2.1
            have jz : itSM J c (itS f c p) 200 17 = nI (c + 1) := by unfold itSM; rw [if_pos jc.2.2, u2_s]
            have b1 : (itS f c p).2.1 + 8 * k ≤ 1000 := by omega
            have b2 : m ≤ (itS f c p).2.1 + k := by omega
            exact ih _ _ _ _ jJ jf j4 jz b1 b2
          · rw [if_neg (b2i_0.mp h55)]
            refine ex_aload_n dX12_seaFault_58 rfl ?_
            refine g_12_15 dX12_seaFault_59 rfl wf_X12_114 (by first | assumption | rfl) ?_
            rw [rm_p]
            refine ex_iret dX12_seaFault_62 rfl rfl ⟨rfl, Nat.le_refl _⟩ ?_
            exact ⟨rfl, _, rfl⟩
        · rw [if_pos h34]
          have jJ := hJ
          have jf := hf
          have j4 := hc4
          have jz := hc
          have b1 : p + 1 + 8 * k ≤ 1000 := by omega
          have b2 : m ≤ p + 1 + k := by omega
          refine ex_aload_n dX12_seaFault_37 rfl ?_
          refine ex_dup dX12_seaFault_38 rfl ?_
          refine g_12_15 dX12_seaFault_39 rfl wf_X12_114 (by first | assumption | rfl) ?_
          rw [rm_p]
          refine ex_iconst (v := 1) dX12_seaFault_42 (by decide) ?_
          refine ex_iadd dX12_seaFault_43 ?_
          refine p_12_15 dX12_seaFault_44 rfl wf_X12_114 (by first | assumption | rfl) ?_
          rw [nI_1, rm_wp]
          refine ex_goto 10 dX12_seaFault_47 (by decide) ?_
          exact ih _ _ _ _ jJ jf j4 jz b1 b2
set_option maxRecDepth 100000 in
set_option maxHeartbeats 4000000 in
theorem s_X12_seaFault {q m : Nat} (h : TqS I q m) : Ca G mdX12_seaFault [.ref 200, .int (nI q)] (mk I L t) (RxT (msF (byF (I 206) q m) m 100 0 0 (up2 (up2 I 200 15 0) 200 17 0)) L t) := by
  refine Ca.intro [some (.ref 200), some (.int (nI q))] (by decide) (Nat.le_of_ble_eq_true rfl) rfl rfl ?_
  refine ex_aload_n dX12_seaFault_0 rfl ?_
  refine ex_iconst (v := 0) dX12_seaFault_1 (by decide) ?_
  refine p_12_15 dX12_seaFault_2 rfl wf_X12_114 (by first | assumption | rfl) ?_
  refine ex_aload_n dX12_seaFault_5 rfl ?_
  refine ex_iconst (v := 0) dX12_seaFault_6 (by decide) ?_
  refine p_12_17 dX12_seaFault_7 rfl wf_X12_139 (by first | assumption | rfl) ?_
  have hJ : TqS (up2 (up2 I 200 15 0) 200 17 0) q m := TqS_of (by rw [up2_off (by decide), up2_off (by decide)]) (by rw [up2_off (by decide), up2_off (by decide)]) h
  have e15 : (up2 (up2 I 200 15 0) 200 17 0) 200 15 = nI 0 := by rw [u2_j (by decide), u2_s]; rfl
  have fin := lm_sf (G := G) (L := L) (t := t) (q := q) (m := m) (f := byF (I 206) q m) 100 0 0 (up2 (up2 I 200 15 0) 200 17 0) ((up2 (up2 I 200 15 0) 200 17 0) 200 16) hJ (by rw [up2_off (by decide), up2_off (by decide)]) (by decide) (by rw [u2_s]; rfl) (by decide) (by have := h.2.1; omega)
  rw [← rm_id e15] at fin
  exact fin
end M5
