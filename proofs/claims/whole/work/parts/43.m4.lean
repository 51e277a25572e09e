section M4
variable {G : Gp} {I : Im} {L : Nat → Nat → Int64} {t : Nat}
theorem rm_s {p j : Nat} {x v : Int32} (h : j ≠ 15) (h2 : j ≠ 16) : up2 (rm I p x) 200 j v = rm (up2 I 200 j v) p x := by
  funext e i
  unfold rm up2
  by_cases h1 : e = 200
  · subst h1
    by_cases h3 : i = j
    · subst h3
      simp [h, h2]
    · simp [h3]
  · simp [h1]
def itSM (J : Im) (c : Nat) (x : It) : Im := if x.2.2.1 = 1 then up2 (up2 (up2 J 213 (2 * c) x.2.2.2.1) 213 (2 * c + 1) x.2.2.2.2) 200 17 (nI (c + 1)) else J
def RxS (I : Im) (c : Nat) (x : It) (L : Nat → Nat → Int64) (t : Nat) : Option Value → Mem → Prop := Rx (.int (b2i (x.1 = true))) (itSM I c x) x.2.1 L t
section
variable {f : Nat → Int32} {p c : Nat} {x a b : Int32}
theorem rsF : RxS I c (false, p, 0, 0, 0) L t (some (.int 0)) (mk (rm I p x) L t) := ⟨by rw [b2i_0.mpr (fun z => Bool.noConfusion z)], x, rfl⟩
theorem rsT (hc : c < 4) (h17 : I 200 17 = nI c) : RxS I c (true, p, 1, a, b) L t (some (.int 1)) (mk (up2 (up2 (up2 (rm I p x) 213 (2 * nI c).toNatClampNeg a) 213 (2 * nI c + 1).toNatClampNeg b) 200 17 (nI (c + 1))) L t) := by
  have e1 : (2 * nI c : Int32) = nI (2 * c) := pk_mul 2 c
  refine ⟨by rw [b2i_1 (by rfl)], x, ?_⟩
  rw [e1, nI_1, nI_clamp (by omega), nI_clamp (by omega), rm_c (by decide), rm_c (by decide), rm_s (by decide) (by decide)]
  rfl
theorem itS0 (e : 4 ≤ c) : itS f c p = (false, p, 0, 0, 0) := if_pos e
theorem itS1 (hc : ¬ 4 ≤ c) (e : ¬ f p = 112) : itS f c p = (false, p, 0, 0, 0) := (if_neg hc).trans (if_pos e)
theorem itS1q (e : ¬ f p = 112) : itS f c p = (false, p, 0, 0, 0) := by
  by_cases hc : 4 ≤ c
  · exact itS0 hc
  · exact itS1 hc e
theorem itS2 (hc : ¬ 4 ≤ c) (e : f p = 112) (d : ¬ numOk f (p + 1) 2 60) : itS f c p = (false, numN f (p + 1), 0, 0, 0) := (if_neg hc).trans ((if_neg (fun z => z e)).trans (if_pos (numR_no d)))
theorem itS3 (hc : ¬ 4 ≤ c) (e : f p = 112) (d : numOk f (p + 1) 2 60) (g : ¬ f (numN f (p + 1)) = 58) : itS f c p = (false, numN f (p + 1), 0, 0, 0) := (if_neg hc).trans ((if_neg (fun z => z e)).trans ((if_neg (numR_ok d (by decide)).2).trans (if_pos g)))
theorem itS4 (hc : ¬ 4 ≤ c) (e : f p = 112) (d : numOk f (p + 1) 2 60) (g : f (numN f (p + 1)) = 58) (d2 : ¬ numOk f (numN f (p + 1) + 1) 0 99) : itS f c p = (false, numN f (numN f (p + 1) + 1), 0, 0, 0) := (if_neg hc).trans ((if_neg (fun z => z e)).trans ((if_neg (numR_ok d (by decide)).2).trans ((if_neg (fun z => z g)).trans (if_pos (numR_no d2)))))
theorem itS5 (hc : ¬ 4 ≤ c) (e : f p = 112) (d : numOk f (p + 1) 2 60) (g : f (numN f (p + 1)) = 58) (d2 : numOk f (numN f (p + 1) + 1) 0 99) : itS f c p = (true, numN f (numN f (p + 1) + 1), 1, numW f (p + 1), numW f (numN f (p + 1) + 1)) := by
  refine (if_neg hc).trans ((if_neg (fun z => z e)).trans ((if_neg (numR_ok d (by decide)).2).trans ((if_neg (fun z => z g)).trans ((if_neg (numR_ok d2 (by decide)).2).trans ?_))))
  rw [(numR_ok d (by decide)).1, (numR_ok d2 (by decide)).1]
end
set_option maxRecDepth 100000 in
set_option maxHeartbeats 4000000 in
theorem s_X12_readsSet {q m p : Nat} {x : Int32} (h : TqS I q m) (hp : p < 2 ^ 29) {c : Nat} (hc : c ≤ 4) (h17 : I 200 17 = nI c) : Ca G mdX12_readsSet [.ref 200, .int (nI q)] (mk (rm I p x) L t) (RxS I c (itS (byF (I 206) q m) c p) L t) := by
  refine Ca.intro [some (.ref 200), some (.int (nI q)), none] (by decide) (Nat.le_of_ble_eq_true rfl) rfl rfl ?_
  have en := numN_b (f := (byF (I 206) q m)) (p := p + 1)
  refine ex_aload_n dX12_readsSet_0 rfl ?_
  refine ex_iload_n dX12_readsSet_1 rfl ?_
  refine ex_aload_n dX12_readsSet_2 rfl ?_
  refine g_12_15 dX12_readsSet_3 rfl wf_X12_114 (by first | assumption | rfl) ?_
  rw [rm_p]
  refine rx_cV (kd := 12) dX12_readsSet_6 rfl lk_X12_117 rfl (by decide) (by first | assumption | rfl) ⟨⟨rfl, rfl⟩, by decide, by decide⟩ rfl (Nat.le_of_ble_eq_true rfl) rfl (s_X12_byteAt h.1 h.2.1 (by rw [rm_off (by decide)]; exact h.2.2.1) (by omega)) (Rs.k ?_)
  rw [rm_off (by decide)]
  refine ex_bipush (v := 112) dX12_readsSet_9 (by decide) ?_
  refine ex_icmp_ne 22 dX12_readsSet_11 (by decide) (fun h11 => ?_) (fun h11 => ?_)
  · skip
    refine ex_iconst (v := 0) dX12_readsSet_22 (by decide) ?_
    refine ex_iret dX12_readsSet_23 rfl rfl ⟨rfl, Nat.le_refl _⟩ ?_
    first | (rw [itS5 h4 h11 (b2i_n0.mp h42) (b2i_n0.mp h59) (b2i_n0.mp h70)]; exact rsT (by omega) h17) | (rw [itS4 h4 h11 (b2i_n0.mp h42) (b2i_n0.mp h59) (b2i_0.mp h70)]; exact rsF) | (rw [itS3 h4 h11 (b2i_n0.mp h42) (b2i_0.mp h59)]; exact rsF) | (rw [itS2 h4 h11 (b2i_0.mp h42)]; exact rsF) | (rw [itS0 h4]; exact rsF) | (rw [itS1q h11]; exact rsF)
  · skip
    refine ex_aload_n dX12_readsSet_14 rfl ?_
    refine g_12_17 dX12_readsSet_15 rfl wf_X12_139 (by first | assumption | rfl) ?_
    rw [rm_o (by decide) (by decide), h17]
    refine ex_iconst (v := 4) dX12_readsSet_18 (by decide) ?_
    refine ex_icmp_ne 24 dX12_readsSet_19 (by decide) (fun h19 => ?_) (fun h19 => ?_)
    · have h4 : ¬ 4 ≤ c := fun z => h19 ((show c = 4 by omega) ▸ rfl)
      refine ex_aload_n dX12_readsSet_24 rfl ?_
      refine ex_dup dX12_readsSet_25 rfl ?_
      refine g_12_15 dX12_readsSet_26 rfl wf_X12_114 (by first | assumption | rfl) ?_
      rw [rm_p]
      refine ex_iconst (v := 1) dX12_readsSet_29 (by decide) ?_
      refine ex_iadd dX12_readsSet_30 ?_
      refine p_12_15 dX12_readsSet_31 rfl wf_X12_114 (by first | assumption | rfl) ?_
      rw [nI_1, rm_wp]
      refine ex_aload_n dX12_readsSet_34 rfl ?_
      refine ex_iload_n dX12_readsSet_35 rfl ?_
      refine ex_iconst (v := 2) dX12_readsSet_36 (by decide) ?_
      refine ex_bipush (v := 60) dX12_readsSet_37 (by decide) ?_
      refine rx_cV (kd := 12) dX12_readsSet_39 rfl lk_X12_127 rfl (by decide) (by first | assumption | rfl) ⟨⟨rfl, rfl⟩, by decide, by decide⟩ rfl (Nat.le_of_ble_eq_true rfl) rfl (s_X12_number h (by omega)) (Rs.k ?_)
      refine ex_if_ne 47 dX12_readsSet_42 (by decide) (fun h42 => ?_) (fun h42 => ?_)
      · have hk := numV_ok (b2i_n0.mp h42)
        refine ex_aload_n dX12_readsSet_47 rfl ?_
        refine g_12_16 dX12_readsSet_48 rfl wf_X12_120 (by first | assumption | rfl) ?_
        rw [rm_x, hk]
        refine st_i2 dX12_readsSet_51 (by first | exact rfl | exact trivial) ?_
        refine ex_aload_n dX12_readsSet_52 rfl ?_
        refine ex_iload_n dX12_readsSet_53 rfl ?_
        refine ex_bipush (v := 58) dX12_readsSet_54 (by decide) ?_
        refine rx_cV (kd := 12) dX12_readsSet_56 rfl lk_X12_123 rfl (by decide) (by first | assumption | rfl) ⟨⟨rfl, rfl⟩, by decide, by decide⟩ rfl (Nat.le_of_ble_eq_true rfl) rfl (s_X12_sign h (by omega)) (Rs.k ?_)
        refine ex_if_eq 73 dX12_readsSet_59 (by decide) (fun h59 => ?_) (fun h59 => ?_)
        · rw [if_neg (b2i_0.mp h59)]
          refine ex_iconst (v := 0) dX12_readsSet_73 (by decide) ?_
          refine ex_iret dX12_readsSet_74 rfl rfl ⟨rfl, Nat.le_refl _⟩ ?_
          first | (rw [itS5 h4 h11 (b2i_n0.mp h42) (b2i_n0.mp h59) (b2i_n0.mp h70)]; exact rsT (by omega) h17) | (rw [itS4 h4 h11 (b2i_n0.mp h42) (b2i_n0.mp h59) (b2i_0.mp h70)]; exact rsF) | (rw [itS3 h4 h11 (b2i_n0.mp h42) (b2i_0.mp h59)]; exact rsF) | (rw [itS2 h4 h11 (b2i_0.mp h42)]; exact rsF) | (rw [itS0 h4]; exact rsF) | (rw [itS1q h11]; exact rsF)
        · rw [if_pos (b2i_n0.mp h59)]
          have en := numN_b (f := (byF (I 206) q m)) (p := p + 1)
          refine ex_aload_n dX12_readsSet_62 rfl ?_
          refine ex_iload_n dX12_readsSet_63 rfl ?_
          refine ex_iconst (v := 0) dX12_readsSet_64 (by decide) ?_
          refine ex_bipush (v := 99) dX12_readsSet_65 (by decide) ?_
          refine rx_cV (kd := 12) dX12_readsSet_67 rfl lk_X12_127 rfl (by decide) (by first | assumption | rfl) ⟨⟨rfl, rfl⟩, by decide, by decide⟩ rfl (Nat.le_of_ble_eq_true rfl) rfl (s_X12_number h (by omega)) (Rs.k ?_)
          refine ex_if_ne 75 dX12_readsSet_70 (by decide) (fun h70 => ?_) (fun h70 => ?_)
          · have hk2 := numV_ok (b2i_n0.mp h70)
            refine ex_aload_n dX12_readsSet_75 rfl ?_
            refine g_12_19 dX12_readsSet_76 rfl wf_X12_48 (by first | assumption | rfl) (show Rt _ 200 19 = some 213 from rfl) ?_
            refine ex_iconst (v := 2) dX12_readsSet_79 (by decide) ?_
            refine ex_aload_n dX12_readsSet_80 rfl ?_
            refine g_12_17 dX12_readsSet_81 rfl wf_X12_139 (by first | assumption | rfl) ?_
            rw [rm_o (by decide) (by decide), h17]
            refine ex_imul dX12_readsSet_84 ?_
            refine ex_iload_n dX12_readsSet_85 rfl ?_
            refine rx_iast dX12_readsSet_86 (by first | assumption | rfl) (by rw [show (2 * nI c : Int32) = nI (2 * c) from pk_mul 2 c]; exact vp_in_nI (by omega) (by decide)) ?_
            refine ex_aload_n dX12_readsSet_87 rfl ?_
            refine g_12_19 dX12_readsSet_88 rfl wf_X12_48 (by first | assumption | rfl) (show Rt _ 200 19 = some 213 from rfl) ?_
            refine ex_iconst (v := 2) dX12_readsSet_91 (by decide) ?_
            refine ex_aload_n dX12_readsSet_92 rfl ?_
            refine g_12_17 dX12_readsSet_93 rfl wf_X12_139 (by first | assumption | rfl) ?_
            rw [up2_off (by decide), rm_o (by decide) (by decide), h17]
            refine ex_imul dX12_readsSet_96 ?_
            refine ex_iconst (v := 1) dX12_readsSet_97 (by decide) ?_
            refine ex_iadd dX12_readsSet_98 ?_
            refine ex_aload_n dX12_readsSet_99 rfl ?_
            refine g_12_16 dX12_readsSet_100 rfl wf_X12_120 (by first | assumption | rfl) ?_
            rw [up2_off (by decide), rm_x, hk2]
            refine rx_iast dX12_readsSet_103 (by first | assumption | rfl) (by rw [show (2 * nI c : Int32) = nI (2 * c) from pk_mul 2 c, nI_1]; exact vp_in_nI (by omega) (by decide)) ?_
            refine ex_aload_n dX12_readsSet_104 rfl ?_
            refine ex_dup dX12_readsSet_105 rfl ?_
            refine g_12_17 dX12_readsSet_106 rfl wf_X12_139 (by first | assumption | rfl) ?_
            rw [up2_off (by decide), up2_off (by decide), rm_o (by decide) (by decide), h17]
            refine ex_iconst (v := 1) dX12_readsSet_109 (by decide) ?_
            refine ex_iadd dX12_readsSet_110 ?_
            refine p_12_17 dX12_readsSet_111 rfl wf_X12_139 (by first | assumption | rfl) ?_
            rw [nI_1]
            refine ex_iconst (v := 1) dX12_readsSet_114 (by decide) ?_
            refine ex_iret dX12_readsSet_115 rfl rfl ⟨rfl, Nat.le_refl _⟩ ?_
            first | (rw [itS5 h4 h11 (b2i_n0.mp h42) (b2i_n0.mp h59) (b2i_n0.mp h70)]; exact rsT (by omega) h17) | (rw [itS4 h4 h11 (b2i_n0.mp h42) (b2i_n0.mp h59) (b2i_0.mp h70)]; exact rsF) | (rw [itS3 h4 h11 (b2i_n0.mp h42) (b2i_0.mp h59)]; exact rsF) | (rw [itS2 h4 h11 (b2i_0.mp h42)]; exact rsF) | (rw [itS0 h4]; exact rsF) | (rw [itS1q h11]; exact rsF)
          · skip
            refine ex_iconst (v := 0) dX12_readsSet_73 (by decide) ?_
            refine ex_iret dX12_readsSet_74 rfl rfl ⟨rfl, Nat.le_refl _⟩ ?_
            first | (rw [itS5 h4 h11 (b2i_n0.mp h42) (b2i_n0.mp h59) (b2i_n0.mp h70)]; exact rsT (by omega) h17) | (rw [itS4 h4 h11 (b2i_n0.mp h42) (b2i_n0.mp h59) (b2i_0.mp h70)]; exact rsF) | (rw [itS3 h4 h11 (b2i_n0.mp h42) (b2i_0.mp h59)]; exact rsF) | (rw [itS2 h4 h11 (b2i_0.mp h42)]; exact rsF) | (rw [itS0 h4]; exact rsF) | (rw [itS1q h11]; exact rsF)
      · skip
        refine ex_iconst (v := 0) dX12_readsSet_45 (by decide) ?_
        refine ex_iret dX12_readsSet_46 rfl rfl ⟨rfl, Nat.le_refl _⟩ ?_
        first | (rw [itS5 h4 h11 (b2i_n0.mp h42) (b2i_n0.mp h59) (b2i_n0.mp h70)]; exact rsT (by omega) h17) | (rw [itS4 h4 h11 (b2i_n0.mp h42) (b2i_n0.mp h59) (b2i_0.mp h70)]; exact rsF) | (rw [itS3 h4 h11 (b2i_n0.mp h42) (b2i_0.mp h59)]; exact rsF) | (rw [itS2 h4 h11 (b2i_0.mp h42)]; exact rsF) | (rw [itS0 h4]; exact rsF) | (rw [itS1q h11]; exact rsF)
    · have h4 : 4 ≤ c := by
        have := (nI_eq (a := c) (b := 4) (by omega) (by decide)).mp h19
        omega
      refine ex_iconst (v := 0) dX12_readsSet_22 (by decide) ?_
      refine ex_iret dX12_readsSet_23 rfl rfl ⟨rfl, Nat.le_refl _⟩ ?_
      first | (rw [itS5 h4 h11 (b2i_n0.mp h42) (b2i_n0.mp h59) (b2i_n0.mp h70)]; exact rsT (by omega) h17) | (rw [itS4 h4 h11 (b2i_n0.mp h42) (b2i_n0.mp h59) (b2i_0.mp h70)]; exact rsF) | (rw [itS3 h4 h11 (b2i_n0.mp h42) (b2i_0.mp h59)]; exact rsF) | (rw [itS2 h4 h11 (b2i_0.mp h42)]; exact rsF) | (rw [itS0 h4]; exact rsF) | (rw [itS1q h11]; exact rsF)
def rhG (k : Nat) : Int32 := if 5 ≤ nI k then 4 else if nI k = 2 then 4 else if nI k = 3 then 1 else 0
def mhF (f : Nat → Int32) (m k p : Nat) (J : Im) : Int32 × Nat × Im :=
  match k with
  | 0 => (if J 212 0 = 0 then nI m else -9, p, J)
  | k + 1 => if m ≤ p then (if J 212 0 = 0 then nI m else -9, p, J) else if f p = 32 then mhF f m k (p + 1) J else if J 212 0 = 0 then (if rcOk f p then mhF f m k (rcP f p) (rcI J f p) else (nI (rcP f p), rcP f p, rcI J f p)) else if (itm f (J 212 0).toNatClampNeg p).1 = true then mhF f m k (itm f (J 212 0).toNatClampNeg p).2.1 (itM J (itm f (J 212 0).toNatClampNeg p)) else (nI (itm f (J 212 0).toNatClampNeg p).2.1, (itm f (J 212 0).toNatClampNeg p).2.1, itM J (itm f (J 212 0).toNatClampNeg p))
termination_by k
theorem mhF_e {f : Nat → Int32} {m p : Nat} {J : Im} (h : m ≤ p) : ∀ k, mhF f m k p J = (if J 212 0 = 0 then nI m else -9, p, J) := by
  intro k
  cases k with
  | zero => rw [mhF]
  | succ k => rw [mhF, if_pos h]
theorem mhF_s {f : Nat → Int32} {m k p : Nat} {J : Im} (h : ¬ m ≤ p) : mhF f m (k + 1) p J = if f p = 32 then mhF f m k (p + 1) J else if J 212 0 = 0 then (if rcOk f p then mhF f m k (rcP f p) (rcI J f p) else (nI (rcP f p), rcP f p, rcI J f p)) else if (itm f (J 212 0).toNatClampNeg p).1 = true then mhF f m k (itm f (J 212 0).toNatClampNeg p).2.1 (itM J (itm f (J 212 0).toNatClampNeg p)) else (nI (itm f (J 212 0).toNatClampNeg p).2.1, (itm f (J 212 0).toNatClampNeg p).2.1, itM J (itm f (J 212 0).toNatClampNeg p)) := by
  rw [mhF, if_neg h]
theorem rcI_off {f : Nat → Int32} {p e : Nat} (h : e ≠ 212) : rcI I f p e = I e := by
  unfold rcI
  split
  · exact up2_off h
  · rfl
theorem itM_off {x : It} {e : Nat} (h : e ≠ 212) : itM I x e = I e := by
  unfold itM
  repeat' split
  all_goals first | rfl | exact up2_off h | exact (up2_off h).trans (up2_off h)
theorem rcP_b {f : Nat → Int32} {p : Nat} : p ≤ rcP f p ∧ rcP f p ≤ p + 3 ∧ (f p = 99 → p + 1 ≤ rcP f p) := by
  have := numN_b (f := f) (p := p + 1)
  unfold rcP
  split
  · exact ⟨by omega, by omega, fun _ => by omega⟩
  · next c => exact ⟨by omega, by omega, fun z => absurd z c⟩
theorem itm_b {f : Nat → Int32} {n p : Nat} : (itm f n p).2.1 ≤ p + 5 ∧ ((itm f n p).1 = true → p + 1 ≤ (itm f n p).2.1) := by
  have := numN_b (f := f) (p := p + 1)
  unfold itm itK itW itR
  repeat' split
  all_goals (first | exact ⟨by dsimp only; omega, fun z => Bool.noConfusion z⟩ | exact ⟨by dsimp only; omega, fun _ => by dsimp only; omega⟩)
def MzS (J : Im) : Prop := J 212 0 = 0 ∨ ∃ n, 3 ≤ n ∧ n ≤ 16 ∧ J 212 0 = nI n
theorem rc_z {J : Im} {f : Nat → Int32} {p : Nat} (h : rcOk f p) : MzS (rcI J f p) := by
  unfold rcI
  rw [if_pos h]
  unfold MzS
  rw [u2_s]
  obtain ⟨j, hj, e⟩ := nI_of2 (M := 16) (n := 16) (by decide) (Int32.not_lt.mpr (Int32.le_trans (by decide) h.2.2.1)) h.2.2.2
  refine Or.inr ⟨j, ?_, hj, e⟩
  have h2 := h.2.2.1
  rw [e] at h2
  exact (nI_leI (a := 3) (by decide) (by omega)).mp h2
theorem it_z {J : Im} {x : It} (h : MzS J) (hx : x.2.2.1 = 1 → vp_in (5 + x.2.2.2.1) 21 ∧ 5 ≤ (5 + x.2.2.2.1).toNatClampNeg) : MzS (itM J x) := by
  have key : itM J x 212 0 = J 212 0 := by
    unfold itM
    by_cases c1 : x.2.2.1 = 1
    · have h5 := (hx c1).2
      rw [if_pos c1, u2_j (by omega)]
    · rw [if_neg c1]
      split
      · exact u2_j (by decide)
      · split
        · rw [u2_j (by decide), u2_j (by decide)]
        · split
          · exact u2_j (by decide)
          · rfl
  unfold MzS
  rw [key]
  exact h
theorem itm_k {f : Nat → Int32} {n p : Nat} (hn3 : 3 ≤ n) (hn : n ≤ 16) (h : (itm f n p).2.2.1 = 1) : vp_in (5 + (itm f n p).2.2.2.1) 21 ∧ 5 ≤ (5 + (itm f n p).2.2.2.1).toNatClampNeg := by
  have key : ∀ hi lo kd, (itK f (p + 1) hi lo kd).2.2.1 = 1 → ∃ j, j < 2 ^ 31 ∧ (itK f (p + 1) hi lo kd).2.2.2.1 = nI j ∧ nI j ≤ hi := by
    intro hi lo kd
    by_cases d : numOk f (p + 1) 0 hi
    · by_cases e : f (numN f (p + 1)) = 58
      · by_cases g : figOk f (numN f (p + 1) + 1) lo
        · rw [itK4 d e g]
          intro _
          obtain ⟨j, hj, ej⟩ := nI_of (Int32.not_lt.mpr d.2.1)
          exact ⟨j, hj, ej, ej ▸ d.2.2⟩
        · rw [itK3 d e g]
          exact fun z => absurd (show (0 : Nat) = 1 from z) (by decide)
      · rw [itK2 d e]
        exact fun z => absurd (show (0 : Nat) = 1 from z) (by decide)
    · rw [itK1 d]
      exact fun z => absurd (show (0 : Nat) = 1 from z) (by decide)
  have fin : ∀ y : Int32, (∃ j, j < 2 ^ 31 ∧ y = nI j ∧ nI j ≤ nI (n - 1)) → vp_in (5 + y) 21 ∧ 5 ≤ (5 + y).toNatClampNeg := by
    intro y hy
    obtain ⟨j, hj, rfl, h2⟩ := hy
    have h3 := (nI_leI hj (by omega)).mp h2
    rw [show (5 : Int32) = nI 5 from rfl, nI_add, nI_clamp (by omega)]
    exact ⟨vp_in_nI (by omega) (by decide), by omega⟩
  revert h
  unfold itm
  split
  · intro h
    exact fin _ (key _ _ _ h)
  · split
    · unfold itW
      split
      · exact fun z => absurd z (by dsimp only; decide)
      · exact fun z => absurd z (by dsimp only; decide)
    · split
      · intro h
        exact fin _ (key _ _ _ h)
      · split
        · unfold itR
          split
          · exact fun z => absurd z (by dsimp only; decide)
          · exact fun z => absurd z (by dsimp only; decide)
        · exact fun z => absurd z (by dsimp only; decide)
end M4
