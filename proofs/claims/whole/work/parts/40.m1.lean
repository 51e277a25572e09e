section M1
variable {G : Gp} {I : Im} {L : Nat → Nat → Int64} {t : Nat}
theorem vpn {x : Int32} {N : Nat} (h : vp_in x N) : x.toNatClampNeg < N ∧ x = nI x.toNatClampNeg := by
  have h1 := vp_in_iff.mp h
  have h0 : (0 : Int32).toInt = 0 := by decide
  exact ⟨Nat.not_le.mp (fun q => h (Or.inr q)), nI_back (Int32.le_iff_toInt_le.mpr (by omega))⟩
theorem ixm {c r i : Int32} {C R : Nat} (hc : c = nI C) (hr : vp_in r R) (hi : vp_in i C) (hN : C * R < 2 ^ 31) : vp_in (c * r + i) (C * R) ∧ (c * r + i).toNatClampNeg = C * r.toNatClampNeg + i.toNatClampNeg := by
  obtain ⟨r1, r2⟩ := vpn hr
  obtain ⟨i1, i2⟩ := vpn hi
  generalize hq : r.toNatClampNeg = q at r1 r2 ⊢
  generalize hj : i.toNatClampNeg = j at i1 i2 ⊢
  subst r2 i2 hc
  have h1 : C * (q + 1) ≤ C * R := Nat.mul_le_mul (Nat.le_refl C) r1
  rw [Nat.mul_add, Nat.mul_one] at h1
  rw [pk_mul, nI_add, nI_clamp (by omega)]
  exact ⟨vp_in_nI (by omega) hN, rfl⟩
def flw (I : Im) (c o k : Nat) (g : Nat → Int32) : Im := fun e j => if e = c ∧ o ≤ j ∧ j < o + k then g (j - o) else I e j
theorem flw_0 {c o : Nat} {g : Nat → Int32} : flw I c o 0 g = I := by
  funext e j
  exact if_neg (by omega)
theorem flw_s {c o k : Nat} {g : Nat → Int32} : up2 (flw I c o k g) c (o + k) (g k) = flw I c o (k + 1) g := by
  funext e j
  unfold up2 flw
  by_cases h : e = c ∧ j = o + k
  · rw [if_pos h, if_pos (by omega), h.2, Nat.add_sub_cancel_left]
  · rw [if_neg h]
    by_cases h2 : e = c ∧ o ≤ j ∧ j < o + k
    · rw [if_pos h2, if_pos (by omega)]
    · rw [if_neg h2, if_neg (by omega)]
theorem flw_off {c o k e : Nat} {g : Nat → Int32} (h : e ≠ c) : flw I c o k g e = I e := by
  funext j
  exact if_neg (by omega)
theorem flw_in {c o k j : Nat} {g : Nat → Int32} (h : j < k) : flw I c o k g c (o + j) = g j := by
  unfold flw
  rw [if_pos (by omega), Nat.add_sub_cancel_left]
theorem flw_out {c o k j : Nat} {g : Nat → Int32} (h : j < o ∨ o + k ≤ j) : flw I c o k g c j = I c j := by
  unfold flw
  rw [if_neg (by omega)]
def SzS (I : Im) : Prop := ∀ q, q < 6 → I 202 q = -1 ∨ ∃ m, m ≤ 60 ∧ I 202 q = nI m
def TzS (I : Im) : Prop := ∀ q, q < 4 → I 205 q = -1 ∨ ∃ m, m ≤ 100 ∧ I 205 q = nI m
theorem in_s {x y : Int32} {N : Nat} (hN : N < 2 ^ 31) (hy : y = -1 ∨ ∃ m, m ≤ N ∧ y = nI m) (h : ¬ b2i (0 ≤ x ∧ x ≤ y - 1) = 0) : vp_in x N := by
  have h1 := b2i_n0.mp h
  have h2 := Int32.le_iff_toInt_le.mp h1.1
  have h0 : (0 : Int32).toInt = 0 := by decide
  rcases hy with rfl | ⟨m, hm, rfl⟩
  · have h3 := Int32.le_iff_toInt_le.mp h1.2
    rw [(by decide : (-1 - 1 : Int32).toInt = -2)] at h3
    omega
  · cases m with
    | zero =>
      have h3 := Int32.le_iff_toInt_le.mp h1.2
      rw [(by decide : (nI 0 - 1 : Int32).toInt = -1)] at h3
      omega
    | succ m =>
      have h3 := Int32.le_iff_toInt_le.mp h1.2
      rw [nI_pred, nI_toInt (by omega)] at h3
      exact vp_in_iff.mpr ⟨by omega, by omega⟩
set_option maxRecDepth 100000 in
set_option maxHeartbeats 4000000 in
theorem s_X12_in {v lo hi : Int32} : Ca G mdX12_in [.int v, .int lo, .int hi] (mk I L t) (Rs (.int (b2i (lo ≤ v ∧ v ≤ hi))) (mk I L t)) := by
  refine Ca.intro [some (.int v), some (.int lo), some (.int hi)] (by decide) (Nat.le_of_ble_eq_true rfl) rfl rfl ?_
  refine ex_iload_n dX12_in_0 rfl ?_
  refine ex_iload_n dX12_in_1 rfl ?_
  refine ex_icmp_lt 14 dX12_in_2 (by decide) (fun h2 => ?_) (fun h2 => ?_)
  · skip
    refine ex_iconst (v := 0) dX12_in_14 (by decide) ?_
    refine ex_iret dX12_in_15 rfl rfl ⟨rfl, Nat.le_refl _⟩ ?_
    exact ⟨by first | exact b2i_t (by grind) | exact b2i_f (by grind), rfl⟩
  · skip
    refine ex_iload_n dX12_in_5 rfl ?_
    refine ex_iload_n dX12_in_6 rfl ?_
    refine ex_icmp_gt 14 dX12_in_7 (by decide) (fun h7 => ?_) (fun h7 => ?_)
    · skip
      refine ex_iconst (v := 0) dX12_in_14 (by decide) ?_
      refine ex_iret dX12_in_15 rfl rfl ⟨rfl, Nat.le_refl _⟩ ?_
      exact ⟨by first | exact b2i_t (by grind) | exact b2i_f (by grind), rfl⟩
    · skip
      refine ex_iconst (v := 1) dX12_in_10 (by decide) ?_
      refine ex_goto 15 dX12_in_11 (by decide) ?_
      refine ex_iret dX12_in_15 rfl rfl ⟨rfl, Nat.le_refl _⟩ ?_
      exact ⟨by first | exact b2i_t (by grind) | exact b2i_f (by grind), rfl⟩
set_option maxRecDepth 100000 in
set_option maxHeartbeats 4000000 in
theorem s_X12_isRow {r : Int32} : Ca G mdX12_isRow [.int r] (mk I L t) (Rs (.int (b2i (0 ≤ r ∧ r ≤ 5))) (mk I L t)) := by
  refine Ca.intro [some (.int r)] (by decide) (Nat.le_of_ble_eq_true rfl) rfl rfl ?_
  refine ex_iload_n dX12_isRow_0 rfl ?_
  refine ex_iconst (v := 0) dX12_isRow_1 (by decide) ?_
  refine ex_iconst (v := 5) dX12_isRow_2 (by decide) ?_
  refine rx_cS dX12_isRow_3 rfl lk_X12_86 ⟨⟨rfl, rfl⟩, by decide, by decide⟩ rfl (Nat.le_of_ble_eq_true rfl) rfl s_X12_in (Rs.k ?_)
  refine ex_iret dX12_isRow_6 rfl (nb2i _) ⟨rfl, Nat.le_refl _⟩ ?_
  exact ⟨rfl, rfl⟩
set_option maxRecDepth 100000 in
set_option maxHeartbeats 4000000 in
theorem s_X12_isText {r : Int32} : Ca G mdX12_isText [.int r] (mk I L t) (Rs (.int (b2i (0 ≤ r ∧ r ≤ 3))) (mk I L t)) := by
  refine Ca.intro [some (.int r)] (by decide) (Nat.le_of_ble_eq_true rfl) rfl rfl ?_
  refine ex_iload_n dX12_isText_0 rfl ?_
  refine ex_iconst (v := 0) dX12_isText_1 (by decide) ?_
  refine ex_iconst (v := 3) dX12_isText_2 (by decide) ?_
  refine rx_cS dX12_isText_3 rfl lk_X12_86 ⟨⟨rfl, rfl⟩, by decide, by decide⟩ rfl (Nat.le_of_ble_eq_true rfl) rfl s_X12_in (Rs.k ?_)
  refine ex_iret dX12_isText_6 rfl (nb2i _) ⟨rfl, Nat.le_refl _⟩ ?_
  exact ⟨rfl, rfl⟩
set_option maxRecDepth 100000 in
set_option maxHeartbeats 4000000 in
theorem s_X12_isPlace {r : Int32} : Ca G mdX12_isPlace [.int r] (mk I L t) (Rs (.int (b2i (0 ≤ r ∧ r ≤ 3))) (mk I L t)) := by
  refine Ca.intro [some (.int r)] (by decide) (Nat.le_of_ble_eq_true rfl) rfl rfl ?_
  refine ex_iload_n dX12_isPlace_0 rfl ?_
  refine ex_iconst (v := 0) dX12_isPlace_1 (by decide) ?_
  refine ex_iconst (v := 3) dX12_isPlace_2 (by decide) ?_
  refine rx_cS dX12_isPlace_3 rfl lk_X12_86 ⟨⟨rfl, rfl⟩, by decide, by decide⟩ rfl (Nat.le_of_ble_eq_true rfl) rfl s_X12_in (Rs.k ?_)
  refine ex_iret dX12_isPlace_6 rfl (nb2i _) ⟨rfl, Nat.le_refl _⟩ ?_
  exact ⟨rfl, rfl⟩
set_option maxRecDepth 100000 in
set_option maxHeartbeats 4000000 in
theorem s_X12_isShipTold {r : Int32} : Ca G mdX12_isShipTold [.int r] (mk I L t) (Rs (.int (b2i (0 ≤ r ∧ r ≤ 2))) (mk I L t)) := by
  refine Ca.intro [some (.int r)] (by decide) (Nat.le_of_ble_eq_true rfl) rfl rfl ?_
  refine ex_iload_n dX12_isShipTold_0 rfl ?_
  refine ex_iconst (v := 0) dX12_isShipTold_1 (by decide) ?_
  refine ex_iconst (v := 2) dX12_isShipTold_2 (by decide) ?_
  refine rx_cS dX12_isShipTold_3 rfl lk_X12_86 ⟨⟨rfl, rfl⟩, by decide, by decide⟩ rfl (Nat.le_of_ble_eq_true rfl) rfl s_X12_in (Rs.k ?_)
  refine ex_iret dX12_isShipTold_6 rfl (nb2i _) ⟨rfl, Nat.le_refl _⟩ ?_
  exact ⟨rfl, rfl⟩
set_option maxRecDepth 100000 in
set_option maxHeartbeats 4000000 in
theorem s_X12_has {x k : Int32} : Ca G mdX12_has [.int x, .int k] (mk I L t) (Rs (.int (b2i (x >>> (k &&& 31) &&& 1 = 1))) (mk I L t)) := by
  refine Ca.intro [some (.int x), some (.int k)] (by decide) (Nat.le_of_ble_eq_true rfl) rfl rfl ?_
  refine ex_iload_n dX12_has_0 rfl ?_
  refine ex_iload_n dX12_has_1 rfl ?_
  refine ex_ishr dX12_has_2 ?_
  refine ex_iconst (v := 1) dX12_has_3 (by decide) ?_
  refine ex_iand dX12_has_4 ?_
  refine ex_iconst (v := 1) dX12_has_5 (by decide) ?_
  refine ex_icmp_ne 13 dX12_has_6 (by decide) (fun h6 => ?_) (fun h6 => ?_)
  · skip
    refine ex_iconst (v := 0) dX12_has_13 (by decide) ?_
    refine ex_iret dX12_has_14 rfl rfl ⟨rfl, Nat.le_refl _⟩ ?_
    exact ⟨by first | exact b2i_t h6 | exact b2i_f h6, rfl⟩
  · skip
    refine ex_iconst (v := 1) dX12_has_9 (by decide) ?_
    refine ex_goto 14 dX12_has_10 (by decide) ?_
    refine ex_iret dX12_has_14 rfl rfl ⟨rfl, Nat.le_refl _⟩ ?_
    exact ⟨by first | exact b2i_t h6 | exact b2i_f h6, rfl⟩
set_option maxRecDepth 100000 in
set_option maxHeartbeats 4000000 in
theorem s_X12_lesser {a b : Int32} : Ca G mdX12_lesser [.int a, .int b] (mk I L t) (Rs (.int (if a < b then a else b)) (mk I L t)) := by
  refine Ca.intro [some (.int a), some (.int b)] (by decide) (Nat.le_of_ble_eq_true rfl) rfl rfl ?_
  refine ex_iload_n dX12_lesser_0 rfl ?_
  refine ex_iload_n dX12_lesser_1 rfl ?_
  refine ex_icmp_ge 9 dX12_lesser_2 (by decide) (fun h2 => ?_) (fun h2 => ?_)
  · rw [if_neg (Int32.not_lt.mpr h2)]
    refine ex_iload_n dX12_lesser_9 rfl ?_
    refine ex_iret dX12_lesser_10 rfl rfl ⟨rfl, Nat.le_refl _⟩ ?_
    exact ⟨rfl, rfl⟩
  · rw [if_pos (Int32.not_le.mp h2)]
    refine ex_iload_n dX12_lesser_5 rfl ?_
    refine ex_goto 10 dX12_lesser_6 (by decide) ?_
    refine ex_iret dX12_lesser_10 rfl rfl ⟨rfl, Nat.le_refl _⟩ ?_
    exact ⟨rfl, rfl⟩
set_option maxRecDepth 100000 in
set_option maxHeartbeats 4000000 in
theorem s_X12_greater {a b : Int32} : Ca G mdX12_greater [.int a, .int b] (mk I L t) (Rs (.int (if b < a then a else b)) (mk I L t)) := by
  refine Ca.intro [some (.int a), some (.int b)] (by decide) (Nat.le_of_ble_eq_true rfl) rfl rfl ?_
  refine ex_iload_n dX12_greater_0 rfl ?_
  refine ex_iload_n dX12_greater_1 rfl ?_
  refine ex_icmp_le 9 dX12_greater_2 (by decide) (fun h2 => ?_) (fun h2 => ?_)
  · rw [if_neg (Int32.not_lt.mpr h2)]
    refine ex_iload_n dX12_greater_9 rfl ?_
    refine ex_iret dX12_greater_10 rfl rfl ⟨rfl, Nat.le_refl _⟩ ?_
    exact ⟨rfl, rfl⟩
  · rw [if_pos (Int32.not_le.mp h2)]
    refine ex_iload_n dX12_greater_5 rfl ?_
    refine ex_goto 10 dX12_greater_6 (by decide) ?_
    refine ex_iret dX12_greater_10 rfl rfl ⟨rfl, Nat.le_refl _⟩ ?_
    exact ⟨rfl, rfl⟩
set_option maxRecDepth 100000 in
set_option maxHeartbeats 4000000 in
theorem s_X12_far {a b : Int32} : Ca G mdX12_far [.int a, .int b] (mk I L t) (Rs (.int (if a < b then b - a else a - b)) (mk I L t)) := by
  refine Ca.intro [some (.int a), some (.int b)] (by decide) (Nat.le_of_ble_eq_true rfl) rfl rfl ?_
  refine ex_iload_n dX12_far_0 rfl ?_
  refine ex_iload_n dX12_far_1 rfl ?_
  refine ex_icmp_ge 11 dX12_far_2 (by decide) (fun h2 => ?_) (fun h2 => ?_)
  · rw [if_neg (Int32.not_lt.mpr h2)]
    refine ex_iload_n dX12_far_11 rfl ?_
    refine ex_iload_n dX12_far_12 rfl ?_
    refine ex_isub dX12_far_13 ?_
    refine ex_iret dX12_far_14 rfl rfl ⟨rfl, Nat.le_refl _⟩ ?_
    exact ⟨rfl, rfl⟩
  · rw [if_pos (Int32.not_le.mp h2)]
    refine ex_iload_n dX12_far_5 rfl ?_
    refine ex_iload_n dX12_far_6 rfl ?_
    refine ex_isub dX12_far_7 ?_
    refine ex_goto 14 dX12_far_8 (by decide) ?_
    refine ex_iret dX12_far_14 rfl rfl ⟨rfl, Nat.le_refl _⟩ ?_
    exact ⟨rfl, rfl⟩
def meI (I : Im) (f : Int32) : Im := up2 (up2 I 200 0 f) 201 f.toNatClampNeg (up2 I 200 0 f 201 f.toNatClampNeg + 1)
set_option maxRecDepth 100000 in
set_option maxHeartbeats 4000000 in
theorem s_X12_meets {f : Int32} (hf : vp_in f 6) : Ca G mdX12_meets [.ref 200, .int f] (mk I L t) (Rs (.int (-3)) (mk (meI I f) L t)) := by
  refine Ca.intro [some (.ref 200), some (.int f)] (by decide) (Nat.le_of_ble_eq_true rfl) rfl rfl ?_
  refine ex_aload_n dX12_meets_0 rfl ?_
  refine ex_iload_n dX12_meets_1 rfl ?_
  refine p_12_0 dX12_meets_2 rfl wf_X12_82 (by first | assumption | rfl) ?_
  refine ex_aload_n dX12_meets_5 rfl ?_
  refine g_12_1 dX12_meets_6 rfl wf_X12_7 (by first | assumption | rfl) (show Rt _ 200 1 = some 201 from rfl) ?_
  refine ex_iload_n dX12_meets_9 rfl ?_
  refine ex_dup2 dX12_meets_10 rfl rfl ?_
  refine rx_iald dX12_meets_11 (by first | assumption | rfl) (by first | assumption | (unfold vp_in; decide)) ?_
  refine ex_iconst (v := 1) dX12_meets_12 (by decide) ?_
  refine ex_iadd dX12_meets_13 ?_
  refine rx_iast dX12_meets_14 (by first | assumption | rfl) (by first | assumption | (unfold vp_in; decide)) ?_
  refine ex_bipush (v := (-3)) dX12_meets_15 (by decide) ?_
  refine ex_iret dX12_meets_17 rfl rfl ⟨rfl, Nat.le_refl _⟩ ?_
  exact ⟨rfl, rfl⟩
set_option maxRecDepth 100000 in
set_option maxHeartbeats 4000000 in
theorem s_X12_tells {v a : Int32} : Ca G mdX12_tells [.ref 200, .int v, .int a] (mk I L t) (Rs (.int a) (mk (up2 I 200 2 v) L t)) := by
  refine Ca.intro [some (.ref 200), some (.int v), some (.int a)] (by decide) (Nat.le_of_ble_eq_true rfl) rfl rfl ?_
  refine ex_aload_n dX12_tells_0 rfl ?_
  refine ex_iload_n dX12_tells_1 rfl ?_
  refine p_12_2 dX12_tells_2 rfl wf_X12_90 (by first | assumption | rfl) ?_
  refine ex_iload_n dX12_tells_5 rfl ?_
  refine ex_iret dX12_tells_6 rfl rfl ⟨rfl, Nat.le_refl _⟩ ?_
  exact ⟨rfl, rfl⟩
def f_X12_finding (I : Im) : Int32 :=
  I 200 0
set_option maxRecDepth 100000 in
set_option maxHeartbeats 4000000 in
theorem s_X12_finding   : Ca G mdX12_finding [.ref 200] (mk I L t) (Rs (.int (f_X12_finding I)) (mk I L t)) := by
  refine Ca.intro [some (.ref 200)] (by decide) (Nat.le_of_ble_eq_true rfl) rfl rfl ?_
  refine ex_aload_n dX12_finding_0 rfl ?_
  refine g_12_0 dX12_finding_1 rfl wf_X12_82 (by first | assumption | rfl) ?_
  refine ex_iret dX12_finding_4 rfl rfl ⟨rfl, Nat.le_refl _⟩ ?_
  exact ⟨(by simp only [f_X12_finding, if_true, if_false, not_true_eq_false, not_false_eq_true]), rfl⟩
def f_X12_asked (I : Im) : Int32 :=
  I 200 2
set_option maxRecDepth 100000 in
set_option maxHeartbeats 4000000 in
theorem s_X12_asked   : Ca G mdX12_asked [.ref 200] (mk I L t) (Rs (.int (f_X12_asked I)) (mk I L t)) := by
  refine Ca.intro [some (.ref 200)] (by decide) (Nat.le_of_ble_eq_true rfl) rfl rfl ?_
  refine ex_aload_n dX12_asked_0 rfl ?_
  refine g_12_2 dX12_asked_1 rfl wf_X12_90 (by first | assumption | rfl) ?_
  refine ex_iret dX12_asked_4 rfl rfl ⟨rfl, Nat.le_refl _⟩ ?_
  exact ⟨(by simp only [f_X12_asked, if_true, if_false, not_true_eq_false, not_false_eq_true]), rfl⟩
def f_X12_upper (L : Nat → Nat → Int64) : Int64 :=
  L 200 3
set_option maxRecDepth 100000 in
set_option maxHeartbeats 4000000 in
theorem s_X12_upper   : Ca G mdX12_upper [.ref 200] (mk I L t) (Rs (.long (f_X12_upper L)) (mk I L t)) := by
  refine Ca.intro [some (.ref 200)] (by decide) (Nat.le_of_ble_eq_true rfl) rfl rfl ?_
  refine ex_aload_n dX12_upper_0 rfl ?_
  refine g_12_3 dX12_upper_1 rfl wf_X12_93 (by first | assumption | rfl) ?_
  refine ex_lret dX12_upper_4 rfl ⟨rfl, Nat.le_refl _⟩ ?_
  exact ⟨(by simp only [f_X12_upper, if_true, if_false, not_true_eq_false, not_false_eq_true]), rfl⟩
def f_X12_lower (L : Nat → Nat → Int64) : Int64 :=
  L 200 4
set_option maxRecDepth 100000 in
set_option maxHeartbeats 4000000 in
theorem s_X12_lower   : Ca G mdX12_lower [.ref 200] (mk I L t) (Rs (.long (f_X12_lower L)) (mk I L t)) := by
  refine Ca.intro [some (.ref 200)] (by decide) (Nat.le_of_ble_eq_true rfl) rfl rfl ?_
  refine ex_aload_n dX12_lower_0 rfl ?_
  refine g_12_4 dX12_lower_1 rfl wf_X12_78 (by first | assumption | rfl) ?_
  refine ex_lret dX12_lower_4 rfl ⟨rfl, Nat.le_refl _⟩ ?_
  exact ⟨(by simp only [f_X12_lower, if_true, if_false, not_true_eq_false, not_false_eq_true]), rfl⟩
def f_X12_findings (I : Im) (f : Int32) : Int32 :=
  if (b2i (1 ≤ f ∧ f ≤ 5)) = 0 then
    (-1)
  else
    I 201 f.toNatClampNeg
set_option maxRecDepth 100000 in
set_option maxHeartbeats 4000000 in
theorem s_X12_findings  {f : Int32}  : Ca G mdX12_findings [.ref 200, .int f] (mk I L t) (Rs (.int (f_X12_findings I f)) (mk I L t)) := by
  refine Ca.intro [some (.ref 200), some (.int f)] (by decide) (Nat.le_of_ble_eq_true rfl) rfl rfl ?_
  refine ex_iload_n dX12_findings_0 rfl ?_
  refine ex_iconst (v := 1) dX12_findings_1 (by decide) ?_
  refine ex_iconst (v := 5) dX12_findings_2 (by decide) ?_
  refine rx_cS dX12_findings_3 rfl lk_X12_86 ⟨⟨rfl, rfl⟩, by decide, by decide⟩ rfl (Nat.le_of_ble_eq_true rfl) rfl s_X12_in (Rs.k ?_)
  refine ex_if_eq 18 dX12_findings_6 (by decide) (fun h6 => ?_) (fun h6 => ?_)
  · skip
    refine ex_iconst (v := (-1)) dX12_findings_18 (by decide) ?_
    refine ex_iret dX12_findings_19 rfl rfl ⟨rfl, Nat.le_refl _⟩ ?_
    exact ⟨(by simp only [f_X12_findings, ↓eq_true h6, if_true, if_false, not_true_eq_false, not_false_eq_true]), rfl⟩
  · have vf := f16 h6
    refine ex_aload_n dX12_findings_9 rfl ?_
    refine g_12_1 dX12_findings_10 rfl wf_X12_7 (by first | assumption | rfl) (show Rt _ 200 1 = some 201 from rfl) ?_
    refine ex_iload_n dX12_findings_13 rfl ?_
    refine rx_iald dX12_findings_14 (by first | assumption | rfl) (by first | assumption | (unfold vp_in; decide)) ?_
    refine ex_goto 19 dX12_findings_15 (by decide) ?_
    refine ex_iret dX12_findings_19 rfl rfl ⟨rfl, Nat.le_refl _⟩ ?_
    exact ⟨(by simp only [f_X12_findings, ↓eq_false h6, if_true, if_false, not_true_eq_false, not_false_eq_true]), rfl⟩
set_option maxRecDepth 100000 in
set_option maxHeartbeats 4000000 in
theorem s_X12_rowAt {r i : Int32} (vr : vp_in r 6) (vi : vp_in i 60) : Ca G mdX12_rowAt [.ref 200, .int r, .int i] (mk I L t) (Rs (.int (I 203 (60 * r + i).toNatClampNeg)) (mk I L t)) := by
  refine Ca.intro [some (.ref 200), some (.int r), some (.int i)] (by decide) (Nat.le_of_ble_eq_true rfl) rfl rfl ?_
  refine ex_aload_n dX12_rowAt_0 rfl ?_
  refine g_12_6 dX12_rowAt_1 rfl wf_X12_16 (by first | assumption | rfl) (show Rt _ 200 6 = some 203 from rfl) ?_
  refine ex_bipush (v := 60) dX12_rowAt_4 (by decide) ?_
  refine ex_iload_n dX12_rowAt_6 rfl ?_
  refine ex_imul dX12_rowAt_7 ?_
  refine ex_iload_n dX12_rowAt_8 rfl ?_
  refine ex_iadd dX12_rowAt_9 ?_
  refine rx_iald dX12_rowAt_10 (by first | assumption | rfl) (ixm (C := 60) (R := 6) rfl vr vi (by decide)).1 ?_
  refine ex_iret dX12_rowAt_11 rfl rfl ⟨rfl, Nat.le_refl _⟩ ?_
  exact ⟨rfl, rfl⟩
set_option maxRecDepth 100000 in
set_option maxHeartbeats 4000000 in
theorem lm_row {P : Option Value → Mem → Prop} {r n : Int32} (vr : vp_in r 6) (kont : Ex G mdX12_row 58 [some (.ref 200), some (.int r), some (.int n), some (.int (nI 60))] [] (mk (flw I 203 (60 * r.toNatClampNeg) 60 (fun _ => 0)) L t) 0 0 P) : Ex G mdX12_row 34 [some (.ref 200), some (.int r), some (.int n), some (.int (nI 0))] [] (mk (flw I 203 (60 * r.toNatClampNeg) 0 (fun _ => 0)) L t) 0 0 P := by
  refine loop_up (G := G) (d := mdX12_row) (pc := 34) (st := []) (uc := 0) (us := 0) (P := P) 60 (fun k => mk (flw I 203 (60 * r.toNatClampNeg) k (fun _ => 0)) L t) (fun k => [some (.ref 200), some (.int r), some (.int n), some (.int (nI k))]) ?_ ?_ 0 (Nat.zero_le _)
  · intro k hk ih
    refine ex_iload_n dX12_row_34 rfl ?_
    refine ex_bipush (v := 60) dX12_row_35 (by decide) ?_
    refine ex_icmp_ge 58 dX12_row_37 (by decide) (fun h37 => ?_) (fun h37 => ?_)
    · exact absurd h37 (nI_ge hk (by decide))
    · skip
      refine ex_aload_n dX12_row_40 rfl ?_
      refine g_12_6 dX12_row_41 rfl wf_X12_16 (by first | assumption | rfl) (show Rt _ 200 6 = some 203 from rfl) ?_
      refine ex_bipush (v := 60) dX12_row_44 (by decide) ?_
      refine ex_iload_n dX12_row_46 rfl ?_
      refine ex_imul dX12_row_47 ?_
      refine ex_iload_n dX12_row_48 rfl ?_
      refine ex_iadd dX12_row_49 ?_
      refine ex_iconst (v := 0) dX12_row_50 (by decide) ?_
      refine rx_iast dX12_row_51 (by first | assumption | rfl) (ixm (C := 60) (R := 6) rfl vr (vp_in_nI hk (by decide)) (by decide)).1 ?_
      refine inc3 (v := _ + 1) dX12_row_52 (by rfl) (by first | exact rfl | exact trivial) ?_
      refine ex_goto 34 dX12_row_55 (by decide) ?_
      rw [(ixm (c := 60) (C := 60) (R := 6) rfl vr (vp_in_nI hk (by decide)) (by decide)).2, nI_clamp (by omega), nI_1]
      rw [← flw_s] at ih
      exact ih
  · skip
    refine ex_iload_n dX12_row_34 rfl ?_
    refine ex_bipush (v := 60) dX12_row_35 (by decide) ?_
    refine ex_icmp_ge 58 dX12_row_37 (by decide) (fun h37 => ?_) (fun h37 => ?_)
    · skip
      exact kont
    · exact absurd (by decide : nI 60 ≤ nI 60) h37
theorem lm_row0 {P : Option Value → Mem → Prop} {r n : Int32} (vr : vp_in r 6) (kont : Ex G mdX12_row 58 [some (.ref 200), some (.int r), some (.int n), none] [] (mk (flw I 203 (60 * r.toNatClampNeg) 60 (fun _ => 0)) L t) 0 0 P) : Ex G mdX12_row 34 [some (.ref 200), some (.int r), some (.int n), some (.int 0)] [] (mk I L t) 0 0 P := by
  have h := lm_row (G := G) (I := I) (L := L) (n := n) vr (P := P) (fg3 kont)
  rw [flw_0] at h
  exact h
def f_X12_row (I : Im) (r : Int32) (n : Int32) : Int32 × Im :=
  if (b2i (0 ≤ r ∧ r ≤ 5)) = 0 then
    ((-1), I)
  else
    if n ≤ 60 then
      if 0 ≤ n then
        let I1 : Im := up2 I 202 r.toNatClampNeg n
        let I2 : Im := flw I1 203 (60 * r.toNatClampNeg) 60 (fun _ => 0)
        (n, I2)
      else
        let I3 : Im := meI I 5
        ((-3), I3)
    else
      ((-1), I)
set_option maxRecDepth 100000 in
set_option maxHeartbeats 4000000 in
theorem s_X12_row  {r : Int32} {n : Int32}  : Ca G mdX12_row [.ref 200, .int r, .int n] (mk I L t) (Rs (.int (f_X12_row I r n).1) (mk ((f_X12_row I r n).2) L t)) := by
  refine Ca.intro [some (.ref 200), some (.int r), some (.int n), none] (by decide) (Nat.le_of_ble_eq_true rfl) rfl rfl ?_
  refine ex_iload_n dX12_row_0 rfl ?_
  refine rx_cS dX12_row_1 rfl lk_X12_96 ⟨⟨rfl, rfl⟩, by decide, by decide⟩ rfl (Nat.le_of_ble_eq_true rfl) rfl s_X12_isRow (Rs.k ?_)
  refine ex_if_eq 13 dX12_row_4 (by decide) (fun h4 => ?_) (fun h4 => ?_)
  · skip
    refine ex_iconst (v := (-1)) dX12_row_13 (by decide) ?_
    refine ex_iret dX12_row_14 rfl rfl ⟨rfl, Nat.le_refl _⟩ ?_
    exact ⟨(by simp only [f_X12_row, ↓eq_true h4, if_true, if_false, not_true_eq_false, not_false_eq_true]), (by simp only [f_X12_row, ↓eq_true h4, if_true, if_false, not_true_eq_false, not_false_eq_true])⟩
  · have qr := (cl_lt (N := 6) (by decide) h4).1
    have vr := (cl_lt (N := 6) (by decide) h4).2
    refine ex_iload_n dX12_row_7 rfl ?_
    refine ex_bipush (v := 60) dX12_row_8 (by decide) ?_
    refine ex_icmp_le 15 dX12_row_10 (by decide) (fun h10 => ?_) (fun h10 => ?_)
    · skip
      refine ex_iload_n dX12_row_15 rfl ?_
      refine ex_if_ge 25 dX12_row_16 (by decide) (fun h16 => ?_) (fun h16 => ?_)
      · skip
        refine ex_aload_n dX12_row_25 rfl ?_
        refine g_12_5 dX12_row_26 rfl wf_X12_13 (by first | assumption | rfl) (show Rt _ 200 5 = some 202 from rfl) ?_
        refine ex_iload_n dX12_row_29 rfl ?_
        refine ex_iload_n dX12_row_30 rfl ?_
        refine rx_iast dX12_row_31 (by first | assumption | rfl) (by first | assumption | (unfold vp_in; decide)) ?_
        refine ex_iconst (v := 0) dX12_row_32 (by decide) ?_
        refine st_i3 dX12_row_33 (by first | exact rfl | exact trivial) ?_
        refine (lm_row0 vr) ?_
        refine ex_iload_n dX12_row_58 rfl ?_
        refine ex_iret dX12_row_59 rfl rfl ⟨rfl, Nat.le_refl _⟩ ?_
        exact ⟨(by simp only [f_X12_row, ↓eq_false h4, ↓h10, ↓h16, if_true, if_false, not_true_eq_false, not_false_eq_true]), (by simp only [f_X12_row, ↓eq_false h4, ↓h10, ↓h16, if_true, if_false, not_true_eq_false, not_false_eq_true])⟩
      · skip
        refine ex_aload_n dX12_row_19 rfl ?_
        refine ex_iconst (v := 5) dX12_row_20 (by decide) ?_
        refine rx_cV (kd := 12) dX12_row_21 rfl lk_X12_100 rfl (by decide) (by first | assumption | rfl) ⟨⟨rfl, rfl⟩, by decide, by decide⟩ rfl (Nat.le_of_ble_eq_true rfl) rfl (s_X12_meets (by unfold vp_in; decide)) (Rs.k ?_)
        refine ex_iret dX12_row_24 rfl rfl ⟨rfl, Nat.le_refl _⟩ ?_
        exact ⟨(by simp only [f_X12_row, ↓eq_false h4, ↓h10, ↓h16, if_true, if_false, not_true_eq_false, not_false_eq_true]), (by simp only [f_X12_row, ↓eq_false h4, ↓h10, ↓h16, if_true, if_false, not_true_eq_false, not_false_eq_true])⟩
    · skip
      refine ex_iconst (v := (-1)) dX12_row_13 (by decide) ?_
      refine ex_iret dX12_row_14 rfl rfl ⟨rfl, Nat.le_refl _⟩ ?_
      exact ⟨(by simp only [f_X12_row, ↓eq_false h4, ↓h10, if_true, if_false, not_true_eq_false, not_false_eq_true]), (by simp only [f_X12_row, ↓eq_false h4, ↓h10, if_true, if_false, not_true_eq_false, not_false_eq_true])⟩
def f_X12_lay (I : Im) (r : Int32) (i : Int32) (v : Int32) : Int32 × Im :=
  if (b2i (0 ≤ r ∧ r ≤ 5)) = 0 then
    ((-1), I)
  else
    if 0 ≤ (I 202 r.toNatClampNeg) then
      if (b2i (0 ≤ i ∧ i ≤ ((I 202 r.toNatClampNeg) - 1))) = 0 then
        let I3 : Im := meI I 2
        ((-3), I3)
      else
        let I1 : Im := up2 I 203 ((60 * r) + i).toNatClampNeg v
        let I2 : Im := up2 I1 200 2 (I 203 (60 * r + i).toNatClampNeg)
        (1, I2)
    else
      let I4 : Im := meI I 1
      ((-3), I4)
set_option maxRecDepth 100000 in
set_option maxHeartbeats 4000000 in
theorem s_X12_lay  {r : Int32} {i : Int32} {v : Int32} (hSz : SzS I) : Ca G mdX12_lay [.ref 200, .int r, .int i, .int v] (mk I L t) (Rs (.int (f_X12_lay I r i v).1) (mk ((f_X12_lay I r i v).2) L t)) := by
  refine Ca.intro [some (.ref 200), some (.int r), some (.int i), some (.int v), none] (by decide) (Nat.le_of_ble_eq_true rfl) rfl rfl ?_
  refine ex_iload_n dX12_lay_0 rfl ?_
  refine rx_cS dX12_lay_1 rfl lk_X12_96 ⟨⟨rfl, rfl⟩, by decide, by decide⟩ rfl (Nat.le_of_ble_eq_true rfl) rfl s_X12_isRow (Rs.k ?_)
  refine ex_if_ne 9 dX12_lay_4 (by decide) (fun h4 => ?_) (fun h4 => ?_)
  · have qr := (cl_lt (N := 6) (by decide) h4).1
    have vr := (cl_lt (N := 6) (by decide) h4).2
    refine ex_aload_n dX12_lay_9 rfl ?_
    refine g_12_5 dX12_lay_10 rfl wf_X12_13 (by first | assumption | rfl) (show Rt _ 200 5 = some 202 from rfl) ?_
    refine ex_iload_n dX12_lay_13 rfl ?_
    refine rx_iald dX12_lay_14 (by first | assumption | rfl) (by first | assumption | (unfold vp_in; decide)) ?_
    refine ex_if_ge 24 dX12_lay_15 (by decide) (fun h15 => ?_) (fun h15 => ?_)
    · skip
      refine ex_iload_n dX12_lay_24 rfl ?_
      refine ex_iconst (v := 0) dX12_lay_25 (by decide) ?_
      refine ex_aload_n dX12_lay_26 rfl ?_
      refine g_12_5 dX12_lay_27 rfl wf_X12_13 (by first | assumption | rfl) (show Rt _ 200 5 = some 202 from rfl) ?_
      refine ex_iload_n dX12_lay_30 rfl ?_
      refine rx_iald dX12_lay_31 (by first | assumption | rfl) (by first | assumption | (unfold vp_in; decide)) ?_
      refine ex_iconst (v := 1) dX12_lay_32 (by decide) ?_
      refine ex_isub dX12_lay_33 ?_
      refine rx_cS dX12_lay_34 rfl lk_X12_86 ⟨⟨rfl, rfl⟩, by decide, by decide⟩ rfl (Nat.le_of_ble_eq_true rfl) rfl s_X12_in (Rs.k ?_)
      refine ex_if_ne 46 dX12_lay_37 (by decide) (fun h37 => ?_) (fun h37 => ?_)
      · have vi := in_s (by decide) (hSz _ qr) h37
        refine ex_aload_n dX12_lay_46 rfl ?_
        refine ex_iload_n dX12_lay_47 rfl ?_
        refine ex_iload_n dX12_lay_48 rfl ?_
        refine rx_cV (kd := 12) dX12_lay_49 rfl lk_X12_104 rfl (by decide) (by first | assumption | rfl) ⟨⟨rfl, rfl⟩, by decide, by decide⟩ rfl (Nat.le_of_ble_eq_true rfl) rfl (s_X12_rowAt vr vi) (Rs.k ?_)
        refine st_i4 dX12_lay_52 (by first | exact rfl | exact trivial) ?_
        refine ex_aload_n dX12_lay_54 rfl ?_
        refine g_12_6 dX12_lay_55 rfl wf_X12_16 (by first | assumption | rfl) (show Rt _ 200 6 = some 203 from rfl) ?_
        refine ex_bipush (v := 60) dX12_lay_58 (by decide) ?_
        refine ex_iload_n dX12_lay_60 rfl ?_
        refine ex_imul dX12_lay_61 ?_
        refine ex_iload_n dX12_lay_62 rfl ?_
        refine ex_iadd dX12_lay_63 ?_
        refine ex_iload_n dX12_lay_64 rfl ?_
        refine rx_iast dX12_lay_65 (by first | assumption | rfl) (ixm (C := 60) (R := 6) rfl vr vi (by decide)).1 ?_
        refine ex_aload_n dX12_lay_66 rfl ?_
        refine ex_iload dX12_lay_67 rfl ?_
        refine ex_iconst (v := 1) dX12_lay_69 (by decide) ?_
        refine rx_cV (kd := 12) dX12_lay_70 rfl lk_X12_108 rfl (by decide) (by first | assumption | rfl) ⟨⟨rfl, rfl⟩, by decide, by decide⟩ rfl (Nat.le_of_ble_eq_true rfl) rfl s_X12_tells (Rs.k ?_)
        refine ex_iret dX12_lay_73 rfl rfl ⟨rfl, Nat.le_refl _⟩ ?_
        exact ⟨(by simp only [f_X12_lay, ↓eq_false h4, ↓h15, ↓eq_false h37, if_true, if_false, not_true_eq_false, not_false_eq_true]), (by simp only [f_X12_lay, ↓eq_false h4, ↓h15, ↓eq_false h37, if_true, if_false, not_true_eq_false, not_false_eq_true])⟩
      · skip
        refine ex_aload_n dX12_lay_40 rfl ?_
        refine ex_iconst (v := 2) dX12_lay_41 (by decide) ?_
        refine rx_cV (kd := 12) dX12_lay_42 rfl lk_X12_100 rfl (by decide) (by first | assumption | rfl) ⟨⟨rfl, rfl⟩, by decide, by decide⟩ rfl (Nat.le_of_ble_eq_true rfl) rfl (s_X12_meets (by unfold vp_in; decide)) (Rs.k ?_)
        refine ex_iret dX12_lay_45 rfl rfl ⟨rfl, Nat.le_refl _⟩ ?_
        exact ⟨(by simp only [f_X12_lay, ↓eq_false h4, ↓h15, ↓eq_true h37, if_true, if_false, not_true_eq_false, not_false_eq_true]), (by simp only [f_X12_lay, ↓eq_false h4, ↓h15, ↓eq_true h37, if_true, if_false, not_true_eq_false, not_false_eq_true])⟩
    · skip
      refine ex_aload_n dX12_lay_18 rfl ?_
      refine ex_iconst (v := 1) dX12_lay_19 (by decide) ?_
      refine rx_cV (kd := 12) dX12_lay_20 rfl lk_X12_100 rfl (by decide) (by first | assumption | rfl) ⟨⟨rfl, rfl⟩, by decide, by decide⟩ rfl (Nat.le_of_ble_eq_true rfl) rfl (s_X12_meets (by unfold vp_in; decide)) (Rs.k ?_)
      refine ex_iret dX12_lay_23 rfl rfl ⟨rfl, Nat.le_refl _⟩ ?_
      exact ⟨(by simp only [f_X12_lay, ↓eq_false h4, ↓h15, if_true, if_false, not_true_eq_false, not_false_eq_true]), (by simp only [f_X12_lay, ↓eq_false h4, ↓h15, if_true, if_false, not_true_eq_false, not_false_eq_true])⟩
  · skip
    refine ex_iconst (v := (-1)) dX12_lay_7 (by decide) ?_
    refine ex_iret dX12_lay_8 rfl rfl ⟨rfl, Nat.le_refl _⟩ ?_
    exact ⟨(by simp only [f_X12_lay, ↓eq_true h4, if_true, if_false, not_true_eq_false, not_false_eq_true]), (by simp only [f_X12_lay, ↓eq_true h4, if_true, if_false, not_true_eq_false, not_false_eq_true])⟩
def f_X12_at (I : Im) (r : Int32) (i : Int32) : Int32 × Im :=
  if (b2i (0 ≤ r ∧ r ≤ 5)) = 0 then
    ((-1), I)
  else
    if 0 ≤ (I 202 r.toNatClampNeg) then
      if (b2i (0 ≤ i ∧ i ≤ ((I 202 r.toNatClampNeg) - 1))) = 0 then
        let I1 : Im := meI I 2
        ((-3), I1)
      else
        let I2 : Im := up2 I 200 2 (I 203 (60 * r + i).toNatClampNeg)
        (1, I2)
    else
      let I3 : Im := meI I 1
      ((-3), I3)
set_option maxRecDepth 100000 in
set_option maxHeartbeats 4000000 in
theorem s_X12_at  {r : Int32} {i : Int32} (hSz : SzS I) : Ca G mdX12_at [.ref 200, .int r, .int i] (mk I L t) (Rs (.int (f_X12_at I r i).1) (mk ((f_X12_at I r i).2) L t)) := by
  refine Ca.intro [some (.ref 200), some (.int r), some (.int i)] (by decide) (Nat.le_of_ble_eq_true rfl) rfl rfl ?_
  refine ex_iload_n dX12_at_0 rfl ?_
  refine rx_cS dX12_at_1 rfl lk_X12_96 ⟨⟨rfl, rfl⟩, by decide, by decide⟩ rfl (Nat.le_of_ble_eq_true rfl) rfl s_X12_isRow (Rs.k ?_)
  refine ex_if_ne 9 dX12_at_4 (by decide) (fun h4 => ?_) (fun h4 => ?_)
  · have qr := (cl_lt (N := 6) (by decide) h4).1
    have vr := (cl_lt (N := 6) (by decide) h4).2
    refine ex_aload_n dX12_at_9 rfl ?_
    refine g_12_5 dX12_at_10 rfl wf_X12_13 (by first | assumption | rfl) (show Rt _ 200 5 = some 202 from rfl) ?_
    refine ex_iload_n dX12_at_13 rfl ?_
    refine rx_iald dX12_at_14 (by first | assumption | rfl) (by first | assumption | (unfold vp_in; decide)) ?_
    refine ex_if_ge 24 dX12_at_15 (by decide) (fun h15 => ?_) (fun h15 => ?_)
    · skip
      refine ex_iload_n dX12_at_24 rfl ?_
      refine ex_iconst (v := 0) dX12_at_25 (by decide) ?_
      refine ex_aload_n dX12_at_26 rfl ?_
      refine g_12_5 dX12_at_27 rfl wf_X12_13 (by first | assumption | rfl) (show Rt _ 200 5 = some 202 from rfl) ?_
      refine ex_iload_n dX12_at_30 rfl ?_
      refine rx_iald dX12_at_31 (by first | assumption | rfl) (by first | assumption | (unfold vp_in; decide)) ?_
      refine ex_iconst (v := 1) dX12_at_32 (by decide) ?_
      refine ex_isub dX12_at_33 ?_
      refine rx_cS dX12_at_34 rfl lk_X12_86 ⟨⟨rfl, rfl⟩, by decide, by decide⟩ rfl (Nat.le_of_ble_eq_true rfl) rfl s_X12_in (Rs.k ?_)
      refine ex_if_eq 54 dX12_at_37 (by decide) (fun h37 => ?_) (fun h37 => ?_)
      · skip
        refine ex_aload_n dX12_at_54 rfl ?_
        refine ex_iconst (v := 2) dX12_at_55 (by decide) ?_
        refine rx_cV (kd := 12) dX12_at_56 rfl lk_X12_100 rfl (by decide) (by first | assumption | rfl) ⟨⟨rfl, rfl⟩, by decide, by decide⟩ rfl (Nat.le_of_ble_eq_true rfl) rfl (s_X12_meets (by unfold vp_in; decide)) (Rs.k ?_)
        refine ex_iret dX12_at_59 rfl rfl ⟨rfl, Nat.le_refl _⟩ ?_
        exact ⟨(by simp only [f_X12_at, ↓eq_false h4, ↓h15, ↓eq_true h37, if_true, if_false, not_true_eq_false, not_false_eq_true]), (by simp only [f_X12_at, ↓eq_false h4, ↓h15, ↓eq_true h37, if_true, if_false, not_true_eq_false, not_false_eq_true])⟩
      · have vi := in_s (by decide) (hSz _ qr) h37
        refine ex_aload_n dX12_at_40 rfl ?_
        refine ex_aload_n dX12_at_41 rfl ?_
        refine ex_iload_n dX12_at_42 rfl ?_
        refine ex_iload_n dX12_at_43 rfl ?_
        refine rx_cV (kd := 12) dX12_at_44 rfl lk_X12_104 rfl (by decide) (by first | assumption | rfl) ⟨⟨rfl, rfl⟩, by decide, by decide⟩ rfl (Nat.le_of_ble_eq_true rfl) rfl (s_X12_rowAt vr vi) (Rs.k ?_)
        refine ex_iconst (v := 1) dX12_at_47 (by decide) ?_
        refine rx_cV (kd := 12) dX12_at_48 rfl lk_X12_108 rfl (by decide) (by first | assumption | rfl) ⟨⟨rfl, rfl⟩, by decide, by decide⟩ rfl (Nat.le_of_ble_eq_true rfl) rfl s_X12_tells (Rs.k ?_)
        refine ex_goto 59 dX12_at_51 (by decide) ?_
        refine ex_iret dX12_at_59 rfl rfl ⟨rfl, Nat.le_refl _⟩ ?_
        exact ⟨(by simp only [f_X12_at, ↓eq_false h4, ↓h15, ↓eq_false h37, if_true, if_false, not_true_eq_false, not_false_eq_true]), (by simp only [f_X12_at, ↓eq_false h4, ↓h15, ↓eq_false h37, if_true, if_false, not_true_eq_false, not_false_eq_true])⟩
    · skip
      refine ex_aload_n dX12_at_18 rfl ?_
      refine ex_iconst (v := 1) dX12_at_19 (by decide) ?_
      refine rx_cV (kd := 12) dX12_at_20 rfl lk_X12_100 rfl (by decide) (by first | assumption | rfl) ⟨⟨rfl, rfl⟩, by decide, by decide⟩ rfl (Nat.le_of_ble_eq_true rfl) rfl (s_X12_meets (by unfold vp_in; decide)) (Rs.k ?_)
      refine ex_iret dX12_at_23 rfl rfl ⟨rfl, Nat.le_refl _⟩ ?_
      exact ⟨(by simp only [f_X12_at, ↓eq_false h4, ↓h15, if_true, if_false, not_true_eq_false, not_false_eq_true]), (by simp only [f_X12_at, ↓eq_false h4, ↓h15, if_true, if_false, not_true_eq_false, not_false_eq_true])⟩
  · skip
    refine ex_iconst (v := (-1)) dX12_at_7 (by decide) ?_
    refine ex_iret dX12_at_8 rfl rfl ⟨rfl, Nat.le_refl _⟩ ?_
    exact ⟨(by simp only [f_X12_at, ↓eq_true h4, if_true, if_false, not_true_eq_false, not_false_eq_true]), (by simp only [f_X12_at, ↓eq_true h4, if_true, if_false, not_true_eq_false, not_false_eq_true])⟩
def f_X12_tear (I : Im) (r : Int32) : Int32 × Im :=
  if (b2i (0 ≤ r ∧ r ≤ 5)) = 0 then
    ((-1), I)
  else
    if 0 ≤ (I 202 r.toNatClampNeg) then
      let I1 : Im := up2 I 202 r.toNatClampNeg ((-1))
      (1, I1)
    else
      let I2 : Im := meI I 1
      ((-3), I2)
set_option maxRecDepth 100000 in
set_option maxHeartbeats 4000000 in
theorem s_X12_tear  {r : Int32}  : Ca G mdX12_tear [.ref 200, .int r] (mk I L t) (Rs (.int (f_X12_tear I r).1) (mk ((f_X12_tear I r).2) L t)) := by
  refine Ca.intro [some (.ref 200), some (.int r)] (by decide) (Nat.le_of_ble_eq_true rfl) rfl rfl ?_
  refine ex_iload_n dX12_tear_0 rfl ?_
  refine rx_cS dX12_tear_1 rfl lk_X12_96 ⟨⟨rfl, rfl⟩, by decide, by decide⟩ rfl (Nat.le_of_ble_eq_true rfl) rfl s_X12_isRow (Rs.k ?_)
  refine ex_if_ne 9 dX12_tear_4 (by decide) (fun h4 => ?_) (fun h4 => ?_)
  · have qr := (cl_lt (N := 6) (by decide) h4).1
    have vr := (cl_lt (N := 6) (by decide) h4).2
    refine ex_aload_n dX12_tear_9 rfl ?_
    refine g_12_5 dX12_tear_10 rfl wf_X12_13 (by first | assumption | rfl) (show Rt _ 200 5 = some 202 from rfl) ?_
    refine ex_iload_n dX12_tear_13 rfl ?_
    refine rx_iald dX12_tear_14 (by first | assumption | rfl) (by first | assumption | (unfold vp_in; decide)) ?_
    refine ex_if_ge 24 dX12_tear_15 (by decide) (fun h15 => ?_) (fun h15 => ?_)
    · skip
      refine ex_aload_n dX12_tear_24 rfl ?_
      refine g_12_5 dX12_tear_25 rfl wf_X12_13 (by first | assumption | rfl) (show Rt _ 200 5 = some 202 from rfl) ?_
      refine ex_iload_n dX12_tear_28 rfl ?_
      refine ex_iconst (v := (-1)) dX12_tear_29 (by decide) ?_
      refine rx_iast dX12_tear_30 (by first | assumption | rfl) (by first | assumption | (unfold vp_in; decide)) ?_
      refine ex_iconst (v := 1) dX12_tear_31 (by decide) ?_
      refine ex_iret dX12_tear_32 rfl rfl ⟨rfl, Nat.le_refl _⟩ ?_
      exact ⟨(by simp only [f_X12_tear, ↓eq_false h4, ↓h15, if_true, if_false, not_true_eq_false, not_false_eq_true]), (by simp only [f_X12_tear, ↓eq_false h4, ↓h15, if_true, if_false, not_true_eq_false, not_false_eq_true])⟩
    · skip
      refine ex_aload_n dX12_tear_18 rfl ?_
      refine ex_iconst (v := 1) dX12_tear_19 (by decide) ?_
      refine rx_cV (kd := 12) dX12_tear_20 rfl lk_X12_100 rfl (by decide) (by first | assumption | rfl) ⟨⟨rfl, rfl⟩, by decide, by decide⟩ rfl (Nat.le_of_ble_eq_true rfl) rfl (s_X12_meets (by unfold vp_in; decide)) (Rs.k ?_)
      refine ex_iret dX12_tear_23 rfl rfl ⟨rfl, Nat.le_refl _⟩ ?_
      exact ⟨(by simp only [f_X12_tear, ↓eq_false h4, ↓h15, if_true, if_false, not_true_eq_false, not_false_eq_true]), (by simp only [f_X12_tear, ↓eq_false h4, ↓h15, if_true, if_false, not_true_eq_false, not_false_eq_true])⟩
  · skip
    refine ex_iconst (v := (-1)) dX12_tear_7 (by decide) ?_
    refine ex_iret dX12_tear_8 rfl rfl ⟨rfl, Nat.le_refl _⟩ ?_
    exact ⟨(by simp only [f_X12_tear, ↓eq_true h4, if_true, if_false, not_true_eq_false, not_false_eq_true]), (by simp only [f_X12_tear, ↓eq_true h4, if_true, if_false, not_true_eq_false, not_false_eq_true])⟩
end M1
