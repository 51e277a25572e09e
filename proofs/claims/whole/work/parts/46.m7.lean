section M7
variable {G : Gp} {I : Im} {L : Nat → Nat → Int64} {t : Nat}
theorem ixz {c r : Int32} {C R : Nat} (hc : c = nI C) (hC : 0 < C) (hr : vp_in r R) (hN : C * R < 2 ^ 31) : vp_in (c * r) (C * R) ∧ (c * r).toNatClampNeg = C * r.toNatClampNeg := by
  obtain ⟨r1, r2⟩ := vpn hr
  generalize hq : r.toNatClampNeg = q at r1 r2 ⊢
  subst r2 hc
  have h1 : C * (q + 1) ≤ C * R := Nat.mul_le_mul (Nat.le_refl C) r1
  rw [Nat.mul_add, Nat.mul_one] at h1
  rw [pk_mul, nI_clamp (by omega)]
  exact ⟨vp_in_nI (by omega) hN, rfl⟩
theorem ix8 {k i : Int32} (hk : vp_in k 4) (hi : vp_in i 4) : vp_in (8 * k + 2 * i) 32 ∧ vp_in (8 * k + 2 * i + 1) 32 ∧ (8 * k + 2 * i).toNatClampNeg = 8 * k.toNatClampNeg + 2 * i.toNatClampNeg ∧ (8 * k + 2 * i + 1).toNatClampNeg = 8 * k.toNatClampNeg + 2 * i.toNatClampNeg + 1 := by
  obtain ⟨r1, r2⟩ := vpn hk
  obtain ⟨i1, i2⟩ := vpn hi
  generalize hq : k.toNatClampNeg = q at r1 r2 ⊢
  generalize hj : i.toNatClampNeg = j at i1 i2 ⊢
  subst r2 i2
  rw [show (8 : Int32) = nI 8 from rfl, show (2 : Int32) = nI 2 from rfl, pk_mul, pk_mul, nI_add, nI_1, nI_clamp (by omega), nI_clamp (by omega)]
  exact ⟨vp_in_nI (by omega) (by decide), vp_in_nI (by omega) (by decide), rfl, rfl⟩
set_option maxRecDepth 100000 in
set_option maxHeartbeats 4000000 in
theorem lm_txt {P : Option Value → Mem → Prop} {r n : Int32} (vr : vp_in r 4) (kont : Ex G mdX12_text 59 [some (.ref 200), some (.int r), some (.int n), some (.int (nI 100))] [] (mk (flw I 206 (100 * r.toNatClampNeg) 100 (fun _ => (32 : Int32).toInt8.toInt32)) L t) 0 0 P) : Ex G mdX12_text 34 [some (.ref 200), some (.int r), some (.int n), some (.int (nI 0))] [] (mk (flw I 206 (100 * r.toNatClampNeg) 0 (fun _ => (32 : Int32).toInt8.toInt32)) L t) 0 0 P := by
  refine loop_up (G := G) (d := mdX12_text) (pc := 34) (st := []) (uc := 0) (us := 0) (P := P) 100 (fun k => mk (flw I 206 (100 * r.toNatClampNeg) k (fun _ => (32 : Int32).toInt8.toInt32)) L t) (fun k => [some (.ref 200), some (.int r), some (.int n), some (.int (nI k))]) ?_ ?_ 0 (Nat.zero_le _)
  · intro k hk ih
    refine ex_iload_n dX12_text_34 rfl ?_
    refine ex_bipush (v := 100) dX12_text_35 (by decide) ?_
    refine ex_icmp_ge 59 dX12_text_37 (by decide) (fun h37 => ?_) (fun h37 => ?_)
    · exact absurd h37 (nI_ge hk (by decide))
    · skip
      refine ex_aload_n dX12_text_40 rfl ?_
      refine g_12_9 dX12_text_41 rfl wf_X12_25 (by first | assumption | rfl) (show Rt _ 200 9 = some 206 from rfl) ?_
      refine ex_bipush (v := 100) dX12_text_44 (by decide) ?_
      refine ex_iload_n dX12_text_46 rfl ?_
      refine ex_imul dX12_text_47 ?_
      refine ex_iload_n dX12_text_48 rfl ?_
      refine ex_iadd dX12_text_49 ?_
      refine ex_bipush (v := 32) dX12_text_50 (by decide) ?_
      refine rx_bast dX12_text_52 (by first | assumption | rfl) (ixm (C := 100) (R := 4) rfl vr (vp_in_nI hk (by decide)) (by decide)).1 ?_
      refine inc3 (v := _ + 1) dX12_text_53 (by rfl) (by first | exact rfl | exact trivial) ?_
      refine ex_goto 34 dX12_text_56 (by decide) ?_
      rw [(ixm (c := 100) (C := 100) (R := 4) rfl vr (vp_in_nI hk (by decide)) (by decide)).2, nI_clamp (by omega), nI_1]
      rw [← flw_s] at ih
      exact ih
  · skip
    refine ex_iload_n dX12_text_34 rfl ?_
    refine ex_bipush (v := 100) dX12_text_35 (by decide) ?_
    refine ex_icmp_ge 59 dX12_text_37 (by decide) (fun h37 => ?_) (fun h37 => ?_)
    · skip
      exact kont
    · exact absurd (by decide : nI 100 ≤ nI 100) h37
theorem lm_txt0 {P : Option Value → Mem → Prop} {r n : Int32} (vr : vp_in r 4) (kont : Ex G mdX12_text 59 [some (.ref 200), some (.int r), some (.int n), none] [] (mk (flw I 206 (100 * r.toNatClampNeg) 100 (fun _ => (32 : Int32).toInt8.toInt32)) L t) 0 0 P) : Ex G mdX12_text 34 [some (.ref 200), some (.int r), some (.int n), some (.int 0)] [] (mk I L t) 0 0 P := by
  have h := lm_txt (G := G) (I := I) (L := L) (n := n) vr (P := P) (fg3 kont)
  rw [flw_0] at h
  exact h
def f_X12_text (I : Im) (r : Int32) (n : Int32) : Int32 × Im :=
  if (b2i (0 ≤ r ∧ r ≤ 3)) = 0 then
    ((-1), I)
  else
    if n ≤ 100 then
      if 0 ≤ n then
        let I1 : Im := up2 I 205 r.toNatClampNeg n
        let I2 : Im := flw I1 206 (100 * r.toNatClampNeg) 100 (fun _ => (32 : Int32).toInt8.toInt32)
        (n, I2)
      else
        let I3 : Im := meI I 5
        ((-3), I3)
    else
      ((-1), I)
set_option maxRecDepth 100000 in
set_option maxHeartbeats 4000000 in
theorem s_X12_text  {r : Int32} {n : Int32}  : Ca G mdX12_text [.ref 200, .int r, .int n] (mk I L t) (Rs (.int (f_X12_text I r n).1) (mk ((f_X12_text I r n).2) L t)) := by
  refine Ca.intro [some (.ref 200), some (.int r), some (.int n), none] (by decide) (Nat.le_of_ble_eq_true rfl) rfl rfl ?_
  refine ex_iload_n dX12_text_0 rfl ?_
  refine rx_cS dX12_text_1 rfl lk_X12_111 ⟨⟨rfl, rfl⟩, by decide, by decide⟩ rfl (Nat.le_of_ble_eq_true rfl) rfl s_X12_isText (Rs.k ?_)
  refine ex_if_eq 13 dX12_text_4 (by decide) (fun h4 => ?_) (fun h4 => ?_)
  · skip
    refine ex_iconst (v := (-1)) dX12_text_13 (by decide) ?_
    refine ex_iret dX12_text_14 rfl rfl ⟨rfl, Nat.le_refl _⟩ ?_
    exact ⟨(by simp only [f_X12_text, ↓eq_true h4, if_true, if_false, not_true_eq_false, not_false_eq_true]), (by simp only [f_X12_text, ↓eq_true h4, if_true, if_false, not_true_eq_false, not_false_eq_true])⟩
  · have qr := (cl_lt (N := 4) (by decide) h4).1
    have vr := (cl_lt (N := 4) (by decide) h4).2
    refine ex_iload_n dX12_text_7 rfl ?_
    refine ex_bipush (v := 100) dX12_text_8 (by decide) ?_
    refine ex_icmp_le 15 dX12_text_10 (by decide) (fun h10 => ?_) (fun h10 => ?_)
    · skip
      refine ex_iload_n dX12_text_15 rfl ?_
      refine ex_if_ge 25 dX12_text_16 (by decide) (fun h16 => ?_) (fun h16 => ?_)
      · skip
        refine ex_aload_n dX12_text_25 rfl ?_
        refine g_12_8 dX12_text_26 rfl wf_X12_22 (by first | assumption | rfl) (show Rt _ 200 8 = some 205 from rfl) ?_
        refine ex_iload_n dX12_text_29 rfl ?_
        refine ex_iload_n dX12_text_30 rfl ?_
        refine rx_iast dX12_text_31 (by first | assumption | rfl) (by first | assumption | (unfold vp_in; decide)) ?_
        refine ex_iconst (v := 0) dX12_text_32 (by decide) ?_
        refine st_i3 dX12_text_33 (by first | exact rfl | exact trivial) ?_
        refine (lm_txt0 vr) ?_
        refine ex_iload_n dX12_text_59 rfl ?_
        refine ex_iret dX12_text_60 rfl rfl ⟨rfl, Nat.le_refl _⟩ ?_
        exact ⟨(by simp only [f_X12_text, ↓eq_false h4, ↓h10, ↓h16, if_true, if_false, not_true_eq_false, not_false_eq_true]), (by simp only [f_X12_text, ↓eq_false h4, ↓h10, ↓h16, if_true, if_false, not_true_eq_false, not_false_eq_true])⟩
      · skip
        refine ex_aload_n dX12_text_19 rfl ?_
        refine ex_iconst (v := 5) dX12_text_20 (by decide) ?_
        refine rx_cV (kd := 12) dX12_text_21 rfl lk_X12_100 rfl (by decide) (by first | assumption | rfl) ⟨⟨rfl, rfl⟩, by decide, by decide⟩ rfl (Nat.le_of_ble_eq_true rfl) rfl (s_X12_meets (by unfold vp_in; decide)) (Rs.k ?_)
        refine ex_iret dX12_text_24 rfl rfl ⟨rfl, Nat.le_refl _⟩ ?_
        exact ⟨(by simp only [f_X12_text, ↓eq_false h4, ↓h10, ↓h16, if_true, if_false, not_true_eq_false, not_false_eq_true]), (by simp only [f_X12_text, ↓eq_false h4, ↓h10, ↓h16, if_true, if_false, not_true_eq_false, not_false_eq_true])⟩
    · skip
      refine ex_iconst (v := (-1)) dX12_text_13 (by decide) ?_
      refine ex_iret dX12_text_14 rfl rfl ⟨rfl, Nat.le_refl _⟩ ?_
      exact ⟨(by simp only [f_X12_text, ↓eq_false h4, ↓h10, if_true, if_false, not_true_eq_false, not_false_eq_true]), (by simp only [f_X12_text, ↓eq_false h4, ↓h10, if_true, if_false, not_true_eq_false, not_false_eq_true])⟩
def f_X12_put (I : Im) (r : Int32) (i : Int32) (v : Int32) : Int32 × Im :=
  if (b2i (0 ≤ r ∧ r ≤ 3)) = 0 then
    ((-1), I)
  else
    if 0 ≤ (I 205 r.toNatClampNeg) then
      if (b2i (0 ≤ i ∧ i ≤ ((I 205 r.toNatClampNeg) - 1))) = 0 then
        let I2 : Im := meI I 2
        ((-3), I2)
      else
        let I1 : Im := up2 I 206 ((100 * r) + i).toNatClampNeg v.toInt8.toInt32.toInt8.toInt32
        (1000 + (I 206 ((100 * r) + i).toNatClampNeg), I1)
    else
      let I3 : Im := meI I 1
      ((-3), I3)
set_option maxRecDepth 100000 in
set_option maxHeartbeats 4000000 in
theorem s_X12_put  {r : Int32} {i : Int32} {v : Int32} (hT : TzS I) : Ca G mdX12_put [.ref 200, .int r, .int i, .int v] (mk I L t) (Rs (.int (f_X12_put I r i v).1) (mk ((f_X12_put I r i v).2) L t)) := by
  refine Ca.intro [some (.ref 200), some (.int r), some (.int i), some (.int v), none] (by decide) (Nat.le_of_ble_eq_true rfl) rfl rfl ?_
  refine ex_iload_n dX12_put_0 rfl ?_
  refine rx_cS dX12_put_1 rfl lk_X12_111 ⟨⟨rfl, rfl⟩, by decide, by decide⟩ rfl (Nat.le_of_ble_eq_true rfl) rfl s_X12_isText (Rs.k ?_)
  refine ex_if_ne 9 dX12_put_4 (by decide) (fun h4 => ?_) (fun h4 => ?_)
  · have qr := (cl_lt (N := 4) (by decide) h4).1
    have vr := (cl_lt (N := 4) (by decide) h4).2
    refine ex_aload_n dX12_put_9 rfl ?_
    refine g_12_8 dX12_put_10 rfl wf_X12_22 (by first | assumption | rfl) (show Rt _ 200 8 = some 205 from rfl) ?_
    refine ex_iload_n dX12_put_13 rfl ?_
    refine rx_iald dX12_put_14 (by first | assumption | rfl) (by first | assumption | (unfold vp_in; decide)) ?_
    refine ex_if_ge 24 dX12_put_15 (by decide) (fun h15 => ?_) (fun h15 => ?_)
    · skip
      refine ex_iload_n dX12_put_24 rfl ?_
      refine ex_iconst (v := 0) dX12_put_25 (by decide) ?_
      refine ex_aload_n dX12_put_26 rfl ?_
      refine g_12_8 dX12_put_27 rfl wf_X12_22 (by first | assumption | rfl) (show Rt _ 200 8 = some 205 from rfl) ?_
      refine ex_iload_n dX12_put_30 rfl ?_
      refine rx_iald dX12_put_31 (by first | assumption | rfl) (by first | assumption | (unfold vp_in; decide)) ?_
      refine ex_iconst (v := 1) dX12_put_32 (by decide) ?_
      refine ex_isub dX12_put_33 ?_
      refine rx_cS dX12_put_34 rfl lk_X12_86 ⟨⟨rfl, rfl⟩, by decide, by decide⟩ rfl (Nat.le_of_ble_eq_true rfl) rfl s_X12_in (Rs.k ?_)
      refine ex_if_ne 46 dX12_put_37 (by decide) (fun h37 => ?_) (fun h37 => ?_)
      · have vi := in_s (by decide) (hT _ qr) h37
        refine ex_aload_n dX12_put_46 rfl ?_
        refine g_12_9 dX12_put_47 rfl wf_X12_25 (by first | assumption | rfl) (show Rt _ 200 9 = some 206 from rfl) ?_
        refine ex_bipush (v := 100) dX12_put_50 (by decide) ?_
        refine ex_iload_n dX12_put_52 rfl ?_
        refine ex_imul dX12_put_53 ?_
        refine ex_iload_n dX12_put_54 rfl ?_
        refine ex_iadd dX12_put_55 ?_
        refine rx_bald dX12_put_56 (by first | assumption | rfl) (ixm (C := 100) (R := 4) rfl vr vi (by decide)).1 ?_
        refine st_i4 dX12_put_57 (by first | exact rfl | exact trivial) ?_
        refine ex_aload_n dX12_put_59 rfl ?_
        refine g_12_9 dX12_put_60 rfl wf_X12_25 (by first | assumption | rfl) (show Rt _ 200 9 = some 206 from rfl) ?_
        refine ex_bipush (v := 100) dX12_put_63 (by decide) ?_
        refine ex_iload_n dX12_put_65 rfl ?_
        refine ex_imul dX12_put_66 ?_
        refine ex_iload_n dX12_put_67 rfl ?_
        refine ex_iadd dX12_put_68 ?_
        refine ex_iload_n dX12_put_69 rfl ?_
        refine ex_i2b dX12_put_70 ?_
        refine rx_bast dX12_put_71 (by first | assumption | rfl) (ixm (C := 100) (R := 4) rfl vr vi (by decide)).1 ?_
        refine ex_sipush (v := 1000) dX12_put_72 (by decide) ?_
        refine ex_iload dX12_put_75 rfl ?_
        refine ex_iadd dX12_put_77 ?_
        refine ex_iret dX12_put_78 rfl rfl ⟨rfl, Nat.le_refl _⟩ ?_
        exact ⟨(by simp only [f_X12_put, ↓eq_false h4, ↓h15, ↓eq_false h37, if_true, if_false, not_true_eq_false, not_false_eq_true]), (by simp only [f_X12_put, ↓eq_false h4, ↓h15, ↓eq_false h37, if_true, if_false, not_true_eq_false, not_false_eq_true])⟩
      · skip
        refine ex_aload_n dX12_put_40 rfl ?_
        refine ex_iconst (v := 2) dX12_put_41 (by decide) ?_
        refine rx_cV (kd := 12) dX12_put_42 rfl lk_X12_100 rfl (by decide) (by first | assumption | rfl) ⟨⟨rfl, rfl⟩, by decide, by decide⟩ rfl (Nat.le_of_ble_eq_true rfl) rfl (s_X12_meets (by unfold vp_in; decide)) (Rs.k ?_)
        refine ex_iret dX12_put_45 rfl rfl ⟨rfl, Nat.le_refl _⟩ ?_
        exact ⟨(by simp only [f_X12_put, ↓eq_false h4, ↓h15, ↓eq_true h37, if_true, if_false, not_true_eq_false, not_false_eq_true]), (by simp only [f_X12_put, ↓eq_false h4, ↓h15, ↓eq_true h37, if_true, if_false, not_true_eq_false, not_false_eq_true])⟩
    · skip
      refine ex_aload_n dX12_put_18 rfl ?_
      refine ex_iconst (v := 1) dX12_put_19 (by decide) ?_
      refine rx_cV (kd := 12) dX12_put_20 rfl lk_X12_100 rfl (by decide) (by first | assumption | rfl) ⟨⟨rfl, rfl⟩, by decide, by decide⟩ rfl (Nat.le_of_ble_eq_true rfl) rfl (s_X12_meets (by unfold vp_in; decide)) (Rs.k ?_)
      refine ex_iret dX12_put_23 rfl rfl ⟨rfl, Nat.le_refl _⟩ ?_
      exact ⟨(by simp only [f_X12_put, ↓eq_false h4, ↓h15, if_true, if_false, not_true_eq_false, not_false_eq_true]), (by simp only [f_X12_put, ↓eq_false h4, ↓h15, if_true, if_false, not_true_eq_false, not_false_eq_true])⟩
  · skip
    refine ex_iconst (v := (-1)) dX12_put_7 (by decide) ?_
    refine ex_iret dX12_put_8 rfl rfl ⟨rfl, Nat.le_refl _⟩ ?_
    exact ⟨(by simp only [f_X12_put, ↓eq_true h4, if_true, if_false, not_true_eq_false, not_false_eq_true]), (by simp only [f_X12_put, ↓eq_true h4, if_true, if_false, not_true_eq_false, not_false_eq_true])⟩
def CpO (i n : Int32) : Prop := ∃ a b, a + b ≤ 60 ∧ i = nI a ∧ n = nI b
theorem cpO {i n y : Int32} (hi : ¬ i < 0) (hn : 0 ≤ n) (hy : y = -1 ∨ ∃ m, m ≤ 60 ∧ y = nI m) (h : i.toInt64 + n.toInt64 ≤ y.toInt64) : CpO i n := by
  obtain ⟨a, ha, rfl⟩ := nI_of hi
  obtain ⟨b, hb, rfl⟩ := nI_of (Int32.not_lt.mpr hn)
  have h1 := Int64.le_iff_toInt_le.mp h
  rw [Int64.toInt_add, Int32.toInt_toInt64, Int32.toInt_toInt64, Int32.toInt_toInt64, nI_toInt ha, nI_toInt hb, Int.bmod_eq_of_le (by omega) (by omega)] at h1
  rcases hy with rfl | ⟨m, hm, rfl⟩
  · rw [(by decide : (-1 : Int32).toInt = -1)] at h1
    omega
  · rw [nI_toInt (by omega)] at h1
    exact ⟨a, b, by omega, rfl, rfl⟩
set_option maxRecDepth 100000 in
set_option maxHeartbeats 4000000 in
theorem lm_cp1 {P : Option Value → Mem → Prop} {r s : Int32} {a b c : Nat} (vr : vp_in r 6) (hab : a + b ≤ 60) (kont : Ex G mdX12_copy 133 [some (.ref 200), some (.int r), some (.int (nI a)), some (.int s), some (.int (nI c)), some (.int (nI b)), some (.int (nI b))] [] (mk (flw I 204 0 b (fun e => I 203 (60 * r.toNatClampNeg + (a + e)))) L t) 0 0 P) : Ex G mdX12_copy 104 [some (.ref 200), some (.int r), some (.int (nI a)), some (.int s), some (.int (nI c)), some (.int (nI b)), some (.int (nI 0))] [] (mk (flw I 204 0 0 (fun e => I 203 (60 * r.toNatClampNeg + (a + e)))) L t) 0 0 P := by
  refine loop_up (G := G) (d := mdX12_copy) (pc := 104) (st := []) (uc := 0) (us := 0) (P := P) b (fun k => mk (flw I 204 0 k (fun e => I 203 (60 * r.toNatClampNeg + (a + e)))) L t) (fun k => [some (.ref 200), some (.int r), some (.int (nI a)), some (.int s), some (.int (nI c)), some (.int (nI b)), some (.int (nI k))]) ?_ ?_ 0 (Nat.zero_le _)
  · intro k hk ih
    refine ex_iload dX12_copy_104 rfl ?_
    refine ex_iload dX12_copy_106 rfl ?_
    refine ex_icmp_ge 133 dX12_copy_108 (by decide) (fun h108 => ?_) (fun h108 => ?_)
    · exact absurd h108 (nI_ge hk (by omega))
    · skip
      refine ex_aload_n dX12_copy_111 rfl ?_
      refine g_12_7 dX12_copy_112 rfl wf_X12_19 (by first | assumption | rfl) (show Rt _ 200 7 = some 204 from rfl) ?_
      refine ex_iload dX12_copy_115 rfl ?_
      refine ex_aload_n dX12_copy_117 rfl ?_
      refine ex_iload_n dX12_copy_118 rfl ?_
      refine ex_iload_n dX12_copy_119 rfl ?_
      refine ex_iload dX12_copy_120 rfl ?_
      refine ex_iadd dX12_copy_122 ?_
      refine rx_cV (kd := 12) dX12_copy_123 rfl lk_X12_104 rfl (by decide) (by first | assumption | rfl) ⟨⟨rfl, rfl⟩, by decide, by decide⟩ rfl (Nat.le_of_ble_eq_true rfl) rfl (s_X12_rowAt vr (by rw [nI_add]; exact vp_in_nI (by omega) (by decide))) (Rs.k ?_)
      rw [nI_add, flw_off (by decide), (ixm (c := 60) (C := 60) (R := 6) rfl vr (vp_in_nI (show a + k < 60 by omega) (by decide)) (by decide)).2, nI_clamp (by omega)]
      refine rx_iast dX12_copy_126 (by first | assumption | rfl) (vp_in_nI (by omega) (by decide)) ?_
      refine inc6 (v := _ + 1) dX12_copy_127 (by rfl) (by first | exact rfl | exact trivial) ?_
      refine ex_goto 104 dX12_copy_130 (by decide) ?_
      rw [nI_clamp (by omega), nI_1]
      rw [← flw_s, Nat.zero_add] at ih
      exact ih
  · skip
    refine ex_iload dX12_copy_104 rfl ?_
    refine ex_iload dX12_copy_106 rfl ?_
    refine ex_icmp_ge 133 dX12_copy_108 (by decide) (fun h108 => ?_) (fun h108 => ?_)
    · skip
      exact kont
    · exact absurd (Int32.le_refl _) h108
set_option maxRecDepth 100000 in
set_option maxHeartbeats 4000000 in
theorem lm_cp2 {P : Option Value → Mem → Prop} {r s : Int32} {a b c : Nat} (vs : vp_in s 6) (hcb : c + b ≤ 60) (kont : Ex G mdX12_copy 171 [some (.ref 200), some (.int r), some (.int (nI a)), some (.int s), some (.int (nI c)), some (.int (nI b)), some (.int (nI b))] [] (mk (flw I 203 (60 * s.toNatClampNeg + c) b (I 204)) L t) 0 0 P) : Ex G mdX12_copy 136 [some (.ref 200), some (.int r), some (.int (nI a)), some (.int s), some (.int (nI c)), some (.int (nI b)), some (.int (nI 0))] [] (mk (flw I 203 (60 * s.toNatClampNeg + c) 0 (I 204)) L t) 0 0 P := by
  refine loop_up (G := G) (d := mdX12_copy) (pc := 136) (st := []) (uc := 0) (us := 0) (P := P) b (fun k => mk (flw I 203 (60 * s.toNatClampNeg + c) k (I 204)) L t) (fun k => [some (.ref 200), some (.int r), some (.int (nI a)), some (.int s), some (.int (nI c)), some (.int (nI b)), some (.int (nI k))]) ?_ ?_ 0 (Nat.zero_le _)
  · intro k hk ih
    have e0 : 60 * s + nI c + nI k = 60 * s + nI (c + k) := by rw [Int32.add_assoc, nI_add]
    refine ex_iload dX12_copy_136 rfl ?_
    refine ex_iload dX12_copy_138 rfl ?_
    refine ex_icmp_ge 171 dX12_copy_140 (by decide) (fun h140 => ?_) (fun h140 => ?_)
    · exact absurd h140 (nI_ge hk (by omega))
    · skip
      refine ex_aload_n dX12_copy_143 rfl ?_
      refine g_12_6 dX12_copy_144 rfl wf_X12_16 (by first | assumption | rfl) (show Rt _ 200 6 = some 203 from rfl) ?_
      refine ex_bipush (v := 60) dX12_copy_147 (by decide) ?_
      refine ex_iload_n dX12_copy_149 rfl ?_
      refine ex_imul dX12_copy_150 ?_
      refine ex_iload dX12_copy_151 rfl ?_
      refine ex_iadd dX12_copy_153 ?_
      refine ex_iload dX12_copy_154 rfl ?_
      refine ex_iadd dX12_copy_156 ?_
      refine ex_aload_n dX12_copy_157 rfl ?_
      refine g_12_7 dX12_copy_158 rfl wf_X12_19 (by first | assumption | rfl) (show Rt _ 200 7 = some 204 from rfl) ?_
      refine ex_iload dX12_copy_161 rfl ?_
      refine rx_iald dX12_copy_163 (by first | assumption | rfl) (vp_in_nI (by omega) (by decide)) ?_
      rw [nI_clamp (by omega), flw_off (by decide)]
      refine rx_iast dX12_copy_164 (by first | assumption | rfl) (by rw [e0]; exact (ixm (c := 60) (C := 60) (R := 6) rfl vs (vp_in_nI (show c + k < 60 by omega) (by decide)) (by decide)).1) ?_
      refine inc6 (v := _ + 1) dX12_copy_165 (by rfl) (by first | exact rfl | exact trivial) ?_
      refine ex_goto 136 dX12_copy_168 (by decide) ?_
      rw [e0, (ixm (c := 60) (C := 60) (R := 6) rfl vs (vp_in_nI (show c + k < 60 by omega) (by decide)) (by decide)).2, nI_clamp (by omega), nI_1, ← Nat.add_assoc]
      rw [← flw_s] at ih
      exact ih
  · skip
    refine ex_iload dX12_copy_136 rfl ?_
    refine ex_iload dX12_copy_138 rfl ?_
    refine ex_icmp_ge 171 dX12_copy_140 (by decide) (fun h140 => ?_) (fun h140 => ?_)
    · skip
      exact kont
    · exact absurd (Int32.le_refl _) h140
theorem lm_cp10 {P : Option Value → Mem → Prop} {r s i j n : Int32} (vr : vp_in r 6) (h : CpO i n) (h2 : CpO j n) (kont : Ex G mdX12_copy 133 [some (.ref 200), some (.int r), some (.int i), some (.int s), some (.int j), some (.int n), none] [] (mk (flw I 204 0 n.toNatClampNeg (fun k => I 203 (60 * r.toNatClampNeg + (i.toNatClampNeg + k)))) L t) 0 0 P) : Ex G mdX12_copy 104 [some (.ref 200), some (.int r), some (.int i), some (.int s), some (.int j), some (.int n), some (.int 0)] [] (mk I L t) 0 0 P := by
  obtain ⟨a, b, hab, rfl, rfl⟩ := h
  obtain ⟨c, b', hcb, rfl, e⟩ := h2
  rw [nI_clamp (by omega), nI_clamp (by omega)] at kont
  have h := lm_cp1 (G := G) (I := I) (L := L) (s := s) (c := c) vr hab (P := P) (fg6 kont)
  rw [flw_0] at h
  exact h
theorem lm_cp20 {P : Option Value → Mem → Prop} {r s i j n : Int32} (vs : vp_in s 6) (h : CpO i n) (h2 : CpO j n) (kont : Ex G mdX12_copy 171 [some (.ref 200), some (.int r), some (.int i), some (.int s), some (.int j), some (.int n), none] [] (mk (flw I 203 (60 * s.toNatClampNeg + j.toNatClampNeg) n.toNatClampNeg (I 204)) L t) 0 0 P) : Ex G mdX12_copy 136 [some (.ref 200), some (.int r), some (.int i), some (.int s), some (.int j), some (.int n), some (.int 0)] [] (mk I L t) 0 0 P := by
  obtain ⟨a, b, hab, rfl, rfl⟩ := h
  obtain ⟨c, b', hcb, rfl, e⟩ := h2
  have eb := (nI_eq (by omega) (by omega)).mp e
  rw [nI_clamp (by omega), nI_clamp (by omega)] at kont
  have h := lm_cp2 (G := G) (I := I) (L := L) (r := r) (a := a) (b := b) vs (by omega) (P := P) (fg6 kont)
  rw [flw_0] at h
  exact h
def f_X12_copy (I : Im) (r : Int32) (i : Int32) (s : Int32) (j : Int32) (n : Int32) : Int32 × Im :=
  if (b2i (0 ≤ r ∧ r ≤ 5)) = 0 then
    ((-1), I)
  else
    if (b2i (0 ≤ s ∧ s ≤ 5)) = 0 then
      ((-1), I)
    else
      if 0 ≤ n then
        if (I 202 r.toNatClampNeg) < 0 then
          let I1 : Im := meI I 1
          ((-3), I1)
        else
          if 0 ≤ (I 202 s.toNatClampNeg) then
            if i < 0 then
              let I2 : Im := meI I 2
              ((-3), I2)
            else
              if j < 0 then
                let I3 : Im := meI I 2
                ((-3), I3)
              else
                if 0 < (lg_cmp (i.toInt64 + n.toInt64) ((I 202 r.toNatClampNeg).toInt64)) then
                  let I4 : Im := meI I 2
                  ((-3), I4)
                else
                  if (lg_cmp (j.toInt64 + n.toInt64) ((I 202 s.toNatClampNeg).toInt64)) ≤ 0 then
                    let I5 : Im := flw I 204 0 n.toNatClampNeg (fun k => I 203 (60 * r.toNatClampNeg + (i.toNatClampNeg + k)))
                    let I6 : Im := flw I5 203 (60 * s.toNatClampNeg + j.toNatClampNeg) n.toNatClampNeg (I5 204)
                    (1, I6)
                  else
                    let I7 : Im := meI I 2
                    ((-3), I7)
          else
            let I8 : Im := meI I 1
            ((-3), I8)
      else
        let I9 : Im := meI I 5
        ((-3), I9)
set_option maxRecDepth 100000 in
set_option maxHeartbeats 4000000 in
theorem s_X12_copy  {r : Int32} {i : Int32} {s : Int32} {j : Int32} {n : Int32} (hSz : SzS I) : Ca G mdX12_copy [.ref 200, .int r, .int i, .int s, .int j, .int n] (mk I L t) (Rs (.int (f_X12_copy I r i s j n).1) (mk ((f_X12_copy I r i s j n).2) L t)) := by
  refine Ca.intro [some (.ref 200), some (.int r), some (.int i), some (.int s), some (.int j), some (.int n), none] (by decide) (Nat.le_of_ble_eq_true rfl) rfl rfl ?_
  refine ex_iload_n dX12_copy_0 rfl ?_
  refine rx_cS dX12_copy_1 rfl lk_X12_96 ⟨⟨rfl, rfl⟩, by decide, by decide⟩ rfl (Nat.le_of_ble_eq_true rfl) rfl s_X12_isRow (Rs.k ?_)
  refine ex_if_eq 14 dX12_copy_4 (by decide) (fun h4 => ?_) (fun h4 => ?_)
  · skip
    refine ex_iconst (v := (-1)) dX12_copy_14 (by decide) ?_
    refine ex_iret dX12_copy_15 rfl rfl ⟨rfl, Nat.le_refl _⟩ ?_
    exact ⟨(by simp only [f_X12_copy, ↓eq_true h4, if_true, if_false, not_true_eq_false, not_false_eq_true]), (by simp only [f_X12_copy, ↓eq_true h4, if_true, if_false, not_true_eq_false, not_false_eq_true])⟩
  · have qr := (cl_lt (N := 6) (by decide) h4).1
    have vr := (cl_lt (N := 6) (by decide) h4).2
    refine ex_iload_n dX12_copy_7 rfl ?_
    refine rx_cS dX12_copy_8 rfl lk_X12_96 ⟨⟨rfl, rfl⟩, by decide, by decide⟩ rfl (Nat.le_of_ble_eq_true rfl) rfl s_X12_isRow (Rs.k ?_)
    refine ex_if_ne 16 dX12_copy_11 (by decide) (fun h11 => ?_) (fun h11 => ?_)
    · have qs := (cl_lt (N := 6) (by decide) h11).1
      have vs := (cl_lt (N := 6) (by decide) h11).2
      refine ex_iload dX12_copy_16 rfl ?_
      refine ex_if_ge 27 dX12_copy_18 (by decide) (fun h18 => ?_) (fun h18 => ?_)
      · skip
        refine ex_aload_n dX12_copy_27 rfl ?_
        refine g_12_5 dX12_copy_28 rfl wf_X12_13 (by first | assumption | rfl) (show Rt _ 200 5 = some 202 from rfl) ?_
        refine ex_iload_n dX12_copy_31 rfl ?_
        refine rx_iald dX12_copy_32 (by first | assumption | rfl) (by first | assumption | (unfold vp_in; decide)) ?_
        refine ex_if_lt 45 dX12_copy_33 (by decide) (fun h33 => ?_) (fun h33 => ?_)
        · skip
          refine ex_aload_n dX12_copy_45 rfl ?_
          refine ex_iconst (v := 1) dX12_copy_46 (by decide) ?_
          refine rx_cV (kd := 12) dX12_copy_47 rfl lk_X12_100 rfl (by decide) (by first | assumption | rfl) ⟨⟨rfl, rfl⟩, by decide, by decide⟩ rfl (Nat.le_of_ble_eq_true rfl) rfl (s_X12_meets (by unfold vp_in; decide)) (Rs.k ?_)
          refine ex_iret dX12_copy_50 rfl rfl ⟨rfl, Nat.le_refl _⟩ ?_
          exact ⟨(by simp only [f_X12_copy, ↓eq_false h4, ↓eq_false h11, ↓h18, ↓h33, if_true, if_false, not_true_eq_false, not_false_eq_true]), (by simp only [f_X12_copy, ↓eq_false h4, ↓eq_false h11, ↓h18, ↓h33, if_true, if_false, not_true_eq_false, not_false_eq_true])⟩
        · skip
          refine ex_aload_n dX12_copy_36 rfl ?_
          refine g_12_5 dX12_copy_37 rfl wf_X12_13 (by first | assumption | rfl) (show Rt _ 200 5 = some 202 from rfl) ?_
          refine ex_iload_n dX12_copy_40 rfl ?_
          refine rx_iald dX12_copy_41 (by first | assumption | rfl) (by first | assumption | (unfold vp_in; decide)) ?_
          refine ex_if_ge 51 dX12_copy_42 (by decide) (fun h42 => ?_) (fun h42 => ?_)
          · skip
            refine ex_iload_n dX12_copy_51 rfl ?_
            refine ex_if_lt 95 dX12_copy_52 (by decide) (fun h52 => ?_) (fun h52 => ?_)
            · skip
              refine ex_aload_n dX12_copy_95 rfl ?_
              refine ex_iconst (v := 2) dX12_copy_96 (by decide) ?_
              refine rx_cV (kd := 12) dX12_copy_97 rfl lk_X12_100 rfl (by decide) (by first | assumption | rfl) ⟨⟨rfl, rfl⟩, by decide, by decide⟩ rfl (Nat.le_of_ble_eq_true rfl) rfl (s_X12_meets (by unfold vp_in; decide)) (Rs.k ?_)
              refine ex_iret dX12_copy_100 rfl rfl ⟨rfl, Nat.le_refl _⟩ ?_
              exact ⟨(by simp only [f_X12_copy, ↓eq_false h4, ↓eq_false h11, ↓h18, ↓h33, ↓h42, ↓h52, if_true, if_false, not_true_eq_false, not_false_eq_true]), (by simp only [f_X12_copy, ↓eq_false h4, ↓eq_false h11, ↓h18, ↓h33, ↓h42, ↓h52, if_true, if_false, not_true_eq_false, not_false_eq_true])⟩
            · skip
              refine ex_iload dX12_copy_55 rfl ?_
              refine ex_if_lt 95 dX12_copy_57 (by decide) (fun h57 => ?_) (fun h57 => ?_)
              · skip
                refine ex_aload_n dX12_copy_95 rfl ?_
                refine ex_iconst (v := 2) dX12_copy_96 (by decide) ?_
                refine rx_cV (kd := 12) dX12_copy_97 rfl lk_X12_100 rfl (by decide) (by first | assumption | rfl) ⟨⟨rfl, rfl⟩, by decide, by decide⟩ rfl (Nat.le_of_ble_eq_true rfl) rfl (s_X12_meets (by unfold vp_in; decide)) (Rs.k ?_)
                refine ex_iret dX12_copy_100 rfl rfl ⟨rfl, Nat.le_refl _⟩ ?_
                exact ⟨(by simp only [f_X12_copy, ↓eq_false h4, ↓eq_false h11, ↓h18, ↓h33, ↓h42, ↓h52, ↓h57, if_true, if_false, not_true_eq_false, not_false_eq_true]), (by simp only [f_X12_copy, ↓eq_false h4, ↓eq_false h11, ↓h18, ↓h33, ↓h42, ↓h52, ↓h57, if_true, if_false, not_true_eq_false, not_false_eq_true])⟩
              · skip
                refine ex_iload_n dX12_copy_60 rfl ?_
                refine ex_i2l dX12_copy_61 ?_
                refine ex_iload dX12_copy_62 rfl ?_
                refine ex_i2l dX12_copy_64 ?_
                refine ex_ladd dX12_copy_65 ?_
                refine ex_aload_n dX12_copy_66 rfl ?_
                refine g_12_5 dX12_copy_67 rfl wf_X12_13 (by first | assumption | rfl) (show Rt _ 200 5 = some 202 from rfl) ?_
                refine ex_iload_n dX12_copy_70 rfl ?_
                refine rx_iald dX12_copy_71 (by first | assumption | rfl) (by first | assumption | (unfold vp_in; decide)) ?_
                refine ex_i2l dX12_copy_72 ?_
                refine ex_lcmp dX12_copy_73 ?_
                refine ex_if_gt 95 dX12_copy_74 (by decide) (fun h74 => ?_) (fun h74 => ?_)
                · skip
                  refine ex_aload_n dX12_copy_95 rfl ?_
                  refine ex_iconst (v := 2) dX12_copy_96 (by decide) ?_
                  refine rx_cV (kd := 12) dX12_copy_97 rfl lk_X12_100 rfl (by decide) (by first | assumption | rfl) ⟨⟨rfl, rfl⟩, by decide, by decide⟩ rfl (Nat.le_of_ble_eq_true rfl) rfl (s_X12_meets (by unfold vp_in; decide)) (Rs.k ?_)
                  refine ex_iret dX12_copy_100 rfl rfl ⟨rfl, Nat.le_refl _⟩ ?_
                  exact ⟨(by simp only [f_X12_copy, ↓eq_false h4, ↓eq_false h11, ↓h18, ↓h33, ↓h42, ↓h52, ↓h57, ↓h74, if_true, if_false, not_true_eq_false, not_false_eq_true]), (by simp only [f_X12_copy, ↓eq_false h4, ↓eq_false h11, ↓h18, ↓h33, ↓h42, ↓h52, ↓h57, ↓h74, if_true, if_false, not_true_eq_false, not_false_eq_true])⟩
                · skip
                  refine ex_iload dX12_copy_77 rfl ?_
                  refine ex_i2l dX12_copy_79 ?_
                  refine ex_iload dX12_copy_80 rfl ?_
                  refine ex_i2l dX12_copy_82 ?_
                  refine ex_ladd dX12_copy_83 ?_
                  refine ex_aload_n dX12_copy_84 rfl ?_
                  refine g_12_5 dX12_copy_85 rfl wf_X12_13 (by first | assumption | rfl) (show Rt _ 200 5 = some 202 from rfl) ?_
                  refine ex_iload_n dX12_copy_88 rfl ?_
                  refine rx_iald dX12_copy_89 (by first | assumption | rfl) (by first | assumption | (unfold vp_in; decide)) ?_
                  refine ex_i2l dX12_copy_90 ?_
                  refine ex_lcmp dX12_copy_91 ?_
                  refine ex_if_le 101 dX12_copy_92 (by decide) (fun h92 => ?_) (fun h92 => ?_)
                  · have c1 := cpO h52 h18 (hSz _ qr) (Int64.not_lt.mp (fun z => h74 ((lg_cmp_gt _ _).mpr z)))
                    have c2 := cpO h57 h18 (hSz _ qs) ((lg_cmp_le _ _).mp h92)
                    refine ex_iconst (v := 0) dX12_copy_101 (by decide) ?_
                    refine st_i6 dX12_copy_102 (by first | exact rfl | exact trivial) ?_
                    refine (lm_cp10 vr c1 c2) ?_
                    refine ex_iconst (v := 0) dX12_copy_133 (by decide) ?_
                    refine st_i6 dX12_copy_134 (by first | exact rfl | exact trivial) ?_
                    refine (lm_cp20 vs c1 c2) ?_
                    refine ex_iconst (v := 1) dX12_copy_171 (by decide) ?_
                    refine ex_iret dX12_copy_172 rfl rfl ⟨rfl, Nat.le_refl _⟩ ?_
                    exact ⟨(by simp only [f_X12_copy, ↓eq_false h4, ↓eq_false h11, ↓h18, ↓h33, ↓h42, ↓h52, ↓h57, ↓h74, ↓h92, if_true, if_false, not_true_eq_false, not_false_eq_true]), (by simp only [f_X12_copy, ↓eq_false h4, ↓eq_false h11, ↓h18, ↓h33, ↓h42, ↓h52, ↓h57, ↓h74, ↓h92, if_true, if_false, not_true_eq_false, not_false_eq_true])⟩
                  · skip
                    refine ex_aload_n dX12_copy_95 rfl ?_
                    refine ex_iconst (v := 2) dX12_copy_96 (by decide) ?_
                    refine rx_cV (kd := 12) dX12_copy_97 rfl lk_X12_100 rfl (by decide) (by first | assumption | rfl) ⟨⟨rfl, rfl⟩, by decide, by decide⟩ rfl (Nat.le_of_ble_eq_true rfl) rfl (s_X12_meets (by unfold vp_in; decide)) (Rs.k ?_)
                    refine ex_iret dX12_copy_100 rfl rfl ⟨rfl, Nat.le_refl _⟩ ?_
                    exact ⟨(by simp only [f_X12_copy, ↓eq_false h4, ↓eq_false h11, ↓h18, ↓h33, ↓h42, ↓h52, ↓h57, ↓h74, ↓h92, if_true, if_false, not_true_eq_false, not_false_eq_true]), (by simp only [f_X12_copy, ↓eq_false h4, ↓eq_false h11, ↓h18, ↓h33, ↓h42, ↓h52, ↓h57, ↓h74, ↓h92, if_true, if_false, not_true_eq_false, not_false_eq_true])⟩
          · skip
            refine ex_aload_n dX12_copy_45 rfl ?_
            refine ex_iconst (v := 1) dX12_copy_46 (by decide) ?_
            refine rx_cV (kd := 12) dX12_copy_47 rfl lk_X12_100 rfl (by decide) (by first | assumption | rfl) ⟨⟨rfl, rfl⟩, by decide, by decide⟩ rfl (Nat.le_of_ble_eq_true rfl) rfl (s_X12_meets (by unfold vp_in; decide)) (Rs.k ?_)
            refine ex_iret dX12_copy_50 rfl rfl ⟨rfl, Nat.le_refl _⟩ ?_
            exact ⟨(by simp only [f_X12_copy, ↓eq_false h4, ↓eq_false h11, ↓h18, ↓h33, ↓h42, if_true, if_false, not_true_eq_false, not_false_eq_true]), (by simp only [f_X12_copy, ↓eq_false h4, ↓eq_false h11, ↓h18, ↓h33, ↓h42, if_true, if_false, not_true_eq_false, not_false_eq_true])⟩
      · skip
        refine ex_aload_n dX12_copy_21 rfl ?_
        refine ex_iconst (v := 5) dX12_copy_22 (by decide) ?_
        refine rx_cV (kd := 12) dX12_copy_23 rfl lk_X12_100 rfl (by decide) (by first | assumption | rfl) ⟨⟨rfl, rfl⟩, by decide, by decide⟩ rfl (Nat.le_of_ble_eq_true rfl) rfl (s_X12_meets (by unfold vp_in; decide)) (Rs.k ?_)
        refine ex_iret dX12_copy_26 rfl rfl ⟨rfl, Nat.le_refl _⟩ ?_
        exact ⟨(by simp only [f_X12_copy, ↓eq_false h4, ↓eq_false h11, ↓h18, if_true, if_false, not_true_eq_false, not_false_eq_true]), (by simp only [f_X12_copy, ↓eq_false h4, ↓eq_false h11, ↓h18, if_true, if_false, not_true_eq_false, not_false_eq_true])⟩
    · skip
      refine ex_iconst (v := (-1)) dX12_copy_14 (by decide) ?_
      refine ex_iret dX12_copy_15 rfl rfl ⟨rfl, Nat.le_refl _⟩ ?_
      exact ⟨(by simp only [f_X12_copy, ↓eq_false h4, ↓eq_true h11, if_true, if_false, not_true_eq_false, not_false_eq_true]), (by simp only [f_X12_copy, ↓eq_false h4, ↓eq_true h11, if_true, if_false, not_true_eq_false, not_false_eq_true])⟩
set_option maxRecDepth 100000 in
set_option maxHeartbeats 4000000 in
theorem lm_mean {P : Option Value → Mem → Prop} {r : Int32} {m : Nat} (vr : vp_in r 6) (h60 : m ≤ 60) (hm : I 202 r.toNatClampNeg = nI m) (kont : Ex G mdX12_mean 72 [some (.ref 200), some (.int r), some (.long (sumL (fun j => I 203 (60 * r.toNatClampNeg + j)) m)), none, some (.int (nI m))] [] (mk I L t) 0 0 P) : Ex G mdX12_mean 44 [some (.ref 200), some (.int r), some (.long (sumL (fun j => I 203 (60 * r.toNatClampNeg + j)) 0)), none, some (.int (nI 0))] [] (mk I L t) 0 0 P := by
  refine loop_up (G := G) (d := mdX12_mean) (pc := 44) (st := []) (uc := 0) (us := 0) (P := P) m (fun k => mk I L t) (fun k => [some (.ref 200), some (.int r), some (.long (sumL (fun j => I 203 (60 * r.toNatClampNeg + j)) k)), none, some (.int (nI k))]) ?_ ?_ 0 (Nat.zero_le _)
  · intro k hk ih
    refine ex_iload dX12_mean_44 rfl ?_
    refine ex_aload_n dX12_mean_46 rfl ?_
    refine g_12_5 dX12_mean_47 rfl wf_X12_13 (by first | assumption | rfl) (show Rt _ 200 5 = some 202 from rfl) ?_
    refine ex_iload_n dX12_mean_50 rfl ?_
    refine rx_iald dX12_mean_51 (by first | assumption | rfl) vr ?_
    rw [hm]
    refine ex_icmp_ge 72 dX12_mean_52 (by decide) (fun h52 => ?_) (fun h52 => ?_)
    · exact absurd h52 (nI_ge hk (by omega))
    · skip
      refine ex_lload_n dX12_mean_55 rfl ?_
      refine ex_aload_n dX12_mean_56 rfl ?_
      refine ex_iload_n dX12_mean_57 rfl ?_
      refine ex_iload dX12_mean_58 rfl ?_
      refine rx_cV (kd := 12) dX12_mean_60 rfl lk_X12_104 rfl (by decide) (by first | assumption | rfl) ⟨⟨rfl, rfl⟩, by decide, by decide⟩ rfl (Nat.le_of_ble_eq_true rfl) rfl (s_X12_rowAt vr (vp_in_nI (by omega) (by decide))) (Rs.k ?_)
      rw [(ixm (c := 60) (C := 60) (R := 6) rfl vr (vp_in_nI (show k < 60 by omega) (by decide)) (by decide)).2, nI_clamp (by omega)]
      refine ex_i2l dX12_mean_63 ?_
      refine ex_ladd dX12_mean_64 ?_
      refine st_l2 dX12_mean_65 (by first | exact rfl | exact trivial) ?_
      refine inc4 (v := _ + 1) dX12_mean_66 (by rfl) (by first | exact rfl | exact trivial) ?_
      refine ex_goto 44 dX12_mean_69 (by decide) ?_
      rw [nI_1]
      exact ih
  · skip
    refine ex_iload dX12_mean_44 rfl ?_
    refine ex_aload_n dX12_mean_46 rfl ?_
    refine g_12_5 dX12_mean_47 rfl wf_X12_13 (by first | assumption | rfl) (show Rt _ 200 5 = some 202 from rfl) ?_
    refine ex_iload_n dX12_mean_50 rfl ?_
    refine rx_iald dX12_mean_51 (by first | assumption | rfl) vr ?_
    refine ex_icmp_ge 72 dX12_mean_52 (by decide) (fun h52 => ?_) (fun h52 => ?_)
    · skip
      exact kont
    · exact absurd (by rw [hm]; exact Int32.le_refl _) h52
theorem lm_mean0 {P : Option Value → Mem → Prop} {r : Int32} (vr : vp_in r 6) (hm : ∃ m, m ≤ 60 ∧ I 202 r.toNatClampNeg = nI m) (kont : Ex G mdX12_mean 72 [some (.ref 200), some (.int r), some (.long (sumL (fun j => I 203 (60 * r.toNatClampNeg + j)) (I 202 r.toNatClampNeg).toNatClampNeg)), none, none] [] (mk I L t) 0 0 P) : Ex G mdX12_mean 44 [some (.ref 200), some (.int r), some (.long 0), none, some (.int 0)] [] (mk I L t) 0 0 P := by
  obtain ⟨m, h60, e⟩ := hm
  rw [e, nI_clamp (by omega)] at kont
  exact lm_mean (G := G) (I := I) (L := L) vr h60 e (P := P) (fg4 kont)
theorem szn {y : Int32} (h : y = -1 ∨ ∃ m, m ≤ 60 ∧ y = nI m) (h0 : 0 ≤ y) : ∃ m, m ≤ 60 ∧ y = nI m := by
  rcases h with rfl | h
  · exact absurd h0 (by decide)
  · exact h
theorem sz_n0 {y : Int32} (h : y = -1 ∨ ∃ m, m ≤ 60 ∧ y = nI m) (h0 : 0 ≤ y) (h1 : ¬ y = 0) : ¬ y.toInt64 = 0 := by
  obtain ⟨m, hm, rfl⟩ := szn h h0
  exact sz_ne rfl hm ((nI_leI (a := 1) (by decide) (by omega)).mpr (Nat.pos_of_ne_zero (fun z => h1 (by rw [z]; rfl))))
def f_X12_mean (I : Im) (r : Int32) : Int32 × Im :=
  if (b2i (0 ≤ r ∧ r ≤ 5)) = 0 then
    ((-1), I)
  else
    if 0 ≤ (I 202 r.toNatClampNeg) then
      if (I 202 r.toNatClampNeg) = 0 then
        let I2 : Im := meI I 4
        ((-3), I2)
      else
        let I1 : Im := up2 I 200 2 (((sumL (fun j => I 203 (60 * r.toNatClampNeg + j)) (I 202 r.toNatClampNeg).toNatClampNeg) / ((I 202 r.toNatClampNeg).toInt64)).toInt32)
        (1, I1)
    else
      let I3 : Im := meI I 1
      ((-3), I3)
set_option maxRecDepth 100000 in
set_option maxHeartbeats 4000000 in
theorem s_X12_mean  {r : Int32} (hSz : SzS I) : Ca G mdX12_mean [.ref 200, .int r] (mk I L t) (Rs (.int (f_X12_mean I r).1) (mk ((f_X12_mean I r).2) L t)) := by
  refine Ca.intro [some (.ref 200), some (.int r), none, none, none] (by decide) (Nat.le_of_ble_eq_true rfl) rfl rfl ?_
  refine ex_iload_n dX12_mean_0 rfl ?_
  refine rx_cS dX12_mean_1 rfl lk_X12_96 ⟨⟨rfl, rfl⟩, by decide, by decide⟩ rfl (Nat.le_of_ble_eq_true rfl) rfl s_X12_isRow (Rs.k ?_)
  refine ex_if_ne 9 dX12_mean_4 (by decide) (fun h4 => ?_) (fun h4 => ?_)
  · have qr := (cl_lt (N := 6) (by decide) h4).1
    have vr := (cl_lt (N := 6) (by decide) h4).2
    refine ex_aload_n dX12_mean_9 rfl ?_
    refine g_12_5 dX12_mean_10 rfl wf_X12_13 (by first | assumption | rfl) (show Rt _ 200 5 = some 202 from rfl) ?_
    refine ex_iload_n dX12_mean_13 rfl ?_
    refine rx_iald dX12_mean_14 (by first | assumption | rfl) (by first | assumption | (unfold vp_in; decide)) ?_
    refine ex_if_ge 24 dX12_mean_15 (by decide) (fun h15 => ?_) (fun h15 => ?_)
    · skip
      refine ex_aload_n dX12_mean_24 rfl ?_
      refine g_12_5 dX12_mean_25 rfl wf_X12_13 (by first | assumption | rfl) (show Rt _ 200 5 = some 202 from rfl) ?_
      refine ex_iload_n dX12_mean_28 rfl ?_
      refine rx_iald dX12_mean_29 (by first | assumption | rfl) (by first | assumption | (unfold vp_in; decide)) ?_
      refine ex_if_ne 39 dX12_mean_30 (by decide) (fun h30 => ?_) (fun h30 => ?_)
      · skip
        refine ex_lconst (v := 0) dX12_mean_39 (by decide) ?_
        refine st_l2 dX12_mean_40 (by first | exact rfl | exact trivial) ?_
        refine ex_iconst (v := 0) dX12_mean_41 (by decide) ?_
        refine st_i4 dX12_mean_42 (by first | exact rfl | exact trivial) ?_
        refine (lm_mean0 vr (szn (hSz _ qr) h15)) ?_
        refine ex_aload_n dX12_mean_72 rfl ?_
        refine ex_lload_n dX12_mean_73 rfl ?_
        refine ex_aload_n dX12_mean_74 rfl ?_
        refine g_12_5 dX12_mean_75 rfl wf_X12_13 (by first | assumption | rfl) (show Rt _ 200 5 = some 202 from rfl) ?_
        refine ex_iload_n dX12_mean_78 rfl ?_
        refine rx_iald dX12_mean_79 (by first | assumption | rfl) (by first | assumption | (unfold vp_in; decide)) ?_
        refine ex_i2l dX12_mean_80 ?_
        refine ex_ldiv dX12_mean_81 (sz_n0 (hSz _ qr) h15 h30) ?_
        refine ex_l2i dX12_mean_82 ?_
        refine ex_iconst (v := 1) dX12_mean_83 (by decide) ?_
        refine rx_cV (kd := 12) dX12_mean_84 rfl lk_X12_108 rfl (by decide) (by first | assumption | rfl) ⟨⟨rfl, rfl⟩, by decide, by decide⟩ rfl (Nat.le_of_ble_eq_true rfl) rfl s_X12_tells (Rs.k ?_)
        refine ex_iret dX12_mean_87 rfl rfl ⟨rfl, Nat.le_refl _⟩ ?_
        exact ⟨(by simp only [f_X12_mean, ↓eq_false h4, ↓h15, ↓eq_false h30, if_true, if_false, not_true_eq_false, not_false_eq_true]), (by simp only [f_X12_mean, ↓eq_false h4, ↓h15, ↓eq_false h30, if_true, if_false, not_true_eq_false, not_false_eq_true])⟩
      · skip
        refine ex_aload_n dX12_mean_33 rfl ?_
        refine ex_iconst (v := 4) dX12_mean_34 (by decide) ?_
        refine rx_cV (kd := 12) dX12_mean_35 rfl lk_X12_100 rfl (by decide) (by first | assumption | rfl) ⟨⟨rfl, rfl⟩, by decide, by decide⟩ rfl (Nat.le_of_ble_eq_true rfl) rfl (s_X12_meets (by unfold vp_in; decide)) (Rs.k ?_)
        refine ex_iret dX12_mean_38 rfl rfl ⟨rfl, Nat.le_refl _⟩ ?_
        exact ⟨(by simp only [f_X12_mean, ↓eq_false h4, ↓h15, ↓eq_true h30, if_true, if_false, not_true_eq_false, not_false_eq_true]), (by simp only [f_X12_mean, ↓eq_false h4, ↓h15, ↓eq_true h30, if_true, if_false, not_true_eq_false, not_false_eq_true])⟩
    · skip
      refine ex_aload_n dX12_mean_18 rfl ?_
      refine ex_iconst (v := 1) dX12_mean_19 (by decide) ?_
      refine rx_cV (kd := 12) dX12_mean_20 rfl lk_X12_100 rfl (by decide) (by first | assumption | rfl) ⟨⟨rfl, rfl⟩, by decide, by decide⟩ rfl (Nat.le_of_ble_eq_true rfl) rfl (s_X12_meets (by unfold vp_in; decide)) (Rs.k ?_)
      refine ex_iret dX12_mean_23 rfl rfl ⟨rfl, Nat.le_refl _⟩ ?_
      exact ⟨(by simp only [f_X12_mean, ↓eq_false h4, ↓h15, if_true, if_false, not_true_eq_false, not_false_eq_true]), (by simp only [f_X12_mean, ↓eq_false h4, ↓h15, if_true, if_false, not_true_eq_false, not_false_eq_true])⟩
  · skip
    refine ex_iconst (v := (-1)) dX12_mean_7 (by decide) ?_
    refine ex_iret dX12_mean_8 rfl rfl ⟨rfl, Nat.le_refl _⟩ ?_
    exact ⟨(by simp only [f_X12_mean, ↓eq_true h4, if_true, if_false, not_true_eq_false, not_false_eq_true]), (by simp only [f_X12_mean, ↓eq_true h4, if_true, if_false, not_true_eq_false, not_false_eq_true])⟩
def f_X12_about (I : Im) (k : Int32) (w : Int32) : Int32 × Im :=
  if (b2i (0 ≤ k ∧ k ≤ 3)) = 0 then
    ((-1), I)
  else
    if (b2i (0 ≤ w ∧ w ≤ 20)) = 0 then
      ((-1), I)
    else
      if (I 207 k.toNatClampNeg) = 0 then
        let I3 : Im := meI I 1
        ((-3), I3)
      else
        if (I 208 (21 * k).toNatClampNeg) ≤ (w - 5) then
          let I1 : Im := meI I 2
          ((-3), I1)
        else
          let I2 : Im := up2 I 200 2 (I 208 ((21 * k) + w).toNatClampNeg)
          (1, I2)
set_option maxRecDepth 100000 in
set_option maxHeartbeats 4000000 in
theorem s_X12_about  {k : Int32} {w : Int32}  : Ca G mdX12_about [.ref 200, .int k, .int w] (mk I L t) (Rs (.int (f_X12_about I k w).1) (mk ((f_X12_about I k w).2) L t)) := by
  refine Ca.intro [some (.ref 200), some (.int k), some (.int w)] (by decide) (Nat.le_of_ble_eq_true rfl) rfl rfl ?_
  refine ex_iload_n dX12_about_0 rfl ?_
  refine rx_cS dX12_about_1 rfl lk_X12_151 ⟨⟨rfl, rfl⟩, by decide, by decide⟩ rfl (Nat.le_of_ble_eq_true rfl) rfl s_X12_isPlace (Rs.k ?_)
  refine ex_if_eq 17 dX12_about_4 (by decide) (fun h4 => ?_) (fun h4 => ?_)
  · skip
    refine ex_iconst (v := (-1)) dX12_about_17 (by decide) ?_
    refine ex_iret dX12_about_18 rfl rfl ⟨rfl, Nat.le_refl _⟩ ?_
    exact ⟨(by simp only [f_X12_about, ↓eq_true h4, if_true, if_false, not_true_eq_false, not_false_eq_true]), (by simp only [f_X12_about, ↓eq_true h4, if_true, if_false, not_true_eq_false, not_false_eq_true])⟩
  · have qk := (cl_lt (N := 4) (by decide) h4).1
    have vk := (cl_lt (N := 4) (by decide) h4).2
    refine ex_iload_n dX12_about_7 rfl ?_
    refine ex_iconst (v := 0) dX12_about_8 (by decide) ?_
    refine ex_bipush (v := 20) dX12_about_9 (by decide) ?_
    refine rx_cS dX12_about_11 rfl lk_X12_86 ⟨⟨rfl, rfl⟩, by decide, by decide⟩ rfl (Nat.le_of_ble_eq_true rfl) rfl s_X12_in (Rs.k ?_)
    refine ex_if_ne 19 dX12_about_14 (by decide) (fun h14 => ?_) (fun h14 => ?_)
    · have qw := (cl_lt (N := 21) (by decide) h14).1
      have vw := (cl_lt (N := 21) (by decide) h14).2
      refine ex_aload_n dX12_about_19 rfl ?_
      refine g_12_10 dX12_about_20 rfl wf_X12_29 (by first | assumption | rfl) (show Rt _ 200 10 = some 207 from rfl) ?_
      refine ex_iload_n dX12_about_23 rfl ?_
      refine rx_zald dX12_about_24 (by first | assumption | rfl) (by first | assumption | (unfold vp_in; decide)) ?_
      refine ex_if_ne 34 dX12_about_25 (by decide) (fun h25 => ?_) (fun h25 => ?_)
      · skip
        refine ex_iload_n dX12_about_34 rfl ?_
        refine ex_iconst (v := 5) dX12_about_35 (by decide) ?_
        refine ex_isub dX12_about_36 ?_
        refine ex_aload_n dX12_about_37 rfl ?_
        refine g_12_11 dX12_about_38 rfl wf_X12_33 (by first | assumption | rfl) (show Rt _ 200 11 = some 208 from rfl) ?_
        refine ex_bipush (v := 21) dX12_about_41 (by decide) ?_
        refine ex_iload_n dX12_about_43 rfl ?_
        refine ex_imul dX12_about_44 ?_
        refine rx_iald dX12_about_45 (by first | assumption | rfl) (ixz (C := 21) (R := 4) rfl (by decide) vk (by decide)).1 ?_
        refine ex_icmp_ge 68 dX12_about_46 (by decide) (fun h46 => ?_) (fun h46 => ?_)
        · skip
          refine ex_aload_n dX12_about_68 rfl ?_
          refine ex_iconst (v := 2) dX12_about_69 (by decide) ?_
          refine rx_cV (kd := 12) dX12_about_70 rfl lk_X12_100 rfl (by decide) (by first | assumption | rfl) ⟨⟨rfl, rfl⟩, by decide, by decide⟩ rfl (Nat.le_of_ble_eq_true rfl) rfl (s_X12_meets (by unfold vp_in; decide)) (Rs.k ?_)
          refine ex_iret dX12_about_73 rfl rfl ⟨rfl, Nat.le_refl _⟩ ?_
          exact ⟨(by simp only [f_X12_about, ↓eq_false h4, ↓eq_false h14, ↓eq_false h25, ↓h46, if_true, if_false, not_true_eq_false, not_false_eq_true]), (by simp only [f_X12_about, ↓eq_false h4, ↓eq_false h14, ↓eq_false h25, ↓h46, if_true, if_false, not_true_eq_false, not_false_eq_true])⟩
        · skip
          refine ex_aload_n dX12_about_49 rfl ?_
          refine ex_aload_n dX12_about_50 rfl ?_
          refine g_12_11 dX12_about_51 rfl wf_X12_33 (by first | assumption | rfl) (show Rt _ 200 11 = some 208 from rfl) ?_
          refine ex_bipush (v := 21) dX12_about_54 (by decide) ?_
          refine ex_iload_n dX12_about_56 rfl ?_
          refine ex_imul dX12_about_57 ?_
          refine ex_iload_n dX12_about_58 rfl ?_
          refine ex_iadd dX12_about_59 ?_
          refine rx_iald dX12_about_60 (by first | assumption | rfl) (ixm (C := 21) (R := 4) rfl vk vw (by decide)).1 ?_
          refine ex_iconst (v := 1) dX12_about_61 (by decide) ?_
          refine rx_cV (kd := 12) dX12_about_62 rfl lk_X12_108 rfl (by decide) (by first | assumption | rfl) ⟨⟨rfl, rfl⟩, by decide, by decide⟩ rfl (Nat.le_of_ble_eq_true rfl) rfl s_X12_tells (Rs.k ?_)
          refine ex_goto 73 dX12_about_65 (by decide) ?_
          refine ex_iret dX12_about_73 rfl rfl ⟨rfl, Nat.le_refl _⟩ ?_
          exact ⟨(by simp only [f_X12_about, ↓eq_false h4, ↓eq_false h14, ↓eq_false h25, ↓h46, if_true, if_false, not_true_eq_false, not_false_eq_true]), (by simp only [f_X12_about, ↓eq_false h4, ↓eq_false h14, ↓eq_false h25, ↓h46, if_true, if_false, not_true_eq_false, not_false_eq_true])⟩
      · skip
        refine ex_aload_n dX12_about_28 rfl ?_
        refine ex_iconst (v := 1) dX12_about_29 (by decide) ?_
        refine rx_cV (kd := 12) dX12_about_30 rfl lk_X12_100 rfl (by decide) (by first | assumption | rfl) ⟨⟨rfl, rfl⟩, by decide, by decide⟩ rfl (Nat.le_of_ble_eq_true rfl) rfl (s_X12_meets (by unfold vp_in; decide)) (Rs.k ?_)
        refine ex_iret dX12_about_33 rfl rfl ⟨rfl, Nat.le_refl _⟩ ?_
        exact ⟨(by simp only [f_X12_about, ↓eq_false h4, ↓eq_false h14, ↓eq_true h25, if_true, if_false, not_true_eq_false, not_false_eq_true]), (by simp only [f_X12_about, ↓eq_false h4, ↓eq_false h14, ↓eq_true h25, if_true, if_false, not_true_eq_false, not_false_eq_true])⟩
    · skip
      refine ex_iconst (v := (-1)) dX12_about_17 (by decide) ?_
      refine ex_iret dX12_about_18 rfl rfl ⟨rfl, Nat.le_refl _⟩ ?_
      exact ⟨(by simp only [f_X12_about, ↓eq_false h4, ↓eq_true h14, if_true, if_false, not_true_eq_false, not_false_eq_true]), (by simp only [f_X12_about, ↓eq_false h4, ↓eq_true h14, if_true, if_false, not_true_eq_false, not_false_eq_true])⟩
def SmS (I : Im) : Prop := ∀ q, q < 4 → ∃ m, m ≤ 4 ∧ I 210 q = nI m
def f_X12_set (I : Im) (k : Int32) (i : Int32) : Int32 × Im :=
  if (b2i (0 ≤ k ∧ k ≤ 3)) = 0 then
    ((-1), I)
  else
    if (I 209 k.toNatClampNeg) = 0 then
      let I3 : Im := meI I 1
      ((-3), I3)
    else
      if (b2i (0 ≤ i ∧ i ≤ ((I 210 k.toNatClampNeg) - 1))) = 0 then
        let I1 : Im := meI I 2
        ((-3), I1)
      else
        let I2 : Im := up2 I 200 2 (I 211 (((8 * k) + (2 * i)) + 1).toNatClampNeg)
        ((I 211 ((8 * k) + (2 * i)).toNatClampNeg), I2)
set_option maxRecDepth 100000 in
set_option maxHeartbeats 4000000 in
theorem s_X12_set  {k : Int32} {i : Int32} (hSm : SmS I) : Ca G mdX12_set [.ref 200, .int k, .int i] (mk I L t) (Rs (.int (f_X12_set I k i).1) (mk ((f_X12_set I k i).2) L t)) := by
  refine Ca.intro [some (.ref 200), some (.int k), some (.int i)] (by decide) (Nat.le_of_ble_eq_true rfl) rfl rfl ?_
  refine ex_iload_n dX12_set_0 rfl ?_
  refine rx_cS dX12_set_1 rfl lk_X12_151 ⟨⟨rfl, rfl⟩, by decide, by decide⟩ rfl (Nat.le_of_ble_eq_true rfl) rfl s_X12_isPlace (Rs.k ?_)
  refine ex_if_ne 9 dX12_set_4 (by decide) (fun h4 => ?_) (fun h4 => ?_)
  · have qk := (cl_lt (N := 4) (by decide) h4).1
    have vk := (cl_lt (N := 4) (by decide) h4).2
    refine ex_aload_n dX12_set_9 rfl ?_
    refine g_12_12 dX12_set_10 rfl wf_X12_36 (by first | assumption | rfl) (show Rt _ 200 12 = some 209 from rfl) ?_
    refine ex_iload_n dX12_set_13 rfl ?_
    refine rx_zald dX12_set_14 (by first | assumption | rfl) (by first | assumption | (unfold vp_in; decide)) ?_
    refine ex_if_ne 24 dX12_set_15 (by decide) (fun h15 => ?_) (fun h15 => ?_)
    · skip
      refine ex_iload_n dX12_set_24 rfl ?_
      refine ex_iconst (v := 0) dX12_set_25 (by decide) ?_
      refine ex_aload_n dX12_set_26 rfl ?_
      refine g_12_13 dX12_set_27 rfl wf_X12_39 (by first | assumption | rfl) (show Rt _ 200 13 = some 210 from rfl) ?_
      refine ex_iload_n dX12_set_30 rfl ?_
      refine rx_iald dX12_set_31 (by first | assumption | rfl) (by first | assumption | (unfold vp_in; decide)) ?_
      refine ex_iconst (v := 1) dX12_set_32 (by decide) ?_
      refine ex_isub dX12_set_33 ?_
      refine rx_cS dX12_set_34 rfl lk_X12_86 ⟨⟨rfl, rfl⟩, by decide, by decide⟩ rfl (Nat.le_of_ble_eq_true rfl) rfl s_X12_in (Rs.k ?_)
      refine ex_if_eq 75 dX12_set_37 (by decide) (fun h37 => ?_) (fun h37 => ?_)
      · skip
        refine ex_aload_n dX12_set_75 rfl ?_
        refine ex_iconst (v := 2) dX12_set_76 (by decide) ?_
        refine rx_cV (kd := 12) dX12_set_77 rfl lk_X12_100 rfl (by decide) (by first | assumption | rfl) ⟨⟨rfl, rfl⟩, by decide, by decide⟩ rfl (Nat.le_of_ble_eq_true rfl) rfl (s_X12_meets (by unfold vp_in; decide)) (Rs.k ?_)
        refine ex_iret dX12_set_80 rfl rfl ⟨rfl, Nat.le_refl _⟩ ?_
        exact ⟨(by simp only [f_X12_set, ↓eq_false h4, ↓eq_false h15, ↓eq_true h37, if_true, if_false, not_true_eq_false, not_false_eq_true]), (by simp only [f_X12_set, ↓eq_false h4, ↓eq_false h15, ↓eq_true h37, if_true, if_false, not_true_eq_false, not_false_eq_true])⟩
      · have vi := in_s (N := 4) (by decide) (Or.inr (hSm _ qk)) h37
        refine ex_aload_n dX12_set_40 rfl ?_
        refine ex_aload_n dX12_set_41 rfl ?_
        refine g_12_14 dX12_set_42 rfl wf_X12_42 (by first | assumption | rfl) (show Rt _ 200 14 = some 211 from rfl) ?_
        refine ex_bipush (v := 8) dX12_set_45 (by decide) ?_
        refine ex_iload_n dX12_set_47 rfl ?_
        refine ex_imul dX12_set_48 ?_
        refine ex_iconst (v := 2) dX12_set_49 (by decide) ?_
        refine ex_iload_n dX12_set_50 rfl ?_
        refine ex_imul dX12_set_51 ?_
        refine ex_iadd dX12_set_52 ?_
        refine ex_iconst (v := 1) dX12_set_53 (by decide) ?_
        refine ex_iadd dX12_set_54 ?_
        refine rx_iald dX12_set_55 (by first | assumption | rfl) (ix8 vk vi).2.1 ?_
        refine ex_aload_n dX12_set_56 rfl ?_
        refine g_12_14 dX12_set_57 rfl wf_X12_42 (by first | assumption | rfl) (show Rt _ 200 14 = some 211 from rfl) ?_
        refine ex_bipush (v := 8) dX12_set_60 (by decide) ?_
        refine ex_iload_n dX12_set_62 rfl ?_
        refine ex_imul dX12_set_63 ?_
        refine ex_iconst (v := 2) dX12_set_64 (by decide) ?_
        refine ex_iload_n dX12_set_65 rfl ?_
        refine ex_imul dX12_set_66 ?_
        refine ex_iadd dX12_set_67 ?_
        refine rx_iald dX12_set_68 (by first | assumption | rfl) (ix8 vk vi).1 ?_
        refine rx_cV (kd := 12) dX12_set_69 rfl lk_X12_108 rfl (by decide) (by first | assumption | rfl) ⟨⟨rfl, rfl⟩, by decide, by decide⟩ rfl (Nat.le_of_ble_eq_true rfl) rfl s_X12_tells (Rs.k ?_)
        refine ex_goto 80 dX12_set_72 (by decide) ?_
        refine ex_iret dX12_set_80 rfl rfl ⟨rfl, Nat.le_refl _⟩ ?_
        exact ⟨(by simp only [f_X12_set, ↓eq_false h4, ↓eq_false h15, ↓eq_false h37, if_true, if_false, not_true_eq_false, not_false_eq_true]), (by simp only [f_X12_set, ↓eq_false h4, ↓eq_false h15, ↓eq_false h37, if_true, if_false, not_true_eq_false, not_false_eq_true])⟩
    · skip
      refine ex_aload_n dX12_set_18 rfl ?_
      refine ex_iconst (v := 1) dX12_set_19 (by decide) ?_
      refine rx_cV (kd := 12) dX12_set_20 rfl lk_X12_100 rfl (by decide) (by first | assumption | rfl) ⟨⟨rfl, rfl⟩, by decide, by decide⟩ rfl (Nat.le_of_ble_eq_true rfl) rfl (s_X12_meets (by unfold vp_in; decide)) (Rs.k ?_)
      refine ex_iret dX12_set_23 rfl rfl ⟨rfl, Nat.le_refl _⟩ ?_
      exact ⟨(by simp only [f_X12_set, ↓eq_false h4, ↓eq_true h15, if_true, if_false, not_true_eq_false, not_false_eq_true]), (by simp only [f_X12_set, ↓eq_false h4, ↓eq_true h15, if_true, if_false, not_true_eq_false, not_false_eq_true])⟩
  · skip
    refine ex_iconst (v := (-1)) dX12_set_7 (by decide) ?_
    refine ex_iret dX12_set_8 rfl rfl ⟨rfl, Nat.le_refl _⟩ ?_
    exact ⟨(by simp only [f_X12_set, ↓eq_true h4, if_true, if_false, not_true_eq_false, not_false_eq_true]), (by simp only [f_X12_set, ↓eq_true h4, if_true, if_false, not_true_eq_false, not_false_eq_true])⟩
def f_X12_ship (I : Im) (s : Int32) (c : Int32) (w : Int32) (g : Int32) (l : Int32) (p : Int32) : Int32 × Im :=
  if (b2i (0 ≤ s ∧ s ≤ 2)) = 0 then
    ((-1), I)
  else
    if (b2i (0 ≤ c ∧ c ≤ 15)) = 0 then
      ((-1), I)
    else
      if (b2i (1 ≤ w ∧ w ≤ 9)) = 0 then
        ((-1), I)
      else
        if (b2i (1 ≤ g ∧ g ≤ 9)) = 0 then
          ((-1), I)
        else
          if (b2i (0 ≤ l ∧ l ≤ 30)) = 0 then
            ((-1), I)
          else
            if (b2i (1 ≤ p ∧ p ≤ 9999)) = 0 then
              ((-1), I)
            else
              let I1 : Im := up2 I 215 (5 * s).toNatClampNeg c
              let I2 : Im := up2 I1 215 ((5 * s) + 1).toNatClampNeg w
              let I3 : Im := up2 I2 215 ((5 * s) + 2).toNatClampNeg g
              let I4 : Im := up2 I3 215 ((5 * s) + 3).toNatClampNeg l
              let I5 : Im := up2 I4 215 ((5 * s) + 4).toNatClampNeg p
              let I6 : Im := up2 I5 214 s.toNatClampNeg 1
              (1, I6)
set_option maxRecDepth 100000 in
set_option maxHeartbeats 4000000 in
theorem s_X12_ship  {s : Int32} {c : Int32} {w : Int32} {g : Int32} {l : Int32} {p : Int32}  : Ca G mdX12_ship [.ref 200, .int s, .int c, .int w, .int g, .int l, .int p] (mk I L t) (Rs (.int (f_X12_ship I s c w g l p).1) (mk ((f_X12_ship I s c w g l p).2) L t)) := by
  refine Ca.intro [some (.ref 200), some (.int s), some (.int c), some (.int w), some (.int g), some (.int l), some (.int p), none] (by decide) (Nat.le_of_ble_eq_true rfl) rfl rfl ?_
  refine ex_iload_n dX12_ship_0 rfl ?_
  refine rx_cS dX12_ship_1 rfl lk_X12_154 ⟨⟨rfl, rfl⟩, by decide, by decide⟩ rfl (Nat.le_of_ble_eq_true rfl) rfl s_X12_isShipTold (Rs.k ?_)
  refine ex_if_eq 61 dX12_ship_4 (by decide) (fun h4 => ?_) (fun h4 => ?_)
  · skip
    refine ex_iconst (v := (-1)) dX12_ship_61 (by decide) ?_
    refine ex_iret dX12_ship_62 rfl rfl ⟨rfl, Nat.le_refl _⟩ ?_
    exact ⟨(by simp only [f_X12_ship, ↓eq_true h4, if_true, if_false, not_true_eq_false, not_false_eq_true]), (by simp only [f_X12_ship, ↓eq_true h4, if_true, if_false, not_true_eq_false, not_false_eq_true])⟩
  · have qs := (cl_lt (N := 3) (by decide) h4).1
    have vs := (cl_lt (N := 3) (by decide) h4).2
    refine ex_iload_n dX12_ship_7 rfl ?_
    refine ex_iconst (v := 0) dX12_ship_8 (by decide) ?_
    refine ex_bipush (v := 15) dX12_ship_9 (by decide) ?_
    refine rx_cS dX12_ship_11 rfl lk_X12_86 ⟨⟨rfl, rfl⟩, by decide, by decide⟩ rfl (Nat.le_of_ble_eq_true rfl) rfl s_X12_in (Rs.k ?_)
    refine ex_if_eq 61 dX12_ship_14 (by decide) (fun h14 => ?_) (fun h14 => ?_)
    · skip
      refine ex_iconst (v := (-1)) dX12_ship_61 (by decide) ?_
      refine ex_iret dX12_ship_62 rfl rfl ⟨rfl, Nat.le_refl _⟩ ?_
      exact ⟨(by simp only [f_X12_ship, ↓eq_false h4, ↓eq_true h14, if_true, if_false, not_true_eq_false, not_false_eq_true]), (by simp only [f_X12_ship, ↓eq_false h4, ↓eq_true h14, if_true, if_false, not_true_eq_false, not_false_eq_true])⟩
    · skip
      refine ex_iload_n dX12_ship_17 rfl ?_
      refine ex_iconst (v := 1) dX12_ship_18 (by decide) ?_
      refine ex_bipush (v := 9) dX12_ship_19 (by decide) ?_
      refine rx_cS dX12_ship_21 rfl lk_X12_86 ⟨⟨rfl, rfl⟩, by decide, by decide⟩ rfl (Nat.le_of_ble_eq_true rfl) rfl s_X12_in (Rs.k ?_)
      refine ex_if_eq 61 dX12_ship_24 (by decide) (fun h24 => ?_) (fun h24 => ?_)
      · skip
        refine ex_iconst (v := (-1)) dX12_ship_61 (by decide) ?_
        refine ex_iret dX12_ship_62 rfl rfl ⟨rfl, Nat.le_refl _⟩ ?_
        exact ⟨(by simp only [f_X12_ship, ↓eq_false h4, ↓eq_false h14, ↓eq_true h24, if_true, if_false, not_true_eq_false, not_false_eq_true]), (by simp only [f_X12_ship, ↓eq_false h4, ↓eq_false h14, ↓eq_true h24, if_true, if_false, not_true_eq_false, not_false_eq_true])⟩
      · skip
        refine ex_iload dX12_ship_27 rfl ?_
        refine ex_iconst (v := 1) dX12_ship_29 (by decide) ?_
        refine ex_bipush (v := 9) dX12_ship_30 (by decide) ?_
        refine rx_cS dX12_ship_32 rfl lk_X12_86 ⟨⟨rfl, rfl⟩, by decide, by decide⟩ rfl (Nat.le_of_ble_eq_true rfl) rfl s_X12_in (Rs.k ?_)
        refine ex_if_eq 61 dX12_ship_35 (by decide) (fun h35 => ?_) (fun h35 => ?_)
        · skip
          refine ex_iconst (v := (-1)) dX12_ship_61 (by decide) ?_
          refine ex_iret dX12_ship_62 rfl rfl ⟨rfl, Nat.le_refl _⟩ ?_
          exact ⟨(by simp only [f_X12_ship, ↓eq_false h4, ↓eq_false h14, ↓eq_false h24, ↓eq_true h35, if_true, if_false, not_true_eq_false, not_false_eq_true]), (by simp only [f_X12_ship, ↓eq_false h4, ↓eq_false h14, ↓eq_false h24, ↓eq_true h35, if_true, if_false, not_true_eq_false, not_false_eq_true])⟩
        · skip
          refine ex_iload dX12_ship_38 rfl ?_
          refine ex_iconst (v := 0) dX12_ship_40 (by decide) ?_
          refine ex_bipush (v := 30) dX12_ship_41 (by decide) ?_
          refine rx_cS dX12_ship_43 rfl lk_X12_86 ⟨⟨rfl, rfl⟩, by decide, by decide⟩ rfl (Nat.le_of_ble_eq_true rfl) rfl s_X12_in (Rs.k ?_)
          refine ex_if_eq 61 dX12_ship_46 (by decide) (fun h46 => ?_) (fun h46 => ?_)
          · skip
            refine ex_iconst (v := (-1)) dX12_ship_61 (by decide) ?_
            refine ex_iret dX12_ship_62 rfl rfl ⟨rfl, Nat.le_refl _⟩ ?_
            exact ⟨(by simp only [f_X12_ship, ↓eq_false h4, ↓eq_false h14, ↓eq_false h24, ↓eq_false h35, ↓eq_true h46, if_true, if_false, not_true_eq_false, not_false_eq_true]), (by simp only [f_X12_ship, ↓eq_false h4, ↓eq_false h14, ↓eq_false h24, ↓eq_false h35, ↓eq_true h46, if_true, if_false, not_true_eq_false, not_false_eq_true])⟩
          · skip
            refine ex_iload dX12_ship_49 rfl ?_
            refine ex_iconst (v := 1) dX12_ship_51 (by decide) ?_
            refine ex_sipush (v := 9999) dX12_ship_52 (by decide) ?_
            refine rx_cS dX12_ship_55 rfl lk_X12_86 ⟨⟨rfl, rfl⟩, by decide, by decide⟩ rfl (Nat.le_of_ble_eq_true rfl) rfl s_X12_in (Rs.k ?_)
            refine ex_if_ne 63 dX12_ship_58 (by decide) (fun h58 => ?_) (fun h58 => ?_)
            · skip
              refine ex_iconst (v := 5) dX12_ship_63 (by decide) ?_
              refine ex_iload_n dX12_ship_64 rfl ?_
              refine ex_imul dX12_ship_65 ?_
              refine st_i7 dX12_ship_66 (by first | exact rfl | exact trivial) ?_
              refine ex_aload_n dX12_ship_68 rfl ?_
              refine g_12_21 dX12_ship_69 rfl wf_X12_54 (by first | assumption | rfl) (show Rt _ 200 21 = some 215 from rfl) ?_
              refine ex_iload dX12_ship_72 rfl ?_
              refine ex_iload_n dX12_ship_74 rfl ?_
              refine rx_iast dX12_ship_75 (by first | assumption | rfl) (ixz (C := 5) (R := 3) rfl (by decide) vs (by decide)).1 ?_
              refine ex_aload_n dX12_ship_76 rfl ?_
              refine g_12_21 dX12_ship_77 rfl wf_X12_54 (by first | assumption | rfl) (show Rt _ 200 21 = some 215 from rfl) ?_
              refine ex_iload dX12_ship_80 rfl ?_
              refine ex_iconst (v := 1) dX12_ship_82 (by decide) ?_
              refine ex_iadd dX12_ship_83 ?_
              refine ex_iload_n dX12_ship_84 rfl ?_
              refine rx_iast dX12_ship_85 (by first | assumption | rfl) (ixm (C := 5) (R := 3) rfl vs (i := 1) (by unfold vp_in; decide) (by decide)).1 ?_
              refine ex_aload_n dX12_ship_86 rfl ?_
              refine g_12_21 dX12_ship_87 rfl wf_X12_54 (by first | assumption | rfl) (show Rt _ 200 21 = some 215 from rfl) ?_
              refine ex_iload dX12_ship_90 rfl ?_
              refine ex_iconst (v := 2) dX12_ship_92 (by decide) ?_
              refine ex_iadd dX12_ship_93 ?_
              refine ex_iload dX12_ship_94 rfl ?_
              refine rx_iast dX12_ship_96 (by first | assumption | rfl) (ixm (C := 5) (R := 3) rfl vs (i := 2) (by unfold vp_in; decide) (by decide)).1 ?_
              refine ex_aload_n dX12_ship_97 rfl ?_
              refine g_12_21 dX12_ship_98 rfl wf_X12_54 (by first | assumption | rfl) (show Rt _ 200 21 = some 215 from rfl) ?_
              refine ex_iload dX12_ship_101 rfl ?_
              refine ex_iconst (v := 3) dX12_ship_103 (by decide) ?_
              refine ex_iadd dX12_ship_104 ?_
              refine ex_iload dX12_ship_105 rfl ?_
              refine rx_iast dX12_ship_107 (by first | assumption | rfl) (ixm (C := 5) (R := 3) rfl vs (i := 3) (by unfold vp_in; decide) (by decide)).1 ?_
              refine ex_aload_n dX12_ship_108 rfl ?_
              refine g_12_21 dX12_ship_109 rfl wf_X12_54 (by first | assumption | rfl) (show Rt _ 200 21 = some 215 from rfl) ?_
              refine ex_iload dX12_ship_112 rfl ?_
              refine ex_iconst (v := 4) dX12_ship_114 (by decide) ?_
              refine ex_iadd dX12_ship_115 ?_
              refine ex_iload dX12_ship_116 rfl ?_
              refine rx_iast dX12_ship_118 (by first | assumption | rfl) (ixm (C := 5) (R := 3) rfl vs (i := 4) (by unfold vp_in; decide) (by decide)).1 ?_
              refine ex_aload_n dX12_ship_119 rfl ?_
              refine g_12_20 dX12_ship_120 rfl wf_X12_51 (by first | assumption | rfl) (show Rt _ 200 20 = some 214 from rfl) ?_
              refine ex_iload_n dX12_ship_123 rfl ?_
              refine ex_iconst (v := 1) dX12_ship_124 (by decide) ?_
              refine rx_zast dX12_ship_125 (by first | assumption | rfl) (by first | assumption | (unfold vp_in; decide)) rfl ?_
              refine ex_iconst (v := 1) dX12_ship_126 (by decide) ?_
              refine ex_iret dX12_ship_127 rfl rfl ⟨rfl, Nat.le_refl _⟩ ?_
              exact ⟨(by simp only [f_X12_ship, ↓eq_false h4, ↓eq_false h14, ↓eq_false h24, ↓eq_false h35, ↓eq_false h46, ↓eq_false h58, if_true, if_false, not_true_eq_false, not_false_eq_true]), (by simp only [f_X12_ship, ↓eq_false h4, ↓eq_false h14, ↓eq_false h24, ↓eq_false h35, ↓eq_false h46, ↓eq_false h58, if_true, if_false, not_true_eq_false, not_false_eq_true])⟩
            · skip
              refine ex_iconst (v := (-1)) dX12_ship_61 (by decide) ?_
              refine ex_iret dX12_ship_62 rfl rfl ⟨rfl, Nat.le_refl _⟩ ?_
              exact ⟨(by simp only [f_X12_ship, ↓eq_false h4, ↓eq_false h14, ↓eq_false h24, ↓eq_false h35, ↓eq_false h46, ↓eq_true h58, if_true, if_false, not_true_eq_false, not_false_eq_true]), (by simp only [f_X12_ship, ↓eq_false h4, ↓eq_false h14, ↓eq_false h24, ↓eq_false h35, ↓eq_false h46, ↓eq_true h58, if_true, if_false, not_true_eq_false, not_false_eq_true])⟩
def f_X12_leave (I : Im) (s : Int32) : Int32 × Im :=
  if (b2i (0 ≤ s ∧ s ≤ 2)) = 0 then
    ((-1), I)
  else
    if (I 214 s.toNatClampNeg) = 0 then
      ((-4), I)
    else
      let I1 : Im := up2 I 214 s.toNatClampNeg 0
      (1, I1)
set_option maxRecDepth 100000 in
set_option maxHeartbeats 4000000 in
theorem s_X12_leave  {s : Int32}  : Ca G mdX12_leave [.ref 200, .int s] (mk I L t) (Rs (.int (f_X12_leave I s).1) (mk ((f_X12_leave I s).2) L t)) := by
  refine Ca.intro [some (.ref 200), some (.int s)] (by decide) (Nat.le_of_ble_eq_true rfl) rfl rfl ?_
  refine ex_iload_n dX12_leave_0 rfl ?_
  refine rx_cS dX12_leave_1 rfl lk_X12_154 ⟨⟨rfl, rfl⟩, by decide, by decide⟩ rfl (Nat.le_of_ble_eq_true rfl) rfl s_X12_isShipTold (Rs.k ?_)
  refine ex_if_ne 9 dX12_leave_4 (by decide) (fun h4 => ?_) (fun h4 => ?_)
  · have qs := (cl_lt (N := 3) (by decide) h4).1
    have vs := (cl_lt (N := 3) (by decide) h4).2
    refine ex_aload_n dX12_leave_9 rfl ?_
    refine g_12_20 dX12_leave_10 rfl wf_X12_51 (by first | assumption | rfl) (show Rt _ 200 20 = some 214 from rfl) ?_
    refine ex_iload_n dX12_leave_13 rfl ?_
    refine rx_zald dX12_leave_14 (by first | assumption | rfl) (by first | assumption | (unfold vp_in; decide)) ?_
    refine ex_if_ne 21 dX12_leave_15 (by decide) (fun h15 => ?_) (fun h15 => ?_)
    · skip
      refine ex_aload_n dX12_leave_21 rfl ?_
      refine g_12_20 dX12_leave_22 rfl wf_X12_51 (by first | assumption | rfl) (show Rt _ 200 20 = some 214 from rfl) ?_
      refine ex_iload_n dX12_leave_25 rfl ?_
      refine ex_iconst (v := 0) dX12_leave_26 (by decide) ?_
      refine rx_zast dX12_leave_27 (by first | assumption | rfl) (by first | assumption | (unfold vp_in; decide)) rfl ?_
      refine ex_iconst (v := 1) dX12_leave_28 (by decide) ?_
      refine ex_iret dX12_leave_29 rfl rfl ⟨rfl, Nat.le_refl _⟩ ?_
      exact ⟨(by simp only [f_X12_leave, ↓eq_false h4, ↓eq_false h15, if_true, if_false, not_true_eq_false, not_false_eq_true]), (by simp only [f_X12_leave, ↓eq_false h4, ↓eq_false h15, if_true, if_false, not_true_eq_false, not_false_eq_true])⟩
    · skip
      refine ex_bipush (v := (-4)) dX12_leave_18 (by decide) ?_
      refine ex_iret dX12_leave_20 rfl rfl ⟨rfl, Nat.le_refl _⟩ ?_
      exact ⟨(by simp only [f_X12_leave, ↓eq_false h4, ↓eq_true h15, if_true, if_false, not_true_eq_false, not_false_eq_true]), (by simp only [f_X12_leave, ↓eq_false h4, ↓eq_true h15, if_true, if_false, not_true_eq_false, not_false_eq_true])⟩
  · skip
    refine ex_iconst (v := (-1)) dX12_leave_7 (by decide) ?_
    refine ex_iret dX12_leave_8 rfl rfl ⟨rfl, Nat.le_refl _⟩ ?_
    exact ⟨(by simp only [f_X12_leave, ↓eq_true h4, if_true, if_false, not_true_eq_false, not_false_eq_true]), (by simp only [f_X12_leave, ↓eq_true h4, if_true, if_false, not_true_eq_false, not_false_eq_true])⟩
end M7
