section C9
variable {G : Gp} {I : Im} {L : Nat → Nat → Int64} {t : Nat}
theorem ly_row_dec : ∀ q, q < 6 → R0 1 q = some (104 + 2 * q) ∧ K0 (104 + 2 * q) = (6, 3) := by decide +kernel
theorem ly_row {q : Nat} (h : q < 6) : Rt t 1 q = some (104 + 2 * q) := by
  unfold Rt
  rw [if_neg (by omega)]
  exact (ly_row_dec q h).1
theorem ky_row {q : Nat} (h : q < 6) : K0 (104 + 2 * q) = (6, 3) := (ly_row_dec q h).2
theorem ly_txt_dec : ∀ q, q < 4 → R0 2 q = some (116 + 2 * q) ∧ K0 (116 + 2 * q) = (4, 3) := by decide +kernel
theorem ly_txt {q : Nat} (h : q < 4) : Rt t 2 q = some (116 + 2 * q) := by
  unfold Rt
  rw [if_neg (by omega)]
  exact (ly_txt_dec q h).1
theorem ky_txt {q : Nat} (h : q < 4) : K0 (116 + 2 * q) = (4, 3) := (ly_txt_dec q h).2
theorem ly_har_dec : ∀ q, q < 4 → R0 3 q = some (124 + 2 * q) ∧ K0 (124 + 2 * q) = (0, 7) := by decide +kernel
theorem ly_har {q : Nat} (h : q < 4) : Rt t 3 q = some (124 + 2 * q) := by
  unfold Rt
  rw [if_neg (by omega)]
  exact (ly_har_dec q h).1
theorem ky_har {q : Nat} (h : q < 4) : K0 (124 + 2 * q) = (0, 7) := (ly_har_dec q h).2
theorem ly_sea_dec : ∀ q, q < 4 → R0 4 q = some (132 + 3 * q) ∧ K0 (132 + 3 * q) = (8, 4) := by decide +kernel
theorem ly_sea {q : Nat} (h : q < 4) : Rt t 4 q = some (132 + 3 * q) := by
  unfold Rt
  rw [if_neg (by omega)]
  exact (ly_sea_dec q h).1
theorem ky_sea {q : Nat} (h : q < 4) : K0 (132 + 3 * q) = (8, 4) := (ly_sea_dec q h).2
theorem ly_shp_dec : ∀ q, q < 3 → R0 5 q = some (144 + q) ∧ K0 (144 + q) = (1, 10) := by decide +kernel
theorem ly_shp {q : Nat} (h : q < 3) : Rt t 5 q = some (144 + q) := by
  unfold Rt
  rw [if_neg (by omega)]
  exact (ly_shp_dec q h).1
theorem ky_shp {q : Nat} (h : q < 3) : K0 (144 + q) = (1, 10) := (ly_shp_dec q h).2
theorem ly_wrk_dec : ∀ q, q < 5 → R0 6 q = some (147 + q) ∧ K0 (147 + q) = (10, 4) := by decide +kernel
theorem ly_wrk {q : Nat} (h : q < 5) : Rt t 6 q = some (147 + q) := by
  unfold Rt
  rw [if_neg (by omega)]
  exact (ly_wrk_dec q h).1
theorem ky_wrk {q : Nat} (h : q < 5) : K0 (147 + q) = (10, 4) := (ly_wrk_dec q h).2
theorem ly_kep_dec : ∀ q, q < 3 → R0 7 q = some (152 + 16 * q) ∧ K0 (152 + 16 * q) = (5, 4) := by decide +kernel
theorem ly_kep {q : Nat} (h : q < 3) : Rt t 7 q = some (152 + 16 * q) := by
  unfold Rt
  rw [if_neg (by omega)]
  exact (ly_kep_dec q h).1
theorem ky_kep {q : Nat} (h : q < 3) : K0 (152 + 16 * q) = (5, 4) := (ly_kep_dec q h).2
theorem cl_lt {x : Int32} {N : Nat} {B : Int32} (hB : B.toInt + 1 = (N : Int)) (h : ¬ b2i (0 ≤ x ∧ x ≤ B) = 0) : x.toNatClampNeg < N ∧ vp_in x N := by
  have h1 := b2i_n0.mp h
  have h2 := Int32.le_iff_toInt_le.mp h1.1
  have h3 := Int32.le_iff_toInt_le.mp h1.2
  have h0 : (0 : Int32).toInt = 0 := by decide
  have hv : vp_in x N := vp_in_iff.mpr ⟨by omega, by omega⟩
  exact ⟨Nat.not_le.mp (fun q => hv (Or.inr q)), hv⟩
theorem cl_b {x : Int32} {N : Nat} {B : Int32} (hB : B.toInt + 1 = (N : Int)) (h : b2i (0 ≤ x ∧ x ≤ B) = 0) : ¬ (0 ≤ x ∧ x ≤ B) := b2i_0.mp h
theorem s_X6_renewR {a : Nat} {n : Int32} (ha : K0 a = (6, 3)) (h0 : 0 ≤ n) (h1 : n ≤ 60) : Ca G mdX6_renew [.ref a, .int n] (mk I L t) (Rv (mk (nuNew I a n.toNatClampNeg) L t)) := by
  obtain ⟨j, hj, rfl⟩ := nI_of (Int32.not_lt.mpr h0)
  rw [nI_clamp hj]
  exact s_X6_renew ha ((nI_leI (b := 60) hj (by decide)).mp h1)
theorem s_X4_renewR {a : Nat} {n : Int32} (ha : K0 a = (4, 3)) (h0 : 0 ≤ n) (h1 : n ≤ 100) : Ca G mdX4_renew [.ref a, .int n] (mk I L t) (Rv (mk (leNew I a n.toNatClampNeg) L t)) := by
  obtain ⟨j, hj, rfl⟩ := nI_of (Int32.not_lt.mpr h0)
  rw [nI_clamp hj]
  exact s_X4_renew ha ((nI_leI (b := 100) hj (by decide)).mp h1)
theorem in_b {x : Int32} {m N : Nat} {y : Int32} (hy : y = nI m) (hm : m ≤ N) (hN : N < 2 ^ 31) (h : ¬ b2i (0 ≤ x ∧ x < y) = 0) : vp_in x N := by
  have h1 := b2i_n0.mp h
  rw [hy] at h1
  have h2 := Int32.le_iff_toInt_le.mp h1.1
  have h3 := Int32.lt_iff_toInt_lt.mp h1.2
  rw [nI_toInt (by omega)] at h3
  have h0 : (0 : Int32).toInt = 0 := by decide
  exact vp_in_iff.mpr ⟨by omega, by omega⟩
def f_X11_refuse (I : Im) (f : Int32) : Int32 × Im :=
  let I1 : Im := up2 I 0 17 f
  if (b2i (1 ≤ f ∧ f ≤ 5)) = 0 then
    ((-3), I1)
  else
    let I2 : Im := up2 I1 102 f.toNatClampNeg ((I1 102 f.toNatClampNeg) + 1)
    ((-3), I2)
set_option maxRecDepth 100000 in
set_option maxHeartbeats 4000000 in
theorem s_X11_refuse  {f : Int32} (hf : vp_in f 6) : Ca G mdX11_refuse [.ref 0, .int f] (mk I L t) (Rs (.int (f_X11_refuse I f).1) (mk ((f_X11_refuse I f).2) L t)) := by
  refine Ca.intro [some (.ref 0), some (.int f)] (by decide) (Nat.le_of_ble_eq_true rfl) rfl rfl ?_
  refine ex_aload_n dX11_refuse_0 rfl ?_
  refine ex_iload_n dX11_refuse_1 rfl ?_
  refine p_11_17 dX11_refuse_2 rfl wf_X11_101 (by first | assumption | rfl) ?_
  refine ex_iload_n dX11_refuse_5 rfl ?_
  refine ex_iconst (v := 1) dX11_refuse_6 (by decide) ?_
  refine ex_iconst (v := 5) dX11_refuse_7 (by decide) ?_
  refine rx_cS dX11_refuse_8 rfl lk_X11_117 ⟨⟨rfl, rfl⟩, by decide, by decide⟩ rfl (Nat.le_of_ble_eq_true rfl) rfl s_X11_within (Rs.k ?_)
  refine ex_if_eq 24 dX11_refuse_11 (by decide) (fun h11 => ?_) (fun h11 => ?_)
  · skip
    refine ex_bipush (v := (-3)) dX11_refuse_24 (by decide) ?_
    refine ex_iret dX11_refuse_26 rfl rfl ⟨rfl, Nat.le_refl _⟩ ?_
    exact ⟨(by simp only [f_X11_refuse, h11, if_true, if_false, not_true_eq_false, not_false_eq_true]), (by simp only [f_X11_refuse, h11, if_true, if_false, not_true_eq_false, not_false_eq_true])⟩
  · skip
    refine ex_aload_n dX11_refuse_14 rfl ?_
    refine g_11_15 dX11_refuse_15 rfl wf_X11_94 (by first | assumption | rfl) rfl ?_
    refine ex_iload_n dX11_refuse_18 rfl ?_
    refine ex_dup2 dX11_refuse_19 rfl rfl ?_
    refine rx_iald dX11_refuse_20 (by first | assumption | rfl) (by first | assumption | decide) ?_
    refine ex_iconst (v := 1) dX11_refuse_21 (by decide) ?_
    refine ex_iadd dX11_refuse_22 ?_
    refine rx_iast dX11_refuse_23 (by first | assumption | rfl) (by first | assumption | decide) ?_
    refine ex_bipush (v := (-3)) dX11_refuse_24 (by decide) ?_
    refine ex_iret dX11_refuse_26 rfl rfl ⟨rfl, Nat.le_refl _⟩ ?_
    exact ⟨(by simp only [f_X11_refuse, h11, if_true, if_false, not_true_eq_false, not_false_eq_true]), (by simp only [f_X11_refuse, h11, if_true, if_false, not_true_eq_false, not_false_eq_true])⟩
def f_X11_tell (I : Im) (w : Int32) (a : Int32) : Int32 × Im :=
  let I1 : Im := up2 I 0 18 w
  (a, I1)
set_option maxRecDepth 100000 in
set_option maxHeartbeats 4000000 in
theorem s_X11_tell  {w : Int32} {a : Int32}  : Ca G mdX11_tell [.ref 0, .int w, .int a] (mk I L t) (Rs (.int (f_X11_tell I w a).1) (mk ((f_X11_tell I w a).2) L t)) := by
  refine Ca.intro [some (.ref 0), some (.int w), some (.int a)] (by decide) (Nat.le_of_ble_eq_true rfl) rfl rfl ?_
  refine ex_aload_n dX11_tell_0 rfl ?_
  refine ex_iload_n dX11_tell_1 rfl ?_
  refine p_11_18 dX11_tell_2 rfl wf_X11_104 (by first | assumption | rfl) ?_
  refine ex_iload_n dX11_tell_5 rfl ?_
  refine ex_iret dX11_tell_6 rfl rfl ⟨rfl, Nat.le_refl _⟩ ?_
  exact ⟨(by simp only [f_X11_tell, if_true, if_false, not_true_eq_false, not_false_eq_true]), (by simp only [f_X11_tell, if_true, if_false, not_true_eq_false, not_false_eq_true])⟩
def f_X11_row (I : Im) (r : Int32) (n : Int32) : Int32 × Im :=
  if (b2i (0 ≤ r ∧ r ≤ 5)) = 0 then
    ((-1), I)
  else
    if n ≤ 60 then
      if 0 ≤ n then
        let I1 : Im := nuNew I (104 + 2 * r.toNatClampNeg) n.toNatClampNeg
        (n, I1)
      else
        let I2 : Im := (f_X11_refuse I 5).2
        ((f_X11_refuse I 5).1, I2)
    else
      ((-1), I)
set_option maxRecDepth 100000 in
set_option maxHeartbeats 4000000 in
theorem s_X11_row  {r : Int32} {n : Int32}  : Ca G mdX11_row [.ref 0, .int r, .int n] (mk I L t) (Rs (.int (f_X11_row I r n).1) (mk ((f_X11_row I r n).2) L t)) := by
  refine Ca.intro [some (.ref 0), some (.int r), some (.int n)] (by decide) (Nat.le_of_ble_eq_true rfl) rfl rfl ?_
  refine ex_iload_n dX11_row_0 rfl ?_
  refine rx_cS dX11_row_1 rfl lk_X11_125 ⟨⟨rfl, rfl⟩, by decide, by decide⟩ rfl (Nat.le_of_ble_eq_true rfl) rfl s_X11_isRow (Rs.k ?_)
  refine ex_if_eq 13 dX11_row_4 (by decide) (fun h4 => ?_) (fun h4 => ?_)
  · skip
    refine ex_iconst (v := (-1)) dX11_row_13 (by decide) ?_
    refine ex_iret dX11_row_14 rfl rfl ⟨rfl, Nat.le_refl _⟩ ?_
    exact ⟨(by simp only [f_X11_row, h4, if_true, if_false, not_true_eq_false, not_false_eq_true]), (by simp only [f_X11_row, h4, if_true, if_false, not_true_eq_false, not_false_eq_true])⟩
  · have qr := (cl_lt (N := 6) (by decide) h4).1
    have vr := (cl_lt (N := 6) (by decide) h4).2
    have kr := ky_row qr
    have lr := ly_row (t := t) qr
    refine ex_iload_n dX11_row_7 rfl ?_
    refine ex_bipush (v := 60) dX11_row_8 (by decide) ?_
    refine ex_icmp_le 15 dX11_row_10 (by decide) (fun h10 => ?_) (fun h10 => ?_)
    · skip
      refine ex_iload_n dX11_row_15 rfl ?_
      refine ex_if_ge 25 dX11_row_16 (by decide) (fun h16 => ?_) (fun h16 => ?_)
      · skip
        refine ex_aload_n dX11_row_25 rfl ?_
        refine g_11_0 dX11_row_26 rfl wf_X11_11 (by first | assumption | rfl) rfl ?_
        refine ex_iload_n dX11_row_29 rfl ?_
        refine rx_aald dX11_row_30 (by first | assumption | rfl) (by decide) rfl (by first | assumption | decide) (by first | assumption | rfl) ?_
        refine ex_iload_n dX11_row_31 rfl ?_
        refine rx_cV (kd := 6) dX11_row_32 rfl lk_X11_133 rfl (by decide) (by first | assumption | rfl) ⟨⟨rfl, rfl⟩, by decide, by decide⟩ rfl (Nat.le_of_ble_eq_true rfl) rfl (s_X6_renewR (by assumption) (by assumption) (by assumption)) (Rv.k ?_)
        refine ex_iload_n dX11_row_35 rfl ?_
        refine ex_iret dX11_row_36 rfl rfl ⟨rfl, Nat.le_refl _⟩ ?_
        exact ⟨(by simp only [f_X11_row, h4, h10, h16, if_true, if_false, not_true_eq_false, not_false_eq_true]), (by simp only [f_X11_row, h4, h10, h16, if_true, if_false, not_true_eq_false, not_false_eq_true])⟩
      · skip
        refine ex_aload_n dX11_row_19 rfl ?_
        refine ex_iconst (v := 5) dX11_row_20 (by decide) ?_
        refine rx_cV (kd := 11) dX11_row_21 rfl lk_X11_129 rfl (by decide) (by first | assumption | rfl) ⟨⟨rfl, rfl⟩, by decide, by decide⟩ rfl (Nat.le_of_ble_eq_true rfl) rfl (s_X11_refuse (by decide)) (Rs.k ?_)
        refine ex_iret dX11_row_24 rfl rfl ⟨rfl, Nat.le_refl _⟩ ?_
        exact ⟨(by simp only [f_X11_row, h4, h10, h16, if_true, if_false, not_true_eq_false, not_false_eq_true]), (by simp only [f_X11_row, h4, h10, h16, if_true, if_false, not_true_eq_false, not_false_eq_true])⟩
    · skip
      refine ex_iconst (v := (-1)) dX11_row_13 (by decide) ?_
      refine ex_iret dX11_row_14 rfl rfl ⟨rfl, Nat.le_refl _⟩ ?_
      exact ⟨(by simp only [f_X11_row, h4, h10, if_true, if_false, not_true_eq_false, not_false_eq_true]), (by simp only [f_X11_row, h4, h10, if_true, if_false, not_true_eq_false, not_false_eq_true])⟩
end C9
