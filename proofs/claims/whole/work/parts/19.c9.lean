section C9
variable {G : Gp} {I : Im} {L : Nat → Nat → Int64} {t : Nat}
theorem ly_row_dec : ∀ q, q < 6 → R0 1 q = some (104 + 2 * q) ∧ K0 (104 + 2 * q) = (6, 3) := by decide +kernel
theorem ly_row {q : Nat} (h : q < 6) : Rt t 1 q = some (104 + 2 * q) := by
  unfold Rt
  rw [if_neg (by omega)]
  exact (ly_row_dec q h).1
theorem ky_row {q : Nat} (h : q < 6) : K0 (104 + 2 * q) = (6, 3) := (ly_row_dec q h).2
theorem ly_txt_dec : ∀ q, q < 4 → R0 2 q = some (116 + 2 * q) ∧ K0 (116 + 2 * q) = (4, 3) := by decide +kernel
theorem ly_txt {q : Nat} (h : q < 4) : Rt t 2 q = some (116 + 2 * q) := by
  unfold Rt
  rw [if_neg (by omega)]
  exact (ly_txt_dec q h).1
theorem ky_txt {q : Nat} (h : q < 4) : K0 (116 + 2 * q) = (4, 3) := (ly_txt_dec q h).2
theorem ly_har_dec : ∀ q, q < 4 → R0 3 q = some (124 + 2 * q) ∧ K0 (124 + 2 * q) = (0, 7) := by decide +kernel
theorem ly_har {q : Nat} (h : q < 4) : Rt t 3 q = some (124 + 2 * q) := by
  unfold Rt
  rw [if_neg (by omega)]
  exact (ly_har_dec q h).1
theorem ky_har {q : Nat} (h : q < 4) : K0 (124 + 2 * q) = (0, 7) := (ly_har_dec q h).2
theorem ly_sea_dec : ∀ q, q < 4 → R0 4 q = some (132 + 3 * q) ∧ K0 (132 + 3 * q) = (8, 4) := by decide +kernel
theorem ly_sea {q : Nat} (h : q < 4) : Rt t 4 q = some (132 + 3 * q) := by
  unfold Rt
  rw [if_neg (by omega)]
  exact (ly_sea_dec q h).1
theorem ky_sea {q : Nat} (h : q < 4) : K0 (132 + 3 * q) = (8, 4) := (ly_sea_dec q h).2
theorem ly_shp_dec : ∀ q, q < 3 → R0 5 q = some (144 + q) ∧ K0 (144 + q) = (1, 10) := by decide +kernel
theorem ly_shp {q : Nat} (h : q < 3) : Rt t 5 q = some (144 + q) := by
  unfold Rt
  rw [if_neg (by omega)]
  exact (ly_shp_dec q h).1
theorem ky_shp {q : Nat} (h : q < 3) : K0 (144 + q) = (1, 10) := (ly_shp_dec q h).2
theorem ly_wrk_dec : ∀ q, q < 5 → R0 6 q = some (147 + q) ∧ K0 (147 + q) = (10, 4) := by decide +kernel
theorem ly_wrk {q : Nat} (h : q < 5) : Rt t 6 q = some (147 + q) := by
  unfold Rt
  rw [if_neg (by omega)]
  exact (ly_wrk_dec q h).1
theorem ky_wrk {q : Nat} (h : q < 5) : K0 (147 + q) = (10, 4) := (ly_wrk_dec q h).2
theorem ly_kep_dec : ∀ q, q < 3 → R0 7 q = some (152 + 16 * q) ∧ K0 (152 + 16 * q) = (5, 4) := by decide +kernel
theorem ly_kep {q : Nat} (h : q < 3) : Rt t 7 q = some (152 + 16 * q) := by
  unfold Rt
  rw [if_neg (by omega)]
  exact (ly_kep_dec q h).1
theorem ky_kep {q : Nat} (h : q < 3) : K0 (152 + 16 * q) = (5, 4) := (ly_kep_dec q h).2
theorem cl_lt {x : Int32} {N : Nat} {B : Int32} (hB : B.toInt + 1 = (N : Int)) (h : ¬ b2i (0 ≤ x ∧ x ≤ B) = 0) : x.toNatClampNeg < N ∧ vp_in x N := by
  have h1 := b2i_n0.mp h
  have h2 := Int32.le_iff_toInt_le.mp h1.1
  have h3 := Int32.le_iff_toInt_le.mp h1.2
  have h0 : (0 : Int32).toInt = 0 := by decide
  have hv : vp_in x N := vp_in_iff.mpr ⟨by omega, by omega⟩
  exact ⟨Nat.not_le.mp (fun q => hv (Or.inr q)), hv⟩
theorem cl_b {x : Int32} {N : Nat} {B : Int32} (hB : B.toInt + 1 = (N : Int)) (h : b2i (0 ≤ x ∧ x ≤ B) = 0) : ¬ (0 ≤ x ∧ x ≤ B) := b2i_0.mp h
theorem s_X6_renewR {a : Nat} {n : Int32} (ha : K0 a = (6, 3)) (h0 : 0 ≤ n) (h1 : n ≤ 60) : Ca G mdX6_renew [.ref a, .int n] (mk I L t) (Rv (mk (nuNew I a n.toNatClampNeg) L t)) := by
  obtain ⟨j, hj, rfl⟩ := nI_of (Int32.not_lt.mpr h0)
  rw [nI_clamp hj]
  exact s_X6_renew ha ((nI_leI (b := 60) hj (by decide)).mp h1)
theorem s_X4_renewR {a : Nat} {n : Int32} (ha : K0 a = (4, 3)) (h0 : 0 ≤ n) (h1 : n ≤ 100) : Ca G mdX4_renew [.ref a, .int n] (mk I L t) (Rv (mk (leNew I a n.toNatClampNeg) L t)) := by
  obtain ⟨j, hj, rfl⟩ := nI_of (Int32.not_lt.mpr h0)
  rw [nI_clamp hj]
  exact s_X4_renew ha ((nI_leI (b := 100) hj (by decide)).mp h1)
theorem in_b {x : Int32} {m N : Nat} {y : Int32} (hy : y = nI m) (hm : m ≤ N) (hN : N < 2 ^ 31) (h : ¬ b2i (0 ≤ x ∧ x < y) = 0) : vp_in x N := by
  have h1 := b2i_n0.mp h
  rw [hy] at h1
  have h2 := Int32.le_iff_toInt_le.mp h1.1
  have h3 := Int32.lt_iff_toInt_lt.mp h1.2
  rw [nI_toInt (by omega)] at h3
  have h0 : (0 : Int32).toInt = 0 := by decide
  exact vp_in_iff.mpr ⟨by omega, by omega⟩
def f_X11_refuse (I : Im) (f : Int32) : Int32 × Im :=
  let I1 : Im := up2 I 0 17 f
  if (b2i (1 ≤ f ∧ f ≤ 5)) = 0 then
    ((-3), I1)
  else
    let I2 : Im := up2 I1 102 f.toNatClampNeg ((I1 102 f.toNatClampNeg) + 1)
    ((-3), I2)
set_option maxRecDepth 100000 in
set_option maxHeartbeats 4000000 in
theorem s_X11_refuse  {f : Int32} (hf : vp_in f 6) : Ca G mdX11_refuse [.ref 0, .int f] (mk I L t) (Rs (.int (f_X11_refuse I f).1) (mk ((f_X11_refuse I f).2) L t)) := by
  refine Ca.intro [some (.ref 0), some (.int f)] (by decide) (Nat.le_of_ble_eq_true rfl) rfl rfl ?_
  refine ex_aload_n dX11_refuse_0 rfl ?_
  refine ex_iload_n dX11_refuse_1 rfl ?_
  refine p_11_17 dX11_refuse_2 rfl wf_X11_101 (by first | assumption | rfl) ?_
  refine ex_iload_n dX11_refuse_5 rfl ?_
  refine ex_iconst (v := 1) dX11_refuse_6 (by decide) ?_
  refine ex_iconst (v := 5) dX11_refuse_7 (by decide) ?_
  refine rx_cS dX11_refuse_8 rfl lk_X11_117 ⟨⟨rfl, rfl⟩, by decide, by decide⟩ rfl (Nat.le_of_ble_eq_true rfl) rfl s_X11_within (Rs.k ?_)
  refine ex_if_eq 24 dX11_refuse_11 (by decide) (fun h11 => ?_) (fun h11 => ?_)
  · skip
    refine ex_bipush (v := (-3)) dX11_refuse_24 (by decide) ?_
    refine ex_iret dX11_refuse_26 rfl rfl ⟨rfl, Nat.le_refl _⟩ ?_
    exact ⟨(by simp only [f_X11_refuse, ↓eq_true h11, if_true, if_false, not_true_eq_false, not_false_eq_true]), (by simp only [f_X11_refuse, ↓eq_true h11, if_true, if_false, not_true_eq_false, not_false_eq_true])⟩
  · skip
    refine ex_aload_n dX11_refuse_14 rfl ?_
    refine g_11_15 dX11_refuse_15 rfl wf_X11_94 (by first | assumption | rfl) (show Rt _ 0 15 = some 102 from rfl) ?_
    refine ex_iload_n dX11_refuse_18 rfl ?_
    refine ex_dup2 dX11_refuse_19 rfl rfl ?_
    refine rx_iald dX11_refuse_20 (by first | assumption | rfl) (by first | assumption | (unfold vp_in; decide)) ?_
    refine ex_iconst (v := 1) dX11_refuse_21 (by decide) ?_
    refine ex_iadd dX11_refuse_22 ?_
    refine rx_iast dX11_refuse_23 (by first | assumption | rfl) (by first | assumption | (unfold vp_in; decide)) ?_
    refine ex_bipush (v := (-3)) dX11_refuse_24 (by decide) ?_
    refine ex_iret dX11_refuse_26 rfl rfl ⟨rfl, Nat.le_refl _⟩ ?_
    exact ⟨(by simp only [f_X11_refuse, ↓eq_false h11, if_true, if_false, not_true_eq_false, not_false_eq_true]), (by simp only [f_X11_refuse, ↓eq_false h11, if_true, if_false, not_true_eq_false, not_false_eq_true])⟩
def f_X11_tell (I : Im) (w : Int32) (a : Int32) : Int32 × Im :=
  let I1 : Im := up2 I 0 18 w
  (a, I1)
set_option maxRecDepth 100000 in
set_option maxHeartbeats 4000000 in
theorem s_X11_tell  {w : Int32} {a : Int32}  : Ca G mdX11_tell [.ref 0, .int w, .int a] (mk I L t) (Rs (.int (f_X11_tell I w a).1) (mk ((f_X11_tell I w a).2) L t)) := by
  refine Ca.intro [some (.ref 0), some (.int w), some (.int a)] (by decide) (Nat.le_of_ble_eq_true rfl) rfl rfl ?_
  refine ex_aload_n dX11_tell_0 rfl ?_
  refine ex_iload_n dX11_tell_1 rfl ?_
  refine p_11_18 dX11_tell_2 rfl wf_X11_104 (by first | assumption | rfl) ?_
  refine ex_iload_n dX11_tell_5 rfl ?_
  refine ex_iret dX11_tell_6 rfl rfl ⟨rfl, Nat.le_refl _⟩ ?_
  exact ⟨(by simp only [f_X11_tell, if_true, if_false, not_true_eq_false, not_false_eq_true]), (by simp only [f_X11_tell, if_true, if_false, not_true_eq_false, not_false_eq_true])⟩
def f_X11_row (I : Im) (r : Int32) (n : Int32) : Int32 × Im :=
  if (b2i (0 ≤ r ∧ r ≤ 5)) = 0 then
    ((-1), I)
  else
    if n ≤ 60 then
      if 0 ≤ n then
        let I1 : Im := nuNew I (104 + 2 * r.toNatClampNeg) n.toNatClampNeg
        (n, I1)
      else
        let I2 : Im := (f_X11_refuse I 5).2
        ((f_X11_refuse I 5).1, I2)
    else
      ((-1), I)
set_option maxRecDepth 100000 in
set_option maxHeartbeats 4000000 in
theorem s_X11_row  {r : Int32} {n : Int32}  : Ca G mdX11_row [.ref 0, .int r, .int n] (mk I L t) (Rs (.int (f_X11_row I r n).1) (mk ((f_X11_row I r n).2) L t)) := by
  refine Ca.intro [some (.ref 0), some (.int r), some (.int n)] (by decide) (Nat.le_of_ble_eq_true rfl) rfl rfl ?_
  refine ex_iload_n dX11_row_0 rfl ?_
  refine rx_cS dX11_row_1 rfl lk_X11_125 ⟨⟨rfl, rfl⟩, by decide, by decide⟩ rfl (Nat.le_of_ble_eq_true rfl) rfl s_X11_isRow (Rs.k ?_)
  refine ex_if_eq 13 dX11_row_4 (by decide) (fun h4 => ?_) (fun h4 => ?_)
  · skip
    refine ex_iconst (v := (-1)) dX11_row_13 (by decide) ?_
    refine ex_iret dX11_row_14 rfl rfl ⟨rfl, Nat.le_refl _⟩ ?_
    exact ⟨(by simp only [f_X11_row, ↓eq_true h4, if_true, if_false, not_true_eq_false, not_false_eq_true]), (by simp only [f_X11_row, ↓eq_true h4, if_true, if_false, not_true_eq_false, not_false_eq_true])⟩
  · have qr := (cl_lt (N := 6) (by decide) h4).1
    have vr := (cl_lt (N := 6) (by decide) h4).2
    have kr := ky_row qr
    have lr := ly_row (t := t) qr
    refine ex_iload_n dX11_row_7 rfl ?_
    refine ex_bipush (v := 60) dX11_row_8 (by decide) ?_
    refine ex_icmp_le 15 dX11_row_10 (by decide) (fun h10 => ?_) (fun h10 => ?_)
    · skip
      refine ex_iload_n dX11_row_15 rfl ?_
      refine ex_if_ge 25 dX11_row_16 (by decide) (fun h16 => ?_) (fun h16 => ?_)
      · skip
        refine ex_aload_n dX11_row_25 rfl ?_
        refine g_11_0 dX11_row_26 rfl wf_X11_11 (by first | assumption | rfl) (show Rt _ 0 0 = some 1 from rfl) ?_
        refine ex_iload_n dX11_row_29 rfl ?_
        refine rx_aald dX11_row_30 (by first | assumption | rfl) (by decide) rfl (by first | assumption | (unfold vp_in; decide)) (by first | assumption | rfl) ?_
        refine ex_iload_n dX11_row_31 rfl ?_
        refine rx_cV (kd := 6) dX11_row_32 rfl lk_X11_133 rfl (by decide) (by first | assumption | rfl) ⟨⟨rfl, rfl⟩, by decide, by decide⟩ rfl (Nat.le_of_ble_eq_true rfl) rfl (s_X6_renewR (by assumption) (by assumption) (by assumption)) (Rv.k ?_)
        refine ex_iload_n dX11_row_35 rfl ?_
        refine ex_iret dX11_row_36 rfl rfl ⟨rfl, Nat.le_refl _⟩ ?_
        exact ⟨(by simp only [f_X11_row, ↓eq_false h4, ↓h10, ↓h16, if_true, if_false, not_true_eq_false, not_false_eq_true]), (by simp only [f_X11_row, ↓eq_false h4, ↓h10, ↓h16, if_true, if_false, not_true_eq_false, not_false_eq_true])⟩
      · skip
        refine ex_aload_n dX11_row_19 rfl ?_
        refine ex_iconst (v := 5) dX11_row_20 (by decide) ?_
        refine rx_cV (kd := 11) dX11_row_21 rfl lk_X11_129 rfl (by decide) (by first | assumption | rfl) ⟨⟨rfl, rfl⟩, by decide, by decide⟩ rfl (Nat.le_of_ble_eq_true rfl) rfl (s_X11_refuse (by unfold vp_in; decide)) (Rs.k ?_)
        refine ex_iret dX11_row_24 rfl rfl ⟨rfl, Nat.le_refl _⟩ ?_
        exact ⟨(by simp only [f_X11_row, ↓eq_false h4, ↓h10, ↓h16, if_true, if_false, not_true_eq_false, not_false_eq_true]), (by simp only [f_X11_row, ↓eq_false h4, ↓h10, ↓h16, if_true, if_false, not_true_eq_false, not_false_eq_true])⟩
    · skip
      refine ex_iconst (v := (-1)) dX11_row_13 (by decide) ?_
      refine ex_iret dX11_row_14 rfl rfl ⟨rfl, Nat.le_refl _⟩ ?_
      exact ⟨(by simp only [f_X11_row, ↓eq_false h4, ↓h10, if_true, if_false, not_true_eq_false, not_false_eq_true]), (by simp only [f_X11_row, ↓eq_false h4, ↓h10, if_true, if_false, not_true_eq_false, not_false_eq_true])⟩
def RowS (I : Im) : Prop := ∀ q, q < 6 → ∃ m, m ≤ 60 ∧ I (104 + 2 * q) 1 = nI m
def TxtS (I : Im) : Prop := ∀ q, q < 4 → ∃ m, m ≤ 100 ∧ I (116 + 2 * q) 1 = nI m
def BW (I : Im) (a : Nat) : Prop := (I a 1 = 0 ∨ I a 1 = 1) ∧ (¬ I a 1 = 0 → ∃ n, 3 ≤ n ∧ n ≤ 16 ∧ I a 2 = nI n)
def SW (I : Im) (a : Nat) : Prop := (I a 2 = 0 ∨ I a 2 = 1) ∧ ∃ c, c ≤ 4 ∧ I a 3 = nI c
def NW (I : Im) (a : Nat) : Prop := (I a 3 = 0 ∨ I a 3 = 1) ∧ (¬ I a 3 = 0 → I a 2 = nI 3 ∧ (∃ n, 3 ≤ n ∧ n ≤ 16 ∧ I (a + 2) 2 = nI n) ∧ (∃ c, c ≤ 4 ∧ I (a + 4) 3 = nI c) ∧ (I (a + 2) 1 = 0 ∨ I (a + 2) 1 = 1) ∧ (I (a + 4) 2 = 0 ∨ I (a + 4) 2 = 1) ∧ ∀ i, i < 3 → I (a + 13 + i) 0 = 0 ∨ I (a + 13 + i) 0 = 1)
def HarS (I : Im) : Prop := ∀ q, q < 4 → BW I (124 + 2 * q)
def SeaS (I : Im) : Prop := ∀ q, q < 4 → SW I (132 + 3 * q)
def ShpS (I : Im) : Prop := ∀ q, q < 3 → I (144 + q) 0 = 0 ∨ I (144 + q) 0 = 1
def hasR (i n y : Int32) : Int32 := b2i (0 ≤ i ∧ 0 ≤ n ∧ i ≤ y - n)
theorem s_X6_hasRunR {a : Nat} {i n : Int32} (ha : K0 a = (6, 3)) : Ca G mdX6_hasRun [.ref a, .int i, .int n] (mk I L t) (Rs (.int (hasR i n (I a 1))) (mk I L t)) := s_X6_hasRun ha
theorem run_in {i n y : Int32} {m : Nat} (hy : y = nI m) (hm : m ≤ 60) (h : ¬ hasR i n y = 0) : ¬ i < 0 ∧ ¬ n < 0 ∧ i.toNatClampNeg + n.toNatClampNeg ≤ 59 + 1 := by
  obtain ⟨h0, h1, h2⟩ := b2i_n0.mp h
  obtain ⟨a, ha, rfl⟩ := nI_of (Int32.not_lt.mpr h0)
  obtain ⟨b, hb, rfl⟩ := nI_of (Int32.not_lt.mpr h1)
  subst hy
  have h3 := Int32.le_iff_toInt_le.mp h2
  rw [nI_toInt ha, Int32.toInt_sub, nI_toInt (by omega), nI_toInt hb, Int.bmod_eq_of_le (by omega) (by omega)] at h3
  rw [nI_clamp ha, nI_clamp hb]
  exact ⟨Int32.not_lt.mpr h0, Int32.not_lt.mpr h1, by omega⟩
theorem s_X6_sumR {a : Nat} (ha : K0 a = (6, 3)) (h : ∃ m, m ≤ 60 ∧ I a 1 = nI m) : Ca G mdX6_sum [.ref a] (mk I L t) (Rs (.long (sumL (I (a + 1)) (I a 1).toNatClampNeg)) (mk I L t)) := by
  obtain ⟨m, hm, e⟩ := h
  rw [e, nI_clamp (by omega)]
  exact s_X6_sum ha hm e
theorem sz_ne {y : Int32} {m : Nat} (e : y = nI m) (hm : m ≤ 60) (h : 1 ≤ y) : ¬ y.toInt64 = 0 := by
  subst e
  have h1 := (nI_leI (a := 1) (by decide) (by omega)).mp h
  rw [nI_l (by omega)]
  intro q
  have := (lN_eq (b := 0) (by omega) (by decide)).mp q
  omega
theorem s_X7_readHarbourR {b : Nat} (hb : K0 b = (4, 3)) (h : ∃ m, m ≤ 100 ∧ I b 1 = nI m) : Ca G mdX7_readHarbour [.ref 85, .ref b] (mk I L t) (Rs (.int (readH I b (I b 1).toNatClampNeg).1) (mk (rdM (readH I b (I b 1).toNatClampNeg).2.2 (readH I b (I b 1).toNatClampNeg).2.1) L b)) := by
  obtain ⟨m, hm, e⟩ := h
  rw [e, nI_clamp (by omega)]
  exact s_X7_readHarbour hb e hm
theorem s_X7_readSeaR {b : Nat} (hb : K0 b = (4, 3)) (h : ∃ m, m ≤ 100 ∧ I b 1 = nI m) : Ca G mdX7_readSea [.ref 85, .ref b] (mk I L t) (Rs (.int (readS I b (I b 1).toNatClampNeg).1) (mk (rdM (readS I b (I b 1).toNatClampNeg).2.2 (readS I b (I b 1).toNatClampNeg).2.1) L b)) := by
  obtain ⟨m, hm, e⟩ := h
  rw [e, nI_clamp (by omega)]
  exact s_X7_readSea hb e hm
theorem itE_1 {x : It} : itE I x 86 1 = I 86 1 := by
  unfold itE
  repeat' split
  all_goals first | rfl | (simp [up2]; done) | skip
  unfold baWall
  split
  · simp [up2]
  · rfl
theorem rdH_1 {f : Nat → Int32} {n m : Nat} : ∀ k p (J : Im), (rdH f n m k p J).2.2 86 1 = J 86 1 := by
  intro k
  induction k with
  | zero => intro p J; rfl
  | succ k ih =>
    intro p J
    unfold rdH
    split
    · rfl
    · split
      · rw [ih, itE_1]
      · exact itE_1
theorem baNew_1 {a : Nat} : baNew I a a 1 = 1 := by
  unfold baNew
  rw [fill_off (by omega)]
  simp [up2]
theorem readH_1 {b m : Nat} : (readH I b m).2.2 86 1 = 1 := by
  unfold readH
  dsimp only
  split
  · split
    · show baNew I 86 86 1 = 1
      exact baNew_1
    · rw [rdH_1]
      simp [up2, baNew_1]
  · show baNew I 86 86 1 = 1
    exact baNew_1
theorem itSE_2 {x : It} {c : Nat} : itSE I c x 88 2 = I 88 2 := by
  unfold itSE swAdd
  split
  · simp [up2]
  · rfl
theorem rdS_2 {f : Nat → Int32} {m : Nat} : ∀ k p c (J : Im), (rdS f m k p c J).2.2 88 2 = J 88 2 := by
  intro k
  induction k with
  | zero => intro p c J; rfl
  | succ k ih =>
    intro p c J
    unfold rdS
    split
    · rfl
    · split
      · rw [ih, itSE_2]
      · exact itSE_2
theorem readS_2 {b m : Nat} : (readS I b m).2.2 88 2 = 1 := by
  unfold readS
  rw [rdS_2]
  simp [swNew, up2]
theorem s_X0_factR {a : Nat} {w : Int32} (ha : K0 a = (0, 7)) (h : ¬ b2i (0 ≤ w ∧ w ≤ 20) = 0) : Ca G mdX0_fact [.ref a, .int w] (mk I L t) (Rs (.int (facF I a w.toNatClampNeg)) (mk I L t)) := by
  obtain ⟨h0, h1⟩ := b2i_n0.mp h
  obtain ⟨j, hj, rfl⟩ := nI_of (Int32.not_lt.mpr h0)
  rw [nI_clamp hj]
  exact s_X0_fact ha ((nI_leI (b := 20) hj (by decide)).mp h1)
theorem in4 {i y : Int32} (h : ¬ b2i (0 ≤ i ∧ i < y ∧ i < 4) = 0) : vp_in i 4 := by
  obtain ⟨h0, -, h1⟩ := b2i_n0.mp h
  rw [vp_in_iff]
  have a1 := Int32.le_iff_toInt_le.mp h0
  have a2 := Int32.lt_iff_toInt_lt.mp h1
  have : (4 : Int32).toInt = 4 := by decide
  have : (0 : Int32).toInt = 0 := by decide
  omega
def f_X11_lay (I : Im) (r : Int32) (i : Int32) (v : Int32) : Int32 × Im :=
  if (b2i (0 ≤ r ∧ r ≤ 5)) = 0 then
    ((-1), I)
  else
    if (I (104 + 2 * r.toNatClampNeg) 2) = 0 then
      let I4 : Im := (f_X11_refuse I 1).2
      ((f_X11_refuse I 1).1, I4)
    else
      if (b2i (0 ≤ i ∧ i < I (104 + 2 * r.toNatClampNeg) 1)) = 0 then
        let I3 : Im := (f_X11_refuse I 2).2
        ((f_X11_refuse I 2).1, I3)
      else
        let I1 : Im := up2 I 0 18 (I (104 + 2 * r.toNatClampNeg + 1) i.toNatClampNeg)
        let I2 : Im := up2 I1 (104 + 2 * r.toNatClampNeg + 1) i.toNatClampNeg v
        (1, I2)
set_option maxRecDepth 100000 in
set_option maxHeartbeats 4000000 in
theorem s_X11_lay  {r : Int32} {i : Int32} {v : Int32} (hRow : RowS I) : Ca G mdX11_lay [.ref 0, .int r, .int i, .int v] (mk I L t) (Rs (.int (f_X11_lay I r i v).1) (mk ((f_X11_lay I r i v).2) L t)) := by
  refine Ca.intro [some (.ref 0), some (.int r), some (.int i), some (.int v)] (by decide) (Nat.le_of_ble_eq_true rfl) rfl rfl ?_
  refine ex_iload_n dX11_lay_0 rfl ?_
  refine rx_cS dX11_lay_1 rfl lk_X11_125 ⟨⟨rfl, rfl⟩, by decide, by decide⟩ rfl (Nat.le_of_ble_eq_true rfl) rfl s_X11_isRow (Rs.k ?_)
  refine ex_if_ne 9 dX11_lay_4 (by decide) (fun h4 => ?_) (fun h4 => ?_)
  · have qr := (cl_lt (N := 6) (by decide) h4).1
    have vr := (cl_lt (N := 6) (by decide) h4).2
    have kr := ky_row qr
    have lr := ly_row (t := t) qr
    have kp := (lay6 kr).2
    refine ex_aload_n dX11_lay_9 rfl ?_
    refine g_11_0 dX11_lay_10 rfl wf_X11_11 (by first | assumption | rfl) (show Rt _ 0 0 = some 1 from rfl) ?_
    refine ex_iload_n dX11_lay_13 rfl ?_
    refine rx_aald dX11_lay_14 (by first | assumption | rfl) (by decide) rfl (by first | assumption | (unfold vp_in; decide)) (by first | assumption | rfl) ?_
    refine g_6_2 dX11_lay_15 rfl wf_X11_136 (by first | assumption | rfl) ?_
    refine ex_if_ne 27 dX11_lay_18 (by decide) (fun h18 => ?_) (fun h18 => ?_)
    · skip
      refine ex_aload_n dX11_lay_27 rfl ?_
      refine g_11_0 dX11_lay_28 rfl wf_X11_11 (by first | assumption | rfl) (show Rt _ 0 0 = some 1 from rfl) ?_
      refine ex_iload_n dX11_lay_31 rfl ?_
      refine rx_aald dX11_lay_32 (by first | assumption | rfl) (by decide) rfl (by first | assumption | (unfold vp_in; decide)) (by first | assumption | rfl) ?_
      refine ex_iload_n dX11_lay_33 rfl ?_
      refine rx_cV (kd := 6) dX11_lay_34 rfl lk_X11_137 rfl (by decide) (by first | assumption | rfl) ⟨⟨rfl, rfl⟩, by decide, by decide⟩ rfl (Nat.le_of_ble_eq_true rfl) rfl (s_X6_has (by assumption)) (Rs.k ?_)
      refine ex_if_ne 46 dX11_lay_37 (by decide) (fun h37 => ?_) (fun h37 => ?_)
      · obtain ⟨mr, hmr, er⟩ := hRow _ qr
        have vi := in_b er hmr (by decide) h37
        refine ex_aload_n dX11_lay_46 rfl ?_
        refine ex_aload_n dX11_lay_47 rfl ?_
        refine g_11_0 dX11_lay_48 rfl wf_X11_11 (by first | assumption | rfl) (show Rt _ 0 0 = some 1 from rfl) ?_
        refine ex_iload_n dX11_lay_51 rfl ?_
        refine rx_aald dX11_lay_52 (by first | assumption | rfl) (by decide) rfl (by first | assumption | (unfold vp_in; decide)) (by first | assumption | rfl) ?_
        refine g_6_0 dX11_lay_53 rfl wf_X11_140 (by first | assumption | rfl) (layR_6_0 (by first | assumption | rfl)) ?_
        refine ex_iload_n dX11_lay_56 rfl ?_
        refine rx_iald dX11_lay_57 (by first | assumption | rfl) (by first | assumption | (unfold vp_in; decide)) ?_
        refine p_11_18 dX11_lay_58 rfl wf_X11_104 (by first | assumption | rfl) ?_
        refine ex_aload_n dX11_lay_61 rfl ?_
        refine g_11_0 dX11_lay_62 rfl wf_X11_11 (by first | assumption | rfl) (show Rt _ 0 0 = some 1 from rfl) ?_
        refine ex_iload_n dX11_lay_65 rfl ?_
        refine rx_aald dX11_lay_66 (by first | assumption | rfl) (by decide) rfl (by first | assumption | (unfold vp_in; decide)) (by first | assumption | rfl) ?_
        refine g_6_0 dX11_lay_67 rfl wf_X11_140 (by first | assumption | rfl) (layR_6_0 (by first | assumption | rfl)) ?_
        refine ex_iload_n dX11_lay_70 rfl ?_
        refine ex_iload_n dX11_lay_71 rfl ?_
        refine rx_iast dX11_lay_72 (by first | assumption | rfl) (by first | assumption | (unfold vp_in; decide)) ?_
        refine ex_iconst (v := 1) dX11_lay_73 (by decide) ?_
        refine ex_iret dX11_lay_74 rfl rfl ⟨rfl, Nat.le_refl _⟩ ?_
        exact ⟨(by simp only [f_X11_lay, ↓eq_false h4, ↓eq_false h18, ↓eq_false h37, if_true, if_false, not_true_eq_false, not_false_eq_true]), (by simp only [f_X11_lay, ↓eq_false h4, ↓eq_false h18, ↓eq_false h37, if_true, if_false, not_true_eq_false, not_false_eq_true])⟩
      · skip
        refine ex_aload_n dX11_lay_40 rfl ?_
        refine ex_iconst (v := 2) dX11_lay_41 (by decide) ?_
        refine rx_cV (kd := 11) dX11_lay_42 rfl lk_X11_129 rfl (by decide) (by first | assumption | rfl) ⟨⟨rfl, rfl⟩, by decide, by decide⟩ rfl (Nat.le_of_ble_eq_true rfl) rfl (s_X11_refuse (by unfold vp_in; decide)) (Rs.k ?_)
        refine ex_iret dX11_lay_45 rfl rfl ⟨rfl, Nat.le_refl _⟩ ?_
        exact ⟨(by simp only [f_X11_lay, ↓eq_false h4, ↓eq_false h18, ↓eq_true h37, if_true, if_false, not_true_eq_false, not_false_eq_true]), (by simp only [f_X11_lay, ↓eq_false h4, ↓eq_false h18, ↓eq_true h37, if_true, if_false, not_true_eq_false, not_false_eq_true])⟩
    · skip
      refine ex_aload_n dX11_lay_21 rfl ?_
      refine ex_iconst (v := 1) dX11_lay_22 (by decide) ?_
      refine rx_cV (kd := 11) dX11_lay_23 rfl lk_X11_129 rfl (by decide) (by first | assumption | rfl) ⟨⟨rfl, rfl⟩, by decide, by decide⟩ rfl (Nat.le_of_ble_eq_true rfl) rfl (s_X11_refuse (by unfold vp_in; decide)) (Rs.k ?_)
      refine ex_iret dX11_lay_26 rfl rfl ⟨rfl, Nat.le_refl _⟩ ?_
      exact ⟨(by simp only [f_X11_lay, ↓eq_false h4, ↓eq_true h18, if_true, if_false, not_true_eq_false, not_false_eq_true]), (by simp only [f_X11_lay, ↓eq_false h4, ↓eq_true h18, if_true, if_false, not_true_eq_false, not_false_eq_true])⟩
  · skip
    refine ex_iconst (v := (-1)) dX11_lay_7 (by decide) ?_
    refine ex_iret dX11_lay_8 rfl rfl ⟨rfl, Nat.le_refl _⟩ ?_
    exact ⟨(by simp only [f_X11_lay, ↓eq_true h4, if_true, if_false, not_true_eq_false, not_false_eq_true]), (by simp only [f_X11_lay, ↓eq_true h4, if_true, if_false, not_true_eq_false, not_false_eq_true])⟩
def f_X11_at (I : Im) (r : Int32) (i : Int32) : Int32 × Im :=
  if (b2i (0 ≤ r ∧ r ≤ 5)) = 0 then
    ((-1), I)
  else
    if (I (104 + 2 * r.toNatClampNeg) 2) = 0 then
      let I3 : Im := (f_X11_refuse I 1).2
      ((f_X11_refuse I 1).1, I3)
    else
      if (b2i (0 ≤ i ∧ i < I (104 + 2 * r.toNatClampNeg) 1)) = 0 then
        let I2 : Im := (f_X11_refuse I 2).2
        ((f_X11_refuse I 2).1, I2)
      else
        let I1 : Im := (f_X11_tell I (I (104 + 2 * r.toNatClampNeg + 1) i.toNatClampNeg) 1).2
        ((f_X11_tell I (I (104 + 2 * r.toNatClampNeg + 1) i.toNatClampNeg) 1).1, I1)
set_option maxRecDepth 100000 in
set_option maxHeartbeats 4000000 in
theorem s_X11_at  {r : Int32} {i : Int32} (hRow : RowS I) : Ca G mdX11_at [.ref 0, .int r, .int i] (mk I L t) (Rs (.int (f_X11_at I r i).1) (mk ((f_X11_at I r i).2) L t)) := by
  refine Ca.intro [some (.ref 0), some (.int r), some (.int i)] (by decide) (Nat.le_of_ble_eq_true rfl) rfl rfl ?_
  refine ex_iload_n dX11_at_0 rfl ?_
  refine rx_cS dX11_at_1 rfl lk_X11_125 ⟨⟨rfl, rfl⟩, by decide, by decide⟩ rfl (Nat.le_of_ble_eq_true rfl) rfl s_X11_isRow (Rs.k ?_)
  refine ex_if_ne 9 dX11_at_4 (by decide) (fun h4 => ?_) (fun h4 => ?_)
  · have qr := (cl_lt (N := 6) (by decide) h4).1
    have vr := (cl_lt (N := 6) (by decide) h4).2
    have kr := ky_row qr
    have lr := ly_row (t := t) qr
    have kp := (lay6 kr).2
    refine ex_aload_n dX11_at_9 rfl ?_
    refine g_11_0 dX11_at_10 rfl wf_X11_11 (by first | assumption | rfl) (show Rt _ 0 0 = some 1 from rfl) ?_
    refine ex_iload_n dX11_at_13 rfl ?_
    refine rx_aald dX11_at_14 (by first | assumption | rfl) (by decide) rfl (by first | assumption | (unfold vp_in; decide)) (by first | assumption | rfl) ?_
    refine g_6_2 dX11_at_15 rfl wf_X11_136 (by first | assumption | rfl) ?_
    refine ex_if_ne 27 dX11_at_18 (by decide) (fun h18 => ?_) (fun h18 => ?_)
    · skip
      refine ex_aload_n dX11_at_27 rfl ?_
      refine g_11_0 dX11_at_28 rfl wf_X11_11 (by first | assumption | rfl) (show Rt _ 0 0 = some 1 from rfl) ?_
      refine ex_iload_n dX11_at_31 rfl ?_
      refine rx_aald dX11_at_32 (by first | assumption | rfl) (by decide) rfl (by first | assumption | (unfold vp_in; decide)) (by first | assumption | rfl) ?_
      refine ex_iload_n dX11_at_33 rfl ?_
      refine rx_cV (kd := 6) dX11_at_34 rfl lk_X11_137 rfl (by decide) (by first | assumption | rfl) ⟨⟨rfl, rfl⟩, by decide, by decide⟩ rfl (Nat.le_of_ble_eq_true rfl) rfl (s_X6_has (by assumption)) (Rs.k ?_)
      refine ex_if_ne 46 dX11_at_37 (by decide) (fun h37 => ?_) (fun h37 => ?_)
      · obtain ⟨mr, hmr, er⟩ := hRow _ qr
        have vi := in_b er hmr (by decide) h37
        refine ex_aload_n dX11_at_46 rfl ?_
        refine ex_aload_n dX11_at_47 rfl ?_
        refine g_11_0 dX11_at_48 rfl wf_X11_11 (by first | assumption | rfl) (show Rt _ 0 0 = some 1 from rfl) ?_
        refine ex_iload_n dX11_at_51 rfl ?_
        refine rx_aald dX11_at_52 (by first | assumption | rfl) (by decide) rfl (by first | assumption | (unfold vp_in; decide)) (by first | assumption | rfl) ?_
        refine g_6_0 dX11_at_53 rfl wf_X11_140 (by first | assumption | rfl) (layR_6_0 (by first | assumption | rfl)) ?_
        refine ex_iload_n dX11_at_56 rfl ?_
        refine rx_iald dX11_at_57 (by first | assumption | rfl) (by first | assumption | (unfold vp_in; decide)) ?_
        refine ex_iconst (v := 1) dX11_at_58 (by decide) ?_
        refine rx_cV (kd := 11) dX11_at_59 rfl lk_X11_143 rfl (by decide) (by first | assumption | rfl) ⟨⟨rfl, rfl⟩, by decide, by decide⟩ rfl (Nat.le_of_ble_eq_true rfl) rfl s_X11_tell (Rs.k ?_)
        refine ex_iret dX11_at_62 rfl rfl ⟨rfl, Nat.le_refl _⟩ ?_
        exact ⟨(by simp only [f_X11_at, ↓eq_false h4, ↓eq_false h18, ↓eq_false h37, if_true, if_false, not_true_eq_false, not_false_eq_true]), (by simp only [f_X11_at, ↓eq_false h4, ↓eq_false h18, ↓eq_false h37, if_true, if_false, not_true_eq_false, not_false_eq_true])⟩
      · skip
        refine ex_aload_n dX11_at_40 rfl ?_
        refine ex_iconst (v := 2) dX11_at_41 (by decide) ?_
        refine rx_cV (kd := 11) dX11_at_42 rfl lk_X11_129 rfl (by decide) (by first | assumption | rfl) ⟨⟨rfl, rfl⟩, by decide, by decide⟩ rfl (Nat.le_of_ble_eq_true rfl) rfl (s_X11_refuse (by unfold vp_in; decide)) (Rs.k ?_)
        refine ex_iret dX11_at_45 rfl rfl ⟨rfl, Nat.le_refl _⟩ ?_
        exact ⟨(by simp only [f_X11_at, ↓eq_false h4, ↓eq_false h18, ↓eq_true h37, if_true, if_false, not_true_eq_false, not_false_eq_true]), (by simp only [f_X11_at, ↓eq_false h4, ↓eq_false h18, ↓eq_true h37, if_true, if_false, not_true_eq_false, not_false_eq_true])⟩
    · skip
      refine ex_aload_n dX11_at_21 rfl ?_
      refine ex_iconst (v := 1) dX11_at_22 (by decide) ?_
      refine rx_cV (kd := 11) dX11_at_23 rfl lk_X11_129 rfl (by decide) (by first | assumption | rfl) ⟨⟨rfl, rfl⟩, by decide, by decide⟩ rfl (Nat.le_of_ble_eq_true rfl) rfl (s_X11_refuse (by unfold vp_in; decide)) (Rs.k ?_)
      refine ex_iret dX11_at_26 rfl rfl ⟨rfl, Nat.le_refl _⟩ ?_
      exact ⟨(by simp only [f_X11_at, ↓eq_false h4, ↓eq_true h18, if_true, if_false, not_true_eq_false, not_false_eq_true]), (by simp only [f_X11_at, ↓eq_false h4, ↓eq_true h18, if_true, if_false, not_true_eq_false, not_false_eq_true])⟩
  · skip
    refine ex_iconst (v := (-1)) dX11_at_7 (by decide) ?_
    refine ex_iret dX11_at_8 rfl rfl ⟨rfl, Nat.le_refl _⟩ ?_
    exact ⟨(by simp only [f_X11_at, ↓eq_true h4, if_true, if_false, not_true_eq_false, not_false_eq_true]), (by simp only [f_X11_at, ↓eq_true h4, if_true, if_false, not_true_eq_false, not_false_eq_true])⟩
def f_X11_tear (I : Im) (r : Int32) : Int32 × Im :=
  if (b2i (0 ≤ r ∧ r ≤ 5)) = 0 then
    ((-1), I)
  else
    if (I (104 + 2 * r.toNatClampNeg) 2) = 0 then
      let I2 : Im := (f_X11_refuse I 1).2
      ((f_X11_refuse I 1).1, I2)
    else
      let I1 : Im := up2 I (104 + 2 * r.toNatClampNeg) 2 0
      (1, I1)
set_option maxRecDepth 100000 in
set_option maxHeartbeats 4000000 in
theorem s_X11_tear  {r : Int32}  : Ca G mdX11_tear [.ref 0, .int r] (mk I L t) (Rs (.int (f_X11_tear I r).1) (mk ((f_X11_tear I r).2) L t)) := by
  refine Ca.intro [some (.ref 0), some (.int r)] (by decide) (Nat.le_of_ble_eq_true rfl) rfl rfl ?_
  refine ex_iload_n dX11_tear_0 rfl ?_
  refine rx_cS dX11_tear_1 rfl lk_X11_125 ⟨⟨rfl, rfl⟩, by decide, by decide⟩ rfl (Nat.le_of_ble_eq_true rfl) rfl s_X11_isRow (Rs.k ?_)
  refine ex_if_ne 9 dX11_tear_4 (by decide) (fun h4 => ?_) (fun h4 => ?_)
  · have qr := (cl_lt (N := 6) (by decide) h4).1
    have vr := (cl_lt (N := 6) (by decide) h4).2
    have kr := ky_row qr
    have lr := ly_row (t := t) qr
    have kp := (lay6 kr).2
    refine ex_aload_n dX11_tear_9 rfl ?_
    refine g_11_0 dX11_tear_10 rfl wf_X11_11 (by first | assumption | rfl) (show Rt _ 0 0 = some 1 from rfl) ?_
    refine ex_iload_n dX11_tear_13 rfl ?_
    refine rx_aald dX11_tear_14 (by first | assumption | rfl) (by decide) rfl (by first | assumption | (unfold vp_in; decide)) (by first | assumption | rfl) ?_
    refine g_6_2 dX11_tear_15 rfl wf_X11_136 (by first | assumption | rfl) ?_
    refine ex_if_ne 27 dX11_tear_18 (by decide) (fun h18 => ?_) (fun h18 => ?_)
    · skip
      refine ex_aload_n dX11_tear_27 rfl ?_
      refine g_11_0 dX11_tear_28 rfl wf_X11_11 (by first | assumption | rfl) (show Rt _ 0 0 = some 1 from rfl) ?_
      refine ex_iload_n dX11_tear_31 rfl ?_
      refine rx_aald dX11_tear_32 (by first | assumption | rfl) (by decide) rfl (by first | assumption | (unfold vp_in; decide)) (by first | assumption | rfl) ?_
      refine ex_iconst (v := 0) dX11_tear_33 (by decide) ?_
      refine p_6_2 dX11_tear_34 rfl wf_X11_136 ⟨rfl, rfl⟩ (by first | assumption | rfl) ?_
      refine ex_iconst (v := 1) dX11_tear_37 (by decide) ?_
      refine ex_iret dX11_tear_38 rfl rfl ⟨rfl, Nat.le_refl _⟩ ?_
      exact ⟨(by simp only [f_X11_tear, ↓eq_false h4, ↓eq_false h18, if_true, if_false, not_true_eq_false, not_false_eq_true]), (by simp only [f_X11_tear, ↓eq_false h4, ↓eq_false h18, if_true, if_false, not_true_eq_false, not_false_eq_true])⟩
    · skip
      refine ex_aload_n dX11_tear_21 rfl ?_
      refine ex_iconst (v := 1) dX11_tear_22 (by decide) ?_
      refine rx_cV (kd := 11) dX11_tear_23 rfl lk_X11_129 rfl (by decide) (by first | assumption | rfl) ⟨⟨rfl, rfl⟩, by decide, by decide⟩ rfl (Nat.le_of_ble_eq_true rfl) rfl (s_X11_refuse (by unfold vp_in; decide)) (Rs.k ?_)
      refine ex_iret dX11_tear_26 rfl rfl ⟨rfl, Nat.le_refl _⟩ ?_
      exact ⟨(by simp only [f_X11_tear, ↓eq_false h4, ↓eq_true h18, if_true, if_false, not_true_eq_false, not_false_eq_true]), (by simp only [f_X11_tear, ↓eq_false h4, ↓eq_true h18, if_true, if_false, not_true_eq_false, not_false_eq_true])⟩
  · skip
    refine ex_iconst (v := (-1)) dX11_tear_7 (by decide) ?_
    refine ex_iret dX11_tear_8 rfl rfl ⟨rfl, Nat.le_refl _⟩ ?_
    exact ⟨(by simp only [f_X11_tear, ↓eq_true h4, if_true, if_false, not_true_eq_false, not_false_eq_true]), (by simp only [f_X11_tear, ↓eq_true h4, if_true, if_false, not_true_eq_false, not_false_eq_true])⟩
def f_X11_copy (I : Im) (r : Int32) (i : Int32) (s : Int32) (j : Int32) (n : Int32) : Int32 × Im :=
  if (b2i (0 ≤ r ∧ r ≤ 5)) = 0 then
    ((-1), I)
  else
    if (b2i (0 ≤ s ∧ s ≤ 5)) = 0 then
      ((-1), I)
    else
      if 0 ≤ n then
        if (I (104 + 2 * r.toNatClampNeg) 2) = 0 then
          let I1 : Im := (f_X11_refuse I 1).2
          ((f_X11_refuse I 1).1, I1)
        else
          if (I (104 + 2 * s.toNatClampNeg) 2) = 0 then
            let I5 : Im := (f_X11_refuse I 1).2
            ((f_X11_refuse I 1).1, I5)
          else
            if (hasR i n (I (104 + 2 * r.toNatClampNeg) 1)) = 0 then
              let I2 : Im := (f_X11_refuse I 2).2
              ((f_X11_refuse I 2).1, I2)
            else
              if (hasR j n (I (104 + 2 * s.toNatClampNeg) 1)) = 0 then
                let I4 : Im := (f_X11_refuse I 2).2
                ((f_X11_refuse I 2).1, I4)
              else
                let I3 : Im := cpR I (104 + 2 * r.toNatClampNeg + 1) (104 + 2 * s.toNatClampNeg + 1) i.toNatClampNeg j.toNatClampNeg n.toNatClampNeg
                (1, I3)
      else
        let I6 : Im := (f_X11_refuse I 5).2
        ((f_X11_refuse I 5).1, I6)
set_option maxRecDepth 100000 in
set_option maxHeartbeats 4000000 in
theorem s_X11_copy  {r : Int32} {i : Int32} {s : Int32} {j : Int32} {n : Int32} (hRow : RowS I) : Ca G mdX11_copy [.ref 0, .int r, .int i, .int s, .int j, .int n] (mk I L t) (Rs (.int (f_X11_copy I r i s j n).1) (mk ((f_X11_copy I r i s j n).2) L t)) := by
  refine Ca.intro [some (.ref 0), some (.int r), some (.int i), some (.int s), some (.int j), some (.int n)] (by decide) (Nat.le_of_ble_eq_true rfl) rfl rfl ?_
  refine ex_iload_n dX11_copy_0 rfl ?_
  refine rx_cS dX11_copy_1 rfl lk_X11_125 ⟨⟨rfl, rfl⟩, by decide, by decide⟩ rfl (Nat.le_of_ble_eq_true rfl) rfl s_X11_isRow (Rs.k ?_)
  refine ex_if_eq 14 dX11_copy_4 (by decide) (fun h4 => ?_) (fun h4 => ?_)
  · skip
    refine ex_iconst (v := (-1)) dX11_copy_14 (by decide) ?_
    refine ex_iret dX11_copy_15 rfl rfl ⟨rfl, Nat.le_refl _⟩ ?_
    exact ⟨(by simp only [f_X11_copy, ↓eq_true h4, if_true, if_false, not_true_eq_false, not_false_eq_true]), (by simp only [f_X11_copy, ↓eq_true h4, if_true, if_false, not_true_eq_false, not_false_eq_true])⟩
  · have qr := (cl_lt (N := 6) (by decide) h4).1
    have vr := (cl_lt (N := 6) (by decide) h4).2
    have kr := ky_row qr
    have lr := ly_row (t := t) qr
    have kp := (lay6 kr).2
    refine ex_iload_n dX11_copy_7 rfl ?_
    refine rx_cS dX11_copy_8 rfl lk_X11_125 ⟨⟨rfl, rfl⟩, by decide, by decide⟩ rfl (Nat.le_of_ble_eq_true rfl) rfl s_X11_isRow (Rs.k ?_)
    refine ex_if_ne 16 dX11_copy_11 (by decide) (fun h11 => ?_) (fun h11 => ?_)
    · have qs := (cl_lt (N := 6) (by decide) h11).1
      have vs := (cl_lt (N := 6) (by decide) h11).2
      have ks := ky_row qs
      have ls := ly_row (t := t) qs
      have kq := (lay6 ks).2
      refine ex_iload dX11_copy_16 rfl ?_
      refine ex_if_ge 27 dX11_copy_18 (by decide) (fun h18 => ?_) (fun h18 => ?_)
      · skip
        refine ex_aload_n dX11_copy_27 rfl ?_
        refine g_11_0 dX11_copy_28 rfl wf_X11_11 (by first | assumption | rfl) (show Rt _ 0 0 = some 1 from rfl) ?_
        refine ex_iload_n dX11_copy_31 rfl ?_
        refine rx_aald dX11_copy_32 (by first | assumption | rfl) (by decide) rfl (by first | assumption | (unfold vp_in; decide)) (by first | assumption | rfl) ?_
        refine g_6_2 dX11_copy_33 rfl wf_X11_136 (by first | assumption | rfl) ?_
        refine ex_if_eq 51 dX11_copy_36 (by decide) (fun h36 => ?_) (fun h36 => ?_)
        · skip
          refine ex_aload_n dX11_copy_51 rfl ?_
          refine ex_iconst (v := 1) dX11_copy_52 (by decide) ?_
          refine rx_cV (kd := 11) dX11_copy_53 rfl lk_X11_129 rfl (by decide) (by first | assumption | rfl) ⟨⟨rfl, rfl⟩, by decide, by decide⟩ rfl (Nat.le_of_ble_eq_true rfl) rfl (s_X11_refuse (by unfold vp_in; decide)) (Rs.k ?_)
          refine ex_iret dX11_copy_56 rfl rfl ⟨rfl, Nat.le_refl _⟩ ?_
          exact ⟨(by simp only [f_X11_copy, ↓eq_false h4, ↓eq_false h11, ↓h18, ↓eq_true h36, if_true, if_false, not_true_eq_false, not_false_eq_true]), (by simp only [f_X11_copy, ↓eq_false h4, ↓eq_false h11, ↓h18, ↓eq_true h36, if_true, if_false, not_true_eq_false, not_false_eq_true])⟩
        · skip
          refine ex_aload_n dX11_copy_39 rfl ?_
          refine g_11_0 dX11_copy_40 rfl wf_X11_11 (by first | assumption | rfl) (show Rt _ 0 0 = some 1 from rfl) ?_
          refine ex_iload_n dX11_copy_43 rfl ?_
          refine rx_aald dX11_copy_44 (by first | assumption | rfl) (by decide) rfl (by first | assumption | (unfold vp_in; decide)) (by first | assumption | rfl) ?_
          refine g_6_2 dX11_copy_45 rfl wf_X11_136 (by first | assumption | rfl) ?_
          refine ex_if_ne 57 dX11_copy_48 (by decide) (fun h48 => ?_) (fun h48 => ?_)
          · skip
            refine ex_aload_n dX11_copy_57 rfl ?_
            refine g_11_0 dX11_copy_58 rfl wf_X11_11 (by first | assumption | rfl) (show Rt _ 0 0 = some 1 from rfl) ?_
            refine ex_iload_n dX11_copy_61 rfl ?_
            refine rx_aald dX11_copy_62 (by first | assumption | rfl) (by decide) rfl (by first | assumption | (unfold vp_in; decide)) (by first | assumption | rfl) ?_
            refine ex_iload_n dX11_copy_63 rfl ?_
            refine ex_iload dX11_copy_64 rfl ?_
            refine rx_cV (kd := 6) dX11_copy_66 rfl lk_X11_147 rfl (by decide) (by first | assumption | rfl) ⟨⟨rfl, rfl⟩, by decide, by decide⟩ rfl (Nat.le_of_ble_eq_true rfl) rfl (s_X6_hasRunR (by assumption)) (Rs.k ?_)
            refine ex_if_eq 88 dX11_copy_69 (by decide) (fun h69 => ?_) (fun h69 => ?_)
            · skip
              refine ex_aload_n dX11_copy_88 rfl ?_
              refine ex_iconst (v := 2) dX11_copy_89 (by decide) ?_
              refine rx_cV (kd := 11) dX11_copy_90 rfl lk_X11_129 rfl (by decide) (by first | assumption | rfl) ⟨⟨rfl, rfl⟩, by decide, by decide⟩ rfl (Nat.le_of_ble_eq_true rfl) rfl (s_X11_refuse (by unfold vp_in; decide)) (Rs.k ?_)
              refine ex_iret dX11_copy_93 rfl rfl ⟨rfl, Nat.le_refl _⟩ ?_
              exact ⟨(by simp only [f_X11_copy, ↓eq_false h4, ↓eq_false h11, ↓h18, ↓eq_false h36, ↓eq_false h48, ↓eq_true h69, if_true, if_false, not_true_eq_false, not_false_eq_true]), (by simp only [f_X11_copy, ↓eq_false h4, ↓eq_false h11, ↓h18, ↓eq_false h36, ↓eq_false h48, ↓eq_true h69, if_true, if_false, not_true_eq_false, not_false_eq_true])⟩
            · obtain ⟨mr, hmr, er⟩ := hRow _ qr
              have gr := run_in er hmr h69
              refine ex_aload_n dX11_copy_72 rfl ?_
              refine g_11_0 dX11_copy_73 rfl wf_X11_11 (by first | assumption | rfl) (show Rt _ 0 0 = some 1 from rfl) ?_
              refine ex_iload_n dX11_copy_76 rfl ?_
              refine rx_aald dX11_copy_77 (by first | assumption | rfl) (by decide) rfl (by first | assumption | (unfold vp_in; decide)) (by first | assumption | rfl) ?_
              refine ex_iload dX11_copy_78 rfl ?_
              refine ex_iload dX11_copy_80 rfl ?_
              refine rx_cV (kd := 6) dX11_copy_82 rfl lk_X11_147 rfl (by decide) (by first | assumption | rfl) ⟨⟨rfl, rfl⟩, by decide, by decide⟩ rfl (Nat.le_of_ble_eq_true rfl) rfl (s_X6_hasRunR (by assumption)) (Rs.k ?_)
              refine ex_if_ne 94 dX11_copy_85 (by decide) (fun h85 => ?_) (fun h85 => ?_)
              · obtain ⟨mq, hmq, eq⟩ := hRow _ qs
                have gs := run_in eq hmq h85
                refine ex_aload_n dX11_copy_94 rfl ?_
                refine g_11_0 dX11_copy_95 rfl wf_X11_11 (by first | assumption | rfl) (show Rt _ 0 0 = some 1 from rfl) ?_
                refine ex_iload_n dX11_copy_98 rfl ?_
                refine rx_aald dX11_copy_99 (by first | assumption | rfl) (by decide) rfl (by first | assumption | (unfold vp_in; decide)) (by first | assumption | rfl) ?_
                refine g_6_0 dX11_copy_100 rfl wf_X11_140 (by first | assumption | rfl) (layR_6_0 (by first | assumption | rfl)) ?_
                refine ex_iload_n dX11_copy_103 rfl ?_
                refine ex_aload_n dX11_copy_104 rfl ?_
                refine g_11_0 dX11_copy_105 rfl wf_X11_11 (by first | assumption | rfl) (show Rt _ 0 0 = some 1 from rfl) ?_
                refine ex_iload_n dX11_copy_108 rfl ?_
                refine rx_aald dX11_copy_109 (by first | assumption | rfl) (by decide) rfl (by first | assumption | (unfold vp_in; decide)) (by first | assumption | rfl) ?_
                refine g_6_0 dX11_copy_110 rfl wf_X11_140 (by first | assumption | rfl) (layR_6_0 (by first | assumption | rfl)) ?_
                refine ex_iload dX11_copy_113 rfl ?_
                refine ex_iload dX11_copy_115 rfl ?_
                refine rx_copy dX11_copy_117 rfl lk_X11_151 (by first | assumption | rfl) (by first | assumption | rfl) gr.1 gs.1 gr.2.1 gr.2.2 gs.2.2 ⟨by decide, by decide⟩ (Nat.le_of_ble_eq_true rfl) ?_
                refine ex_iconst (v := 1) dX11_copy_120 (by decide) ?_
                refine ex_iret dX11_copy_121 rfl rfl ⟨rfl, Nat.le_refl _⟩ ?_
                exact ⟨(by simp only [f_X11_copy, ↓eq_false h4, ↓eq_false h11, ↓h18, ↓eq_false h36, ↓eq_false h48, ↓eq_false h69, ↓eq_false h85, if_true, if_false, not_true_eq_false, not_false_eq_true]), (by simp only [f_X11_copy, ↓eq_false h4, ↓eq_false h11, ↓h18, ↓eq_false h36, ↓eq_false h48, ↓eq_false h69, ↓eq_false h85, if_true, if_false, not_true_eq_false, not_false_eq_true])⟩
              · skip
                refine ex_aload_n dX11_copy_88 rfl ?_
                refine ex_iconst (v := 2) dX11_copy_89 (by decide) ?_
                refine rx_cV (kd := 11) dX11_copy_90 rfl lk_X11_129 rfl (by decide) (by first | assumption | rfl) ⟨⟨rfl, rfl⟩, by decide, by decide⟩ rfl (Nat.le_of_ble_eq_true rfl) rfl (s_X11_refuse (by unfold vp_in; decide)) (Rs.k ?_)
                refine ex_iret dX11_copy_93 rfl rfl ⟨rfl, Nat.le_refl _⟩ ?_
                exact ⟨(by simp only [f_X11_copy, ↓eq_false h4, ↓eq_false h11, ↓h18, ↓eq_false h36, ↓eq_false h48, ↓eq_false h69, ↓eq_true h85, if_true, if_false, not_true_eq_false, not_false_eq_true]), (by simp only [f_X11_copy, ↓eq_false h4, ↓eq_false h11, ↓h18, ↓eq_false h36, ↓eq_false h48, ↓eq_false h69, ↓eq_true h85, if_true, if_false, not_true_eq_false, not_false_eq_true])⟩
          · skip
            refine ex_aload_n dX11_copy_51 rfl ?_
            refine ex_iconst (v := 1) dX11_copy_52 (by decide) ?_
            refine rx_cV (kd := 11) dX11_copy_53 rfl lk_X11_129 rfl (by decide) (by first | assumption | rfl) ⟨⟨rfl, rfl⟩, by decide, by decide⟩ rfl (Nat.le_of_ble_eq_true rfl) rfl (s_X11_refuse (by unfold vp_in; decide)) (Rs.k ?_)
            refine ex_iret dX11_copy_56 rfl rfl ⟨rfl, Nat.le_refl _⟩ ?_
            exact ⟨(by simp only [f_X11_copy, ↓eq_false h4, ↓eq_false h11, ↓h18, ↓eq_false h36, ↓eq_true h48, if_true, if_false, not_true_eq_false, not_false_eq_true]), (by simp only [f_X11_copy, ↓eq_false h4, ↓eq_false h11, ↓h18, ↓eq_false h36, ↓eq_true h48, if_true, if_false, not_true_eq_false, not_false_eq_true])⟩
      · skip
        refine ex_aload_n dX11_copy_21 rfl ?_
        refine ex_iconst (v := 5) dX11_copy_22 (by decide) ?_
        refine rx_cV (kd := 11) dX11_copy_23 rfl lk_X11_129 rfl (by decide) (by first | assumption | rfl) ⟨⟨rfl, rfl⟩, by decide, by decide⟩ rfl (Nat.le_of_ble_eq_true rfl) rfl (s_X11_refuse (by unfold vp_in; decide)) (Rs.k ?_)
        refine ex_iret dX11_copy_26 rfl rfl ⟨rfl, Nat.le_refl _⟩ ?_
        exact ⟨(by simp only [f_X11_copy, ↓eq_false h4, ↓eq_false h11, ↓h18, if_true, if_false, not_true_eq_false, not_false_eq_true]), (by simp only [f_X11_copy, ↓eq_false h4, ↓eq_false h11, ↓h18, if_true, if_false, not_true_eq_false, not_false_eq_true])⟩
    · skip
      refine ex_iconst (v := (-1)) dX11_copy_14 (by decide) ?_
      refine ex_iret dX11_copy_15 rfl rfl ⟨rfl, Nat.le_refl _⟩ ?_
      exact ⟨(by simp only [f_X11_copy, ↓eq_false h4, ↓eq_true h11, if_true, if_false, not_true_eq_false, not_false_eq_true]), (by simp only [f_X11_copy, ↓eq_false h4, ↓eq_true h11, if_true, if_false, not_true_eq_false, not_false_eq_true])⟩
def f_X11_mean (I : Im) (r : Int32) : Int32 × Im :=
  if (b2i (0 ≤ r ∧ r ≤ 5)) = 0 then
    ((-1), I)
  else
    if (I (104 + 2 * r.toNatClampNeg) 2) = 0 then
      let I3 : Im := (f_X11_refuse I 1).2
      ((f_X11_refuse I 1).1, I3)
    else
      if 1 ≤ (I (104 + 2 * r.toNatClampNeg) 1) then
        let I1 : Im := (f_X11_tell I (((sumL (I ((104 + 2 * r.toNatClampNeg) + 1)) (I (104 + 2 * r.toNatClampNeg) 1).toNatClampNeg) / ((I (104 + 2 * r.toNatClampNeg) 1).toInt64)).toInt32) 1).2
        ((f_X11_tell I (((sumL (I ((104 + 2 * r.toNatClampNeg) + 1)) (I (104 + 2 * r.toNatClampNeg) 1).toNatClampNeg) / ((I (104 + 2 * r.toNatClampNeg) 1).toInt64)).toInt32) 1).1, I1)
      else
        let I2 : Im := (f_X11_refuse I 4).2
        ((f_X11_refuse I 4).1, I2)
set_option maxRecDepth 100000 in
set_option maxHeartbeats 4000000 in
theorem s_X11_mean  {r : Int32} (hRow : RowS I) : Ca G mdX11_mean [.ref 0, .int r] (mk I L t) (Rs (.int (f_X11_mean I r).1) (mk ((f_X11_mean I r).2) L t)) := by
  refine Ca.intro [some (.ref 0), some (.int r)] (by decide) (Nat.le_of_ble_eq_true rfl) rfl rfl ?_
  refine ex_iload_n dX11_mean_0 rfl ?_
  refine rx_cS dX11_mean_1 rfl lk_X11_125 ⟨⟨rfl, rfl⟩, by decide, by decide⟩ rfl (Nat.le_of_ble_eq_true rfl) rfl s_X11_isRow (Rs.k ?_)
  refine ex_if_ne 9 dX11_mean_4 (by decide) (fun h4 => ?_) (fun h4 => ?_)
  · have qr := (cl_lt (N := 6) (by decide) h4).1
    have vr := (cl_lt (N := 6) (by decide) h4).2
    have kr := ky_row qr
    have lr := ly_row (t := t) qr
    have kp := (lay6 kr).2
    refine ex_aload_n dX11_mean_9 rfl ?_
    refine g_11_0 dX11_mean_10 rfl wf_X11_11 (by first | assumption | rfl) (show Rt _ 0 0 = some 1 from rfl) ?_
    refine ex_iload_n dX11_mean_13 rfl ?_
    refine rx_aald dX11_mean_14 (by first | assumption | rfl) (by decide) rfl (by first | assumption | (unfold vp_in; decide)) (by first | assumption | rfl) ?_
    refine g_6_2 dX11_mean_15 rfl wf_X11_136 (by first | assumption | rfl) ?_
    refine ex_if_ne 27 dX11_mean_18 (by decide) (fun h18 => ?_) (fun h18 => ?_)
    · skip
      refine ex_aload_n dX11_mean_27 rfl ?_
      refine g_11_0 dX11_mean_28 rfl wf_X11_11 (by first | assumption | rfl) (show Rt _ 0 0 = some 1 from rfl) ?_
      refine ex_iload_n dX11_mean_31 rfl ?_
      refine rx_aald dX11_mean_32 (by first | assumption | rfl) (by decide) rfl (by first | assumption | (unfold vp_in; decide)) (by first | assumption | rfl) ?_
      refine g_6_1 dX11_mean_33 rfl wf_X11_157 (by first | assumption | rfl) ?_
      refine ex_iconst (v := 1) dX11_mean_36 (by decide) ?_
      refine ex_icmp_ge 46 dX11_mean_37 (by decide) (fun h37 => ?_) (fun h37 => ?_)
      · obtain ⟨mr, hmr, er⟩ := hRow _ qr
        refine ex_aload_n dX11_mean_46 rfl ?_
        refine ex_aload_n dX11_mean_47 rfl ?_
        refine g_11_0 dX11_mean_48 rfl wf_X11_11 (by first | assumption | rfl) (show Rt _ 0 0 = some 1 from rfl) ?_
        refine ex_iload_n dX11_mean_51 rfl ?_
        refine rx_aald dX11_mean_52 (by first | assumption | rfl) (by decide) rfl (by first | assumption | (unfold vp_in; decide)) (by first | assumption | rfl) ?_
        refine rx_cV (kd := 6) dX11_mean_53 rfl lk_X11_160 rfl (by decide) (by first | assumption | rfl) ⟨⟨rfl, rfl⟩, by decide, by decide⟩ rfl (Nat.le_of_ble_eq_true rfl) rfl (s_X6_sumR (by assumption) (hRow _ qr)) (Rs.k ?_)
        refine ex_aload_n dX11_mean_56 rfl ?_
        refine g_11_0 dX11_mean_57 rfl wf_X11_11 (by first | assumption | rfl) (show Rt _ 0 0 = some 1 from rfl) ?_
        refine ex_iload_n dX11_mean_60 rfl ?_
        refine rx_aald dX11_mean_61 (by first | assumption | rfl) (by decide) rfl (by first | assumption | (unfold vp_in; decide)) (by first | assumption | rfl) ?_
        refine g_6_1 dX11_mean_62 rfl wf_X11_157 (by first | assumption | rfl) ?_
        refine ex_i2l dX11_mean_65 ?_
        refine ex_ldiv dX11_mean_66 (sz_ne er hmr h37) ?_
        refine ex_l2i dX11_mean_67 ?_
        refine ex_iconst (v := 1) dX11_mean_68 (by decide) ?_
        refine rx_cV (kd := 11) dX11_mean_69 rfl lk_X11_143 rfl (by decide) (by first | assumption | rfl) ⟨⟨rfl, rfl⟩, by decide, by decide⟩ rfl (Nat.le_of_ble_eq_true rfl) rfl s_X11_tell (Rs.k ?_)
        refine ex_iret dX11_mean_72 rfl rfl ⟨rfl, Nat.le_refl _⟩ ?_
        exact ⟨(by simp only [f_X11_mean, ↓eq_false h4, ↓eq_false h18, ↓h37, if_true, if_false, not_true_eq_false, not_false_eq_true]), (by simp only [f_X11_mean, ↓eq_false h4, ↓eq_false h18, ↓h37, if_true, if_false, not_true_eq_false, not_false_eq_true])⟩
      · skip
        refine ex_aload_n dX11_mean_40 rfl ?_
        refine ex_iconst (v := 4) dX11_mean_41 (by decide) ?_
        refine rx_cV (kd := 11) dX11_mean_42 rfl lk_X11_129 rfl (by decide) (by first | assumption | rfl) ⟨⟨rfl, rfl⟩, by decide, by decide⟩ rfl (Nat.le_of_ble_eq_true rfl) rfl (s_X11_refuse (by unfold vp_in; decide)) (Rs.k ?_)
        refine ex_iret dX11_mean_45 rfl rfl ⟨rfl, Nat.le_refl _⟩ ?_
        exact ⟨(by simp only [f_X11_mean, ↓eq_false h4, ↓eq_false h18, ↓h37, if_true, if_false, not_true_eq_false, not_false_eq_true]), (by simp only [f_X11_mean, ↓eq_false h4, ↓eq_false h18, ↓h37, if_true, if_false, not_true_eq_false, not_false_eq_true])⟩
    · skip
      refine ex_aload_n dX11_mean_21 rfl ?_
      refine ex_iconst (v := 1) dX11_mean_22 (by decide) ?_
      refine rx_cV (kd := 11) dX11_mean_23 rfl lk_X11_129 rfl (by decide) (by first | assumption | rfl) ⟨⟨rfl, rfl⟩, by decide, by decide⟩ rfl (Nat.le_of_ble_eq_true rfl) rfl (s_X11_refuse (by unfold vp_in; decide)) (Rs.k ?_)
      refine ex_iret dX11_mean_26 rfl rfl ⟨rfl, Nat.le_refl _⟩ ?_
      exact ⟨(by simp only [f_X11_mean, ↓eq_false h4, ↓eq_true h18, if_true, if_false, not_true_eq_false, not_false_eq_true]), (by simp only [f_X11_mean, ↓eq_false h4, ↓eq_true h18, if_true, if_false, not_true_eq_false, not_false_eq_true])⟩
  · skip
    refine ex_iconst (v := (-1)) dX11_mean_7 (by decide) ?_
    refine ex_iret dX11_mean_8 rfl rfl ⟨rfl, Nat.le_refl _⟩ ?_
    exact ⟨(by simp only [f_X11_mean, ↓eq_true h4, if_true, if_false, not_true_eq_false, not_false_eq_true]), (by simp only [f_X11_mean, ↓eq_true h4, if_true, if_false, not_true_eq_false, not_false_eq_true])⟩
def f_X11_text (I : Im) (x : Int32) (n : Int32) : Int32 × Im :=
  if (b2i (0 ≤ x ∧ x ≤ 3)) = 0 then
    ((-1), I)
  else
    if n ≤ 100 then
      if 0 ≤ n then
        let I1 : Im := leNew I (116 + 2 * x.toNatClampNeg) n.toNatClampNeg
        (n, I1)
      else
        let I2 : Im := (f_X11_refuse I 5).2
        ((f_X11_refuse I 5).1, I2)
    else
      ((-1), I)
set_option maxRecDepth 100000 in
set_option maxHeartbeats 4000000 in
theorem s_X11_text  {x : Int32} {n : Int32}  : Ca G mdX11_text [.ref 0, .int x, .int n] (mk I L t) (Rs (.int (f_X11_text I x n).1) (mk ((f_X11_text I x n).2) L t)) := by
  refine Ca.intro [some (.ref 0), some (.int x), some (.int n)] (by decide) (Nat.le_of_ble_eq_true rfl) rfl rfl ?_
  refine ex_iload_n dX11_text_0 rfl ?_
  refine rx_cS dX11_text_1 rfl lk_X11_164 ⟨⟨rfl, rfl⟩, by decide, by decide⟩ rfl (Nat.le_of_ble_eq_true rfl) rfl s_X11_isText (Rs.k ?_)
  refine ex_if_eq 13 dX11_text_4 (by decide) (fun h4 => ?_) (fun h4 => ?_)
  · skip
    refine ex_iconst (v := (-1)) dX11_text_13 (by decide) ?_
    refine ex_iret dX11_text_14 rfl rfl ⟨rfl, Nat.le_refl _⟩ ?_
    exact ⟨(by simp only [f_X11_text, ↓eq_true h4, if_true, if_false, not_true_eq_false, not_false_eq_true]), (by simp only [f_X11_text, ↓eq_true h4, if_true, if_false, not_true_eq_false, not_false_eq_true])⟩
  · have qx := (cl_lt (N := 4) (by decide) h4).1
    have vx := (cl_lt (N := 4) (by decide) h4).2
    have kx := ky_txt qx
    have lx := ly_txt (t := t) qx
    refine ex_iload_n dX11_text_7 rfl ?_
    refine ex_bipush (v := 100) dX11_text_8 (by decide) ?_
    refine ex_icmp_le 15 dX11_text_10 (by decide) (fun h10 => ?_) (fun h10 => ?_)
    · skip
      refine ex_iload_n dX11_text_15 rfl ?_
      refine ex_if_ge 25 dX11_text_16 (by decide) (fun h16 => ?_) (fun h16 => ?_)
      · skip
        refine ex_aload_n dX11_text_25 rfl ?_
        refine g_11_1 dX11_text_26 rfl wf_X11_17 (by first | assumption | rfl) (show Rt _ 0 1 = some 2 from rfl) ?_
        refine ex_iload_n dX11_text_29 rfl ?_
        refine rx_aald dX11_text_30 (by first | assumption | rfl) (by decide) rfl (by first | assumption | (unfold vp_in; decide)) (by first | assumption | rfl) ?_
        refine ex_iload_n dX11_text_31 rfl ?_
        refine rx_cV (kd := 4) dX11_text_32 rfl lk_X11_167 rfl (by decide) (by first | assumption | rfl) ⟨⟨rfl, rfl⟩, by decide, by decide⟩ rfl (Nat.le_of_ble_eq_true rfl) rfl (s_X4_renewR (by assumption) (by assumption) (by assumption)) (Rv.k ?_)
        refine ex_iload_n dX11_text_35 rfl ?_
        refine ex_iret dX11_text_36 rfl rfl ⟨rfl, Nat.le_refl _⟩ ?_
        exact ⟨(by simp only [f_X11_text, ↓eq_false h4, ↓h10, ↓h16, if_true, if_false, not_true_eq_false, not_false_eq_true]), (by simp only [f_X11_text, ↓eq_false h4, ↓h10, ↓h16, if_true, if_false, not_true_eq_false, not_false_eq_true])⟩
      · skip
        refine ex_aload_n dX11_text_19 rfl ?_
        refine ex_iconst (v := 5) dX11_text_20 (by decide) ?_
        refine rx_cV (kd := 11) dX11_text_21 rfl lk_X11_129 rfl (by decide) (by first | assumption | rfl) ⟨⟨rfl, rfl⟩, by decide, by decide⟩ rfl (Nat.le_of_ble_eq_true rfl) rfl (s_X11_refuse (by unfold vp_in; decide)) (Rs.k ?_)
        refine ex_iret dX11_text_24 rfl rfl ⟨rfl, Nat.le_refl _⟩ ?_
        exact ⟨(by simp only [f_X11_text, ↓eq_false h4, ↓h10, ↓h16, if_true, if_false, not_true_eq_false, not_false_eq_true]), (by simp only [f_X11_text, ↓eq_false h4, ↓h10, ↓h16, if_true, if_false, not_true_eq_false, not_false_eq_true])⟩
    · skip
      refine ex_iconst (v := (-1)) dX11_text_13 (by decide) ?_
      refine ex_iret dX11_text_14 rfl rfl ⟨rfl, Nat.le_refl _⟩ ?_
      exact ⟨(by simp only [f_X11_text, ↓eq_false h4, ↓h10, if_true, if_false, not_true_eq_false, not_false_eq_true]), (by simp only [f_X11_text, ↓eq_false h4, ↓h10, if_true, if_false, not_true_eq_false, not_false_eq_true])⟩
def f_X11_put (I : Im) (x : Int32) (i : Int32) (v : Int32) : Int32 × Im :=
  if (b2i (0 ≤ x ∧ x ≤ 3)) = 0 then
    ((-1), I)
  else
    if (I (116 + 2 * x.toNatClampNeg) 2) = 0 then
      let I3 : Im := (f_X11_refuse I 1).2
      ((f_X11_refuse I 1).1, I3)
    else
      if (b2i (0 ≤ i ∧ i < I (116 + 2 * x.toNatClampNeg) 1)) = 0 then
        let I2 : Im := (f_X11_refuse I 2).2
        ((f_X11_refuse I 2).1, I2)
      else
        let I1 : Im := up2 I (116 + 2 * x.toNatClampNeg + 1) i.toNatClampNeg v.toInt8.toInt32.toInt8.toInt32
        ((I (116 + 2 * x.toNatClampNeg + 1) i.toNatClampNeg) + 1000, I1)
set_option maxRecDepth 100000 in
set_option maxHeartbeats 4000000 in
theorem s_X11_put  {x : Int32} {i : Int32} {v : Int32} (hTxt : TxtS I) : Ca G mdX11_put [.ref 0, .int x, .int i, .int v] (mk I L t) (Rs (.int (f_X11_put I x i v).1) (mk ((f_X11_put I x i v).2) L t)) := by
  refine Ca.intro [some (.ref 0), some (.int x), some (.int i), some (.int v), none] (by decide) (Nat.le_of_ble_eq_true rfl) rfl rfl ?_
  refine ex_iload_n dX11_put_0 rfl ?_
  refine rx_cS dX11_put_1 rfl lk_X11_164 ⟨⟨rfl, rfl⟩, by decide, by decide⟩ rfl (Nat.le_of_ble_eq_true rfl) rfl s_X11_isText (Rs.k ?_)
  refine ex_if_ne 9 dX11_put_4 (by decide) (fun h4 => ?_) (fun h4 => ?_)
  · have qx := (cl_lt (N := 4) (by decide) h4).1
    have vx := (cl_lt (N := 4) (by decide) h4).2
    have kx := ky_txt qx
    have lx := ly_txt (t := t) qx
    have kp := (lay4 kx).2
    refine ex_aload_n dX11_put_9 rfl ?_
    refine g_11_1 dX11_put_10 rfl wf_X11_17 (by first | assumption | rfl) (show Rt _ 0 1 = some 2 from rfl) ?_
    refine ex_iload_n dX11_put_13 rfl ?_
    refine rx_aald dX11_put_14 (by first | assumption | rfl) (by decide) rfl (by first | assumption | (unfold vp_in; decide)) (by first | assumption | rfl) ?_
    refine g_4_2 dX11_put_15 rfl wf_X11_168 (by first | assumption | rfl) ?_
    refine ex_if_ne 27 dX11_put_18 (by decide) (fun h18 => ?_) (fun h18 => ?_)
    · skip
      refine ex_aload_n dX11_put_27 rfl ?_
      refine g_11_1 dX11_put_28 rfl wf_X11_17 (by first | assumption | rfl) (show Rt _ 0 1 = some 2 from rfl) ?_
      refine ex_iload_n dX11_put_31 rfl ?_
      refine rx_aald dX11_put_32 (by first | assumption | rfl) (by decide) rfl (by first | assumption | (unfold vp_in; decide)) (by first | assumption | rfl) ?_
      refine ex_iload_n dX11_put_33 rfl ?_
      refine rx_cV (kd := 4) dX11_put_34 rfl lk_X11_169 rfl (by decide) (by first | assumption | rfl) ⟨⟨rfl, rfl⟩, by decide, by decide⟩ rfl (Nat.le_of_ble_eq_true rfl) rfl (s_X4_has (by assumption)) (Rs.k ?_)
      refine ex_if_ne 46 dX11_put_37 (by decide) (fun h37 => ?_) (fun h37 => ?_)
      · obtain ⟨mr, hmr, er⟩ := hTxt _ qx
        have vi := in_b er hmr (by decide) h37
        refine ex_aload_n dX11_put_46 rfl ?_
        refine g_11_1 dX11_put_47 rfl wf_X11_17 (by first | assumption | rfl) (show Rt _ 0 1 = some 2 from rfl) ?_
        refine ex_iload_n dX11_put_50 rfl ?_
        refine rx_aald dX11_put_51 (by first | assumption | rfl) (by decide) rfl (by first | assumption | (unfold vp_in; decide)) (by first | assumption | rfl) ?_
        refine g_4_0 dX11_put_52 rfl wf_X11_170 (by first | assumption | rfl) (layR_4_0 (by first | assumption | rfl)) ?_
        refine ex_iload_n dX11_put_55 rfl ?_
        refine rx_bald dX11_put_56 (by first | assumption | rfl) (by first | assumption | (unfold vp_in; decide)) ?_
        refine st_i4 dX11_put_57 (by first | exact rfl | exact trivial) ?_
        refine ex_aload_n dX11_put_59 rfl ?_
        refine g_11_1 dX11_put_60 rfl wf_X11_17 (by first | assumption | rfl) (show Rt _ 0 1 = some 2 from rfl) ?_
        refine ex_iload_n dX11_put_63 rfl ?_
        refine rx_aald dX11_put_64 (by first | assumption | rfl) (by decide) rfl (by first | assumption | (unfold vp_in; decide)) (by first | assumption | rfl) ?_
        refine g_4_0 dX11_put_65 rfl wf_X11_170 (by first | assumption | rfl) (layR_4_0 (by first | assumption | rfl)) ?_
        refine ex_iload_n dX11_put_68 rfl ?_
        refine ex_iload_n dX11_put_69 rfl ?_
        refine ex_i2b dX11_put_70 ?_
        refine rx_bast dX11_put_71 (by first | assumption | rfl) (by first | assumption | (unfold vp_in; decide)) ?_
        refine ex_iload dX11_put_72 rfl ?_
        refine ex_sipush (v := 1000) dX11_put_74 (by decide) ?_
        refine ex_iadd dX11_put_77 ?_
        refine ex_iret dX11_put_78 rfl rfl ⟨rfl, Nat.le_refl _⟩ ?_
        exact ⟨(by simp only [f_X11_put, ↓eq_false h4, ↓eq_false h18, ↓eq_false h37, if_true, if_false, not_true_eq_false, not_false_eq_true]), (by simp only [f_X11_put, ↓eq_false h4, ↓eq_false h18, ↓eq_false h37, if_true, if_false, not_true_eq_false, not_false_eq_true])⟩
      · skip
        refine ex_aload_n dX11_put_40 rfl ?_
        refine ex_iconst (v := 2) dX11_put_41 (by decide) ?_
        refine rx_cV (kd := 11) dX11_put_42 rfl lk_X11_129 rfl (by decide) (by first | assumption | rfl) ⟨⟨rfl, rfl⟩, by decide, by decide⟩ rfl (Nat.le_of_ble_eq_true rfl) rfl (s_X11_refuse (by unfold vp_in; decide)) (Rs.k ?_)
        refine ex_iret dX11_put_45 rfl rfl ⟨rfl, Nat.le_refl _⟩ ?_
        exact ⟨(by simp only [f_X11_put, ↓eq_false h4, ↓eq_false h18, ↓eq_true h37, if_true, if_false, not_true_eq_false, not_false_eq_true]), (by simp only [f_X11_put, ↓eq_false h4, ↓eq_false h18, ↓eq_true h37, if_true, if_false, not_true_eq_false, not_false_eq_true])⟩
    · skip
      refine ex_aload_n dX11_put_21 rfl ?_
      refine ex_iconst (v := 1) dX11_put_22 (by decide) ?_
      refine rx_cV (kd := 11) dX11_put_23 rfl lk_X11_129 rfl (by decide) (by first | assumption | rfl) ⟨⟨rfl, rfl⟩, by decide, by decide⟩ rfl (Nat.le_of_ble_eq_true rfl) rfl (s_X11_refuse (by unfold vp_in; decide)) (Rs.k ?_)
      refine ex_iret dX11_put_26 rfl rfl ⟨rfl, Nat.le_refl _⟩ ?_
      exact ⟨(by simp only [f_X11_put, ↓eq_false h4, ↓eq_true h18, if_true, if_false, not_true_eq_false, not_false_eq_true]), (by simp only [f_X11_put, ↓eq_false h4, ↓eq_true h18, if_true, if_false, not_true_eq_false, not_false_eq_true])⟩
  · skip
    refine ex_iconst (v := (-1)) dX11_put_7 (by decide) ?_
    refine ex_iret dX11_put_8 rfl rfl ⟨rfl, Nat.le_refl _⟩ ?_
    exact ⟨(by simp only [f_X11_put, ↓eq_true h4, if_true, if_false, not_true_eq_false, not_false_eq_true]), (by simp only [f_X11_put, ↓eq_true h4, if_true, if_false, not_true_eq_false, not_false_eq_true])⟩
def f_X11_fault (I : Im) (t : Nat) (x : Int32) (z : Int32) : Int32 × Im × Nat :=
  if (b2i (0 ≤ x ∧ x ≤ 3)) = 0 then
    ((-1), I, t)
  else
    if (I (116 + 2 * x.toNatClampNeg) 2) = 0 then
      let I3 : Im := (f_X11_refuse I 1).2
      ((f_X11_refuse I 1).1, I3, t)
    else
      if z = 0 then
        let I1 : Im := rdM (readH I (116 + 2 * x.toNatClampNeg) (I (116 + 2 * x.toNatClampNeg) 1).toNatClampNeg).2.2 (readH I (116 + 2 * x.toNatClampNeg) (I (116 + 2 * x.toNatClampNeg) 1).toNatClampNeg).2.1
        ((readH I (116 + 2 * x.toNatClampNeg) (I (116 + 2 * x.toNatClampNeg) 1).toNatClampNeg).1, I1, (116 + 2 * x.toNatClampNeg))
      else
        let I2 : Im := rdM (readS I (116 + 2 * x.toNatClampNeg) (I (116 + 2 * x.toNatClampNeg) 1).toNatClampNeg).2.2 (readS I (116 + 2 * x.toNatClampNeg) (I (116 + 2 * x.toNatClampNeg) 1).toNatClampNeg).2.1
        ((readS I (116 + 2 * x.toNatClampNeg) (I (116 + 2 * x.toNatClampNeg) 1).toNatClampNeg).1, I2, (116 + 2 * x.toNatClampNeg))
set_option maxRecDepth 100000 in
set_option maxHeartbeats 4000000 in
theorem s_X11_fault  {x : Int32} {z : Int32} (hTxt : TxtS I) : Ca G mdX11_fault [.ref 0, .int x, .int z] (mk I L t) (Rs (.int (f_X11_fault I t x z).1) (mk ((f_X11_fault I t x z).2.1) L ((f_X11_fault I t x z).2.2))) := by
  refine Ca.intro [some (.ref 0), some (.int x), some (.int z)] (by decide) (Nat.le_of_ble_eq_true rfl) rfl rfl ?_
  refine ex_iload_n dX11_fault_0 rfl ?_
  refine rx_cS dX11_fault_1 rfl lk_X11_164 ⟨⟨rfl, rfl⟩, by decide, by decide⟩ rfl (Nat.le_of_ble_eq_true rfl) rfl s_X11_isText (Rs.k ?_)
  refine ex_if_ne 9 dX11_fault_4 (by decide) (fun h4 => ?_) (fun h4 => ?_)
  · have qx := (cl_lt (N := 4) (by decide) h4).1
    have vx := (cl_lt (N := 4) (by decide) h4).2
    have kx := ky_txt qx
    have lx := ly_txt (t := t) qx
    have kp := (lay4 kx).2
    refine ex_aload_n dX11_fault_9 rfl ?_
    refine g_11_1 dX11_fault_10 rfl wf_X11_17 (by first | assumption | rfl) (show Rt _ 0 1 = some 2 from rfl) ?_
    refine ex_iload_n dX11_fault_13 rfl ?_
    refine rx_aald dX11_fault_14 (by first | assumption | rfl) (by decide) rfl (by first | assumption | (unfold vp_in; decide)) (by first | assumption | rfl) ?_
    refine g_4_2 dX11_fault_15 rfl wf_X11_168 (by first | assumption | rfl) ?_
    refine ex_if_ne 27 dX11_fault_18 (by decide) (fun h18 => ?_) (fun h18 => ?_)
    · skip
      refine ex_iload_n dX11_fault_27 rfl ?_
      refine ex_if_eq 47 dX11_fault_28 (by decide) (fun h28 => ?_) (fun h28 => ?_)
      · skip
        refine ex_aload_n dX11_fault_47 rfl ?_
        refine g_11_9 dX11_fault_48 rfl wf_X11_64 (by first | assumption | rfl) (show Rt _ 0 9 = some 85 from rfl) ?_
        refine ex_aload_n dX11_fault_51 rfl ?_
        refine g_11_1 dX11_fault_52 rfl wf_X11_17 (by first | assumption | rfl) (show Rt _ 0 1 = some 2 from rfl) ?_
        refine ex_iload_n dX11_fault_55 rfl ?_
        refine rx_aald dX11_fault_56 (by first | assumption | rfl) (by decide) rfl (by first | assumption | (unfold vp_in; decide)) (by first | assumption | rfl) ?_
        refine rx_cV (kd := 7) dX11_fault_57 rfl lk_X11_178 rfl (by decide) (by first | assumption | rfl) ⟨⟨rfl, rfl⟩, by decide, by decide⟩ rfl (Nat.le_of_ble_eq_true rfl) rfl (s_X7_readHarbourR (by assumption) (hTxt _ qx)) (Rs.k ?_)
        refine ex_iret dX11_fault_60 rfl rfl ⟨rfl, Nat.le_refl _⟩ ?_
        exact ⟨(by simp only [f_X11_fault, ↓eq_false h4, ↓eq_false h18, ↓eq_true h28, if_true, if_false, not_true_eq_false, not_false_eq_true]), (by simp only [f_X11_fault, ↓eq_false h4, ↓eq_false h18, ↓eq_true h28, if_true, if_false, not_true_eq_false, not_false_eq_true])⟩
      · skip
        refine ex_aload_n dX11_fault_31 rfl ?_
        refine g_11_9 dX11_fault_32 rfl wf_X11_64 (by first | assumption | rfl) (show Rt _ 0 9 = some 85 from rfl) ?_
        refine ex_aload_n dX11_fault_35 rfl ?_
        refine g_11_1 dX11_fault_36 rfl wf_X11_17 (by first | assumption | rfl) (show Rt _ 0 1 = some 2 from rfl) ?_
        refine ex_iload_n dX11_fault_39 rfl ?_
        refine rx_aald dX11_fault_40 (by first | assumption | rfl) (by decide) rfl (by first | assumption | (unfold vp_in; decide)) (by first | assumption | rfl) ?_
        refine rx_cV (kd := 7) dX11_fault_41 rfl lk_X11_174 rfl (by decide) (by first | assumption | rfl) ⟨⟨rfl, rfl⟩, by decide, by decide⟩ rfl (Nat.le_of_ble_eq_true rfl) rfl (s_X7_readSeaR (by assumption) (hTxt _ qx)) (Rs.k ?_)
        refine ex_goto 60 dX11_fault_44 (by decide) ?_
        refine ex_iret dX11_fault_60 rfl rfl ⟨rfl, Nat.le_refl _⟩ ?_
        exact ⟨(by simp only [f_X11_fault, ↓eq_false h4, ↓eq_false h18, ↓eq_false h28, if_true, if_false, not_true_eq_false, not_false_eq_true]), (by simp only [f_X11_fault, ↓eq_false h4, ↓eq_false h18, ↓eq_false h28, if_true, if_false, not_true_eq_false, not_false_eq_true])⟩
    · skip
      refine ex_aload_n dX11_fault_21 rfl ?_
      refine ex_iconst (v := 1) dX11_fault_22 (by decide) ?_
      refine rx_cV (kd := 11) dX11_fault_23 rfl lk_X11_129 rfl (by decide) (by first | assumption | rfl) ⟨⟨rfl, rfl⟩, by decide, by decide⟩ rfl (Nat.le_of_ble_eq_true rfl) rfl (s_X11_refuse (by unfold vp_in; decide)) (Rs.k ?_)
      refine ex_iret dX11_fault_26 rfl rfl ⟨rfl, Nat.le_refl _⟩ ?_
      exact ⟨(by simp only [f_X11_fault, ↓eq_false h4, ↓eq_true h18, if_true, if_false, not_true_eq_false, not_false_eq_true]), (by simp only [f_X11_fault, ↓eq_false h4, ↓eq_true h18, if_true, if_false, not_true_eq_false, not_false_eq_true])⟩
  · skip
    refine ex_iconst (v := (-1)) dX11_fault_7 (by decide) ?_
    refine ex_iret dX11_fault_8 rfl rfl ⟨rfl, Nat.le_refl _⟩ ?_
    exact ⟨(by simp only [f_X11_fault, ↓eq_true h4, if_true, if_false, not_true_eq_false, not_false_eq_true]), (by simp only [f_X11_fault, ↓eq_true h4, if_true, if_false, not_true_eq_false, not_false_eq_true])⟩
def f_X11_harbour (I : Im) (t : Nat) (k : Int32) (x : Int32) : Int32 × Im × Nat :=
  if (b2i (0 ≤ k ∧ k ≤ 3)) = 0 then
    ((-1), I, t)
  else
    if (b2i (0 ≤ x ∧ x ≤ 3)) = 0 then
      ((-1), I, t)
    else
      if (I (116 + 2 * x.toNatClampNeg) 2) = 0 then
        let I3 : Im := (f_X11_refuse I 1).2
        ((f_X11_refuse I 1).1, I3, t)
      else
        let I1 : Im := rdM (readH I (116 + 2 * x.toNatClampNeg) (I (116 + 2 * x.toNatClampNeg) 1).toNatClampNeg).2.2 (readH I (116 + 2 * x.toNatClampNeg) (I (116 + 2 * x.toNatClampNeg) 1).toNatClampNeg).2.1
        if ((readH I (116 + 2 * x.toNatClampNeg) (I (116 + 2 * x.toNatClampNeg) 1).toNatClampNeg).1) = ((-9)) then
          let I2 : Im := baTake I1 (124 + 2 * k.toNatClampNeg) 86
          (I2 (124 + 2 * k.toNatClampNeg) 2, I2, (116 + 2 * x.toNatClampNeg))
        else
          ((-4), I1, (116 + 2 * x.toNatClampNeg))
set_option maxRecDepth 100000 in
set_option maxHeartbeats 4000000 in
theorem s_X11_harbour  {k : Int32} {x : Int32} (hTxt : TxtS I) : Ca G mdX11_harbour [.ref 0, .int k, .int x] (mk I L t) (Rs (.int (f_X11_harbour I t k x).1) (mk ((f_X11_harbour I t k x).2.1) L ((f_X11_harbour I t k x).2.2))) := by
  refine Ca.intro [some (.ref 0), some (.int k), some (.int x)] (by decide) (Nat.le_of_ble_eq_true rfl) rfl rfl ?_
  refine ex_iload_n dX11_harbour_0 rfl ?_
  refine rx_cS dX11_harbour_1 rfl lk_X11_181 ⟨⟨rfl, rfl⟩, by decide, by decide⟩ rfl (Nat.le_of_ble_eq_true rfl) rfl s_X11_isHarbour (Rs.k ?_)
  refine ex_if_eq 14 dX11_harbour_4 (by decide) (fun h4 => ?_) (fun h4 => ?_)
  · skip
    refine ex_iconst (v := (-1)) dX11_harbour_14 (by decide) ?_
    refine ex_iret dX11_harbour_15 rfl rfl ⟨rfl, Nat.le_refl _⟩ ?_
    exact ⟨(by simp only [f_X11_harbour, ↓eq_true h4, if_true, if_false, not_true_eq_false, not_false_eq_true]), (by simp only [f_X11_harbour, ↓eq_true h4, if_true, if_false, not_true_eq_false, not_false_eq_true])⟩
  · have qk := (cl_lt (N := 4) (by decide) h4).1
    have vk := (cl_lt (N := 4) (by decide) h4).2
    have kk := ky_har qk
    have lk := ly_har (t := t) qk
    refine ex_iload_n dX11_harbour_7 rfl ?_
    refine rx_cS dX11_harbour_8 rfl lk_X11_164 ⟨⟨rfl, rfl⟩, by decide, by decide⟩ rfl (Nat.le_of_ble_eq_true rfl) rfl s_X11_isText (Rs.k ?_)
    refine ex_if_ne 16 dX11_harbour_11 (by decide) (fun h11 => ?_) (fun h11 => ?_)
    · have qx := (cl_lt (N := 4) (by decide) h11).1
      have vx := (cl_lt (N := 4) (by decide) h11).2
      have kx := ky_txt qx
      have lx := ly_txt (t := t) qx
      refine ex_aload_n dX11_harbour_16 rfl ?_
      refine g_11_1 dX11_harbour_17 rfl wf_X11_17 (by first | assumption | rfl) (show Rt _ 0 1 = some 2 from rfl) ?_
      refine ex_iload_n dX11_harbour_20 rfl ?_
      refine rx_aald dX11_harbour_21 (by first | assumption | rfl) (by decide) rfl (by first | assumption | (unfold vp_in; decide)) (by first | assumption | rfl) ?_
      refine g_4_2 dX11_harbour_22 rfl wf_X11_168 (by first | assumption | rfl) ?_
      refine ex_if_ne 34 dX11_harbour_25 (by decide) (fun h25 => ?_) (fun h25 => ?_)
      · skip
        refine ex_aload_n dX11_harbour_34 rfl ?_
        refine g_11_9 dX11_harbour_35 rfl wf_X11_64 (by first | assumption | rfl) (show Rt _ 0 9 = some 85 from rfl) ?_
        refine ex_aload_n dX11_harbour_38 rfl ?_
        refine g_11_1 dX11_harbour_39 rfl wf_X11_17 (by first | assumption | rfl) (show Rt _ 0 1 = some 2 from rfl) ?_
        refine ex_iload_n dX11_harbour_42 rfl ?_
        refine rx_aald dX11_harbour_43 (by first | assumption | rfl) (by decide) rfl (by first | assumption | (unfold vp_in; decide)) (by first | assumption | rfl) ?_
        refine rx_cV (kd := 7) dX11_harbour_44 rfl lk_X11_178 rfl (by decide) (by first | assumption | rfl) ⟨⟨rfl, rfl⟩, by decide, by decide⟩ rfl (Nat.le_of_ble_eq_true rfl) rfl (s_X7_readHarbourR (by assumption) (hTxt _ qx)) (Rs.k ?_)
        have lk2 := ly_har (t := 116 + 2 * x.toNatClampNeg) qk
        refine ex_bipush (v := (-9)) dX11_harbour_47 (by decide) ?_
        refine ex_icmp_eq 55 dX11_harbour_49 (by decide) (fun h49 => ?_) (fun h49 => ?_)
        · skip
          refine ex_aload_n dX11_harbour_55 rfl ?_
          refine g_11_2 dX11_harbour_56 rfl wf_X11_23 (by first | assumption | rfl) (show Rt _ 0 2 = some 3 from rfl) ?_
          refine ex_iload_n dX11_harbour_59 rfl ?_
          refine rx_aald dX11_harbour_60 (by first | assumption | rfl) (by decide) rfl (by first | assumption | (unfold vp_in; decide)) (by first | assumption | rfl) ?_
          refine ex_aload_n dX11_harbour_61 rfl ?_
          refine g_11_9 dX11_harbour_62 rfl wf_X11_64 (by first | assumption | rfl) (show Rt _ 0 9 = some 85 from rfl) ?_
          refine g_7_0 dX11_harbour_65 rfl wf_X11_184 (by first | assumption | rfl) (show Rt _ 85 0 = some 86 from rfl) ?_
          refine rx_cV (kd := 0) dX11_harbour_68 rfl lk_X11_187 rfl (by decide) (by first | assumption | rfl) ⟨⟨rfl, rfl⟩, by decide, by decide⟩ rfl (Nat.le_of_ble_eq_true rfl) rfl (s_X0_take kk (b := 86) rfl (Or.inr (by rw [rdM_off (by decide)]; exact readH_1))) (Rv.k ?_)
          refine ex_aload_n dX11_harbour_71 rfl ?_
          refine g_11_2 dX11_harbour_72 rfl wf_X11_23 (by first | assumption | rfl) (show Rt _ 0 2 = some 3 from rfl) ?_
          refine ex_iload_n dX11_harbour_75 rfl ?_
          refine rx_aald dX11_harbour_76 (by first | assumption | rfl) (by decide) rfl (by first | assumption | (unfold vp_in; decide)) (by first | assumption | rfl) ?_
          refine g_0_2 dX11_harbour_77 rfl wf_X11_191 (by first | assumption | rfl) ?_
          refine ex_iret dX11_harbour_80 rfl rfl ⟨rfl, Nat.le_refl _⟩ ?_
          exact ⟨(by simp only [f_X11_harbour, ↓eq_false h4, ↓eq_false h11, ↓eq_false h25, ↓eq_true h49, if_true, if_false, not_true_eq_false, not_false_eq_true]), (by simp only [f_X11_harbour, ↓eq_false h4, ↓eq_false h11, ↓eq_false h25, ↓eq_true h49, if_true, if_false, not_true_eq_false, not_false_eq_true])⟩
        · skip
          refine ex_bipush (v := (-4)) dX11_harbour_52 (by decide) ?_
          refine ex_iret dX11_harbour_54 rfl rfl ⟨rfl, Nat.le_refl _⟩ ?_
          exact ⟨(by simp only [f_X11_harbour, ↓eq_false h4, ↓eq_false h11, ↓eq_false h25, ↓eq_false h49, if_true, if_false, not_true_eq_false, not_false_eq_true]), (by simp only [f_X11_harbour, ↓eq_false h4, ↓eq_false h11, ↓eq_false h25, ↓eq_false h49, if_true, if_false, not_true_eq_false, not_false_eq_true])⟩
      · skip
        refine ex_aload_n dX11_harbour_28 rfl ?_
        refine ex_iconst (v := 1) dX11_harbour_29 (by decide) ?_
        refine rx_cV (kd := 11) dX11_harbour_30 rfl lk_X11_129 rfl (by decide) (by first | assumption | rfl) ⟨⟨rfl, rfl⟩, by decide, by decide⟩ rfl (Nat.le_of_ble_eq_true rfl) rfl (s_X11_refuse (by unfold vp_in; decide)) (Rs.k ?_)
        refine ex_iret dX11_harbour_33 rfl rfl ⟨rfl, Nat.le_refl _⟩ ?_
        exact ⟨(by simp only [f_X11_harbour, ↓eq_false h4, ↓eq_false h11, ↓eq_true h25, if_true, if_false, not_true_eq_false, not_false_eq_true]), (by simp only [f_X11_harbour, ↓eq_false h4, ↓eq_false h11, ↓eq_true h25, if_true, if_false, not_true_eq_false, not_false_eq_true])⟩
    · skip
      refine ex_iconst (v := (-1)) dX11_harbour_14 (by decide) ?_
      refine ex_iret dX11_harbour_15 rfl rfl ⟨rfl, Nat.le_refl _⟩ ?_
      exact ⟨(by simp only [f_X11_harbour, ↓eq_false h4, ↓eq_true h11, if_true, if_false, not_true_eq_false, not_false_eq_true]), (by simp only [f_X11_harbour, ↓eq_false h4, ↓eq_true h11, if_true, if_false, not_true_eq_false, not_false_eq_true])⟩
def f_X11_sea (I : Im) (t : Nat) (k : Int32) (x : Int32) : Int32 × Im × Nat :=
  if (b2i (0 ≤ k ∧ k ≤ 3)) = 0 then
    ((-1), I, t)
  else
    if (b2i (0 ≤ x ∧ x ≤ 3)) = 0 then
      ((-1), I, t)
    else
      if (I (116 + 2 * x.toNatClampNeg) 2) = 0 then
        let I3 : Im := (f_X11_refuse I 1).2
        ((f_X11_refuse I 1).1, I3, t)
      else
        let I1 : Im := rdM (readS I (116 + 2 * x.toNatClampNeg) (I (116 + 2 * x.toNatClampNeg) 1).toNatClampNeg).2.2 (readS I (116 + 2 * x.toNatClampNeg) (I (116 + 2 * x.toNatClampNeg) 1).toNatClampNeg).2.1
        if ((readS I (116 + 2 * x.toNatClampNeg) (I (116 + 2 * x.toNatClampNeg) 1).toNatClampNeg).1) = ((-9)) then
          let I2 : Im := swTake I1 (132 + 3 * k.toNatClampNeg) 88
          (I2 (132 + 3 * k.toNatClampNeg) 3, I2, (116 + 2 * x.toNatClampNeg))
        else
          ((-4), I1, (116 + 2 * x.toNatClampNeg))
set_option maxRecDepth 100000 in
set_option maxHeartbeats 4000000 in
theorem s_X11_sea  {k : Int32} {x : Int32} (hTxt : TxtS I) : Ca G mdX11_sea [.ref 0, .int k, .int x] (mk I L t) (Rs (.int (f_X11_sea I t k x).1) (mk ((f_X11_sea I t k x).2.1) L ((f_X11_sea I t k x).2.2))) := by
  refine Ca.intro [some (.ref 0), some (.int k), some (.int x)] (by decide) (Nat.le_of_ble_eq_true rfl) rfl rfl ?_
  refine ex_iload_n dX11_sea_0 rfl ?_
  refine rx_cS dX11_sea_1 rfl lk_X11_194 ⟨⟨rfl, rfl⟩, by decide, by decide⟩ rfl (Nat.le_of_ble_eq_true rfl) rfl s_X11_isSea (Rs.k ?_)
  refine ex_if_eq 14 dX11_sea_4 (by decide) (fun h4 => ?_) (fun h4 => ?_)
  · skip
    refine ex_iconst (v := (-1)) dX11_sea_14 (by decide) ?_
    refine ex_iret dX11_sea_15 rfl rfl ⟨rfl, Nat.le_refl _⟩ ?_
    exact ⟨(by simp only [f_X11_sea, ↓eq_true h4, if_true, if_false, not_true_eq_false, not_false_eq_true]), (by simp only [f_X11_sea, ↓eq_true h4, if_true, if_false, not_true_eq_false, not_false_eq_true])⟩
  · have qk := (cl_lt (N := 4) (by decide) h4).1
    have vk := (cl_lt (N := 4) (by decide) h4).2
    have kk := ky_sea qk
    have lk := ly_sea (t := t) qk
    refine ex_iload_n dX11_sea_7 rfl ?_
    refine rx_cS dX11_sea_8 rfl lk_X11_164 ⟨⟨rfl, rfl⟩, by decide, by decide⟩ rfl (Nat.le_of_ble_eq_true rfl) rfl s_X11_isText (Rs.k ?_)
    refine ex_if_ne 16 dX11_sea_11 (by decide) (fun h11 => ?_) (fun h11 => ?_)
    · have qx := (cl_lt (N := 4) (by decide) h11).1
      have vx := (cl_lt (N := 4) (by decide) h11).2
      have kx := ky_txt qx
      have lx := ly_txt (t := t) qx
      refine ex_aload_n dX11_sea_16 rfl ?_
      refine g_11_1 dX11_sea_17 rfl wf_X11_17 (by first | assumption | rfl) (show Rt _ 0 1 = some 2 from rfl) ?_
      refine ex_iload_n dX11_sea_20 rfl ?_
      refine rx_aald dX11_sea_21 (by first | assumption | rfl) (by decide) rfl (by first | assumption | (unfold vp_in; decide)) (by first | assumption | rfl) ?_
      refine g_4_2 dX11_sea_22 rfl wf_X11_168 (by first | assumption | rfl) ?_
      refine ex_if_ne 34 dX11_sea_25 (by decide) (fun h25 => ?_) (fun h25 => ?_)
      · skip
        refine ex_aload_n dX11_sea_34 rfl ?_
        refine g_11_9 dX11_sea_35 rfl wf_X11_64 (by first | assumption | rfl) (show Rt _ 0 9 = some 85 from rfl) ?_
        refine ex_aload_n dX11_sea_38 rfl ?_
        refine g_11_1 dX11_sea_39 rfl wf_X11_17 (by first | assumption | rfl) (show Rt _ 0 1 = some 2 from rfl) ?_
        refine ex_iload_n dX11_sea_42 rfl ?_
        refine rx_aald dX11_sea_43 (by first | assumption | rfl) (by decide) rfl (by first | assumption | (unfold vp_in; decide)) (by first | assumption | rfl) ?_
        refine rx_cV (kd := 7) dX11_sea_44 rfl lk_X11_174 rfl (by decide) (by first | assumption | rfl) ⟨⟨rfl, rfl⟩, by decide, by decide⟩ rfl (Nat.le_of_ble_eq_true rfl) rfl (s_X7_readSeaR (by assumption) (hTxt _ qx)) (Rs.k ?_)
        have lk2 := ly_sea (t := 116 + 2 * x.toNatClampNeg) qk
        refine ex_bipush (v := (-9)) dX11_sea_47 (by decide) ?_
        refine ex_icmp_eq 55 dX11_sea_49 (by decide) (fun h49 => ?_) (fun h49 => ?_)
        · skip
          refine ex_aload_n dX11_sea_55 rfl ?_
          refine g_11_3 dX11_sea_56 rfl wf_X11_29 (by first | assumption | rfl) (show Rt _ 0 3 = some 4 from rfl) ?_
          refine ex_iload_n dX11_sea_59 rfl ?_
          refine rx_aald dX11_sea_60 (by first | assumption | rfl) (by decide) rfl (by first | assumption | (unfold vp_in; decide)) (by first | assumption | rfl) ?_
          refine ex_aload_n dX11_sea_61 rfl ?_
          refine g_11_9 dX11_sea_62 rfl wf_X11_64 (by first | assumption | rfl) (show Rt _ 0 9 = some 85 from rfl) ?_
          refine g_7_1 dX11_sea_65 rfl wf_X11_197 (by first | assumption | rfl) (show Rt _ 85 1 = some 88 from rfl) ?_
          refine rx_cV (kd := 8) dX11_sea_68 rfl lk_X11_200 rfl (by decide) (by first | assumption | rfl) ⟨⟨rfl, rfl⟩, by decide, by decide⟩ rfl (Nat.le_of_ble_eq_true rfl) rfl (s_X8_take kk (b := 88) rfl (Or.inr (by rw [rdM_off (by decide)]; exact readS_2))) (Rv.k ?_)
          refine ex_aload_n dX11_sea_71 rfl ?_
          refine g_11_3 dX11_sea_72 rfl wf_X11_29 (by first | assumption | rfl) (show Rt _ 0 3 = some 4 from rfl) ?_
          refine ex_iload_n dX11_sea_75 rfl ?_
          refine rx_aald dX11_sea_76 (by first | assumption | rfl) (by decide) rfl (by first | assumption | (unfold vp_in; decide)) (by first | assumption | rfl) ?_
          refine g_8_3 dX11_sea_77 rfl wf_X11_203 (by first | assumption | rfl) ?_
          refine ex_iret dX11_sea_80 rfl rfl ⟨rfl, Nat.le_refl _⟩ ?_
          exact ⟨(by simp only [f_X11_sea, ↓eq_false h4, ↓eq_false h11, ↓eq_false h25, ↓eq_true h49, if_true, if_false, not_true_eq_false, not_false_eq_true]), (by simp only [f_X11_sea, ↓eq_false h4, ↓eq_false h11, ↓eq_false h25, ↓eq_true h49, if_true, if_false, not_true_eq_false, not_false_eq_true])⟩
        · skip
          refine ex_bipush (v := (-4)) dX11_sea_52 (by decide) ?_
          refine ex_iret dX11_sea_54 rfl rfl ⟨rfl, Nat.le_refl _⟩ ?_
          exact ⟨(by simp only [f_X11_sea, ↓eq_false h4, ↓eq_false h11, ↓eq_false h25, ↓eq_false h49, if_true, if_false, not_true_eq_false, not_false_eq_true]), (by simp only [f_X11_sea, ↓eq_false h4, ↓eq_false h11, ↓eq_false h25, ↓eq_false h49, if_true, if_false, not_true_eq_false, not_false_eq_true])⟩
      · skip
        refine ex_aload_n dX11_sea_28 rfl ?_
        refine ex_iconst (v := 1) dX11_sea_29 (by decide) ?_
        refine rx_cV (kd := 11) dX11_sea_30 rfl lk_X11_129 rfl (by decide) (by first | assumption | rfl) ⟨⟨rfl, rfl⟩, by decide, by decide⟩ rfl (Nat.le_of_ble_eq_true rfl) rfl (s_X11_refuse (by unfold vp_in; decide)) (Rs.k ?_)
        refine ex_iret dX11_sea_33 rfl rfl ⟨rfl, Nat.le_refl _⟩ ?_
        exact ⟨(by simp only [f_X11_sea, ↓eq_false h4, ↓eq_false h11, ↓eq_true h25, if_true, if_false, not_true_eq_false, not_false_eq_true]), (by simp only [f_X11_sea, ↓eq_false h4, ↓eq_false h11, ↓eq_true h25, if_true, if_false, not_true_eq_false, not_false_eq_true])⟩
    · skip
      refine ex_iconst (v := (-1)) dX11_sea_14 (by decide) ?_
      refine ex_iret dX11_sea_15 rfl rfl ⟨rfl, Nat.le_refl _⟩ ?_
      exact ⟨(by simp only [f_X11_sea, ↓eq_false h4, ↓eq_true h11, if_true, if_false, not_true_eq_false, not_false_eq_true]), (by simp only [f_X11_sea, ↓eq_false h4, ↓eq_true h11, if_true, if_false, not_true_eq_false, not_false_eq_true])⟩
def f_X11_about (I : Im) (k : Int32) (w : Int32) : Int32 × Im :=
  if (b2i (0 ≤ k ∧ k ≤ 3)) = 0 then
    ((-1), I)
  else
    if (b2i (0 ≤ w ∧ w ≤ 20)) = 0 then
      ((-1), I)
    else
      if (I (124 + 2 * k.toNatClampNeg) 1) = 0 then
        let I4 : Im := (f_X11_refuse I 1).2
        ((f_X11_refuse I 1).1, I4)
      else
        if w < 5 then
          let I1 : Im := (f_X11_tell I (facF I (124 + 2 * k.toNatClampNeg) w.toNatClampNeg) 1).2
          ((f_X11_tell I (facF I (124 + 2 * k.toNatClampNeg) w.toNatClampNeg) 1).1, I1)
        else
          if (b2i (0 ≤ (w - 5) ∧ (w - 5) < I (124 + 2 * k.toNatClampNeg) 2 ∧ (w - 5) < 16)) = 0 then
            let I3 : Im := (f_X11_refuse I 2).2
            ((f_X11_refuse I 2).1, I3)
          else
            let I2 : Im := (f_X11_tell I (facF I (124 + 2 * k.toNatClampNeg) w.toNatClampNeg) 1).2
            ((f_X11_tell I (facF I (124 + 2 * k.toNatClampNeg) w.toNatClampNeg) 1).1, I2)
set_option maxRecDepth 100000 in
set_option maxHeartbeats 4000000 in
theorem s_X11_about  {k : Int32} {w : Int32}  : Ca G mdX11_about [.ref 0, .int k, .int w] (mk I L t) (Rs (.int (f_X11_about I k w).1) (mk ((f_X11_about I k w).2) L t)) := by
  refine Ca.intro [some (.ref 0), some (.int k), some (.int w)] (by decide) (Nat.le_of_ble_eq_true rfl) rfl rfl ?_
  refine ex_iload_n dX11_about_0 rfl ?_
  refine rx_cS dX11_about_1 rfl lk_X11_181 ⟨⟨rfl, rfl⟩, by decide, by decide⟩ rfl (Nat.le_of_ble_eq_true rfl) rfl s_X11_isHarbour (Rs.k ?_)
  refine ex_if_eq 17 dX11_about_4 (by decide) (fun h4 => ?_) (fun h4 => ?_)
  · skip
    refine ex_iconst (v := (-1)) dX11_about_17 (by decide) ?_
    refine ex_iret dX11_about_18 rfl rfl ⟨rfl, Nat.le_refl _⟩ ?_
    exact ⟨(by simp only [f_X11_about, ↓eq_true h4, if_true, if_false, not_true_eq_false, not_false_eq_true]), (by simp only [f_X11_about, ↓eq_true h4, if_true, if_false, not_true_eq_false, not_false_eq_true])⟩
  · have qk := (cl_lt (N := 4) (by decide) h4).1
    have vk := (cl_lt (N := 4) (by decide) h4).2
    have kk := ky_har qk
    have lk := ly_har (t := t) qk
    refine ex_iload_n dX11_about_7 rfl ?_
    refine ex_iconst (v := 0) dX11_about_8 (by decide) ?_
    refine ex_bipush (v := 20) dX11_about_9 (by decide) ?_
    refine rx_cS dX11_about_11 rfl lk_X11_117 ⟨⟨rfl, rfl⟩, by decide, by decide⟩ rfl (Nat.le_of_ble_eq_true rfl) rfl s_X11_within (Rs.k ?_)
    refine ex_if_ne 19 dX11_about_14 (by decide) (fun h14 => ?_) (fun h14 => ?_)
    · skip
      refine ex_aload_n dX11_about_19 rfl ?_
      refine g_11_2 dX11_about_20 rfl wf_X11_23 (by first | assumption | rfl) (show Rt _ 0 2 = some 3 from rfl) ?_
      refine ex_iload_n dX11_about_23 rfl ?_
      refine rx_aald dX11_about_24 (by first | assumption | rfl) (by decide) rfl (by first | assumption | (unfold vp_in; decide)) (by first | assumption | rfl) ?_
      refine g_0_1 dX11_about_25 rfl wf_X11_206 (by first | assumption | rfl) ?_
      refine ex_if_ne 37 dX11_about_28 (by decide) (fun h28 => ?_) (fun h28 => ?_)
      · skip
        refine ex_iload_n dX11_about_37 rfl ?_
        refine ex_iconst (v := 5) dX11_about_38 (by decide) ?_
        refine ex_icmp_lt 63 dX11_about_39 (by decide) (fun h39 => ?_) (fun h39 => ?_)
        · skip
          refine ex_aload_n dX11_about_63 rfl ?_
          refine ex_aload_n dX11_about_64 rfl ?_
          refine g_11_2 dX11_about_65 rfl wf_X11_23 (by first | assumption | rfl) (show Rt _ 0 2 = some 3 from rfl) ?_
          refine ex_iload_n dX11_about_68 rfl ?_
          refine rx_aald dX11_about_69 (by first | assumption | rfl) (by decide) rfl (by first | assumption | (unfold vp_in; decide)) (by first | assumption | rfl) ?_
          refine ex_iload_n dX11_about_70 rfl ?_
          refine rx_cV (kd := 0) dX11_about_71 rfl lk_X11_210 rfl (by decide) (by first | assumption | rfl) ⟨⟨rfl, rfl⟩, by decide, by decide⟩ rfl (Nat.le_of_ble_eq_true rfl) rfl (s_X0_factR (by assumption) h14) (Rs.k ?_)
          refine ex_iconst (v := 1) dX11_about_74 (by decide) ?_
          refine rx_cV (kd := 11) dX11_about_75 rfl lk_X11_143 rfl (by decide) (by first | assumption | rfl) ⟨⟨rfl, rfl⟩, by decide, by decide⟩ rfl (Nat.le_of_ble_eq_true rfl) rfl s_X11_tell (Rs.k ?_)
          refine ex_iret dX11_about_78 rfl rfl ⟨rfl, Nat.le_refl _⟩ ?_
          exact ⟨(by simp only [f_X11_about, ↓eq_false h4, ↓eq_false h14, ↓eq_false h28, ↓h39, if_true, if_false, not_true_eq_false, not_false_eq_true]), (by simp only [f_X11_about, ↓eq_false h4, ↓eq_false h14, ↓eq_false h28, ↓h39, if_true, if_false, not_true_eq_false, not_false_eq_true])⟩
        · skip
          refine ex_aload_n dX11_about_42 rfl ?_
          refine g_11_2 dX11_about_43 rfl wf_X11_23 (by first | assumption | rfl) (show Rt _ 0 2 = some 3 from rfl) ?_
          refine ex_iload_n dX11_about_46 rfl ?_
          refine rx_aald dX11_about_47 (by first | assumption | rfl) (by decide) rfl (by first | assumption | (unfold vp_in; decide)) (by first | assumption | rfl) ?_
          refine ex_iload_n dX11_about_48 rfl ?_
          refine ex_iconst (v := 5) dX11_about_49 (by decide) ?_
          refine ex_isub dX11_about_50 ?_
          refine rx_cV (kd := 0) dX11_about_51 rfl lk_X11_207 rfl (by decide) (by first | assumption | rfl) ⟨⟨rfl, rfl⟩, by decide, by decide⟩ rfl (Nat.le_of_ble_eq_true rfl) rfl (s_X0_hasCell (by assumption)) (Rs.k ?_)
          refine ex_if_ne 63 dX11_about_54 (by decide) (fun h54 => ?_) (fun h54 => ?_)
          · skip
            refine ex_aload_n dX11_about_63 rfl ?_
            refine ex_aload_n dX11_about_64 rfl ?_
            refine g_11_2 dX11_about_65 rfl wf_X11_23 (by first | assumption | rfl) (show Rt _ 0 2 = some 3 from rfl) ?_
            refine ex_iload_n dX11_about_68 rfl ?_
            refine rx_aald dX11_about_69 (by first | assumption | rfl) (by decide) rfl (by first | assumption | (unfold vp_in; decide)) (by first | assumption | rfl) ?_
            refine ex_iload_n dX11_about_70 rfl ?_
            refine rx_cV (kd := 0) dX11_about_71 rfl lk_X11_210 rfl (by decide) (by first | assumption | rfl) ⟨⟨rfl, rfl⟩, by decide, by decide⟩ rfl (Nat.le_of_ble_eq_true rfl) rfl (s_X0_factR (by assumption) h14) (Rs.k ?_)
            refine ex_iconst (v := 1) dX11_about_74 (by decide) ?_
            refine rx_cV (kd := 11) dX11_about_75 rfl lk_X11_143 rfl (by decide) (by first | assumption | rfl) ⟨⟨rfl, rfl⟩, by decide, by decide⟩ rfl (Nat.le_of_ble_eq_true rfl) rfl s_X11_tell (Rs.k ?_)
            refine ex_iret dX11_about_78 rfl rfl ⟨rfl, Nat.le_refl _⟩ ?_
            exact ⟨(by simp only [f_X11_about, ↓eq_false h4, ↓eq_false h14, ↓eq_false h28, ↓h39, ↓eq_false h54, if_true, if_false, not_true_eq_false, not_false_eq_true]), (by simp only [f_X11_about, ↓eq_false h4, ↓eq_false h14, ↓eq_false h28, ↓h39, ↓eq_false h54, if_true, if_false, not_true_eq_false, not_false_eq_true])⟩
          · skip
            refine ex_aload_n dX11_about_57 rfl ?_
            refine ex_iconst (v := 2) dX11_about_58 (by decide) ?_
            refine rx_cV (kd := 11) dX11_about_59 rfl lk_X11_129 rfl (by decide) (by first | assumption | rfl) ⟨⟨rfl, rfl⟩, by decide, by decide⟩ rfl (Nat.le_of_ble_eq_true rfl) rfl (s_X11_refuse (by unfold vp_in; decide)) (Rs.k ?_)
            refine ex_iret dX11_about_62 rfl rfl ⟨rfl, Nat.le_refl _⟩ ?_
            exact ⟨(by simp only [f_X11_about, ↓eq_false h4, ↓eq_false h14, ↓eq_false h28, ↓h39, ↓eq_true h54, if_true, if_false, not_true_eq_false, not_false_eq_true]), (by simp only [f_X11_about, ↓eq_false h4, ↓eq_false h14, ↓eq_false h28, ↓h39, ↓eq_true h54, if_true, if_false, not_true_eq_false, not_false_eq_true])⟩
      · skip
        refine ex_aload_n dX11_about_31 rfl ?_
        refine ex_iconst (v := 1) dX11_about_32 (by decide) ?_
        refine rx_cV (kd := 11) dX11_about_33 rfl lk_X11_129 rfl (by decide) (by first | assumption | rfl) ⟨⟨rfl, rfl⟩, by decide, by decide⟩ rfl (Nat.le_of_ble_eq_true rfl) rfl (s_X11_refuse (by unfold vp_in; decide)) (Rs.k ?_)
        refine ex_iret dX11_about_36 rfl rfl ⟨rfl, Nat.le_refl _⟩ ?_
        exact ⟨(by simp only [f_X11_about, ↓eq_false h4, ↓eq_false h14, ↓eq_true h28, if_true, if_false, not_true_eq_false, not_false_eq_true]), (by simp only [f_X11_about, ↓eq_false h4, ↓eq_false h14, ↓eq_true h28, if_true, if_false, not_true_eq_false, not_false_eq_true])⟩
    · skip
      refine ex_iconst (v := (-1)) dX11_about_17 (by decide) ?_
      refine ex_iret dX11_about_18 rfl rfl ⟨rfl, Nat.le_refl _⟩ ?_
      exact ⟨(by simp only [f_X11_about, ↓eq_false h4, ↓eq_true h14, if_true, if_false, not_true_eq_false, not_false_eq_true]), (by simp only [f_X11_about, ↓eq_false h4, ↓eq_true h14, if_true, if_false, not_true_eq_false, not_false_eq_true])⟩
def f_X11_set (I : Im) (k : Int32) (i : Int32) : Int32 × Im :=
  if (b2i (0 ≤ k ∧ k ≤ 3)) = 0 then
    ((-1), I)
  else
    if (I (132 + 3 * k.toNatClampNeg) 2) = 0 then
      let I3 : Im := (f_X11_refuse I 1).2
      ((f_X11_refuse I 1).1, I3)
    else
      if (b2i (0 ≤ i ∧ i < I (132 + 3 * k.toNatClampNeg) 3 ∧ i < 4)) = 0 then
        let I2 : Im := (f_X11_refuse I 2).2
        ((f_X11_refuse I 2).1, I2)
      else
        let I1 : Im := (f_X11_tell I (I (132 + 3 * k.toNatClampNeg + 2) i.toNatClampNeg) (I (132 + 3 * k.toNatClampNeg + 1) i.toNatClampNeg)).2
        ((f_X11_tell I (I (132 + 3 * k.toNatClampNeg + 2) i.toNatClampNeg) (I (132 + 3 * k.toNatClampNeg + 1) i.toNatClampNeg)).1, I1)
set_option maxRecDepth 100000 in
set_option maxHeartbeats 4000000 in
theorem s_X11_set  {k : Int32} {i : Int32}  : Ca G mdX11_set [.ref 0, .int k, .int i] (mk I L t) (Rs (.int (f_X11_set I k i).1) (mk ((f_X11_set I k i).2) L t)) := by
  refine Ca.intro [some (.ref 0), some (.int k), some (.int i)] (by decide) (Nat.le_of_ble_eq_true rfl) rfl rfl ?_
  refine ex_iload_n dX11_set_0 rfl ?_
  refine rx_cS dX11_set_1 rfl lk_X11_194 ⟨⟨rfl, rfl⟩, by decide, by decide⟩ rfl (Nat.le_of_ble_eq_true rfl) rfl s_X11_isSea (Rs.k ?_)
  refine ex_if_ne 9 dX11_set_4 (by decide) (fun h4 => ?_) (fun h4 => ?_)
  · have qk := (cl_lt (N := 4) (by decide) h4).1
    have vk := (cl_lt (N := 4) (by decide) h4).2
    have kk := ky_sea qk
    have lk := ly_sea (t := t) qk
    have kb := (lay8 kk).2.2.1
    have kc := (lay8 kk).2.2.2
    refine ex_aload_n dX11_set_9 rfl ?_
    refine g_11_3 dX11_set_10 rfl wf_X11_29 (by first | assumption | rfl) (show Rt _ 0 3 = some 4 from rfl) ?_
    refine ex_iload_n dX11_set_13 rfl ?_
    refine rx_aald dX11_set_14 (by first | assumption | rfl) (by decide) rfl (by first | assumption | (unfold vp_in; decide)) (by first | assumption | rfl) ?_
    refine g_8_2 dX11_set_15 rfl wf_X11_121 (by first | assumption | rfl) ?_
    refine ex_if_ne 27 dX11_set_18 (by decide) (fun h18 => ?_) (fun h18 => ?_)
    · skip
      refine ex_aload_n dX11_set_27 rfl ?_
      refine g_11_3 dX11_set_28 rfl wf_X11_29 (by first | assumption | rfl) (show Rt _ 0 3 = some 4 from rfl) ?_
      refine ex_iload_n dX11_set_31 rfl ?_
      refine rx_aald dX11_set_32 (by first | assumption | rfl) (by decide) rfl (by first | assumption | (unfold vp_in; decide)) (by first | assumption | rfl) ?_
      refine ex_iload_n dX11_set_33 rfl ?_
      refine rx_cV (kd := 8) dX11_set_34 rfl lk_X11_213 rfl (by decide) (by first | assumption | rfl) ⟨⟨rfl, rfl⟩, by decide, by decide⟩ rfl (Nat.le_of_ble_eq_true rfl) rfl (s_X8_hasSet (by assumption)) (Rs.k ?_)
      refine ex_if_ne 46 dX11_set_37 (by decide) (fun h37 => ?_) (fun h37 => ?_)
      · have vi := in4 h37
        refine ex_aload_n dX11_set_46 rfl ?_
        refine ex_aload_n dX11_set_47 rfl ?_
        refine g_11_3 dX11_set_48 rfl wf_X11_29 (by first | assumption | rfl) (show Rt _ 0 3 = some 4 from rfl) ?_
        refine ex_iload_n dX11_set_51 rfl ?_
        refine rx_aald dX11_set_52 (by first | assumption | rfl) (by decide) rfl (by first | assumption | (unfold vp_in; decide)) (by first | assumption | rfl) ?_
        refine g_8_1 dX11_set_53 rfl wf_X11_216 (by first | assumption | rfl) (layR_8_1 (by first | assumption | rfl)) ?_
        refine ex_iload_n dX11_set_56 rfl ?_
        refine rx_iald dX11_set_57 (by first | assumption | rfl) (by first | assumption | (unfold vp_in; decide)) ?_
        refine ex_aload_n dX11_set_58 rfl ?_
        refine g_11_3 dX11_set_59 rfl wf_X11_29 (by first | assumption | rfl) (show Rt _ 0 3 = some 4 from rfl) ?_
        refine ex_iload_n dX11_set_62 rfl ?_
        refine rx_aald dX11_set_63 (by first | assumption | rfl) (by decide) rfl (by first | assumption | (unfold vp_in; decide)) (by first | assumption | rfl) ?_
        refine g_8_0 dX11_set_64 rfl wf_X11_219 (by first | assumption | rfl) (layR_8_0 (by first | assumption | rfl)) ?_
        refine ex_iload_n dX11_set_67 rfl ?_
        refine rx_iald dX11_set_68 (by first | assumption | rfl) (by first | assumption | (unfold vp_in; decide)) ?_
        refine rx_cV (kd := 11) dX11_set_69 rfl lk_X11_143 rfl (by decide) (by first | assumption | rfl) ⟨⟨rfl, rfl⟩, by decide, by decide⟩ rfl (Nat.le_of_ble_eq_true rfl) rfl s_X11_tell (Rs.k ?_)
        refine ex_iret dX11_set_72 rfl rfl ⟨rfl, Nat.le_refl _⟩ ?_
        exact ⟨(by simp only [f_X11_set, ↓eq_false h4, ↓eq_false h18, ↓eq_false h37, if_true, if_false, not_true_eq_false, not_false_eq_true]), (by simp only [f_X11_set, ↓eq_false h4, ↓eq_false h18, ↓eq_false h37, if_true, if_false, not_true_eq_false, not_false_eq_true])⟩
      · skip
        refine ex_aload_n dX11_set_40 rfl ?_
        refine ex_iconst (v := 2) dX11_set_41 (by decide) ?_
        refine rx_cV (kd := 11) dX11_set_42 rfl lk_X11_129 rfl (by decide) (by first | assumption | rfl) ⟨⟨rfl, rfl⟩, by decide, by decide⟩ rfl (Nat.le_of_ble_eq_true rfl) rfl (s_X11_refuse (by unfold vp_in; decide)) (Rs.k ?_)
        refine ex_iret dX11_set_45 rfl rfl ⟨rfl, Nat.le_refl _⟩ ?_
        exact ⟨(by simp only [f_X11_set, ↓eq_false h4, ↓eq_false h18, ↓eq_true h37, if_true, if_false, not_true_eq_false, not_false_eq_true]), (by simp only [f_X11_set, ↓eq_false h4, ↓eq_false h18, ↓eq_true h37, if_true, if_false, not_true_eq_false, not_false_eq_true])⟩
    · skip
      refine ex_aload_n dX11_set_21 rfl ?_
      refine ex_iconst (v := 1) dX11_set_22 (by decide) ?_
      refine rx_cV (kd := 11) dX11_set_23 rfl lk_X11_129 rfl (by decide) (by first | assumption | rfl) ⟨⟨rfl, rfl⟩, by decide, by decide⟩ rfl (Nat.le_of_ble_eq_true rfl) rfl (s_X11_refuse (by unfold vp_in; decide)) (Rs.k ?_)
      refine ex_iret dX11_set_26 rfl rfl ⟨rfl, Nat.le_refl _⟩ ?_
      exact ⟨(by simp only [f_X11_set, ↓eq_false h4, ↓eq_true h18, if_true, if_false, not_true_eq_false, not_false_eq_true]), (by simp only [f_X11_set, ↓eq_false h4, ↓eq_true h18, if_true, if_false, not_true_eq_false, not_false_eq_true])⟩
  · skip
    refine ex_iconst (v := (-1)) dX11_set_7 (by decide) ?_
    refine ex_iret dX11_set_8 rfl rfl ⟨rfl, Nat.le_refl _⟩ ?_
    exact ⟨(by simp only [f_X11_set, ↓eq_true h4, if_true, if_false, not_true_eq_false, not_false_eq_true]), (by simp only [f_X11_set, ↓eq_true h4, if_true, if_false, not_true_eq_false, not_false_eq_true])⟩
def f_X11_ship (I : Im) (s : Int32) (c : Int32) (w : Int32) (g : Int32) (l : Int32) (p : Int32) : Int32 × Im :=
  if (b2i (0 ≤ s ∧ s ≤ 2)) = 0 then
    ((-1), I)
  else
    if (b2i (0 ≤ c ∧ c ≤ 15)) = 0 then
      ((-1), I)
    else
      if (b2i (1 ≤ w ∧ w ≤ 9)) = 0 then
        ((-1), I)
      else
        if (b2i (1 ≤ g ∧ g ≤ 9)) = 0 then
          ((-1), I)
        else
          if (b2i (0 ≤ l ∧ l ≤ 30)) = 0 then
            ((-1), I)
          else
            if (b2i (1 ≤ p ∧ p ≤ 9999)) = 0 then
              ((-1), I)
            else
              let I1 : Im := boBuild I (144 + s.toNatClampNeg) c w g l p
              (1, I1)
set_option maxRecDepth 100000 in
set_option maxHeartbeats 4000000 in
theorem s_X11_ship  {s : Int32} {c : Int32} {w : Int32} {g : Int32} {l : Int32} {p : Int32}  : Ca G mdX11_ship [.ref 0, .int s, .int c, .int w, .int g, .int l, .int p] (mk I L t) (Rs (.int (f_X11_ship I s c w g l p).1) (mk ((f_X11_ship I s c w g l p).2) L t)) := by
  refine Ca.intro [some (.ref 0), some (.int s), some (.int c), some (.int w), some (.int g), some (.int l), some (.int p)] (by decide) (Nat.le_of_ble_eq_true rfl) rfl rfl ?_
  refine ex_iload_n dX11_ship_0 rfl ?_
  refine rx_cS dX11_ship_1 rfl lk_X11_222 ⟨⟨rfl, rfl⟩, by decide, by decide⟩ rfl (Nat.le_of_ble_eq_true rfl) rfl s_X11_isShip (Rs.k ?_)
  refine ex_if_eq 58 dX11_ship_4 (by decide) (fun h4 => ?_) (fun h4 => ?_)
  · skip
    refine ex_iconst (v := (-1)) dX11_ship_58 (by decide) ?_
    refine ex_iret dX11_ship_59 rfl rfl ⟨rfl, Nat.le_refl _⟩ ?_
    exact ⟨(by simp only [f_X11_ship, ↓eq_true h4, if_true, if_false, not_true_eq_false, not_false_eq_true]), (by simp only [f_X11_ship, ↓eq_true h4, if_true, if_false, not_true_eq_false, not_false_eq_true])⟩
  · have qs := (cl_lt (N := 3) (by decide) h4).1
    have vs := (cl_lt (N := 3) (by decide) h4).2
    have ks := ky_shp qs
    have ls := ly_shp (t := t) qs
    refine ex_iload_n dX11_ship_7 rfl ?_
    refine rx_cS dX11_ship_8 rfl lk_X11_225 ⟨⟨rfl, rfl⟩, by decide, by decide⟩ rfl (Nat.le_of_ble_eq_true rfl) rfl s_X11_isCell (Rs.k ?_)
    refine ex_if_eq 58 dX11_ship_11 (by decide) (fun h11 => ?_) (fun h11 => ?_)
    · skip
      refine ex_iconst (v := (-1)) dX11_ship_58 (by decide) ?_
      refine ex_iret dX11_ship_59 rfl rfl ⟨rfl, Nat.le_refl _⟩ ?_
      exact ⟨(by simp only [f_X11_ship, ↓eq_false h4, ↓eq_true h11, if_true, if_false, not_true_eq_false, not_false_eq_true]), (by simp only [f_X11_ship, ↓eq_false h4, ↓eq_true h11, if_true, if_false, not_true_eq_false, not_false_eq_true])⟩
    · skip
      refine ex_iload_n dX11_ship_14 rfl ?_
      refine ex_iconst (v := 1) dX11_ship_15 (by decide) ?_
      refine ex_bipush (v := 9) dX11_ship_16 (by decide) ?_
      refine rx_cS dX11_ship_18 rfl lk_X11_117 ⟨⟨rfl, rfl⟩, by decide, by decide⟩ rfl (Nat.le_of_ble_eq_true rfl) rfl s_X11_within (Rs.k ?_)
      refine ex_if_eq 58 dX11_ship_21 (by decide) (fun h21 => ?_) (fun h21 => ?_)
      · skip
        refine ex_iconst (v := (-1)) dX11_ship_58 (by decide) ?_
        refine ex_iret dX11_ship_59 rfl rfl ⟨rfl, Nat.le_refl _⟩ ?_
        exact ⟨(by simp only [f_X11_ship, ↓eq_false h4, ↓eq_false h11, ↓eq_true h21, if_true, if_false, not_true_eq_false, not_false_eq_true]), (by simp only [f_X11_ship, ↓eq_false h4, ↓eq_false h11, ↓eq_true h21, if_true, if_false, not_true_eq_false, not_false_eq_true])⟩
      · skip
        refine ex_iload dX11_ship_24 rfl ?_
        refine ex_iconst (v := 1) dX11_ship_26 (by decide) ?_
        refine ex_bipush (v := 9) dX11_ship_27 (by decide) ?_
        refine rx_cS dX11_ship_29 rfl lk_X11_117 ⟨⟨rfl, rfl⟩, by decide, by decide⟩ rfl (Nat.le_of_ble_eq_true rfl) rfl s_X11_within (Rs.k ?_)
        refine ex_if_eq 58 dX11_ship_32 (by decide) (fun h32 => ?_) (fun h32 => ?_)
        · skip
          refine ex_iconst (v := (-1)) dX11_ship_58 (by decide) ?_
          refine ex_iret dX11_ship_59 rfl rfl ⟨rfl, Nat.le_refl _⟩ ?_
          exact ⟨(by simp only [f_X11_ship, ↓eq_false h4, ↓eq_false h11, ↓eq_false h21, ↓eq_true h32, if_true, if_false, not_true_eq_false, not_false_eq_true]), (by simp only [f_X11_ship, ↓eq_false h4, ↓eq_false h11, ↓eq_false h21, ↓eq_true h32, if_true, if_false, not_true_eq_false, not_false_eq_true])⟩
        · skip
          refine ex_iload dX11_ship_35 rfl ?_
          refine ex_iconst (v := 0) dX11_ship_37 (by decide) ?_
          refine ex_bipush (v := 30) dX11_ship_38 (by decide) ?_
          refine rx_cS dX11_ship_40 rfl lk_X11_117 ⟨⟨rfl, rfl⟩, by decide, by decide⟩ rfl (Nat.le_of_ble_eq_true rfl) rfl s_X11_within (Rs.k ?_)
          refine ex_if_eq 58 dX11_ship_43 (by decide) (fun h43 => ?_) (fun h43 => ?_)
          · skip
            refine ex_iconst (v := (-1)) dX11_ship_58 (by decide) ?_
            refine ex_iret dX11_ship_59 rfl rfl ⟨rfl, Nat.le_refl _⟩ ?_
            exact ⟨(by simp only [f_X11_ship, ↓eq_false h4, ↓eq_false h11, ↓eq_false h21, ↓eq_false h32, ↓eq_true h43, if_true, if_false, not_true_eq_false, not_false_eq_true]), (by simp only [f_X11_ship, ↓eq_false h4, ↓eq_false h11, ↓eq_false h21, ↓eq_false h32, ↓eq_true h43, if_true, if_false, not_true_eq_false, not_false_eq_true])⟩
          · skip
            refine ex_iload dX11_ship_46 rfl ?_
            refine ex_iconst (v := 1) dX11_ship_48 (by decide) ?_
            refine ex_sipush (v := 9999) dX11_ship_49 (by decide) ?_
            refine rx_cS dX11_ship_52 rfl lk_X11_117 ⟨⟨rfl, rfl⟩, by decide, by decide⟩ rfl (Nat.le_of_ble_eq_true rfl) rfl s_X11_within (Rs.k ?_)
            refine ex_if_ne 60 dX11_ship_55 (by decide) (fun h55 => ?_) (fun h55 => ?_)
            · skip
              refine ex_aload_n dX11_ship_60 rfl ?_
              refine g_11_4 dX11_ship_61 rfl wf_X11_35 (by first | assumption | rfl) (show Rt _ 0 4 = some 5 from rfl) ?_
              refine ex_iload_n dX11_ship_64 rfl ?_
              refine rx_aald dX11_ship_65 (by first | assumption | rfl) (by decide) rfl (by first | assumption | (unfold vp_in; decide)) (by first | assumption | rfl) ?_
              refine ex_iload_n dX11_ship_66 rfl ?_
              refine ex_iload_n dX11_ship_67 rfl ?_
              refine ex_iload dX11_ship_68 rfl ?_
              refine ex_iload dX11_ship_70 rfl ?_
              refine ex_iload dX11_ship_72 rfl ?_
              refine rx_cV (kd := 1) dX11_ship_74 rfl lk_X11_228 rfl (by decide) (by first | assumption | rfl) ⟨⟨rfl, rfl⟩, by decide, by decide⟩ rfl (Nat.le_of_ble_eq_true rfl) rfl (s_X1_build (by assumption)) (Rv.k ?_)
              refine ex_iconst (v := 1) dX11_ship_77 (by decide) ?_
              refine ex_iret dX11_ship_78 rfl rfl ⟨rfl, Nat.le_refl _⟩ ?_
              exact ⟨(by simp only [f_X11_ship, ↓eq_false h4, ↓eq_false h11, ↓eq_false h21, ↓eq_false h32, ↓eq_false h43, ↓eq_false h55, if_true, if_false, not_true_eq_false, not_false_eq_true]), (by simp only [f_X11_ship, ↓eq_false h4, ↓eq_false h11, ↓eq_false h21, ↓eq_false h32, ↓eq_false h43, ↓eq_false h55, if_true, if_false, not_true_eq_false, not_false_eq_true])⟩
            · skip
              refine ex_iconst (v := (-1)) dX11_ship_58 (by decide) ?_
              refine ex_iret dX11_ship_59 rfl rfl ⟨rfl, Nat.le_refl _⟩ ?_
              exact ⟨(by simp only [f_X11_ship, ↓eq_false h4, ↓eq_false h11, ↓eq_false h21, ↓eq_false h32, ↓eq_false h43, ↓eq_true h55, if_true, if_false, not_true_eq_false, not_false_eq_true]), (by simp only [f_X11_ship, ↓eq_false h4, ↓eq_false h11, ↓eq_false h21, ↓eq_false h32, ↓eq_false h43, ↓eq_true h55, if_true, if_false, not_true_eq_false, not_false_eq_true])⟩
def f_X11_leave (I : Im) (s : Int32) : Int32 × Im :=
  if (b2i (0 ≤ s ∧ s ≤ 2)) = 0 then
    ((-1), I)
  else
    if (I (144 + s.toNatClampNeg) 0) = 0 then
      ((-4), I)
    else
      let I1 : Im := up2 I (144 + s.toNatClampNeg) 0 0
      (1, I1)
set_option maxRecDepth 100000 in
set_option maxHeartbeats 4000000 in
theorem s_X11_leave  {s : Int32}  : Ca G mdX11_leave [.ref 0, .int s] (mk I L t) (Rs (.int (f_X11_leave I s).1) (mk ((f_X11_leave I s).2) L t)) := by
  refine Ca.intro [some (.ref 0), some (.int s)] (by decide) (Nat.le_of_ble_eq_true rfl) rfl rfl ?_
  refine ex_iload_n dX11_leave_0 rfl ?_
  refine rx_cS dX11_leave_1 rfl lk_X11_222 ⟨⟨rfl, rfl⟩, by decide, by decide⟩ rfl (Nat.le_of_ble_eq_true rfl) rfl s_X11_isShip (Rs.k ?_)
  refine ex_if_ne 9 dX11_leave_4 (by decide) (fun h4 => ?_) (fun h4 => ?_)
  · have qs := (cl_lt (N := 3) (by decide) h4).1
    have vs := (cl_lt (N := 3) (by decide) h4).2
    have ks := ky_shp qs
    have ls := ly_shp (t := t) qs
    refine ex_aload_n dX11_leave_9 rfl ?_
    refine g_11_4 dX11_leave_10 rfl wf_X11_35 (by first | assumption | rfl) (show Rt _ 0 4 = some 5 from rfl) ?_
    refine ex_iload_n dX11_leave_13 rfl ?_
    refine rx_aald dX11_leave_14 (by first | assumption | rfl) (by decide) rfl (by first | assumption | (unfold vp_in; decide)) (by first | assumption | rfl) ?_
    refine g_1_0 dX11_leave_15 rfl wf_X11_232 (by first | assumption | rfl) ?_
    refine ex_if_ne 24 dX11_leave_18 (by decide) (fun h18 => ?_) (fun h18 => ?_)
    · skip
      refine ex_aload_n dX11_leave_24 rfl ?_
      refine g_11_4 dX11_leave_25 rfl wf_X11_35 (by first | assumption | rfl) (show Rt _ 0 4 = some 5 from rfl) ?_
      refine ex_iload_n dX11_leave_28 rfl ?_
      refine rx_aald dX11_leave_29 (by first | assumption | rfl) (by decide) rfl (by first | assumption | (unfold vp_in; decide)) (by first | assumption | rfl) ?_
      refine ex_iconst (v := 0) dX11_leave_30 (by decide) ?_
      refine p_1_0 dX11_leave_31 rfl wf_X11_232 ⟨rfl, rfl⟩ (by first | assumption | rfl) ?_
      refine ex_iconst (v := 1) dX11_leave_34 (by decide) ?_
      refine ex_iret dX11_leave_35 rfl rfl ⟨rfl, Nat.le_refl _⟩ ?_
      exact ⟨(by simp only [f_X11_leave, ↓eq_false h4, ↓eq_false h18, if_true, if_false, not_true_eq_false, not_false_eq_true]), (by simp only [f_X11_leave, ↓eq_false h4, ↓eq_false h18, if_true, if_false, not_true_eq_false, not_false_eq_true])⟩
    · skip
      refine ex_bipush (v := (-4)) dX11_leave_21 (by decide) ?_
      refine ex_iret dX11_leave_23 rfl rfl ⟨rfl, Nat.le_refl _⟩ ?_
      exact ⟨(by simp only [f_X11_leave, ↓eq_false h4, ↓eq_true h18, if_true, if_false, not_true_eq_false, not_false_eq_true]), (by simp only [f_X11_leave, ↓eq_false h4, ↓eq_true h18, if_true, if_false, not_true_eq_false, not_false_eq_true])⟩
  · skip
    refine ex_iconst (v := (-1)) dX11_leave_7 (by decide) ?_
    refine ex_iret dX11_leave_8 rfl rfl ⟨rfl, Nat.le_refl _⟩ ?_
    exact ⟨(by simp only [f_X11_leave, ↓eq_true h4, if_true, if_false, not_true_eq_false, not_false_eq_true]), (by simp only [f_X11_leave, ↓eq_true h4, if_true, if_false, not_true_eq_false, not_false_eq_true])⟩
def f_X11_asked (I : Im) : Int32 :=
  I 0 18
set_option maxRecDepth 100000 in
set_option maxHeartbeats 4000000 in
theorem s_X11_asked   : Ca G mdX11_asked [.ref 0] (mk I L t) (Rs (.int (f_X11_asked I)) (mk I L t)) := by
  refine Ca.intro [some (.ref 0)] (by decide) (Nat.le_of_ble_eq_true rfl) rfl rfl ?_
  refine ex_aload_n dX11_asked_0 rfl ?_
  refine g_11_18 dX11_asked_1 rfl wf_X11_104 (by first | assumption | rfl) ?_
  refine ex_iret dX11_asked_4 rfl rfl ⟨rfl, Nat.le_refl _⟩ ?_
  exact ⟨(by simp only [f_X11_asked, if_true, if_false, not_true_eq_false, not_false_eq_true]), rfl⟩
def f_X11_finding (I : Im) : Int32 :=
  I 0 17
set_option maxRecDepth 100000 in
set_option maxHeartbeats 4000000 in
theorem s_X11_finding   : Ca G mdX11_finding [.ref 0] (mk I L t) (Rs (.int (f_X11_finding I)) (mk I L t)) := by
  refine Ca.intro [some (.ref 0)] (by decide) (Nat.le_of_ble_eq_true rfl) rfl rfl ?_
  refine ex_aload_n dX11_finding_0 rfl ?_
  refine g_11_17 dX11_finding_1 rfl wf_X11_101 (by first | assumption | rfl) ?_
  refine ex_iret dX11_finding_4 rfl rfl ⟨rfl, Nat.le_refl _⟩ ?_
  exact ⟨(by simp only [f_X11_finding, if_true, if_false, not_true_eq_false, not_false_eq_true]), rfl⟩
def f_X11_upper (L : Nat → Nat → Int64) : Int64 :=
  L 103 0
set_option maxRecDepth 100000 in
set_option maxHeartbeats 4000000 in
theorem s_X11_upper   : Ca G mdX11_upper [.ref 0] (mk I L t) (Rs (.long (f_X11_upper L)) (mk I L t)) := by
  refine Ca.intro [some (.ref 0)] (by decide) (Nat.le_of_ble_eq_true rfl) rfl rfl ?_
  refine ex_aload_n dX11_upper_0 rfl ?_
  refine g_11_19 dX11_upper_1 rfl wf_X11_110 (by first | assumption | rfl) (show Rt _ 0 19 = some 103 from rfl) ?_
  refine g_3_0 dX11_upper_4 rfl wf_X11_471 (by first | assumption | rfl) ?_
  refine ex_lret dX11_upper_7 rfl ⟨rfl, Nat.le_refl _⟩ ?_
  exact ⟨(by simp only [f_X11_upper, if_true, if_false, not_true_eq_false, not_false_eq_true]), rfl⟩
def f_X11_lower (L : Nat → Nat → Int64) : Int64 :=
  L 103 1
set_option maxRecDepth 100000 in
set_option maxHeartbeats 4000000 in
theorem s_X11_lower   : Ca G mdX11_lower [.ref 0] (mk I L t) (Rs (.long (f_X11_lower L)) (mk I L t)) := by
  refine Ca.intro [some (.ref 0)] (by decide) (Nat.le_of_ble_eq_true rfl) rfl rfl ?_
  refine ex_aload_n dX11_lower_0 rfl ?_
  refine g_11_19 dX11_lower_1 rfl wf_X11_110 (by first | assumption | rfl) (show Rt _ 0 19 = some 103 from rfl) ?_
  refine g_3_1 dX11_lower_4 rfl wf_X11_475 (by first | assumption | rfl) ?_
  refine ex_lret dX11_lower_7 rfl ⟨rfl, Nat.le_refl _⟩ ?_
  exact ⟨(by simp only [f_X11_lower, if_true, if_false, not_true_eq_false, not_false_eq_true]), rfl⟩
theorem f16 {f : Int32} (h : ¬ b2i (1 ≤ f ∧ f ≤ 5) = 0) : vp_in f 6 := by
  obtain ⟨h0, h1⟩ := b2i_n0.mp h
  rw [vp_in_iff]
  have a1 := Int32.le_iff_toInt_le.mp h0
  have a2 := Int32.le_iff_toInt_le.mp h1
  have : (5 : Int32).toInt = 5 := by decide
  have : (1 : Int32).toInt = 1 := by decide
  omega
def f_X11_findings (I : Im) (f : Int32) : Int32 :=
  if (b2i (1 ≤ f ∧ f ≤ 5)) = 0 then
    (-1)
  else
    I 102 f.toNatClampNeg
set_option maxRecDepth 100000 in
set_option maxHeartbeats 4000000 in
theorem s_X11_findings  {f : Int32}  : Ca G mdX11_findings [.ref 0, .int f] (mk I L t) (Rs (.int (f_X11_findings I f)) (mk I L t)) := by
  refine Ca.intro [some (.ref 0), some (.int f)] (by decide) (Nat.le_of_ble_eq_true rfl) rfl rfl ?_
  refine ex_iload_n dX11_findings_0 rfl ?_
  refine ex_iconst (v := 1) dX11_findings_1 (by decide) ?_
  refine ex_iconst (v := 5) dX11_findings_2 (by decide) ?_
  refine rx_cS dX11_findings_3 rfl lk_X11_117 ⟨⟨rfl, rfl⟩, by decide, by decide⟩ rfl (Nat.le_of_ble_eq_true rfl) rfl s_X11_within (Rs.k ?_)
  refine ex_if_eq 18 dX11_findings_6 (by decide) (fun h6 => ?_) (fun h6 => ?_)
  · skip
    refine ex_iconst (v := (-1)) dX11_findings_18 (by decide) ?_
    refine ex_iret dX11_findings_19 rfl rfl ⟨rfl, Nat.le_refl _⟩ ?_
    exact ⟨(by simp only [f_X11_findings, ↓eq_true h6, if_true, if_false, not_true_eq_false, not_false_eq_true]), rfl⟩
  · skip
    refine ex_aload_n dX11_findings_9 rfl ?_
    refine g_11_15 dX11_findings_10 rfl wf_X11_94 (by first | assumption | rfl) (show Rt _ 0 15 = some 102 from rfl) ?_
    refine ex_iload_n dX11_findings_13 rfl ?_
    refine rx_iald dX11_findings_14 (by first | assumption | rfl) (f16 h6) ?_
    refine ex_goto 19 dX11_findings_15 (by decide) ?_
    refine ex_iret dX11_findings_19 rfl rfl ⟨rfl, Nat.le_refl _⟩ ?_
    exact ⟨(by simp only [f_X11_findings, ↓eq_false h6, if_true, if_false, not_true_eq_false, not_false_eq_true]), rfl⟩
end C9
