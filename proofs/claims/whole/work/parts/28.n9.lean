section N9
variable {G : Gp} {I : Im} {L : Nat → Nat → Int64} {t : Nat}
def spF (J : Im) (n c a k : Nat) : Im :=
  match k with
  | 0 => J
  | k + 1 => up2 (spF J n c a k) 101 (a - 1 - k) (nI (c / n ^ k % n))
termination_by k
theorem spF_0 {J : Im} {n c a : Nat} : spF J n c a 0 = J := by rw [spF]
theorem spF_s {J : Im} {n c a k : Nat} : spF J n c a (k + 1) = up2 (spF J n c a k) 101 (a - 1 - k) (nI (c / n ^ k % n)) := by rw [spF]
theorem spF_off {J : Im} {n c a e : Nat} (h : e ≠ 101) : ∀ k, spF J n c a k e = J e := by
  intro k
  induction k with
  | zero => rw [spF_0]
  | succ k ih => rw [spF_s, up2_off h, ih]
theorem spF_at {J : Im} {n c a i : Nat} : ∀ k, k ≤ a → i < a → a - k ≤ i → spF J n c a k 101 i = nI (c / n ^ (a - 1 - i) % n) := by
  intro k
  induction k with
  | zero => intro _ h1 h2; omega
  | succ k ih =>
    intro h h1 h2
    rw [spF_s]
    by_cases e : i = a - 1 - k
    · subst e
      rw [u2_s, show a - 1 - (a - 1 - k) = k by omega]
    · rw [u2_j e]
      exact ih (by omega) h1 (by omega)
theorem sp_q {J : Im} {n c a i : Nat} (ha : a ≤ 3) (hn0 : 0 < n) (hn : n ≤ 16) (hi : i < a) : ∃ q, q < 2 ^ 31 ∧ nI i * nI n + spF J n c a a 101 i = nI q := by
  refine ⟨i * n + c / n ^ (a - 1 - i) % n, ?_, ?_⟩
  · have h1 : i * n ≤ 3 * 16 := Nat.mul_le_mul (by omega) hn
    have h2 := Nat.mod_lt (c / n ^ (a - 1 - i)) hn0
    omega
  · rw [spF_at a (Nat.le_refl a) hi (by omega), pk_mul, nI_add]
theorem TOk_of {J : Im} (h : J 24 = I 24) (hm : TOk I) : TOk J := by
  unfold TOk
  rw [h]
  exact hm
theorem s_partG {x : Int32} (hm : TOk I) (hx : ∃ q, q < 2 ^ 31 ∧ x = nI q) : Ca G mdX5_partedOf [.ref 24, .int x] (mk I L t) (Rs (.int (partV I 24 (I 24 2).toNatClampNeg x.toNatClampNeg)) (mk I L t)) := by
  obtain ⟨q, hq, rfl⟩ := hx
  exact s_partT hm hq
theorem s_pullG {x : Int32} (hm : TOk I) (hx : ∃ q, q < 2 ^ 31 ∧ x = nI q) : Ca G mdX5_pullOf [.ref 24, .int x] (mk I L t) (Rs (.int (pullV I 24 (I 24 2).toNatClampNeg x.toNatClampNeg)) (mk I L t)) := by
  obtain ⟨q, hq, rfl⟩ := hx
  exact s_pullT hm hq
set_option maxRecDepth 100000 in
set_option maxHeartbeats 4000000 in
theorem s_X11_spreadBerths {c a n : Nat} (ha : a ≤ 3) (hn3 : 3 ≤ n) (hn : n ≤ 16) (hc : c < 2 ^ 30) : Ca G mdX11_spreadBerths [.ref 0, .int (nI c), .int (nI a), .int (nI n)] (mk I L t) (Rv (mk (spF I n c a a) L t)) := by
  refine Ca.intro [some (.ref 0), some (.int (nI c)), some (.int (nI a)), some (.int (nI n)), none, none, none] (by decide) (Nat.le_of_ble_eq_true rfl) rfl rfl ?_
  refine ex_iconst (v := 1) dX11_spreadBerths_0 (by decide) ?_
  refine ex_iload_n dX11_spreadBerths_1 rfl ?_
  refine ex_mmax dX11_spreadBerths_2 rfl lk_X11_432 wj_max wj_m wj_maxc ⟨by decide, by decide⟩ ⟨by decide, by decide⟩ (Nat.le_of_ble_eq_true rfl) ?_
  rw [if_pos (show (1 : Int32) < nI n from nI_lt (a := 1) (by omega) (by omega))]
  refine st_i4 dX11_spreadBerths_5 (by first | exact rfl | exact trivial) ?_
  refine ex_iload_n dX11_spreadBerths_7 rfl ?_
  refine st_i5 dX11_spreadBerths_8 (by first | exact rfl | exact trivial) ?_
  refine ex_iload_n dX11_spreadBerths_10 rfl ?_
  refine ex_iconst (v := 3) dX11_spreadBerths_11 (by decide) ?_
  refine ex_mmin dX11_spreadBerths_12 rfl lk_X11_435 wj_min wj_m wj_minc ⟨by decide, by decide⟩ ⟨by decide, by decide⟩ (Nat.le_of_ble_eq_true rfl) ?_
  rw [if_neg (show ¬ (3 : Int32) < nI a from nI_nlt (a := 3) (by omega) (by omega))]
  refine ex_iconst (v := 1) dX11_spreadBerths_15 (by decide) ?_
  refine ex_isub dX11_spreadBerths_16 ?_
  refine st_i6 dX11_spreadBerths_17 (by first | exact rfl | exact trivial) ?_
  have key := loop_up (G := G) (d := mdX11_spreadBerths) (pc := 19) (st := []) (uc := 0) (us := 0) (P := Rv (mk (spF I n c a a) L t)) a (fun k => mk (spF I n c a k) L t) (fun k => [some (.ref 0), some (.int (nI c)), some (.int (nI a)), some (.int (nI n)), some (.int (nI n)), some (.int (nI (c / n ^ k))), some (.int (nI (a - k) - 1))]) ?_ ?_ 0 (Nat.zero_le _)
  · rw [spF_0, Nat.pow_zero, Nat.div_one, Nat.sub_zero] at key
    exact key
  · intro k hk ih
    have e6 : nI (a - k) - 1 = nI (a - 1 - k) := by rw [show a - k = (a - 1 - k) + 1 by omega]; exact nI_pred _
    have e7 : nI (a - k) - 1 + (-1) = nI (a - (k + 1)) - 1 := by rw [e6, show a - (k + 1) = a - 1 - k by omega, Int32.sub_eq_add_neg]
    have hq : c / n ^ k < 2 ^ 31 := Nat.lt_of_le_of_lt (Nat.div_le_self _ _) (by omega)
    refine ex_iload dX11_spreadBerths_19 rfl ?_
    refine ex_if_lt 49 dX11_spreadBerths_21 (by decide) (fun h21 => ?_) (fun h21 => ?_)
    · exact absurd (e6 ▸ h21) (nI_pos (by omega))
    · skip
      refine ex_aload_n dX11_spreadBerths_24 rfl ?_
      refine g_11_14 dX11_spreadBerths_25 rfl wf_X11_90 (by first | assumption | rfl) (show Rt _ 0 14 = some 101 from rfl) ?_
      refine ex_iload dX11_spreadBerths_28 rfl ?_
      refine ex_iload dX11_spreadBerths_30 rfl ?_
      refine ex_iload dX11_spreadBerths_32 rfl ?_
      refine ex_irem dX11_spreadBerths_34 (nI_ne0 (by omega) (by omega)) ?_
      refine rx_iast dX11_spreadBerths_35 (by first | assumption | rfl) (by rw [e6]; exact vp_in_nI (by omega) (by decide)) ?_
      refine ex_iload dX11_spreadBerths_36 rfl ?_
      refine ex_iload dX11_spreadBerths_38 rfl ?_
      refine ex_idiv dX11_spreadBerths_40 (nI_ne0 (by omega) (by omega)) ?_
      refine st_i5 dX11_spreadBerths_41 (by first | exact rfl | exact trivial) ?_
      refine inc6 (v := _ + (-1)) dX11_spreadBerths_43 (by rfl) (by first | exact rfl | exact trivial) ?_
      refine ex_goto 19 dX11_spreadBerths_46 (by decide) ?_
      rw [pk_rem hq (show 0 < n by omega) (show n < 2 ^ 31 by omega), pk_div hq (show 0 < n by omega) (show n < 2 ^ 31 by omega), e7, e6, nI_clamp (show a - 1 - k < 2 ^ 31 by omega)]
      rw [Nat.div_div_eq_div_mul, ← Nat.pow_succ]
      rw [spF_s] at ih
      exact ih
  · skip
    refine ex_iload dX11_spreadBerths_19 rfl ?_
    refine ex_if_lt 49 dX11_spreadBerths_21 (by decide) (fun h21 => ?_) (fun h21 => ?_)
    · skip
      refine ex_vret dX11_spreadBerths_49 rfl ⟨rfl, Nat.le_refl _⟩ ?_
      exact ⟨rfl, rfl⟩
    · exact absurd (show nI (a - a) - 1 < 0 by rw [Nat.sub_self]; decide) h21
def f_X11_apart1 : Int32 :=
  1
set_option maxRecDepth 100000 in
set_option maxHeartbeats 4000000 in
theorem s_X11_apart1   : Ca G mdX11_apart [.ref 0, .int 1] (mk I L t) (Rs (.int (f_X11_apart1)) (mk I L t)) := by
  refine Ca.intro [some (.ref 0), some (.int 1), none, none] (by decide) (Nat.le_of_ble_eq_true rfl) rfl rfl ?_
  refine ex_iconst (v := 1) dX11_apart_0 (by decide) ?_
  refine st_i2 dX11_apart_1 (by first | exact rfl | exact trivial) ?_
  refine ex_iload_n dX11_apart_2 rfl ?_
  refine ex_iload_n dX11_apart_3 rfl ?_
  refine ex_icmp_ge 48 dX11_apart_4 (by decide) (fun h4 => ?_) (fun h4 => ?_)
  · skip
    refine ex_iconst (v := 1) dX11_apart_48 (by decide) ?_
    refine ex_iret dX11_apart_49 rfl rfl ⟨rfl, Nat.le_refl _⟩ ?_
    exact ⟨(by simp only [f_X11_apart1, if_true, if_false, not_true_eq_false, not_false_eq_true]), rfl⟩
  · exact absurd h4 (by decide)
theorem z_X11_apart1 : f_X11_apart1 = 0 ∨ f_X11_apart1 = 1 := by
  unfold f_X11_apart1
  repeat' split
  all_goals first | exact Or.inl rfl | exact Or.inr rfl | assumption
def f_X11_partingOf1 (I : Im) (w : Int32) : Int32 :=
  if (partV I 24 (I 24 2).toNatClampNeg (((0 * w) + (I 101 (0 : Int32).toNatClampNeg)) : Int32).toNatClampNeg) = ((-9)) then
    0 + 0
  else
    0 + 1
set_option maxRecDepth 100000 in
set_option maxHeartbeats 4000000 in
theorem s_X11_partingOf1  {w : Int32} (hm : TOk I) (hB : ∀ i, i < 1 → ∃ q, q < 2 ^ 31 ∧ nI i * w + I 101 i = nI q) : Ca G mdX11_partingOf [.ref 0, .int 1, .int w] (mk I L t) (Rs (.int (f_X11_partingOf1 I w)) (mk I L t)) := by
  refine Ca.intro [some (.ref 0), some (.int 1), some (.int w), none, none] (by decide) (Nat.le_of_ble_eq_true rfl) rfl rfl ?_
  refine ex_iconst (v := 0) dX11_partingOf_0 (by decide) ?_
  refine st_i3 dX11_partingOf_1 (by first | exact rfl | exact trivial) ?_
  refine ex_iconst (v := 0) dX11_partingOf_2 (by decide) ?_
  refine st_i4 dX11_partingOf_3 (by first | exact rfl | exact trivial) ?_
  refine ex_iload dX11_partingOf_5 rfl ?_
  refine ex_iload_n dX11_partingOf_7 rfl ?_
  refine ex_icmp_ge 55 dX11_partingOf_8 (by decide) (fun h8 => ?_) (fun h8 => ?_)
  · exact absurd h8 (by decide)
  · skip
    refine ex_iload dX11_partingOf_11 rfl ?_
    refine ex_iconst (v := 3) dX11_partingOf_13 (by decide) ?_
    refine ex_icmp_ge 55 dX11_partingOf_14 (by decide) (fun h14 => ?_) (fun h14 => ?_)
    · exact absurd h14 (by decide)
    · skip
      refine ex_iload_n dX11_partingOf_17 rfl ?_
      refine ex_aload_n dX11_partingOf_18 rfl ?_
      refine g_11_8 dX11_partingOf_19 rfl wf_X11_58 (by first | assumption | rfl) (show Rt _ 0 8 = some 24 from rfl) ?_
      refine ex_iload dX11_partingOf_22 rfl ?_
      refine ex_iload_n dX11_partingOf_24 rfl ?_
      refine ex_imul dX11_partingOf_25 ?_
      refine ex_aload_n dX11_partingOf_26 rfl ?_
      refine g_11_14 dX11_partingOf_27 rfl wf_X11_90 (by first | assumption | rfl) (show Rt _ 0 14 = some 101 from rfl) ?_
      refine ex_iload dX11_partingOf_30 rfl ?_
      refine rx_iald dX11_partingOf_32 (by first | assumption | rfl) (by first | assumption | (unfold vp_in; decide)) ?_
      refine ex_iadd dX11_partingOf_33 ?_
      refine rx_cV (kd := 5) dX11_partingOf_34 rfl lk_X11_400 rfl (by decide) (by first | assumption | rfl) ⟨⟨rfl, rfl⟩, by decide, by decide⟩ rfl (Nat.le_of_ble_eq_true rfl) rfl (s_partG hm (by first | exact hB 0 (Nat.le_of_ble_eq_true rfl) | exact hB 1 (Nat.le_of_ble_eq_true rfl) | exact hB 2 (Nat.le_of_ble_eq_true rfl))) (Rs.k ?_)
      refine ex_bipush (v := (-9)) dX11_partingOf_37 (by decide) ?_
      refine ex_icmp_ne 46 dX11_partingOf_39 (by decide) (fun h39 => ?_) (fun h39 => ?_)
      · skip
        refine ex_iconst (v := 1) dX11_partingOf_46 (by decide) ?_
        refine ex_iadd dX11_partingOf_47 ?_
        refine st_i3 dX11_partingOf_48 (by first | exact rfl | exact trivial) ?_
        refine inc4 (v := _ + 1) dX11_partingOf_49 (by rfl) (by first | exact rfl | exact trivial) ?_
        refine ex_goto 5 dX11_partingOf_52 (by decide) ?_
        refine ex_iload dX11_partingOf_5 rfl ?_
        refine ex_iload_n dX11_partingOf_7 rfl ?_
        refine ex_icmp_ge 55 dX11_partingOf_8 (by decide) (fun h8_1 => ?_) (fun h8_1 => ?_)
        · skip
          refine ex_iload_n dX11_partingOf_55 rfl ?_
          refine ex_iret dX11_partingOf_56 rfl rfl ⟨rfl, Nat.le_refl _⟩ ?_
          exact ⟨(by simp only [f_X11_partingOf1, ↓eq_false h39, if_true, if_false, not_true_eq_false, not_false_eq_true]), rfl⟩
        · exact absurd h8_1 (by decide)
      · skip
        refine ex_iconst (v := 0) dX11_partingOf_42 (by decide) ?_
        refine ex_goto 47 dX11_partingOf_43 (by decide) ?_
        refine ex_iadd dX11_partingOf_47 ?_
        refine st_i3 dX11_partingOf_48 (by first | exact rfl | exact trivial) ?_
        refine inc4 (v := _ + 1) dX11_partingOf_49 (by rfl) (by first | exact rfl | exact trivial) ?_
        refine ex_goto 5 dX11_partingOf_52 (by decide) ?_
        refine ex_iload dX11_partingOf_5 rfl ?_
        refine ex_iload_n dX11_partingOf_7 rfl ?_
        refine ex_icmp_ge 55 dX11_partingOf_8 (by decide) (fun h8_1 => ?_) (fun h8_1 => ?_)
        · skip
          refine ex_iload_n dX11_partingOf_55 rfl ?_
          refine ex_iret dX11_partingOf_56 rfl rfl ⟨rfl, Nat.le_refl _⟩ ?_
          exact ⟨(by simp only [f_X11_partingOf1, ↓eq_true h39, if_true, if_false, not_true_eq_false, not_false_eq_true]), rfl⟩
        · exact absurd h8_1 (by decide)
def f_X11_pullsOf1 (I : Im) (w : Int32) : Int32 :=
  0 + (pullV I 24 (I 24 2).toNatClampNeg (((0 * w) + (I 101 (0 : Int32).toNatClampNeg)) : Int32).toNatClampNeg)
set_option maxRecDepth 100000 in
set_option maxHeartbeats 4000000 in
theorem s_X11_pullsOf1  {w : Int32} (hm : TOk I) (hB : ∀ i, i < 1 → ∃ q, q < 2 ^ 31 ∧ nI i * w + I 101 i = nI q) : Ca G mdX11_pullsOf [.ref 0, .int 1, .int w] (mk I L t) (Rs (.int (f_X11_pullsOf1 I w)) (mk I L t)) := by
  refine Ca.intro [some (.ref 0), some (.int 1), some (.int w), none, none] (by decide) (Nat.le_of_ble_eq_true rfl) rfl rfl ?_
  refine ex_iconst (v := 0) dX11_pullsOf_0 (by decide) ?_
  refine st_i3 dX11_pullsOf_1 (by first | exact rfl | exact trivial) ?_
  refine ex_iconst (v := 0) dX11_pullsOf_2 (by decide) ?_
  refine st_i4 dX11_pullsOf_3 (by first | exact rfl | exact trivial) ?_
  refine ex_iload dX11_pullsOf_5 rfl ?_
  refine ex_iload_n dX11_pullsOf_7 rfl ?_
  refine ex_icmp_ge 45 dX11_pullsOf_8 (by decide) (fun h8 => ?_) (fun h8 => ?_)
  · exact absurd h8 (by decide)
  · skip
    refine ex_iload dX11_pullsOf_11 rfl ?_
    refine ex_iconst (v := 3) dX11_pullsOf_13 (by decide) ?_
    refine ex_icmp_ge 45 dX11_pullsOf_14 (by decide) (fun h14 => ?_) (fun h14 => ?_)
    · exact absurd h14 (by decide)
    · skip
      refine ex_iload_n dX11_pullsOf_17 rfl ?_
      refine ex_aload_n dX11_pullsOf_18 rfl ?_
      refine g_11_8 dX11_pullsOf_19 rfl wf_X11_58 (by first | assumption | rfl) (show Rt _ 0 8 = some 24 from rfl) ?_
      refine ex_iload dX11_pullsOf_22 rfl ?_
      refine ex_iload_n dX11_pullsOf_24 rfl ?_
      refine ex_imul dX11_pullsOf_25 ?_
      refine ex_aload_n dX11_pullsOf_26 rfl ?_
      refine g_11_14 dX11_pullsOf_27 rfl wf_X11_90 (by first | assumption | rfl) (show Rt _ 0 14 = some 101 from rfl) ?_
      refine ex_iload dX11_pullsOf_30 rfl ?_
      refine rx_iald dX11_pullsOf_32 (by first | assumption | rfl) (by first | assumption | (unfold vp_in; decide)) ?_
      refine ex_iadd dX11_pullsOf_33 ?_
      refine rx_cV (kd := 5) dX11_pullsOf_34 rfl lk_X11_403 rfl (by decide) (by first | assumption | rfl) ⟨⟨rfl, rfl⟩, by decide, by decide⟩ rfl (Nat.le_of_ble_eq_true rfl) rfl (s_pullG hm (by first | exact hB 0 (Nat.le_of_ble_eq_true rfl) | exact hB 1 (Nat.le_of_ble_eq_true rfl) | exact hB 2 (Nat.le_of_ble_eq_true rfl))) (Rs.k ?_)
      refine ex_iadd dX11_pullsOf_37 ?_
      refine st_i3 dX11_pullsOf_38 (by first | exact rfl | exact trivial) ?_
      refine inc4 (v := _ + 1) dX11_pullsOf_39 (by rfl) (by first | exact rfl | exact trivial) ?_
      refine ex_goto 5 dX11_pullsOf_42 (by decide) ?_
      refine ex_iload dX11_pullsOf_5 rfl ?_
      refine ex_iload_n dX11_pullsOf_7 rfl ?_
      refine ex_icmp_ge 45 dX11_pullsOf_8 (by decide) (fun h8_1 => ?_) (fun h8_1 => ?_)
      · skip
        refine ex_iload_n dX11_pullsOf_45 rfl ?_
        refine ex_iret dX11_pullsOf_46 rfl rfl ⟨rfl, Nat.le_refl _⟩ ?_
        exact ⟨(by simp only [f_X11_pullsOf1, if_true, if_false, not_true_eq_false, not_false_eq_true]), rfl⟩
      · exact absurd h8_1 (by decide)
def f_X11_apart2 (I : Im) : Int32 :=
  if (I 101 (1 : Int32).toNatClampNeg) = (I 101 (0 : Int32).toNatClampNeg) then
    0
  else
    1
set_option maxRecDepth 100000 in
set_option maxHeartbeats 4000000 in
theorem s_X11_apart2   : Ca G mdX11_apart [.ref 0, .int 2] (mk I L t) (Rs (.int (f_X11_apart2 I)) (mk I L t)) := by
  refine Ca.intro [some (.ref 0), some (.int 2), none, none] (by decide) (Nat.le_of_ble_eq_true rfl) rfl rfl ?_
  refine ex_iconst (v := 1) dX11_apart_0 (by decide) ?_
  refine st_i2 dX11_apart_1 (by first | exact rfl | exact trivial) ?_
  refine ex_iload_n dX11_apart_2 rfl ?_
  refine ex_iload_n dX11_apart_3 rfl ?_
  refine ex_icmp_ge 48 dX11_apart_4 (by decide) (fun h4 => ?_) (fun h4 => ?_)
  · exact absurd h4 (by decide)
  · skip
    refine ex_iload_n dX11_apart_7 rfl ?_
    refine ex_iconst (v := 3) dX11_apart_8 (by decide) ?_
    refine ex_icmp_ge 48 dX11_apart_9 (by decide) (fun h9 => ?_) (fun h9 => ?_)
    · exact absurd h9 (by decide)
    · skip
      refine ex_iconst (v := 0) dX11_apart_12 (by decide) ?_
      refine st_i3 dX11_apart_13 (by first | exact rfl | exact trivial) ?_
      refine ex_iload_n dX11_apart_14 rfl ?_
      refine ex_iload_n dX11_apart_15 rfl ?_
      refine ex_icmp_ge 42 dX11_apart_16 (by decide) (fun h16 => ?_) (fun h16 => ?_)
      · exact absurd h16 (by decide)
      · skip
        refine ex_aload_n dX11_apart_19 rfl ?_
        refine g_11_14 dX11_apart_20 rfl wf_X11_90 (by first | assumption | rfl) (show Rt _ 0 14 = some 101 from rfl) ?_
        refine ex_iload_n dX11_apart_23 rfl ?_
        refine rx_iald dX11_apart_24 (by first | assumption | rfl) (by first | assumption | (unfold vp_in; decide)) ?_
        refine ex_aload_n dX11_apart_25 rfl ?_
        refine g_11_14 dX11_apart_26 rfl wf_X11_90 (by first | assumption | rfl) (show Rt _ 0 14 = some 101 from rfl) ?_
        refine ex_iload_n dX11_apart_29 rfl ?_
        refine rx_iald dX11_apart_30 (by first | assumption | rfl) (by first | assumption | (unfold vp_in; decide)) ?_
        refine ex_icmp_ne 36 dX11_apart_31 (by decide) (fun h31 => ?_) (fun h31 => ?_)
        · skip
          refine inc3 (v := _ + 1) dX11_apart_36 (by rfl) (by first | exact rfl | exact trivial) ?_
          refine ex_goto 14 dX11_apart_39 (by decide) ?_
          refine ex_iload_n dX11_apart_14 rfl ?_
          refine ex_iload_n dX11_apart_15 rfl ?_
          refine ex_icmp_ge 42 dX11_apart_16 (by decide) (fun h16_1 => ?_) (fun h16_1 => ?_)
          · skip
            refine inc2 (v := _ + 1) dX11_apart_42 (by rfl) (by first | exact rfl | exact trivial) ?_
            refine ex_goto 2 dX11_apart_45 (by decide) ?_
            refine ex_iload_n dX11_apart_2 rfl ?_
            refine ex_iload_n dX11_apart_3 rfl ?_
            refine ex_icmp_ge 48 dX11_apart_4 (by decide) (fun h4_1 => ?_) (fun h4_1 => ?_)
            · skip
              refine ex_iconst (v := 1) dX11_apart_48 (by decide) ?_
              refine ex_iret dX11_apart_49 rfl rfl ⟨rfl, Nat.le_refl _⟩ ?_
              exact ⟨(by simp only [f_X11_apart2, ↓eq_false h31, if_true, if_false, not_true_eq_false, not_false_eq_true]), rfl⟩
            · exact absurd h4_1 (by decide)
          · exact absurd h16_1 (by decide)
        · skip
          refine ex_iconst (v := 0) dX11_apart_34 (by decide) ?_
          refine ex_iret dX11_apart_35 rfl rfl ⟨rfl, Nat.le_refl _⟩ ?_
          exact ⟨(by simp only [f_X11_apart2, ↓eq_true h31, if_true, if_false, not_true_eq_false, not_false_eq_true]), rfl⟩
theorem z_X11_apart2 {I : Im} : f_X11_apart2 I = 0 ∨ f_X11_apart2 I = 1 := by
  unfold f_X11_apart2
  repeat' split
  all_goals first | exact Or.inl rfl | exact Or.inr rfl | assumption
def f_X11_partingOf2 (I : Im) (w : Int32) : Int32 :=
  if (partV I 24 (I 24 2).toNatClampNeg (((0 * w) + (I 101 (0 : Int32).toNatClampNeg)) : Int32).toNatClampNeg) = ((-9)) then
    if (partV I 24 (I 24 2).toNatClampNeg ((((0 + 1) * w) + (I 101 (0 + 1 : Int32).toNatClampNeg)) : Int32).toNatClampNeg) = ((-9)) then
      (0 + 0) + 0
    else
      (0 + 0) + 1
  else
    if (partV I 24 (I 24 2).toNatClampNeg ((((0 + 1) * w) + (I 101 (0 + 1 : Int32).toNatClampNeg)) : Int32).toNatClampNeg) = ((-9)) then
      (0 + 1) + 0
    else
      (0 + 1) + 1
set_option maxRecDepth 100000 in
set_option maxHeartbeats 4000000 in
theorem s_X11_partingOf2  {w : Int32} (hm : TOk I) (hB : ∀ i, i < 2 → ∃ q, q < 2 ^ 31 ∧ nI i * w + I 101 i = nI q) : Ca G mdX11_partingOf [.ref 0, .int 2, .int w] (mk I L t) (Rs (.int (f_X11_partingOf2 I w)) (mk I L t)) := by
  refine Ca.intro [some (.ref 0), some (.int 2), some (.int w), none, none] (by decide) (Nat.le_of_ble_eq_true rfl) rfl rfl ?_
  refine ex_iconst (v := 0) dX11_partingOf_0 (by decide) ?_
  refine st_i3 dX11_partingOf_1 (by first | exact rfl | exact trivial) ?_
  refine ex_iconst (v := 0) dX11_partingOf_2 (by decide) ?_
  refine st_i4 dX11_partingOf_3 (by first | exact rfl | exact trivial) ?_
  refine ex_iload dX11_partingOf_5 rfl ?_
  refine ex_iload_n dX11_partingOf_7 rfl ?_
  refine ex_icmp_ge 55 dX11_partingOf_8 (by decide) (fun h8 => ?_) (fun h8 => ?_)
  · exact absurd h8 (by decide)
  · skip
    refine ex_iload dX11_partingOf_11 rfl ?_
    refine ex_iconst (v := 3) dX11_partingOf_13 (by decide) ?_
    refine ex_icmp_ge 55 dX11_partingOf_14 (by decide) (fun h14 => ?_) (fun h14 => ?_)
    · exact absurd h14 (by decide)
    · skip
      refine ex_iload_n dX11_partingOf_17 rfl ?_
      refine ex_aload_n dX11_partingOf_18 rfl ?_
      refine g_11_8 dX11_partingOf_19 rfl wf_X11_58 (by first | assumption | rfl) (show Rt _ 0 8 = some 24 from rfl) ?_
      refine ex_iload dX11_partingOf_22 rfl ?_
      refine ex_iload_n dX11_partingOf_24 rfl ?_
      refine ex_imul dX11_partingOf_25 ?_
      refine ex_aload_n dX11_partingOf_26 rfl ?_
      refine g_11_14 dX11_partingOf_27 rfl wf_X11_90 (by first | assumption | rfl) (show Rt _ 0 14 = some 101 from rfl) ?_
      refine ex_iload dX11_partingOf_30 rfl ?_
      refine rx_iald dX11_partingOf_32 (by first | assumption | rfl) (by first | assumption | (unfold vp_in; decide)) ?_
      refine ex_iadd dX11_partingOf_33 ?_
      refine rx_cV (kd := 5) dX11_partingOf_34 rfl lk_X11_400 rfl (by decide) (by first | assumption | rfl) ⟨⟨rfl, rfl⟩, by decide, by decide⟩ rfl (Nat.le_of_ble_eq_true rfl) rfl (s_partG hm (by first | exact hB 0 (Nat.le_of_ble_eq_true rfl) | exact hB 1 (Nat.le_of_ble_eq_true rfl) | exact hB 2 (Nat.le_of_ble_eq_true rfl))) (Rs.k ?_)
      refine ex_bipush (v := (-9)) dX11_partingOf_37 (by decide) ?_
      refine ex_icmp_ne 46 dX11_partingOf_39 (by decide) (fun h39 => ?_) (fun h39 => ?_)
      · skip
        refine ex_iconst (v := 1) dX11_partingOf_46 (by decide) ?_
        refine ex_iadd dX11_partingOf_47 ?_
        refine st_i3 dX11_partingOf_48 (by first | exact rfl | exact trivial) ?_
        refine inc4 (v := _ + 1) dX11_partingOf_49 (by rfl) (by first | exact rfl | exact trivial) ?_
        refine ex_goto 5 dX11_partingOf_52 (by decide) ?_
        refine ex_iload dX11_partingOf_5 rfl ?_
        refine ex_iload_n dX11_partingOf_7 rfl ?_
        refine ex_icmp_ge 55 dX11_partingOf_8 (by decide) (fun h8_1 => ?_) (fun h8_1 => ?_)
        · exact absurd h8_1 (by decide)
        · skip
          refine ex_iload dX11_partingOf_11 rfl ?_
          refine ex_iconst (v := 3) dX11_partingOf_13 (by decide) ?_
          refine ex_icmp_ge 55 dX11_partingOf_14 (by decide) (fun h14_1 => ?_) (fun h14_1 => ?_)
          · exact absurd h14_1 (by decide)
          · skip
            refine ex_iload_n dX11_partingOf_17 rfl ?_
            refine ex_aload_n dX11_partingOf_18 rfl ?_
            refine g_11_8 dX11_partingOf_19 rfl wf_X11_58 (by first | assumption | rfl) (show Rt _ 0 8 = some 24 from rfl) ?_
            refine ex_iload dX11_partingOf_22 rfl ?_
            refine ex_iload_n dX11_partingOf_24 rfl ?_
            refine ex_imul dX11_partingOf_25 ?_
            refine ex_aload_n dX11_partingOf_26 rfl ?_
            refine g_11_14 dX11_partingOf_27 rfl wf_X11_90 (by first | assumption | rfl) (show Rt _ 0 14 = some 101 from rfl) ?_
            refine ex_iload dX11_partingOf_30 rfl ?_
            refine rx_iald dX11_partingOf_32 (by first | assumption | rfl) (by first | assumption | (unfold vp_in; decide)) ?_
            refine ex_iadd dX11_partingOf_33 ?_
            refine rx_cV (kd := 5) dX11_partingOf_34 rfl lk_X11_400 rfl (by decide) (by first | assumption | rfl) ⟨⟨rfl, rfl⟩, by decide, by decide⟩ rfl (Nat.le_of_ble_eq_true rfl) rfl (s_partG hm (by first | exact hB 0 (Nat.le_of_ble_eq_true rfl) | exact hB 1 (Nat.le_of_ble_eq_true rfl) | exact hB 2 (Nat.le_of_ble_eq_true rfl))) (Rs.k ?_)
            refine ex_bipush (v := (-9)) dX11_partingOf_37 (by decide) ?_
            refine ex_icmp_ne 46 dX11_partingOf_39 (by decide) (fun h39_1 => ?_) (fun h39_1 => ?_)
            · skip
              refine ex_iconst (v := 1) dX11_partingOf_46 (by decide) ?_
              refine ex_iadd dX11_partingOf_47 ?_
              refine st_i3 dX11_partingOf_48 (by first | exact rfl | exact trivial) ?_
              refine inc4 (v := _ + 1) dX11_partingOf_49 (by rfl) (by first | exact rfl | exact trivial) ?_
              refine ex_goto 5 dX11_partingOf_52 (by decide) ?_
              refine ex_iload dX11_partingOf_5 rfl ?_
              refine ex_iload_n dX11_partingOf_7 rfl ?_
              refine ex_icmp_ge 55 dX11_partingOf_8 (by decide) (fun h8_2 => ?_) (fun h8_2 => ?_)
              · skip
                refine ex_iload_n dX11_partingOf_55 rfl ?_
                refine ex_iret dX11_partingOf_56 rfl rfl ⟨rfl, Nat.le_refl _⟩ ?_
                exact ⟨(by simp only [f_X11_partingOf2, ↓eq_false h39, ↓eq_false h39_1, if_true, if_false, not_true_eq_false, not_false_eq_true]), rfl⟩
              · exact absurd h8_2 (by decide)
            · skip
              refine ex_iconst (v := 0) dX11_partingOf_42 (by decide) ?_
              refine ex_goto 47 dX11_partingOf_43 (by decide) ?_
              refine ex_iadd dX11_partingOf_47 ?_
              refine st_i3 dX11_partingOf_48 (by first | exact rfl | exact trivial) ?_
              refine inc4 (v := _ + 1) dX11_partingOf_49 (by rfl) (by first | exact rfl | exact trivial) ?_
              refine ex_goto 5 dX11_partingOf_52 (by decide) ?_
              refine ex_iload dX11_partingOf_5 rfl ?_
              refine ex_iload_n dX11_partingOf_7 rfl ?_
              refine ex_icmp_ge 55 dX11_partingOf_8 (by decide) (fun h8_2 => ?_) (fun h8_2 => ?_)
              · skip
                refine ex_iload_n dX11_partingOf_55 rfl ?_
                refine ex_iret dX11_partingOf_56 rfl rfl ⟨rfl, Nat.le_refl _⟩ ?_
                exact ⟨(by simp only [f_X11_partingOf2, ↓eq_false h39, ↓eq_true h39_1, if_true, if_false, not_true_eq_false, not_false_eq_true]), rfl⟩
              · exact absurd h8_2 (by decide)
      · skip
        refine ex_iconst (v := 0) dX11_partingOf_42 (by decide) ?_
        refine ex_goto 47 dX11_partingOf_43 (by decide) ?_
        refine ex_iadd dX11_partingOf_47 ?_
        refine st_i3 dX11_partingOf_48 (by first | exact rfl | exact trivial) ?_
        refine inc4 (v := _ + 1) dX11_partingOf_49 (by rfl) (by first | exact rfl | exact trivial) ?_
        refine ex_goto 5 dX11_partingOf_52 (by decide) ?_
        refine ex_iload dX11_partingOf_5 rfl ?_
        refine ex_iload_n dX11_partingOf_7 rfl ?_
        refine ex_icmp_ge 55 dX11_partingOf_8 (by decide) (fun h8_1 => ?_) (fun h8_1 => ?_)
        · exact absurd h8_1 (by decide)
        · skip
          refine ex_iload dX11_partingOf_11 rfl ?_
          refine ex_iconst (v := 3) dX11_partingOf_13 (by decide) ?_
          refine ex_icmp_ge 55 dX11_partingOf_14 (by decide) (fun h14_1 => ?_) (fun h14_1 => ?_)
          · exact absurd h14_1 (by decide)
          · skip
            refine ex_iload_n dX11_partingOf_17 rfl ?_
            refine ex_aload_n dX11_partingOf_18 rfl ?_
            refine g_11_8 dX11_partingOf_19 rfl wf_X11_58 (by first | assumption | rfl) (show Rt _ 0 8 = some 24 from rfl) ?_
            refine ex_iload dX11_partingOf_22 rfl ?_
            refine ex_iload_n dX11_partingOf_24 rfl ?_
            refine ex_imul dX11_partingOf_25 ?_
            refine ex_aload_n dX11_partingOf_26 rfl ?_
            refine g_11_14 dX11_partingOf_27 rfl wf_X11_90 (by first | assumption | rfl) (show Rt _ 0 14 = some 101 from rfl) ?_
            refine ex_iload dX11_partingOf_30 rfl ?_
            refine rx_iald dX11_partingOf_32 (by first | assumption | rfl) (by first | assumption | (unfold vp_in; decide)) ?_
            refine ex_iadd dX11_partingOf_33 ?_
            refine rx_cV (kd := 5) dX11_partingOf_34 rfl lk_X11_400 rfl (by decide) (by first | assumption | rfl) ⟨⟨rfl, rfl⟩, by decide, by decide⟩ rfl (Nat.le_of_ble_eq_true rfl) rfl (s_partG hm (by first | exact hB 0 (Nat.le_of_ble_eq_true rfl) | exact hB 1 (Nat.le_of_ble_eq_true rfl) | exact hB 2 (Nat.le_of_ble_eq_true rfl))) (Rs.k ?_)
            refine ex_bipush (v := (-9)) dX11_partingOf_37 (by decide) ?_
            refine ex_icmp_ne 46 dX11_partingOf_39 (by decide) (fun h39_1 => ?_) (fun h39_1 => ?_)
            · skip
              refine ex_iconst (v := 1) dX11_partingOf_46 (by decide) ?_
              refine ex_iadd dX11_partingOf_47 ?_
              refine st_i3 dX11_partingOf_48 (by first | exact rfl | exact trivial) ?_
              refine inc4 (v := _ + 1) dX11_partingOf_49 (by rfl) (by first | exact rfl | exact trivial) ?_
              refine ex_goto 5 dX11_partingOf_52 (by decide) ?_
              refine ex_iload dX11_partingOf_5 rfl ?_
              refine ex_iload_n dX11_partingOf_7 rfl ?_
              refine ex_icmp_ge 55 dX11_partingOf_8 (by decide) (fun h8_2 => ?_) (fun h8_2 => ?_)
              · skip
                refine ex_iload_n dX11_partingOf_55 rfl ?_
                refine ex_iret dX11_partingOf_56 rfl rfl ⟨rfl, Nat.le_refl _⟩ ?_
                exact ⟨(by simp only [f_X11_partingOf2, ↓eq_true h39, ↓eq_false h39_1, if_true, if_false, not_true_eq_false, not_false_eq_true]), rfl⟩
              · exact absurd h8_2 (by decide)
            · skip
              refine ex_iconst (v := 0) dX11_partingOf_42 (by decide) ?_
              refine ex_goto 47 dX11_partingOf_43 (by decide) ?_
              refine ex_iadd dX11_partingOf_47 ?_
              refine st_i3 dX11_partingOf_48 (by first | exact rfl | exact trivial) ?_
              refine inc4 (v := _ + 1) dX11_partingOf_49 (by rfl) (by first | exact rfl | exact trivial) ?_
              refine ex_goto 5 dX11_partingOf_52 (by decide) ?_
              refine ex_iload dX11_partingOf_5 rfl ?_
              refine ex_iload_n dX11_partingOf_7 rfl ?_
              refine ex_icmp_ge 55 dX11_partingOf_8 (by decide) (fun h8_2 => ?_) (fun h8_2 => ?_)
              · skip
                refine ex_iload_n dX11_partingOf_55 rfl ?_
                refine ex_iret dX11_partingOf_56 rfl rfl ⟨rfl, Nat.le_refl _⟩ ?_
                exact ⟨(by simp only [f_X11_partingOf2, ↓eq_true h39, ↓eq_true h39_1, if_true, if_false, not_true_eq_false, not_false_eq_true]), rfl⟩
              · exact absurd h8_2 (by decide)
def f_X11_pullsOf2 (I : Im) (w : Int32) : Int32 :=
  (0 + (pullV I 24 (I 24 2).toNatClampNeg (((0 * w) + (I 101 (0 : Int32).toNatClampNeg)) : Int32).toNatClampNeg)) + (pullV I 24 (I 24 2).toNatClampNeg ((((0 + 1) * w) + (I 101 (0 + 1 : Int32).toNatClampNeg)) : Int32).toNatClampNeg)
set_option maxRecDepth 100000 in
set_option maxHeartbeats 4000000 in
theorem s_X11_pullsOf2  {w : Int32} (hm : TOk I) (hB : ∀ i, i < 2 → ∃ q, q < 2 ^ 31 ∧ nI i * w + I 101 i = nI q) : Ca G mdX11_pullsOf [.ref 0, .int 2, .int w] (mk I L t) (Rs (.int (f_X11_pullsOf2 I w)) (mk I L t)) := by
  refine Ca.intro [some (.ref 0), some (.int 2), some (.int w), none, none] (by decide) (Nat.le_of_ble_eq_true rfl) rfl rfl ?_
  refine ex_iconst (v := 0) dX11_pullsOf_0 (by decide) ?_
  refine st_i3 dX11_pullsOf_1 (by first | exact rfl | exact trivial) ?_
  refine ex_iconst (v := 0) dX11_pullsOf_2 (by decide) ?_
  refine st_i4 dX11_pullsOf_3 (by first | exact rfl | exact trivial) ?_
  refine ex_iload dX11_pullsOf_5 rfl ?_
  refine ex_iload_n dX11_pullsOf_7 rfl ?_
  refine ex_icmp_ge 45 dX11_pullsOf_8 (by decide) (fun h8 => ?_) (fun h8 => ?_)
  · exact absurd h8 (by decide)
  · skip
    refine ex_iload dX11_pullsOf_11 rfl ?_
    refine ex_iconst (v := 3) dX11_pullsOf_13 (by decide) ?_
    refine ex_icmp_ge 45 dX11_pullsOf_14 (by decide) (fun h14 => ?_) (fun h14 => ?_)
    · exact absurd h14 (by decide)
    · skip
      refine ex_iload_n dX11_pullsOf_17 rfl ?_
      refine ex_aload_n dX11_pullsOf_18 rfl ?_
      refine g_11_8 dX11_pullsOf_19 rfl wf_X11_58 (by first | assumption | rfl) (show Rt _ 0 8 = some 24 from rfl) ?_
      refine ex_iload dX11_pullsOf_22 rfl ?_
      refine ex_iload_n dX11_pullsOf_24 rfl ?_
      refine ex_imul dX11_pullsOf_25 ?_
      refine ex_aload_n dX11_pullsOf_26 rfl ?_
      refine g_11_14 dX11_pullsOf_27 rfl wf_X11_90 (by first | assumption | rfl) (show Rt _ 0 14 = some 101 from rfl) ?_
      refine ex_iload dX11_pullsOf_30 rfl ?_
      refine rx_iald dX11_pullsOf_32 (by first | assumption | rfl) (by first | assumption | (unfold vp_in; decide)) ?_
      refine ex_iadd dX11_pullsOf_33 ?_
      refine rx_cV (kd := 5) dX11_pullsOf_34 rfl lk_X11_403 rfl (by decide) (by first | assumption | rfl) ⟨⟨rfl, rfl⟩, by decide, by decide⟩ rfl (Nat.le_of_ble_eq_true rfl) rfl (s_pullG hm (by first | exact hB 0 (Nat.le_of_ble_eq_true rfl) | exact hB 1 (Nat.le_of_ble_eq_true rfl) | exact hB 2 (Nat.le_of_ble_eq_true rfl))) (Rs.k ?_)
      refine ex_iadd dX11_pullsOf_37 ?_
      refine st_i3 dX11_pullsOf_38 (by first | exact rfl | exact trivial) ?_
      refine inc4 (v := _ + 1) dX11_pullsOf_39 (by rfl) (by first | exact rfl | exact trivial) ?_
      refine ex_goto 5 dX11_pullsOf_42 (by decide) ?_
      refine ex_iload dX11_pullsOf_5 rfl ?_
      refine ex_iload_n dX11_pullsOf_7 rfl ?_
      refine ex_icmp_ge 45 dX11_pullsOf_8 (by decide) (fun h8_1 => ?_) (fun h8_1 => ?_)
      · exact absurd h8_1 (by decide)
      · skip
        refine ex_iload dX11_pullsOf_11 rfl ?_
        refine ex_iconst (v := 3) dX11_pullsOf_13 (by decide) ?_
        refine ex_icmp_ge 45 dX11_pullsOf_14 (by decide) (fun h14_1 => ?_) (fun h14_1 => ?_)
        · exact absurd h14_1 (by decide)
        · skip
          refine ex_iload_n dX11_pullsOf_17 rfl ?_
          refine ex_aload_n dX11_pullsOf_18 rfl ?_
          refine g_11_8 dX11_pullsOf_19 rfl wf_X11_58 (by first | assumption | rfl) (show Rt _ 0 8 = some 24 from rfl) ?_
          refine ex_iload dX11_pullsOf_22 rfl ?_
          refine ex_iload_n dX11_pullsOf_24 rfl ?_
          refine ex_imul dX11_pullsOf_25 ?_
          refine ex_aload_n dX11_pullsOf_26 rfl ?_
          refine g_11_14 dX11_pullsOf_27 rfl wf_X11_90 (by first | assumption | rfl) (show Rt _ 0 14 = some 101 from rfl) ?_
          refine ex_iload dX11_pullsOf_30 rfl ?_
          refine rx_iald dX11_pullsOf_32 (by first | assumption | rfl) (by first | assumption | (unfold vp_in; decide)) ?_
          refine ex_iadd dX11_pullsOf_33 ?_
          refine rx_cV (kd := 5) dX11_pullsOf_34 rfl lk_X11_403 rfl (by decide) (by first | assumption | rfl) ⟨⟨rfl, rfl⟩, by decide, by decide⟩ rfl (Nat.le_of_ble_eq_true rfl) rfl (s_pullG hm (by first | exact hB 0 (Nat.le_of_ble_eq_true rfl) | exact hB 1 (Nat.le_of_ble_eq_true rfl) | exact hB 2 (Nat.le_of_ble_eq_true rfl))) (Rs.k ?_)
          refine ex_iadd dX11_pullsOf_37 ?_
          refine st_i3 dX11_pullsOf_38 (by first | exact rfl | exact trivial) ?_
          refine inc4 (v := _ + 1) dX11_pullsOf_39 (by rfl) (by first | exact rfl | exact trivial) ?_
          refine ex_goto 5 dX11_pullsOf_42 (by decide) ?_
          refine ex_iload dX11_pullsOf_5 rfl ?_
          refine ex_iload_n dX11_pullsOf_7 rfl ?_
          refine ex_icmp_ge 45 dX11_pullsOf_8 (by decide) (fun h8_2 => ?_) (fun h8_2 => ?_)
          · skip
            refine ex_iload_n dX11_pullsOf_45 rfl ?_
            refine ex_iret dX11_pullsOf_46 rfl rfl ⟨rfl, Nat.le_refl _⟩ ?_
            exact ⟨(by simp only [f_X11_pullsOf2, if_true, if_false, not_true_eq_false, not_false_eq_true]), rfl⟩
          · exact absurd h8_2 (by decide)
def f_X11_apart3 (I : Im) : Int32 :=
  if (I 101 (1 : Int32).toNatClampNeg) = (I 101 (0 : Int32).toNatClampNeg) then
    0
  else
    if (I 101 (1 + 1 : Int32).toNatClampNeg) = (I 101 (0 : Int32).toNatClampNeg) then
      0
    else
      if (I 101 (1 + 1 : Int32).toNatClampNeg) = (I 101 (0 + 1 : Int32).toNatClampNeg) then
        0
      else
        1
set_option maxRecDepth 100000 in
set_option maxHeartbeats 4000000 in
theorem s_X11_apart3   : Ca G mdX11_apart [.ref 0, .int 3] (mk I L t) (Rs (.int (f_X11_apart3 I)) (mk I L t)) := by
  refine Ca.intro [some (.ref 0), some (.int 3), none, none] (by decide) (Nat.le_of_ble_eq_true rfl) rfl rfl ?_
  refine ex_iconst (v := 1) dX11_apart_0 (by decide) ?_
  refine st_i2 dX11_apart_1 (by first | exact rfl | exact trivial) ?_
  refine ex_iload_n dX11_apart_2 rfl ?_
  refine ex_iload_n dX11_apart_3 rfl ?_
  refine ex_icmp_ge 48 dX11_apart_4 (by decide) (fun h4 => ?_) (fun h4 => ?_)
  · exact absurd h4 (by decide)
  · skip
    refine ex_iload_n dX11_apart_7 rfl ?_
    refine ex_iconst (v := 3) dX11_apart_8 (by decide) ?_
    refine ex_icmp_ge 48 dX11_apart_9 (by decide) (fun h9 => ?_) (fun h9 => ?_)
    · exact absurd h9 (by decide)
    · skip
      refine ex_iconst (v := 0) dX11_apart_12 (by decide) ?_
      refine st_i3 dX11_apart_13 (by first | exact rfl | exact trivial) ?_
      refine ex_iload_n dX11_apart_14 rfl ?_
      refine ex_iload_n dX11_apart_15 rfl ?_
      refine ex_icmp_ge 42 dX11_apart_16 (by decide) (fun h16 => ?_) (fun h16 => ?_)
      · exact absurd h16 (by decide)
      · skip
        refine ex_aload_n dX11_apart_19 rfl ?_
        refine g_11_14 dX11_apart_20 rfl wf_X11_90 (by first | assumption | rfl) (show Rt _ 0 14 = some 101 from rfl) ?_
        refine ex_iload_n dX11_apart_23 rfl ?_
        refine rx_iald dX11_apart_24 (by first | assumption | rfl) (by first | assumption | (unfold vp_in; decide)) ?_
        refine ex_aload_n dX11_apart_25 rfl ?_
        refine g_11_14 dX11_apart_26 rfl wf_X11_90 (by first | assumption | rfl) (show Rt _ 0 14 = some 101 from rfl) ?_
        refine ex_iload_n dX11_apart_29 rfl ?_
        refine rx_iald dX11_apart_30 (by first | assumption | rfl) (by first | assumption | (unfold vp_in; decide)) ?_
        refine ex_icmp_ne 36 dX11_apart_31 (by decide) (fun h31 => ?_) (fun h31 => ?_)
        · skip
          refine inc3 (v := _ + 1) dX11_apart_36 (by rfl) (by first | exact rfl | exact trivial) ?_
          refine ex_goto 14 dX11_apart_39 (by decide) ?_
          refine ex_iload_n dX11_apart_14 rfl ?_
          refine ex_iload_n dX11_apart_15 rfl ?_
          refine ex_icmp_ge 42 dX11_apart_16 (by decide) (fun h16_1 => ?_) (fun h16_1 => ?_)
          · skip
            refine inc2 (v := _ + 1) dX11_apart_42 (by rfl) (by first | exact rfl | exact trivial) ?_
            refine ex_goto 2 dX11_apart_45 (by decide) ?_
            refine ex_iload_n dX11_apart_2 rfl ?_
            refine ex_iload_n dX11_apart_3 rfl ?_
            refine ex_icmp_ge 48 dX11_apart_4 (by decide) (fun h4_1 => ?_) (fun h4_1 => ?_)
            · exact absurd h4_1 (by decide)
            · skip
              refine ex_iload_n dX11_apart_7 rfl ?_
              refine ex_iconst (v := 3) dX11_apart_8 (by decide) ?_
              refine ex_icmp_ge 48 dX11_apart_9 (by decide) (fun h9_1 => ?_) (fun h9_1 => ?_)
              · exact absurd h9_1 (by decide)
              · skip
                refine ex_iconst (v := 0) dX11_apart_12 (by decide) ?_
                refine st_i3 dX11_apart_13 (by first | exact rfl | exact trivial) ?_
                refine ex_iload_n dX11_apart_14 rfl ?_
                refine ex_iload_n dX11_apart_15 rfl ?_
                refine ex_icmp_ge 42 dX11_apart_16 (by decide) (fun h16_2 => ?_) (fun h16_2 => ?_)
                · exact absurd h16_2 (by decide)
                · skip
                  refine ex_aload_n dX11_apart_19 rfl ?_
                  refine g_11_14 dX11_apart_20 rfl wf_X11_90 (by first | assumption | rfl) (show Rt _ 0 14 = some 101 from rfl) ?_
                  refine ex_iload_n dX11_apart_23 rfl ?_
                  refine rx_iald dX11_apart_24 (by first | assumption | rfl) (by first | assumption | (unfold vp_in; decide)) ?_
                  refine ex_aload_n dX11_apart_25 rfl ?_
                  refine g_11_14 dX11_apart_26 rfl wf_X11_90 (by first | assumption | rfl) (show Rt _ 0 14 = some 101 from rfl) ?_
                  refine ex_iload_n dX11_apart_29 rfl ?_
                  refine rx_iald dX11_apart_30 (by first | assumption | rfl) (by first | assumption | (unfold vp_in; decide)) ?_
                  refine ex_icmp_ne 36 dX11_apart_31 (by decide) (fun h31_1 => ?_) (fun h31_1 => ?_)
                  · skip
                    refine inc3 (v := _ + 1) dX11_apart_36 (by rfl) (by first | exact rfl | exact trivial) ?_
                    refine ex_goto 14 dX11_apart_39 (by decide) ?_
                    refine ex_iload_n dX11_apart_14 rfl ?_
                    refine ex_iload_n dX11_apart_15 rfl ?_
                    refine ex_icmp_ge 42 dX11_apart_16 (by decide) (fun h16_3 => ?_) (fun h16_3 => ?_)
                    · exact absurd h16_3 (by decide)
                    · skip
                      refine ex_aload_n dX11_apart_19 rfl ?_
                      refine g_11_14 dX11_apart_20 rfl wf_X11_90 (by first | assumption | rfl) (show Rt _ 0 14 = some 101 from rfl) ?_
                      refine ex_iload_n dX11_apart_23 rfl ?_
                      refine rx_iald dX11_apart_24 (by first | assumption | rfl) (by first | assumption | (unfold vp_in; decide)) ?_
                      refine ex_aload_n dX11_apart_25 rfl ?_
                      refine g_11_14 dX11_apart_26 rfl wf_X11_90 (by first | assumption | rfl) (show Rt _ 0 14 = some 101 from rfl) ?_
                      refine ex_iload_n dX11_apart_29 rfl ?_
                      refine rx_iald dX11_apart_30 (by first | assumption | rfl) (by first | assumption | (unfold vp_in; decide)) ?_
                      refine ex_icmp_ne 36 dX11_apart_31 (by decide) (fun h31_2 => ?_) (fun h31_2 => ?_)
                      · skip
                        refine inc3 (v := _ + 1) dX11_apart_36 (by rfl) (by first | exact rfl | exact trivial) ?_
                        refine ex_goto 14 dX11_apart_39 (by decide) ?_
                        refine ex_iload_n dX11_apart_14 rfl ?_
                        refine ex_iload_n dX11_apart_15 rfl ?_
                        refine ex_icmp_ge 42 dX11_apart_16 (by decide) (fun h16_4 => ?_) (fun h16_4 => ?_)
                        · skip
                          refine inc2 (v := _ + 1) dX11_apart_42 (by rfl) (by first | exact rfl | exact trivial) ?_
                          refine ex_goto 2 dX11_apart_45 (by decide) ?_
                          refine ex_iload_n dX11_apart_2 rfl ?_
                          refine ex_iload_n dX11_apart_3 rfl ?_
                          refine ex_icmp_ge 48 dX11_apart_4 (by decide) (fun h4_2 => ?_) (fun h4_2 => ?_)
                          · skip
                            refine ex_iconst (v := 1) dX11_apart_48 (by decide) ?_
                            refine ex_iret dX11_apart_49 rfl rfl ⟨rfl, Nat.le_refl _⟩ ?_
                            exact ⟨(by simp only [f_X11_apart3, ↓eq_false h31, ↓eq_false h31_1, ↓eq_false h31_2, if_true, if_false, not_true_eq_false, not_false_eq_true]), rfl⟩
                          · exact absurd h4_2 (by decide)
                        · exact absurd h16_4 (by decide)
                      · skip
                        refine ex_iconst (v := 0) dX11_apart_34 (by decide) ?_
                        refine ex_iret dX11_apart_35 rfl rfl ⟨rfl, Nat.le_refl _⟩ ?_
                        exact ⟨(by simp only [f_X11_apart3, ↓eq_false h31, ↓eq_false h31_1, ↓eq_true h31_2, if_true, if_false, not_true_eq_false, not_false_eq_true]), rfl⟩
                  · skip
                    refine ex_iconst (v := 0) dX11_apart_34 (by decide) ?_
                    refine ex_iret dX11_apart_35 rfl rfl ⟨rfl, Nat.le_refl _⟩ ?_
                    exact ⟨(by simp only [f_X11_apart3, ↓eq_false h31, ↓eq_true h31_1, if_true, if_false, not_true_eq_false, not_false_eq_true]), rfl⟩
          · exact absurd h16_1 (by decide)
        · skip
          refine ex_iconst (v := 0) dX11_apart_34 (by decide) ?_
          refine ex_iret dX11_apart_35 rfl rfl ⟨rfl, Nat.le_refl _⟩ ?_
          exact ⟨(by simp only [f_X11_apart3, ↓eq_true h31, if_true, if_false, not_true_eq_false, not_false_eq_true]), rfl⟩
theorem z_X11_apart3 {I : Im} : f_X11_apart3 I = 0 ∨ f_X11_apart3 I = 1 := by
  unfold f_X11_apart3
  repeat' split
  all_goals first | exact Or.inl rfl | exact Or.inr rfl | assumption
def f_X11_partingOf3 (I : Im) (w : Int32) : Int32 :=
  if (partV I 24 (I 24 2).toNatClampNeg (((0 * w) + (I 101 (0 : Int32).toNatClampNeg)) : Int32).toNatClampNeg) = ((-9)) then
    if (partV I 24 (I 24 2).toNatClampNeg ((((0 + 1) * w) + (I 101 (0 + 1 : Int32).toNatClampNeg)) : Int32).toNatClampNeg) = ((-9)) then
      if (partV I 24 (I 24 2).toNatClampNeg (((((0 + 1) + 1) * w) + (I 101 ((0 + 1) + 1 : Int32).toNatClampNeg)) : Int32).toNatClampNeg) = ((-9)) then
        ((0 + 0) + 0) + 0
      else
        ((0 + 0) + 0) + 1
    else
      if (partV I 24 (I 24 2).toNatClampNeg (((((0 + 1) + 1) * w) + (I 101 ((0 + 1) + 1 : Int32).toNatClampNeg)) : Int32).toNatClampNeg) = ((-9)) then
        ((0 + 0) + 1) + 0
      else
        ((0 + 0) + 1) + 1
  else
    if (partV I 24 (I 24 2).toNatClampNeg ((((0 + 1) * w) + (I 101 (0 + 1 : Int32).toNatClampNeg)) : Int32).toNatClampNeg) = ((-9)) then
      if (partV I 24 (I 24 2).toNatClampNeg (((((0 + 1) + 1) * w) + (I 101 ((0 + 1) + 1 : Int32).toNatClampNeg)) : Int32).toNatClampNeg) = ((-9)) then
        ((0 + 1) + 0) + 0
      else
        ((0 + 1) + 0) + 1
    else
      if (partV I 24 (I 24 2).toNatClampNeg (((((0 + 1) + 1) * w) + (I 101 ((0 + 1) + 1 : Int32).toNatClampNeg)) : Int32).toNatClampNeg) = ((-9)) then
        ((0 + 1) + 1) + 0
      else
        ((0 + 1) + 1) + 1
set_option maxRecDepth 100000 in
set_option maxHeartbeats 4000000 in
theorem s_X11_partingOf3  {w : Int32} (hm : TOk I) (hB : ∀ i, i < 3 → ∃ q, q < 2 ^ 31 ∧ nI i * w + I 101 i = nI q) : Ca G mdX11_partingOf [.ref 0, .int 3, .int w] (mk I L t) (Rs (.int (f_X11_partingOf3 I w)) (mk I L t)) := by
  refine Ca.intro [some (.ref 0), some (.int 3), some (.int w), none, none] (by decide) (Nat.le_of_ble_eq_true rfl) rfl rfl ?_
  refine ex_iconst (v := 0) dX11_partingOf_0 (by decide) ?_
  refine st_i3 dX11_partingOf_1 (by first | exact rfl | exact trivial) ?_
  refine ex_iconst (v := 0) dX11_partingOf_2 (by decide) ?_
  refine st_i4 dX11_partingOf_3 (by first | exact rfl | exact trivial) ?_
  refine ex_iload dX11_partingOf_5 rfl ?_
  refine ex_iload_n dX11_partingOf_7 rfl ?_
  refine ex_icmp_ge 55 dX11_partingOf_8 (by decide) (fun h8 => ?_) (fun h8 => ?_)
  · exact absurd h8 (by decide)
  · skip
    refine ex_iload dX11_partingOf_11 rfl ?_
    refine ex_iconst (v := 3) dX11_partingOf_13 (by decide) ?_
    refine ex_icmp_ge 55 dX11_partingOf_14 (by decide) (fun h14 => ?_) (fun h14 => ?_)
    · exact absurd h14 (by decide)
    · skip
      refine ex_iload_n dX11_partingOf_17 rfl ?_
      refine ex_aload_n dX11_partingOf_18 rfl ?_
      refine g_11_8 dX11_partingOf_19 rfl wf_X11_58 (by first | assumption | rfl) (show Rt _ 0 8 = some 24 from rfl) ?_
      refine ex_iload dX11_partingOf_22 rfl ?_
      refine ex_iload_n dX11_partingOf_24 rfl ?_
      refine ex_imul dX11_partingOf_25 ?_
      refine ex_aload_n dX11_partingOf_26 rfl ?_
      refine g_11_14 dX11_partingOf_27 rfl wf_X11_90 (by first | assumption | rfl) (show Rt _ 0 14 = some 101 from rfl) ?_
      refine ex_iload dX11_partingOf_30 rfl ?_
      refine rx_iald dX11_partingOf_32 (by first | assumption | rfl) (by first | assumption | (unfold vp_in; decide)) ?_
      refine ex_iadd dX11_partingOf_33 ?_
      refine rx_cV (kd := 5) dX11_partingOf_34 rfl lk_X11_400 rfl (by decide) (by first | assumption | rfl) ⟨⟨rfl, rfl⟩, by decide, by decide⟩ rfl (Nat.le_of_ble_eq_true rfl) rfl (s_partG hm (by first | exact hB 0 (Nat.le_of_ble_eq_true rfl) | exact hB 1 (Nat.le_of_ble_eq_true rfl) | exact hB 2 (Nat.le_of_ble_eq_true rfl))) (Rs.k ?_)
      refine ex_bipush (v := (-9)) dX11_partingOf_37 (by decide) ?_
      refine ex_icmp_ne 46 dX11_partingOf_39 (by decide) (fun h39 => ?_) (fun h39 => ?_)
      · skip
        refine ex_iconst (v := 1) dX11_partingOf_46 (by decide) ?_
        refine ex_iadd dX11_partingOf_47 ?_
        refine st_i3 dX11_partingOf_48 (by first | exact rfl | exact trivial) ?_
        refine inc4 (v := _ + 1) dX11_partingOf_49 (by rfl) (by first | exact rfl | exact trivial) ?_
        refine ex_goto 5 dX11_partingOf_52 (by decide) ?_
        refine ex_iload dX11_partingOf_5 rfl ?_
        refine ex_iload_n dX11_partingOf_7 rfl ?_
        refine ex_icmp_ge 55 dX11_partingOf_8 (by decide) (fun h8_1 => ?_) (fun h8_1 => ?_)
        · exact absurd h8_1 (by decide)
        · skip
          refine ex_iload dX11_partingOf_11 rfl ?_
          refine ex_iconst (v := 3) dX11_partingOf_13 (by decide) ?_
          refine ex_icmp_ge 55 dX11_partingOf_14 (by decide) (fun h14_1 => ?_) (fun h14_1 => ?_)
          · exact absurd h14_1 (by decide)
          · skip
            refine ex_iload_n dX11_partingOf_17 rfl ?_
            refine ex_aload_n dX11_partingOf_18 rfl ?_
            refine g_11_8 dX11_partingOf_19 rfl wf_X11_58 (by first | assumption | rfl) (show Rt _ 0 8 = some 24 from rfl) ?_
            refine ex_iload dX11_partingOf_22 rfl ?_
            refine ex_iload_n dX11_partingOf_24 rfl ?_
            refine ex_imul dX11_partingOf_25 ?_
            refine ex_aload_n dX11_partingOf_26 rfl ?_
            refine g_11_14 dX11_partingOf_27 rfl wf_X11_90 (by first | assumption | rfl) (show Rt _ 0 14 = some 101 from rfl) ?_
            refine ex_iload dX11_partingOf_30 rfl ?_
            refine rx_iald dX11_partingOf_32 (by first | assumption | rfl) (by first | assumption | (unfold vp_in; decide)) ?_
            refine ex_iadd dX11_partingOf_33 ?_
            refine rx_cV (kd := 5) dX11_partingOf_34 rfl lk_X11_400 rfl (by decide) (by first | assumption | rfl) ⟨⟨rfl, rfl⟩, by decide, by decide⟩ rfl (Nat.le_of_ble_eq_true rfl) rfl (s_partG hm (by first | exact hB 0 (Nat.le_of_ble_eq_true rfl) | exact hB 1 (Nat.le_of_ble_eq_true rfl) | exact hB 2 (Nat.le_of_ble_eq_true rfl))) (Rs.k ?_)
            refine ex_bipush (v := (-9)) dX11_partingOf_37 (by decide) ?_
            refine ex_icmp_ne 46 dX11_partingOf_39 (by decide) (fun h39_1 => ?_) (fun h39_1 => ?_)
            · skip
              refine ex_iconst (v := 1) dX11_partingOf_46 (by decide) ?_
              refine ex_iadd dX11_partingOf_47 ?_
              refine st_i3 dX11_partingOf_48 (by first | exact rfl | exact trivial) ?_
              refine inc4 (v := _ + 1) dX11_partingOf_49 (by rfl) (by first | exact rfl | exact trivial) ?_
              refine ex_goto 5 dX11_partingOf_52 (by decide) ?_
              refine ex_iload dX11_partingOf_5 rfl ?_
              refine ex_iload_n dX11_partingOf_7 rfl ?_
              refine ex_icmp_ge 55 dX11_partingOf_8 (by decide) (fun h8_2 => ?_) (fun h8_2 => ?_)
              · exact absurd h8_2 (by decide)
              · skip
                refine ex_iload dX11_partingOf_11 rfl ?_
                refine ex_iconst (v := 3) dX11_partingOf_13 (by decide) ?_
                refine ex_icmp_ge 55 dX11_partingOf_14 (by decide) (fun h14_2 => ?_) (fun h14_2 => ?_)
                · exact absurd h14_2 (by decide)
                · skip
                  refine ex_iload_n dX11_partingOf_17 rfl ?_
                  refine ex_aload_n dX11_partingOf_18 rfl ?_
                  refine g_11_8 dX11_partingOf_19 rfl wf_X11_58 (by first | assumption | rfl) (show Rt _ 0 8 = some 24 from rfl) ?_
                  refine ex_iload dX11_partingOf_22 rfl ?_
                  refine ex_iload_n dX11_partingOf_24 rfl ?_
                  refine ex_imul dX11_partingOf_25 ?_
                  refine ex_aload_n dX11_partingOf_26 rfl ?_
                  refine g_11_14 dX11_partingOf_27 rfl wf_X11_90 (by first | assumption | rfl) (show Rt _ 0 14 = some 101 from rfl) ?_
                  refine ex_iload dX11_partingOf_30 rfl ?_
                  refine rx_iald dX11_partingOf_32 (by first | assumption | rfl) (by first | assumption | (unfold vp_in; decide)) ?_
                  refine ex_iadd dX11_partingOf_33 ?_
                  refine rx_cV (kd := 5) dX11_partingOf_34 rfl lk_X11_400 rfl (by decide) (by first | assumption | rfl) ⟨⟨rfl, rfl⟩, by decide, by decide⟩ rfl (Nat.le_of_ble_eq_true rfl) rfl (s_partG hm (by first | exact hB 0 (Nat.le_of_ble_eq_true rfl) | exact hB 1 (Nat.le_of_ble_eq_true rfl) | exact hB 2 (Nat.le_of_ble_eq_true rfl))) (Rs.k ?_)
                  refine ex_bipush (v := (-9)) dX11_partingOf_37 (by decide) ?_
                  refine ex_icmp_ne 46 dX11_partingOf_39 (by decide) (fun h39_2 => ?_) (fun h39_2 => ?_)
                  · skip
                    refine ex_iconst (v := 1) dX11_partingOf_46 (by decide) ?_
                    refine ex_iadd dX11_partingOf_47 ?_
                    refine st_i3 dX11_partingOf_48 (by first | exact rfl | exact trivial) ?_
                    refine inc4 (v := _ + 1) dX11_partingOf_49 (by rfl) (by first | exact rfl | exact trivial) ?_
                    refine ex_goto 5 dX11_partingOf_52 (by decide) ?_
                    refine ex_iload dX11_partingOf_5 rfl ?_
                    refine ex_iload_n dX11_partingOf_7 rfl ?_
                    refine ex_icmp_ge 55 dX11_partingOf_8 (by decide) (fun h8_3 => ?_) (fun h8_3 => ?_)
                    · skip
                      refine ex_iload_n dX11_partingOf_55 rfl ?_
                      refine ex_iret dX11_partingOf_56 rfl rfl ⟨rfl, Nat.le_refl _⟩ ?_
                      exact ⟨(by simp only [f_X11_partingOf3, ↓eq_false h39, ↓eq_false h39_1, ↓eq_false h39_2, if_true, if_false, not_true_eq_false, not_false_eq_true]), rfl⟩
                    · exact absurd h8_3 (by decide)
                  · skip
                    refine ex_iconst (v := 0) dX11_partingOf_42 (by decide) ?_
                    refine ex_goto 47 dX11_partingOf_43 (by decide) ?_
                    refine ex_iadd dX11_partingOf_47 ?_
                    refine st_i3 dX11_partingOf_48 (by first | exact rfl | exact trivial) ?_
                    refine inc4 (v := _ + 1) dX11_partingOf_49 (by rfl) (by first | exact rfl | exact trivial) ?_
                    refine ex_goto 5 dX11_partingOf_52 (by decide) ?_
                    refine ex_iload dX11_partingOf_5 rfl ?_
                    refine ex_iload_n dX11_partingOf_7 rfl ?_
                    refine ex_icmp_ge 55 dX11_partingOf_8 (by decide) (fun h8_3 => ?_) (fun h8_3 => ?_)
                    · skip
                      refine ex_iload_n dX11_partingOf_55 rfl ?_
                      refine ex_iret dX11_partingOf_56 rfl rfl ⟨rfl, Nat.le_refl _⟩ ?_
                      exact ⟨(by simp only [f_X11_partingOf3, ↓eq_false h39, ↓eq_false h39_1, ↓eq_true h39_2, if_true, if_false, not_true_eq_false, not_false_eq_true]), rfl⟩
                    · exact absurd h8_3 (by decide)
            · skip
              refine ex_iconst (v := 0) dX11_partingOf_42 (by decide) ?_
              refine ex_goto 47 dX11_partingOf_43 (by decide) ?_
              refine ex_iadd dX11_partingOf_47 ?_
              refine st_i3 dX11_partingOf_48 (by first | exact rfl | exact trivial) ?_
              refine inc4 (v := _ + 1) dX11_partingOf_49 (by rfl) (by first | exact rfl | exact trivial) ?_
              refine ex_goto 5 dX11_partingOf_52 (by decide) ?_
              refine ex_iload dX11_partingOf_5 rfl ?_
              refine ex_iload_n dX11_partingOf_7 rfl ?_
              refine ex_icmp_ge 55 dX11_partingOf_8 (by decide) (fun h8_2 => ?_) (fun h8_2 => ?_)
              · exact absurd h8_2 (by decide)
              · skip
                refine ex_iload dX11_partingOf_11 rfl ?_
                refine ex_iconst (v := 3) dX11_partingOf_13 (by decide) ?_
                refine ex_icmp_ge 55 dX11_partingOf_14 (by decide) (fun h14_2 => ?_) (fun h14_2 => ?_)
                · exact absurd h14_2 (by decide)
                · skip
                  refine ex_iload_n dX11_partingOf_17 rfl ?_
                  refine ex_aload_n dX11_partingOf_18 rfl ?_
                  refine g_11_8 dX11_partingOf_19 rfl wf_X11_58 (by first | assumption | rfl) (show Rt _ 0 8 = some 24 from rfl) ?_
                  refine ex_iload dX11_partingOf_22 rfl ?_
                  refine ex_iload_n dX11_partingOf_24 rfl ?_
                  refine ex_imul dX11_partingOf_25 ?_
                  refine ex_aload_n dX11_partingOf_26 rfl ?_
                  refine g_11_14 dX11_partingOf_27 rfl wf_X11_90 (by first | assumption | rfl) (show Rt _ 0 14 = some 101 from rfl) ?_
                  refine ex_iload dX11_partingOf_30 rfl ?_
                  refine rx_iald dX11_partingOf_32 (by first | assumption | rfl) (by first | assumption | (unfold vp_in; decide)) ?_
                  refine ex_iadd dX11_partingOf_33 ?_
                  refine rx_cV (kd := 5) dX11_partingOf_34 rfl lk_X11_400 rfl (by decide) (by first | assumption | rfl) ⟨⟨rfl, rfl⟩, by decide, by decide⟩ rfl (Nat.le_of_ble_eq_true rfl) rfl (s_partG hm (by first | exact hB 0 (Nat.le_of_ble_eq_true rfl) | exact hB 1 (Nat.le_of_ble_eq_true rfl) | exact hB 2 (Nat.le_of_ble_eq_true rfl))) (Rs.k ?_)
                  refine ex_bipush (v := (-9)) dX11_partingOf_37 (by decide) ?_
                  refine ex_icmp_ne 46 dX11_partingOf_39 (by decide) (fun h39_2 => ?_) (fun h39_2 => ?_)
                  · skip
                    refine ex_iconst (v := 1) dX11_partingOf_46 (by decide) ?_
                    refine ex_iadd dX11_partingOf_47 ?_
                    refine st_i3 dX11_partingOf_48 (by first | exact rfl | exact trivial) ?_
                    refine inc4 (v := _ + 1) dX11_partingOf_49 (by rfl) (by first | exact rfl | exact trivial) ?_
                    refine ex_goto 5 dX11_partingOf_52 (by decide) ?_
                    refine ex_iload dX11_partingOf_5 rfl ?_
                    refine ex_iload_n dX11_partingOf_7 rfl ?_
                    refine ex_icmp_ge 55 dX11_partingOf_8 (by decide) (fun h8_3 => ?_) (fun h8_3 => ?_)
                    · skip
                      refine ex_iload_n dX11_partingOf_55 rfl ?_
                      refine ex_iret dX11_partingOf_56 rfl rfl ⟨rfl, Nat.le_refl _⟩ ?_
                      exact ⟨(by simp only [f_X11_partingOf3, ↓eq_false h39, ↓eq_true h39_1, ↓eq_false h39_2, if_true, if_false, not_true_eq_false, not_false_eq_true]), rfl⟩
                    · exact absurd h8_3 (by decide)
                  · skip
                    refine ex_iconst (v := 0) dX11_partingOf_42 (by decide) ?_
                    refine ex_goto 47 dX11_partingOf_43 (by decide) ?_
                    refine ex_iadd dX11_partingOf_47 ?_
                    refine st_i3 dX11_partingOf_48 (by first | exact rfl | exact trivial) ?_
                    refine inc4 (v := _ + 1) dX11_partingOf_49 (by rfl) (by first | exact rfl | exact trivial) ?_
                    refine ex_goto 5 dX11_partingOf_52 (by decide) ?_
                    refine ex_iload dX11_partingOf_5 rfl ?_
                    refine ex_iload_n dX11_partingOf_7 rfl ?_
                    refine ex_icmp_ge 55 dX11_partingOf_8 (by decide) (fun h8_3 => ?_) (fun h8_3 => ?_)
                    · skip
                      refine ex_iload_n dX11_partingOf_55 rfl ?_
                      refine ex_iret dX11_partingOf_56 rfl rfl ⟨rfl, Nat.le_refl _⟩ ?_
                      exact ⟨(by simp only [f_X11_partingOf3, ↓eq_false h39, ↓eq_true h39_1, ↓eq_true h39_2, if_true, if_false, not_true_eq_false, not_false_eq_true]), rfl⟩
                    · exact absurd h8_3 (by decide)
      · skip
        refine ex_iconst (v := 0) dX11_partingOf_42 (by decide) ?_
        refine ex_goto 47 dX11_partingOf_43 (by decide) ?_
        refine ex_iadd dX11_partingOf_47 ?_
        refine st_i3 dX11_partingOf_48 (by first | exact rfl | exact trivial) ?_
        refine inc4 (v := _ + 1) dX11_partingOf_49 (by rfl) (by first | exact rfl | exact trivial) ?_
        refine ex_goto 5 dX11_partingOf_52 (by decide) ?_
        refine ex_iload dX11_partingOf_5 rfl ?_
        refine ex_iload_n dX11_partingOf_7 rfl ?_
        refine ex_icmp_ge 55 dX11_partingOf_8 (by decide) (fun h8_1 => ?_) (fun h8_1 => ?_)
        · exact absurd h8_1 (by decide)
        · skip
          refine ex_iload dX11_partingOf_11 rfl ?_
          refine ex_iconst (v := 3) dX11_partingOf_13 (by decide) ?_
          refine ex_icmp_ge 55 dX11_partingOf_14 (by decide) (fun h14_1 => ?_) (fun h14_1 => ?_)
          · exact absurd h14_1 (by decide)
          · skip
            refine ex_iload_n dX11_partingOf_17 rfl ?_
            refine ex_aload_n dX11_partingOf_18 rfl ?_
            refine g_11_8 dX11_partingOf_19 rfl wf_X11_58 (by first | assumption | rfl) (show Rt _ 0 8 = some 24 from rfl) ?_
            refine ex_iload dX11_partingOf_22 rfl ?_
            refine ex_iload_n dX11_partingOf_24 rfl ?_
            refine ex_imul dX11_partingOf_25 ?_
            refine ex_aload_n dX11_partingOf_26 rfl ?_
            refine g_11_14 dX11_partingOf_27 rfl wf_X11_90 (by first | assumption | rfl) (show Rt _ 0 14 = some 101 from rfl) ?_
            refine ex_iload dX11_partingOf_30 rfl ?_
            refine rx_iald dX11_partingOf_32 (by first | assumption | rfl) (by first | assumption | (unfold vp_in; decide)) ?_
            refine ex_iadd dX11_partingOf_33 ?_
            refine rx_cV (kd := 5) dX11_partingOf_34 rfl lk_X11_400 rfl (by decide) (by first | assumption | rfl) ⟨⟨rfl, rfl⟩, by decide, by decide⟩ rfl (Nat.le_of_ble_eq_true rfl) rfl (s_partG hm (by first | exact hB 0 (Nat.le_of_ble_eq_true rfl) | exact hB 1 (Nat.le_of_ble_eq_true rfl) | exact hB 2 (Nat.le_of_ble_eq_true rfl))) (Rs.k ?_)
            refine ex_bipush (v := (-9)) dX11_partingOf_37 (by decide) ?_
            refine ex_icmp_ne 46 dX11_partingOf_39 (by decide) (fun h39_1 => ?_) (fun h39_1 => ?_)
            · skip
              refine ex_iconst (v := 1) dX11_partingOf_46 (by decide) ?_
              refine ex_iadd dX11_partingOf_47 ?_
              refine st_i3 dX11_partingOf_48 (by first | exact rfl | exact trivial) ?_
              refine inc4 (v := _ + 1) dX11_partingOf_49 (by rfl) (by first | exact rfl | exact trivial) ?_
              refine ex_goto 5 dX11_partingOf_52 (by decide) ?_
              refine ex_iload dX11_partingOf_5 rfl ?_
              refine ex_iload_n dX11_partingOf_7 rfl ?_
              refine ex_icmp_ge 55 dX11_partingOf_8 (by decide) (fun h8_2 => ?_) (fun h8_2 => ?_)
              · exact absurd h8_2 (by decide)
              · skip
                refine ex_iload dX11_partingOf_11 rfl ?_
                refine ex_iconst (v := 3) dX11_partingOf_13 (by decide) ?_
                refine ex_icmp_ge 55 dX11_partingOf_14 (by decide) (fun h14_2 => ?_) (fun h14_2 => ?_)
                · exact absurd h14_2 (by decide)
                · skip
                  refine ex_iload_n dX11_partingOf_17 rfl ?_
                  refine ex_aload_n dX11_partingOf_18 rfl ?_
                  refine g_11_8 dX11_partingOf_19 rfl wf_X11_58 (by first | assumption | rfl) (show Rt _ 0 8 = some 24 from rfl) ?_
                  refine ex_iload dX11_partingOf_22 rfl ?_
                  refine ex_iload_n dX11_partingOf_24 rfl ?_
                  refine ex_imul dX11_partingOf_25 ?_
                  refine ex_aload_n dX11_partingOf_26 rfl ?_
                  refine g_11_14 dX11_partingOf_27 rfl wf_X11_90 (by first | assumption | rfl) (show Rt _ 0 14 = some 101 from rfl) ?_
                  refine ex_iload dX11_partingOf_30 rfl ?_
                  refine rx_iald dX11_partingOf_32 (by first | assumption | rfl) (by first | assumption | (unfold vp_in; decide)) ?_
                  refine ex_iadd dX11_partingOf_33 ?_
                  refine rx_cV (kd := 5) dX11_partingOf_34 rfl lk_X11_400 rfl (by decide) (by first | assumption | rfl) ⟨⟨rfl, rfl⟩, by decide, by decide⟩ rfl (Nat.le_of_ble_eq_true rfl) rfl (s_partG hm (by first | exact hB 0 (Nat.le_of_ble_eq_true rfl) | exact hB 1 (Nat.le_of_ble_eq_true rfl) | exact hB 2 (Nat.le_of_ble_eq_true rfl))) (Rs.k ?_)
                  refine ex_bipush (v := (-9)) dX11_partingOf_37 (by decide) ?_
                  refine ex_icmp_ne 46 dX11_partingOf_39 (by decide) (fun h39_2 => ?_) (fun h39_2 => ?_)
                  · skip
                    refine ex_iconst (v := 1) dX11_partingOf_46 (by decide) ?_
                    refine ex_iadd dX11_partingOf_47 ?_
                    refine st_i3 dX11_partingOf_48 (by first | exact rfl | exact trivial) ?_
                    refine inc4 (v := _ + 1) dX11_partingOf_49 (by rfl) (by first | exact rfl | exact trivial) ?_
                    refine ex_goto 5 dX11_partingOf_52 (by decide) ?_
                    refine ex_iload dX11_partingOf_5 rfl ?_
                    refine ex_iload_n dX11_partingOf_7 rfl ?_
                    refine ex_icmp_ge 55 dX11_partingOf_8 (by decide) (fun h8_3 => ?_) (fun h8_3 => ?_)
                    · skip
                      refine ex_iload_n dX11_partingOf_55 rfl ?_
                      refine ex_iret dX11_partingOf_56 rfl rfl ⟨rfl, Nat.le_refl _⟩ ?_
                      exact ⟨(by simp only [f_X11_partingOf3, ↓eq_true h39, ↓eq_false h39_1, ↓eq_false h39_2, if_true, if_false, not_true_eq_false, not_false_eq_true]), rfl⟩
                    · exact absurd h8_3 (by decide)
                  · skip
                    refine ex_iconst (v := 0) dX11_partingOf_42 (by decide) ?_
                    refine ex_goto 47 dX11_partingOf_43 (by decide) ?_
                    refine ex_iadd dX11_partingOf_47 ?_
                    refine st_i3 dX11_partingOf_48 (by first | exact rfl | exact trivial) ?_
                    refine inc4 (v := _ + 1) dX11_partingOf_49 (by rfl) (by first | exact rfl | exact trivial) ?_
                    refine ex_goto 5 dX11_partingOf_52 (by decide) ?_
                    refine ex_iload dX11_partingOf_5 rfl ?_
                    refine ex_iload_n dX11_partingOf_7 rfl ?_
                    refine ex_icmp_ge 55 dX11_partingOf_8 (by decide) (fun h8_3 => ?_) (fun h8_3 => ?_)
                    · skip
                      refine ex_iload_n dX11_partingOf_55 rfl ?_
                      refine ex_iret dX11_partingOf_56 rfl rfl ⟨rfl, Nat.le_refl _⟩ ?_
                      exact ⟨(by simp only [f_X11_partingOf3, ↓eq_true h39, ↓eq_false h39_1, ↓eq_true h39_2, if_true, if_false, not_true_eq_false, not_false_eq_true]), rfl⟩
                    · exact absurd h8_3 (by decide)
            · skip
              refine ex_iconst (v := 0) dX11_partingOf_42 (by decide) ?_
              refine ex_goto 47 dX11_partingOf_43 (by decide) ?_
              refine ex_iadd dX11_partingOf_47 ?_
              refine st_i3 dX11_partingOf_48 (by first | exact rfl | exact trivial) ?_
              refine inc4 (v := _ + 1) dX11_partingOf_49 (by rfl) (by first | exact rfl | exact trivial) ?_
              refine ex_goto 5 dX11_partingOf_52 (by decide) ?_
              refine ex_iload dX11_partingOf_5 rfl ?_
              refine ex_iload_n dX11_partingOf_7 rfl ?_
              refine ex_icmp_ge 55 dX11_partingOf_8 (by decide) (fun h8_2 => ?_) (fun h8_2 => ?_)
              · exact absurd h8_2 (by decide)
              · skip
                refine ex_iload dX11_partingOf_11 rfl ?_
                refine ex_iconst (v := 3) dX11_partingOf_13 (by decide) ?_
                refine ex_icmp_ge 55 dX11_partingOf_14 (by decide) (fun h14_2 => ?_) (fun h14_2 => ?_)
                · exact absurd h14_2 (by decide)
                · skip
                  refine ex_iload_n dX11_partingOf_17 rfl ?_
                  refine ex_aload_n dX11_partingOf_18 rfl ?_
                  refine g_11_8 dX11_partingOf_19 rfl wf_X11_58 (by first | assumption | rfl) (show Rt _ 0 8 = some 24 from rfl) ?_
                  refine ex_iload dX11_partingOf_22 rfl ?_
                  refine ex_iload_n dX11_partingOf_24 rfl ?_
                  refine ex_imul dX11_partingOf_25 ?_
                  refine ex_aload_n dX11_partingOf_26 rfl ?_
                  refine g_11_14 dX11_partingOf_27 rfl wf_X11_90 (by first | assumption | rfl) (show Rt _ 0 14 = some 101 from rfl) ?_
                  refine ex_iload dX11_partingOf_30 rfl ?_
                  refine rx_iald dX11_partingOf_32 (by first | assumption | rfl) (by first | assumption | (unfold vp_in; decide)) ?_
                  refine ex_iadd dX11_partingOf_33 ?_
                  refine rx_cV (kd := 5) dX11_partingOf_34 rfl lk_X11_400 rfl (by decide) (by first | assumption | rfl) ⟨⟨rfl, rfl⟩, by decide, by decide⟩ rfl (Nat.le_of_ble_eq_true rfl) rfl (s_partG hm (by first | exact hB 0 (Nat.le_of_ble_eq_true rfl) | exact hB 1 (Nat.le_of_ble_eq_true rfl) | exact hB 2 (Nat.le_of_ble_eq_true rfl))) (Rs.k ?_)
                  refine ex_bipush (v := (-9)) dX11_partingOf_37 (by decide) ?_
                  refine ex_icmp_ne 46 dX11_partingOf_39 (by decide) (fun h39_2 => ?_) (fun h39_2 => ?_)
                  · skip
                    refine ex_iconst (v := 1) dX11_partingOf_46 (by decide) ?_
                    refine ex_iadd dX11_partingOf_47 ?_
                    refine st_i3 dX11_partingOf_48 (by first | exact rfl | exact trivial) ?_
                    refine inc4 (v := _ + 1) dX11_partingOf_49 (by rfl) (by first | exact rfl | exact trivial) ?_
                    refine ex_goto 5 dX11_partingOf_52 (by decide) ?_
                    refine ex_iload dX11_partingOf_5 rfl ?_
                    refine ex_iload_n dX11_partingOf_7 rfl ?_
                    refine ex_icmp_ge 55 dX11_partingOf_8 (by decide) (fun h8_3 => ?_) (fun h8_3 => ?_)
                    · skip
                      refine ex_iload_n dX11_partingOf_55 rfl ?_
                      refine ex_iret dX11_partingOf_56 rfl rfl ⟨rfl, Nat.le_refl _⟩ ?_
                      exact ⟨(by simp only [f_X11_partingOf3, ↓eq_true h39, ↓eq_true h39_1, ↓eq_false h39_2, if_true, if_false, not_true_eq_false, not_false_eq_true]), rfl⟩
                    · exact absurd h8_3 (by decide)
                  · skip
                    refine ex_iconst (v := 0) dX11_partingOf_42 (by decide) ?_
                    refine ex_goto 47 dX11_partingOf_43 (by decide) ?_
                    refine ex_iadd dX11_partingOf_47 ?_
                    refine st_i3 dX11_partingOf_48 (by first | exact rfl | exact trivial) ?_
                    refine inc4 (v := _ + 1) dX11_partingOf_49 (by rfl) (by first | exact rfl | exact trivial) ?_
                    refine ex_goto 5 dX11_partingOf_52 (by decide) ?_
                    refine ex_iload dX11_partingOf_5 rfl ?_
                    refine ex_iload_n dX11_partingOf_7 rfl ?_
                    refine ex_icmp_ge 55 dX11_partingOf_8 (by decide) (fun h8_3 => ?_) (fun h8_3 => ?_)
                    · skip
                      refine ex_iload_n dX11_partingOf_55 rfl ?_
                      refine ex_iret dX11_partingOf_56 rfl rfl ⟨rfl, Nat.le_refl _⟩ ?_
                      exact ⟨(by simp only [f_X11_partingOf3, ↓eq_true h39, ↓eq_true h39_1, ↓eq_true h39_2, if_true, if_false, not_true_eq_false, not_false_eq_true]), rfl⟩
                    · exact absurd h8_3 (by decide)
def f_X11_pullsOf3 (I : Im) (w : Int32) : Int32 :=
  ((0 + (pullV I 24 (I 24 2).toNatClampNeg (((0 * w) + (I 101 (0 : Int32).toNatClampNeg)) : Int32).toNatClampNeg)) + (pullV I 24 (I 24 2).toNatClampNeg ((((0 + 1) * w) + (I 101 (0 + 1 : Int32).toNatClampNeg)) : Int32).toNatClampNeg)) + (pullV I 24 (I 24 2).toNatClampNeg (((((0 + 1) + 1) * w) + (I 101 ((0 + 1) + 1 : Int32).toNatClampNeg)) : Int32).toNatClampNeg)
set_option maxRecDepth 100000 in
set_option maxHeartbeats 4000000 in
theorem s_X11_pullsOf3  {w : Int32} (hm : TOk I) (hB : ∀ i, i < 3 → ∃ q, q < 2 ^ 31 ∧ nI i * w + I 101 i = nI q) : Ca G mdX11_pullsOf [.ref 0, .int 3, .int w] (mk I L t) (Rs (.int (f_X11_pullsOf3 I w)) (mk I L t)) := by
  refine Ca.intro [some (.ref 0), some (.int 3), some (.int w), none, none] (by decide) (Nat.le_of_ble_eq_true rfl) rfl rfl ?_
  refine ex_iconst (v := 0) dX11_pullsOf_0 (by decide) ?_
  refine st_i3 dX11_pullsOf_1 (by first | exact rfl | exact trivial) ?_
  refine ex_iconst (v := 0) dX11_pullsOf_2 (by decide) ?_
  refine st_i4 dX11_pullsOf_3 (by first | exact rfl | exact trivial) ?_
  refine ex_iload dX11_pullsOf_5 rfl ?_
  refine ex_iload_n dX11_pullsOf_7 rfl ?_
  refine ex_icmp_ge 45 dX11_pullsOf_8 (by decide) (fun h8 => ?_) (fun h8 => ?_)
  · exact absurd h8 (by decide)
  · skip
    refine ex_iload dX11_pullsOf_11 rfl ?_
    refine ex_iconst (v := 3) dX11_pullsOf_13 (by decide) ?_
    refine ex_icmp_ge 45 dX11_pullsOf_14 (by decide) (fun h14 => ?_) (fun h14 => ?_)
    · exact absurd h14 (by decide)
    · skip
      refine ex_iload_n dX11_pullsOf_17 rfl ?_
      refine ex_aload_n dX11_pullsOf_18 rfl ?_
      refine g_11_8 dX11_pullsOf_19 rfl wf_X11_58 (by first | assumption | rfl) (show Rt _ 0 8 = some 24 from rfl) ?_
      refine ex_iload dX11_pullsOf_22 rfl ?_
      refine ex_iload_n dX11_pullsOf_24 rfl ?_
      refine ex_imul dX11_pullsOf_25 ?_
      refine ex_aload_n dX11_pullsOf_26 rfl ?_
      refine g_11_14 dX11_pullsOf_27 rfl wf_X11_90 (by first | assumption | rfl) (show Rt _ 0 14 = some 101 from rfl) ?_
      refine ex_iload dX11_pullsOf_30 rfl ?_
      refine rx_iald dX11_pullsOf_32 (by first | assumption | rfl) (by first | assumption | (unfold vp_in; decide)) ?_
      refine ex_iadd dX11_pullsOf_33 ?_
      refine rx_cV (kd := 5) dX11_pullsOf_34 rfl lk_X11_403 rfl (by decide) (by first | assumption | rfl) ⟨⟨rfl, rfl⟩, by decide, by decide⟩ rfl (Nat.le_of_ble_eq_true rfl) rfl (s_pullG hm (by first | exact hB 0 (Nat.le_of_ble_eq_true rfl) | exact hB 1 (Nat.le_of_ble_eq_true rfl) | exact hB 2 (Nat.le_of_ble_eq_true rfl))) (Rs.k ?_)
      refine ex_iadd dX11_pullsOf_37 ?_
      refine st_i3 dX11_pullsOf_38 (by first | exact rfl | exact trivial) ?_
      refine inc4 (v := _ + 1) dX11_pullsOf_39 (by rfl) (by first | exact rfl | exact trivial) ?_
      refine ex_goto 5 dX11_pullsOf_42 (by decide) ?_
      refine ex_iload dX11_pullsOf_5 rfl ?_
      refine ex_iload_n dX11_pullsOf_7 rfl ?_
      refine ex_icmp_ge 45 dX11_pullsOf_8 (by decide) (fun h8_1 => ?_) (fun h8_1 => ?_)
      · exact absurd h8_1 (by decide)
      · skip
        refine ex_iload dX11_pullsOf_11 rfl ?_
        refine ex_iconst (v := 3) dX11_pullsOf_13 (by decide) ?_
        refine ex_icmp_ge 45 dX11_pullsOf_14 (by decide) (fun h14_1 => ?_) (fun h14_1 => ?_)
        · exact absurd h14_1 (by decide)
        · skip
          refine ex_iload_n dX11_pullsOf_17 rfl ?_
          refine ex_aload_n dX11_pullsOf_18 rfl ?_
          refine g_11_8 dX11_pullsOf_19 rfl wf_X11_58 (by first | assumption | rfl) (show Rt _ 0 8 = some 24 from rfl) ?_
          refine ex_iload dX11_pullsOf_22 rfl ?_
          refine ex_iload_n dX11_pullsOf_24 rfl ?_
          refine ex_imul dX11_pullsOf_25 ?_
          refine ex_aload_n dX11_pullsOf_26 rfl ?_
          refine g_11_14 dX11_pullsOf_27 rfl wf_X11_90 (by first | assumption | rfl) (show Rt _ 0 14 = some 101 from rfl) ?_
          refine ex_iload dX11_pullsOf_30 rfl ?_
          refine rx_iald dX11_pullsOf_32 (by first | assumption | rfl) (by first | assumption | (unfold vp_in; decide)) ?_
          refine ex_iadd dX11_pullsOf_33 ?_
          refine rx_cV (kd := 5) dX11_pullsOf_34 rfl lk_X11_403 rfl (by decide) (by first | assumption | rfl) ⟨⟨rfl, rfl⟩, by decide, by decide⟩ rfl (Nat.le_of_ble_eq_true rfl) rfl (s_pullG hm (by first | exact hB 0 (Nat.le_of_ble_eq_true rfl) | exact hB 1 (Nat.le_of_ble_eq_true rfl) | exact hB 2 (Nat.le_of_ble_eq_true rfl))) (Rs.k ?_)
          refine ex_iadd dX11_pullsOf_37 ?_
          refine st_i3 dX11_pullsOf_38 (by first | exact rfl | exact trivial) ?_
          refine inc4 (v := _ + 1) dX11_pullsOf_39 (by rfl) (by first | exact rfl | exact trivial) ?_
          refine ex_goto 5 dX11_pullsOf_42 (by decide) ?_
          refine ex_iload dX11_pullsOf_5 rfl ?_
          refine ex_iload_n dX11_pullsOf_7 rfl ?_
          refine ex_icmp_ge 45 dX11_pullsOf_8 (by decide) (fun h8_2 => ?_) (fun h8_2 => ?_)
          · exact absurd h8_2 (by decide)
          · skip
            refine ex_iload dX11_pullsOf_11 rfl ?_
            refine ex_iconst (v := 3) dX11_pullsOf_13 (by decide) ?_
            refine ex_icmp_ge 45 dX11_pullsOf_14 (by decide) (fun h14_2 => ?_) (fun h14_2 => ?_)
            · exact absurd h14_2 (by decide)
            · skip
              refine ex_iload_n dX11_pullsOf_17 rfl ?_
              refine ex_aload_n dX11_pullsOf_18 rfl ?_
              refine g_11_8 dX11_pullsOf_19 rfl wf_X11_58 (by first | assumption | rfl) (show Rt _ 0 8 = some 24 from rfl) ?_
              refine ex_iload dX11_pullsOf_22 rfl ?_
              refine ex_iload_n dX11_pullsOf_24 rfl ?_
              refine ex_imul dX11_pullsOf_25 ?_
              refine ex_aload_n dX11_pullsOf_26 rfl ?_
              refine g_11_14 dX11_pullsOf_27 rfl wf_X11_90 (by first | assumption | rfl) (show Rt _ 0 14 = some 101 from rfl) ?_
              refine ex_iload dX11_pullsOf_30 rfl ?_
              refine rx_iald dX11_pullsOf_32 (by first | assumption | rfl) (by first | assumption | (unfold vp_in; decide)) ?_
              refine ex_iadd dX11_pullsOf_33 ?_
              refine rx_cV (kd := 5) dX11_pullsOf_34 rfl lk_X11_403 rfl (by decide) (by first | assumption | rfl) ⟨⟨rfl, rfl⟩, by decide, by decide⟩ rfl (Nat.le_of_ble_eq_true rfl) rfl (s_pullG hm (by first | exact hB 0 (Nat.le_of_ble_eq_true rfl) | exact hB 1 (Nat.le_of_ble_eq_true rfl) | exact hB 2 (Nat.le_of_ble_eq_true rfl))) (Rs.k ?_)
              refine ex_iadd dX11_pullsOf_37 ?_
              refine st_i3 dX11_pullsOf_38 (by first | exact rfl | exact trivial) ?_
              refine inc4 (v := _ + 1) dX11_pullsOf_39 (by rfl) (by first | exact rfl | exact trivial) ?_
              refine ex_goto 5 dX11_pullsOf_42 (by decide) ?_
              refine ex_iload dX11_pullsOf_5 rfl ?_
              refine ex_iload_n dX11_pullsOf_7 rfl ?_
              refine ex_icmp_ge 45 dX11_pullsOf_8 (by decide) (fun h8_3 => ?_) (fun h8_3 => ?_)
              · skip
                refine ex_iload_n dX11_pullsOf_45 rfl ?_
                refine ex_iret dX11_pullsOf_46 rfl rfl ⟨rfl, Nat.le_refl _⟩ ?_
                exact ⟨(by simp only [f_X11_pullsOf3, if_true, if_false, not_true_eq_false, not_false_eq_true]), rfl⟩
              · exact absurd h8_3 (by decide)
def apF (I : Im) (a : Nat) : Int32 := if a = 1 then f_X11_apart1 else if a = 2 then f_X11_apart2 I else f_X11_apart3 I
def paF (I : Im) (a : Nat) (w : Int32) : Int32 := if a = 1 then f_X11_partingOf1 I w else if a = 2 then f_X11_partingOf2 I w else f_X11_partingOf3 I w
def puF (I : Im) (a : Nat) (w : Int32) : Int32 := if a = 1 then f_X11_pullsOf1 I w else if a = 2 then f_X11_pullsOf2 I w else f_X11_pullsOf3 I w
theorem s_apart {a : Nat} (ha : a = 1 ∨ a = 2 ∨ a = 3) : Ca G mdX11_apart [.ref 0, .int (nI a)] (mk I L t) (Rs (.int (apF I a)) (mk I L t)) := by
  rcases ha with rfl | rfl | rfl
  · exact s_X11_apart1
  · exact s_X11_apart2
  · exact s_X11_apart3
theorem s_parting {a : Nat} {w : Int32} (ha : a = 1 ∨ a = 2 ∨ a = 3) (hm : TOk I) (hB : ∀ i, i < a → ∃ q, q < 2 ^ 31 ∧ nI i * w + I 101 i = nI q) : Ca G mdX11_partingOf [.ref 0, .int (nI a), .int w] (mk I L t) (Rs (.int (paF I a w)) (mk I L t)) := by
  rcases ha with rfl | rfl | rfl
  · rw [show paF I 1 w = f_X11_partingOf1 I w from if_pos rfl]
    exact s_X11_partingOf1 hm hB
  · rw [show paF I 2 w = f_X11_partingOf2 I w from (if_neg (by decide)).trans (if_pos rfl)]
    exact s_X11_partingOf2 hm hB
  · rw [show paF I 3 w = f_X11_partingOf3 I w from (if_neg (by decide)).trans (if_neg (by decide))]
    exact s_X11_partingOf3 hm hB
theorem s_pulls {a : Nat} {w : Int32} (ha : a = 1 ∨ a = 2 ∨ a = 3) (hm : TOk I) (hB : ∀ i, i < a → ∃ q, q < 2 ^ 31 ∧ nI i * w + I 101 i = nI q) : Ca G mdX11_pullsOf [.ref 0, .int (nI a), .int w] (mk I L t) (Rs (.int (puF I a w)) (mk I L t)) := by
  rcases ha with rfl | rfl | rfl
  · rw [show puF I 1 w = f_X11_pullsOf1 I w from if_pos rfl]
    exact s_X11_pullsOf1 hm hB
  · rw [show puF I 2 w = f_X11_pullsOf2 I w from (if_neg (by decide)).trans (if_pos rfl)]
    exact s_X11_pullsOf2 hm hB
  · rw [show puF I 3 w = f_X11_pullsOf3 I w from (if_neg (by decide)).trans (if_neg (by decide))]
    exact s_X11_pullsOf3 hm hB
def bbN (I : Im) (a n k : Nat) : Int32 × Int32 × Int32 × Im :=
  match k with
  | 0 => (-1, 0, 0, I)
  | k + 1 => if apF (spF (bbN I a n k).2.2.2 n k a a) a = 0 then ((bbN I a n k).1, (bbN I a n k).2.1, (bbN I a n k).2.2.1, (spF (bbN I a n k).2.2.2 n k a a)) else if (bbN I a n k).1 < 0 ∨ (paF (spF (bbN I a n k).2.2.2 n k a a) a (nI n)) < (bbN I a n k).2.1 ∨ ((paF (spF (bbN I a n k).2.2.2 n k a a) a (nI n)) = (bbN I a n k).2.1 ∧ (puF (spF (bbN I a n k).2.2.2 n k a a) a (nI n)) < (bbN I a n k).2.2.1) then (nI k, (paF (spF (bbN I a n k).2.2.2 n k a a) a (nI n)), (puF (spF (bbN I a n k).2.2.2 n k a a) a (nI n)), (spF (bbN I a n k).2.2.2 n k a a)) else ((bbN I a n k).1, (bbN I a n k).2.1, (bbN I a n k).2.2.1, (spF (bbN I a n k).2.2.2 n k a a))
termination_by k
theorem bbN_0 {a n : Nat} : bbN I a n 0 = (-1, 0, 0, I) := by rw [bbN]
theorem bbN_s {a n k : Nat} : bbN I a n (k + 1) = if apF (spF (bbN I a n k).2.2.2 n k a a) a = 0 then ((bbN I a n k).1, (bbN I a n k).2.1, (bbN I a n k).2.2.1, (spF (bbN I a n k).2.2.2 n k a a)) else if (bbN I a n k).1 < 0 ∨ (paF (spF (bbN I a n k).2.2.2 n k a a) a (nI n)) < (bbN I a n k).2.1 ∨ ((paF (spF (bbN I a n k).2.2.2 n k a a) a (nI n)) = (bbN I a n k).2.1 ∧ (puF (spF (bbN I a n k).2.2.2 n k a a) a (nI n)) < (bbN I a n k).2.2.1) then (nI k, (paF (spF (bbN I a n k).2.2.2 n k a a) a (nI n)), (puF (spF (bbN I a n k).2.2.2 n k a a) a (nI n)), (spF (bbN I a n k).2.2.2 n k a a)) else ((bbN I a n k).1, (bbN I a n k).2.1, (bbN I a n k).2.2.1, (spF (bbN I a n k).2.2.2 n k a a)) := by rw [bbN]
theorem bbN_off {a n e : Nat} (h : e ≠ 101) : ∀ k, (bbN I a n k).2.2.2 e = I e := by
  intro k
  induction k with
  | zero => rw [bbN_0]
  | succ k ih =>
    rw [bbN_s]
    split
    · exact (spF_off h _).trans ih
    · split
      · exact (spF_off h _).trans ih
      · exact (spF_off h _).trans ih
theorem bbN_1 {a n : Nat} : ∀ k, (bbN I a n k).1 = -1 ∨ ∃ j, j < k ∧ (bbN I a n k).1 = nI j := by
  intro k
  induction k with
  | zero => rw [bbN_0]; exact Or.inl rfl
  | succ k ih =>
    have h2 : (bbN I a n k).1 = -1 ∨ ∃ j, j < k + 1 ∧ (bbN I a n k).1 = nI j := ih.elim Or.inl (fun ⟨j, hj, e⟩ => Or.inr ⟨j, by omega, e⟩)
    rw [bbN_s]
    split
    · exact h2
    · split
      · exact Or.inr ⟨k, by omega, rfl⟩
      · exact h2
def bbF (I : Im) (a n : Nat) : Int32 := if 0 < (bbN I a n (n ^ a)).1 then (bbN I a n (n ^ a)).1 else 0
def bbI (I : Im) (a n : Nat) : Im := (bbN I a n (n ^ a)).2.2.2
theorem bbI_off {a n e : Nat} (h : e ≠ 101) : bbI I a n e = I e := bbN_off h _
theorem na_le {a n : Nat} (ha : a ≤ 3) (hn : n ≤ 16) : n ^ a ≤ 4096 := Nat.le_trans (Nat.pow_le_pow_left hn a) (Nat.le_trans (Nat.pow_le_pow_right (n := 16) (by decide) ha) (by decide))
theorem bbF_nat {a n : Nat} (hn : 3 ≤ n) : ∃ j, j < n ^ a ∧ bbF I a n = nI j := by
  have h0 : 0 < n ^ a := Nat.pow_pos (by omega)
  unfold bbF
  split
  · next h =>
    rcases bbN_1 (I := I) (a := a) (n := n) (n ^ a) with e | e
    · rw [e] at h
      exact absurd h (by decide)
    · exact e
  · exact ⟨0, h0, rfl⟩
set_option maxRecDepth 100000 in
set_option maxHeartbeats 4000000 in
theorem lp_bb1 {P : Option Value → Mem → Prop} {a n : Nat} (ha : a ≤ 3) (kont : Ex G mdX11_bestBerths 21 [some (.ref 0), some (.int (nI a)), some (.int (nI n)), some (.int (nI (n ^ a))), some (.int (nI a)), none, none, none, none, none] [] (mk I L t) 0 0 P) : Ex G mdX11_bestBerths 5 [some (.ref 0), some (.int (nI a)), some (.int (nI n)), some (.int (nI (n ^ 0))), some (.int (nI 0)), none, none, none, none, none] [] (mk I L t) 0 0 P := by
  refine loop_up (G := G) (d := mdX11_bestBerths) (pc := 5) (st := []) (uc := 0) (us := 0) (P := P) a (fun k => mk I L t) (fun k => [some (.ref 0), some (.int (nI a)), some (.int (nI n)), some (.int (nI (n ^ k))), some (.int (nI k)), none, none, none, none, none]) ?_ ?_ 0 (Nat.zero_le _)
  · intro k hk ih
    refine ex_iload dX11_bestBerths_5 rfl ?_
    refine ex_iload_n dX11_bestBerths_7 rfl ?_
    refine ex_icmp_ge 21 dX11_bestBerths_8 (by decide) (fun h8 => ?_) (fun h8 => ?_)
    · exact absurd h8 (nI_ge hk (by omega))
    · skip
      refine ex_iload_n dX11_bestBerths_11 rfl ?_
      refine ex_iload_n dX11_bestBerths_12 rfl ?_
      refine ex_imul dX11_bestBerths_13 ?_
      refine st_i3 dX11_bestBerths_14 (by first | exact rfl | exact trivial) ?_
      refine inc4 (v := _ + 1) dX11_bestBerths_15 (by rfl) (by first | exact rfl | exact trivial) ?_
      refine ex_goto 5 dX11_bestBerths_18 (by decide) ?_
      rw [pk_mul, ← Nat.pow_succ, nI_1]
      exact ih
  · skip
    refine ex_iload dX11_bestBerths_5 rfl ?_
    refine ex_iload_n dX11_bestBerths_7 rfl ?_
    refine ex_icmp_ge 21 dX11_bestBerths_8 (by decide) (fun h8 => ?_) (fun h8 => ?_)
    · skip
      exact kont
    · exact absurd (Int32.le_refl _) h8
set_option maxRecDepth 100000 in
set_option maxHeartbeats 4000000 in
theorem lp_bb2 {P : Option Value → Mem → Prop} {a n : Nat} (ha : a = 1 ∨ a = 2 ∨ a = 3) (hn3 : 3 ≤ n) (hn : n ≤ 16) (hm : TOk I) (kont : Ex G mdX11_bestBerths 115 [some (.ref 0), some (.int (nI a)), some (.int (nI n)), some (.int (nI (n ^ a))), some (.int (bbN I a n (n ^ a)).1), some (.int (bbN I a n (n ^ a)).2.1), some (.int (bbN I a n (n ^ a)).2.2.1), some (.int (nI (n ^ a))), none, none] [] (mk (bbN I a n (n ^ a)).2.2.2 L t) 0 0 P) : Ex G mdX11_bestBerths 33 [some (.ref 0), some (.int (nI a)), some (.int (nI n)), some (.int (nI (n ^ a))), some (.int (bbN I a n 0).1), some (.int (bbN I a n 0).2.1), some (.int (bbN I a n 0).2.2.1), some (.int (nI 0)), none, none] [] (mk (bbN I a n 0).2.2.2 L t) 0 0 P := by
  have h3a : a ≤ 3 := by omega
  have h4 := na_le (n := n) h3a hn
  refine loop_up (G := G) (d := mdX11_bestBerths) (pc := 33) (st := []) (uc := 0) (us := 0) (P := P) (n ^ a) (fun k => mk (bbN I a n k).2.2.2 L t) (fun k => [some (.ref 0), some (.int (nI a)), some (.int (nI n)), some (.int (nI (n ^ a))), some (.int (bbN I a n k).1), some (.int (bbN I a n k).2.1), some (.int (bbN I a n k).2.2.1), some (.int (nI k)), none, none]) ?_ ?_ 0 (Nat.zero_le _)
  · intro k hk ih
    refine ex_iload dX11_bestBerths_33 rfl ?_
    refine ex_iload_n dX11_bestBerths_35 rfl ?_
    refine ex_icmp_ge 115 dX11_bestBerths_36 (by decide) (fun h36 => ?_) (fun h36 => ?_)
    · exact absurd h36 (nI_ge hk (by omega))
    · skip
      refine ex_aload_n dX11_bestBerths_39 rfl ?_
      refine ex_iload dX11_bestBerths_40 rfl ?_
      refine ex_iload_n dX11_bestBerths_42 rfl ?_
      refine ex_iload_n dX11_bestBerths_43 rfl ?_
      refine rx_cV (kd := 11) dX11_bestBerths_44 rfl lk_X11_419 rfl (by decide) (by first | assumption | rfl) ⟨⟨rfl, rfl⟩, by decide, by decide⟩ rfl (Nat.le_of_ble_eq_true rfl) rfl (s_X11_spreadBerths h3a hn3 hn (by omega)) (Rv.k ?_)
      refine ex_aload_n dX11_bestBerths_47 rfl ?_
      refine ex_iload_n dX11_bestBerths_48 rfl ?_
      refine rx_cV (kd := 11) dX11_bestBerths_49 rfl lk_X11_429 rfl (by decide) (by first | assumption | rfl) ⟨⟨rfl, rfl⟩, by decide, by decide⟩ rfl (Nat.le_of_ble_eq_true rfl) rfl (s_apart ha) (Rs.k ?_)
      refine ex_if_eq 109 dX11_bestBerths_52 (by decide) (fun h52 => ?_) (fun h52 => ?_)
      · have hw : bbN I a n (k + 1) = ((bbN I a n k).1, (bbN I a n k).2.1, (bbN I a n k).2.2.1, (spF (bbN I a n k).2.2.2 n k a a)) := bbN_s.trans (if_pos h52)
        refine inc7 (v := _ + 1) dX11_bestBerths_109 (by rfl) (by first | exact rfl | exact trivial) ?_
        refine ex_goto 33 dX11_bestBerths_112 (by decide) ?_
        refine fg8 (fg9 ?_)
        rw [nI_1]
        rw [hw] at ih
        exact ih
      · skip
        refine ex_aload_n dX11_bestBerths_55 rfl ?_
        refine ex_iload_n dX11_bestBerths_56 rfl ?_
        refine ex_iload_n dX11_bestBerths_57 rfl ?_
        refine rx_cV (kd := 11) dX11_bestBerths_58 rfl lk_X11_426 rfl (by decide) (by first | assumption | rfl) ⟨⟨rfl, rfl⟩, by decide, by decide⟩ rfl (Nat.le_of_ble_eq_true rfl) rfl (s_parting ha (TOk_of (by rw [spF_off (by decide), bbN_off (by decide)]) hm) (fun i hi => sp_q h3a (by omega) hn hi)) (Rs.k ?_)
        refine st_i8 dX11_bestBerths_61 (by first | exact rfl | exact trivial) ?_
        refine ex_aload_n dX11_bestBerths_63 rfl ?_
        refine ex_iload_n dX11_bestBerths_64 rfl ?_
        refine ex_iload_n dX11_bestBerths_65 rfl ?_
        refine rx_cV (kd := 11) dX11_bestBerths_66 rfl lk_X11_423 rfl (by decide) (by first | assumption | rfl) ⟨⟨rfl, rfl⟩, by decide, by decide⟩ rfl (Nat.le_of_ble_eq_true rfl) rfl (s_pulls ha (TOk_of (by rw [spF_off (by decide), bbN_off (by decide)]) hm) (fun i hi => sp_q h3a (by omega) hn hi)) (Rs.k ?_)
        refine st_i9 dX11_bestBerths_69 (by first | exact rfl | exact trivial) ?_
        refine ex_iload dX11_bestBerths_71 rfl ?_
        refine ex_if_lt 97 dX11_bestBerths_73 (by decide) (fun h73 => ?_) (fun h73 => ?_)
        · have hw : bbN I a n (k + 1) = (nI k, (paF (spF (bbN I a n k).2.2.2 n k a a) a (nI n)), (puF (spF (bbN I a n k).2.2.2 n k a a) a (nI n)), (spF (bbN I a n k).2.2.2 n k a a)) := bbN_s.trans ((if_neg h52).trans (if_pos (Or.inl h73)))
          refine ex_iload dX11_bestBerths_97 rfl ?_
          refine st_i4 dX11_bestBerths_99 (by first | exact rfl | exact trivial) ?_
          refine ex_iload dX11_bestBerths_101 rfl ?_
          refine st_i5 dX11_bestBerths_103 (by first | exact rfl | exact trivial) ?_
          refine ex_iload dX11_bestBerths_105 rfl ?_
          refine st_i6 dX11_bestBerths_107 (by first | exact rfl | exact trivial) ?_
          refine inc7 (v := _ + 1) dX11_bestBerths_109 (by rfl) (by first | exact rfl | exact trivial) ?_
          refine ex_goto 33 dX11_bestBerths_112 (by decide) ?_
          refine fg8 (fg9 ?_)
          rw [nI_1]
          rw [hw] at ih
          exact ih
        · skip
          refine ex_iload dX11_bestBerths_76 rfl ?_
          refine ex_iload dX11_bestBerths_78 rfl ?_
          refine ex_icmp_lt 97 dX11_bestBerths_80 (by decide) (fun h80 => ?_) (fun h80 => ?_)
          · have hw : bbN I a n (k + 1) = (nI k, (paF (spF (bbN I a n k).2.2.2 n k a a) a (nI n)), (puF (spF (bbN I a n k).2.2.2 n k a a) a (nI n)), (spF (bbN I a n k).2.2.2 n k a a)) := bbN_s.trans ((if_neg h52).trans (if_pos (Or.inr (Or.inl h80))))
            refine ex_iload dX11_bestBerths_97 rfl ?_
            refine st_i4 dX11_bestBerths_99 (by first | exact rfl | exact trivial) ?_
            refine ex_iload dX11_bestBerths_101 rfl ?_
            refine st_i5 dX11_bestBerths_103 (by first | exact rfl | exact trivial) ?_
            refine ex_iload dX11_bestBerths_105 rfl ?_
            refine st_i6 dX11_bestBerths_107 (by first | exact rfl | exact trivial) ?_
            refine inc7 (v := _ + 1) dX11_bestBerths_109 (by rfl) (by first | exact rfl | exact trivial) ?_
            refine ex_goto 33 dX11_bestBerths_112 (by decide) ?_
            refine fg8 (fg9 ?_)
            rw [nI_1]
            rw [hw] at ih
            exact ih
          · skip
            refine ex_iload dX11_bestBerths_83 rfl ?_
            refine ex_iload dX11_bestBerths_85 rfl ?_
            refine ex_icmp_ne 109 dX11_bestBerths_87 (by decide) (fun h87 => ?_) (fun h87 => ?_)
            · have hw : bbN I a n (k + 1) = ((bbN I a n k).1, (bbN I a n k).2.1, (bbN I a n k).2.2.1, (spF (bbN I a n k).2.2.2 n k a a)) := bbN_s.trans ((if_neg h52).trans (if_neg (fun q => q.elim (fun y => absurd y h73) (fun y => y.elim (fun y => absurd y h80) (fun y => h87 y.1)))))
              refine inc7 (v := _ + 1) dX11_bestBerths_109 (by rfl) (by first | exact rfl | exact trivial) ?_
              refine ex_goto 33 dX11_bestBerths_112 (by decide) ?_
              refine fg8 (fg9 ?_)
              rw [nI_1]
              rw [hw] at ih
              exact ih
            · skip
              refine ex_iload dX11_bestBerths_90 rfl ?_
              refine ex_iload dX11_bestBerths_92 rfl ?_
              refine ex_icmp_ge 109 dX11_bestBerths_94 (by decide) (fun h94 => ?_) (fun h94 => ?_)
              · have hw : bbN I a n (k + 1) = ((bbN I a n k).1, (bbN I a n k).2.1, (bbN I a n k).2.2.1, (spF (bbN I a n k).2.2.2 n k a a)) := bbN_s.trans ((if_neg h52).trans (if_neg (fun q => q.elim (fun y => absurd y h73) (fun y => y.elim (fun y => absurd y h80) (fun y => absurd y.2 (Int32.not_lt.mpr h94))))))
                refine inc7 (v := _ + 1) dX11_bestBerths_109 (by rfl) (by first | exact rfl | exact trivial) ?_
                refine ex_goto 33 dX11_bestBerths_112 (by decide) ?_
                refine fg8 (fg9 ?_)
                rw [nI_1]
                rw [hw] at ih
                exact ih
              · have hw : bbN I a n (k + 1) = (nI k, (paF (spF (bbN I a n k).2.2.2 n k a a) a (nI n)), (puF (spF (bbN I a n k).2.2.2 n k a a) a (nI n)), (spF (bbN I a n k).2.2.2 n k a a)) := bbN_s.trans ((if_neg h52).trans (if_pos (Or.inr (Or.inr ⟨h87, Int32.not_le.mp h94⟩))))
                refine ex_iload dX11_bestBerths_97 rfl ?_
                refine st_i4 dX11_bestBerths_99 (by first | exact rfl | exact trivial) ?_
                refine ex_iload dX11_bestBerths_101 rfl ?_
                refine st_i5 dX11_bestBerths_103 (by first | exact rfl | exact trivial) ?_
                refine ex_iload dX11_bestBerths_105 rfl ?_
                refine st_i6 dX11_bestBerths_107 (by first | exact rfl | exact trivial) ?_
                refine inc7 (v := _ + 1) dX11_bestBerths_109 (by rfl) (by first | exact rfl | exact trivial) ?_
                refine ex_goto 33 dX11_bestBerths_112 (by decide) ?_
                refine fg8 (fg9 ?_)
                rw [nI_1]
                rw [hw] at ih
                exact ih
  · skip
    refine ex_iload dX11_bestBerths_33 rfl ?_
    refine ex_iload_n dX11_bestBerths_35 rfl ?_
    refine ex_icmp_ge 115 dX11_bestBerths_36 (by decide) (fun h36 => ?_) (fun h36 => ?_)
    · skip
      exact kont
    · exact absurd (Int32.le_refl _) h36
set_option maxRecDepth 100000 in
set_option maxHeartbeats 4000000 in
theorem s_X11_bestBerths {a n : Nat} (ha : a = 1 ∨ a = 2 ∨ a = 3) (hn3 : 3 ≤ n) (hn : n ≤ 16) (hm : TOk I) : Ca G mdX11_bestBerths [.ref 0, .int (nI a), .int (nI n)] (mk I L t) (Rs (.int (bbF I a n)) (mk (bbI I a n) L t)) := by
  refine Ca.intro [some (.ref 0), some (.int (nI a)), some (.int (nI n)), none, none, none, none, none, none, none] (by decide) (Nat.le_of_ble_eq_true rfl) rfl rfl ?_
  refine ex_iconst (v := 1) dX11_bestBerths_0 (by decide) ?_
  refine st_i3 dX11_bestBerths_1 (by first | exact rfl | exact trivial) ?_
  refine ex_iconst (v := 0) dX11_bestBerths_2 (by decide) ?_
  refine st_i4 dX11_bestBerths_3 (by first | exact rfl | exact trivial) ?_
  have key := lp_bb1 (G := G) (I := I) (L := L) (t := t) (a := a) (n := n) (P := Rs (.int (bbF I a n)) (mk (bbI I a n) L t)) (by omega) ?_
  · rw [Nat.pow_zero] at key
    exact key
  refine ex_iconst (v := (-1)) dX11_bestBerths_21 (by decide) ?_
  refine st_i4 dX11_bestBerths_22 (by first | exact rfl | exact trivial) ?_
  refine ex_iconst (v := 0) dX11_bestBerths_24 (by decide) ?_
  refine st_i5 dX11_bestBerths_25 (by first | exact rfl | exact trivial) ?_
  refine ex_iconst (v := 0) dX11_bestBerths_27 (by decide) ?_
  refine st_i6 dX11_bestBerths_28 (by first | exact rfl | exact trivial) ?_
  refine ex_iconst (v := 0) dX11_bestBerths_30 (by decide) ?_
  refine st_i7 dX11_bestBerths_31 (by first | exact rfl | exact trivial) ?_
  have key := lp_bb2 (G := G) (I := I) (L := L) (t := t) (P := Rs (.int (bbF I a n)) (mk (bbI I a n) L t)) ha hn3 hn hm ?_
  · rw [bbN_0] at key
    exact key
  refine ex_iconst (v := 0) dX11_bestBerths_115 (by decide) ?_
  refine ex_iload dX11_bestBerths_116 rfl ?_
  refine ex_mmax dX11_bestBerths_118 rfl lk_X11_432 wj_max wj_m wj_maxc ⟨by decide, by decide⟩ ⟨by decide, by decide⟩ (Nat.le_of_ble_eq_true rfl) ?_
  refine ex_iret dX11_bestBerths_121 rfl rfl ⟨rfl, Nat.le_refl _⟩ ?_
  exact ⟨rfl, rfl⟩
end N9
