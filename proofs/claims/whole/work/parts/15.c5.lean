section C5
variable {G : Gp} {I : Im} {L : Nat → Nat → Int64} {t : Nat}
set_option maxRecDepth 100000 in
set_option maxHeartbeats 4000000 in
theorem s_X9_fact0 {a n q : Nat} (ha : K0 a = (9, 8)) (hn : n ≤ 16) (hc : I (a + 1) 2 = nI n) (hq : q < n) : Ca G mdX9_fact [.ref a, .int (nI q), .int 0] (mk I L t) (Rs (.int (I (a + 6) q)) (mk I L t)) := by
  refine Ca.intro [some (.ref a), some (.int (nI q)), some (.int 0)] (by decide) (Nat.le_of_ble_eq_true rfl) rfl rfl ?_
  have hk1 : K0 (a + 1) = (0, 7) := (lay9k ha).1
  have hk3 : K0 (a + 3) = (8, 4) := (lay9k ha).2.1
  have hk6 : K0 (a + 6) = (14, 16) := (lay9k ha).2.2.1
  have hk7 : K0 (a + 7) = (14, 16) := (lay9k ha).2.2.2.1
  have hk8 : K0 (a + 8) = (14, 16) := (lay9k ha).2.2.2.2.1
  have hk9 : K0 (a + 9) = (14, 16) := (lay9k ha).2.2.2.2.2.1
  have hk10 : K0 (a + 10) = (14, 16) := (lay9k ha).2.2.2.2.2.2
  have hk2 : K0 (a + 2) = (14, 16) := (lay0 hk1).2
  refine ex_aload_n dX9_fact_0 rfl ?_
  refine g_9_0 dX9_fact_1 rfl wf_X9_12 (by first | assumption | rfl) (layR_9_0 (by first | assumption | rfl)) ?_
  refine ex_iload_n dX9_fact_4 rfl ?_
  refine rx_cV (kd := 0) dX9_fact_5 rfl lk_X9_56 rfl (by decide) (by first | assumption | rfl) ⟨⟨rfl, rfl⟩, by decide, by decide⟩ rfl (Nat.le_of_ble_eq_true rfl) rfl (s_X0_hasCell hk1) (Rs.k ?_)
  refine ex_if_ne 13 dX9_fact_8 (by decide) (fun h8 => ?_) (fun h8 => ?_)
  · skip
    refine ex_iload_n dX9_fact_13 rfl ?_
    refine ex_look 40 dX9_fact_14 (by decide) (off := 26) (by decide) (by decide) ?_
    refine ex_aload_n dX9_fact_40 rfl ?_
    refine g_9_2 dX9_fact_41 rfl wf_X9_25 (by first | assumption | rfl) (layR_9_2 (by first | assumption | rfl)) ?_
    refine ex_iload_n dX9_fact_44 rfl ?_
    refine rx_iald dX9_fact_45 (by first | assumption | rfl) (vpi (by omega)) ?_
    refine ex_iret dX9_fact_46 rfl rfl ⟨rfl, Nat.le_refl _⟩ ?_
    exact ⟨by first | rfl | (rw [nI_clamp (by omega)]), rfl⟩
  · exact absurd (hasC_nI hc hn hq) (b2i_0.mp h8)
set_option maxRecDepth 100000 in
set_option maxHeartbeats 4000000 in
theorem s_X9_fact1 {a n q : Nat} (ha : K0 a = (9, 8)) (hn : n ≤ 16) (hc : I (a + 1) 2 = nI n) (hq : q < n) : Ca G mdX9_fact [.ref a, .int (nI q), .int 1] (mk I L t) (Rs (.int (I (a + 7) q)) (mk I L t)) := by
  refine Ca.intro [some (.ref a), some (.int (nI q)), some (.int 1)] (by decide) (Nat.le_of_ble_eq_true rfl) rfl rfl ?_
  have hk1 : K0 (a + 1) = (0, 7) := (lay9k ha).1
  have hk3 : K0 (a + 3) = (8, 4) := (lay9k ha).2.1
  have hk6 : K0 (a + 6) = (14, 16) := (lay9k ha).2.2.1
  have hk7 : K0 (a + 7) = (14, 16) := (lay9k ha).2.2.2.1
  have hk8 : K0 (a + 8) = (14, 16) := (lay9k ha).2.2.2.2.1
  have hk9 : K0 (a + 9) = (14, 16) := (lay9k ha).2.2.2.2.2.1
  have hk10 : K0 (a + 10) = (14, 16) := (lay9k ha).2.2.2.2.2.2
  have hk2 : K0 (a + 2) = (14, 16) := (lay0 hk1).2
  refine ex_aload_n dX9_fact_0 rfl ?_
  refine g_9_0 dX9_fact_1 rfl wf_X9_12 (by first | assumption | rfl) (layR_9_0 (by first | assumption | rfl)) ?_
  refine ex_iload_n dX9_fact_4 rfl ?_
  refine rx_cV (kd := 0) dX9_fact_5 rfl lk_X9_56 rfl (by decide) (by first | assumption | rfl) ⟨⟨rfl, rfl⟩, by decide, by decide⟩ rfl (Nat.le_of_ble_eq_true rfl) rfl (s_X0_hasCell hk1) (Rs.k ?_)
  refine ex_if_ne 13 dX9_fact_8 (by decide) (fun h8 => ?_) (fun h8 => ?_)
  · skip
    refine ex_iload_n dX9_fact_13 rfl ?_
    refine ex_look 47 dX9_fact_14 (by decide) (off := 33) (by decide) (by decide) ?_
    refine ex_aload_n dX9_fact_47 rfl ?_
    refine g_9_3 dX9_fact_48 rfl wf_X9_29 (by first | assumption | rfl) (layR_9_3 (by first | assumption | rfl)) ?_
    refine ex_iload_n dX9_fact_51 rfl ?_
    refine rx_iald dX9_fact_52 (by first | assumption | rfl) (vpi (by omega)) ?_
    refine ex_iret dX9_fact_53 rfl rfl ⟨rfl, Nat.le_refl _⟩ ?_
    exact ⟨by first | rfl | (rw [nI_clamp (by omega)]), rfl⟩
  · exact absurd (hasC_nI hc hn hq) (b2i_0.mp h8)
set_option maxRecDepth 100000 in
set_option maxHeartbeats 4000000 in
theorem s_X9_fact2 {a n q : Nat} (ha : K0 a = (9, 8)) (hn : n ≤ 16) (hc : I (a + 1) 2 = nI n) (hq : q < n) : Ca G mdX9_fact [.ref a, .int (nI q), .int 2] (mk I L t) (Rs (.int (rng I a q)) (mk I L t)) := by
  refine Ca.intro [some (.ref a), some (.int (nI q)), some (.int 2)] (by decide) (Nat.le_of_ble_eq_true rfl) rfl rfl ?_
  have hk1 : K0 (a + 1) = (0, 7) := (lay9k ha).1
  have hk3 : K0 (a + 3) = (8, 4) := (lay9k ha).2.1
  have hk6 : K0 (a + 6) = (14, 16) := (lay9k ha).2.2.1
  have hk7 : K0 (a + 7) = (14, 16) := (lay9k ha).2.2.2.1
  have hk8 : K0 (a + 8) = (14, 16) := (lay9k ha).2.2.2.2.1
  have hk9 : K0 (a + 9) = (14, 16) := (lay9k ha).2.2.2.2.2.1
  have hk10 : K0 (a + 10) = (14, 16) := (lay9k ha).2.2.2.2.2.2
  have hk2 : K0 (a + 2) = (14, 16) := (lay0 hk1).2
  refine ex_aload_n dX9_fact_0 rfl ?_
  refine g_9_0 dX9_fact_1 rfl wf_X9_12 (by first | assumption | rfl) (layR_9_0 (by first | assumption | rfl)) ?_
  refine ex_iload_n dX9_fact_4 rfl ?_
  refine rx_cV (kd := 0) dX9_fact_5 rfl lk_X9_56 rfl (by decide) (by first | assumption | rfl) ⟨⟨rfl, rfl⟩, by decide, by decide⟩ rfl (Nat.le_of_ble_eq_true rfl) rfl (s_X0_hasCell hk1) (Rs.k ?_)
  refine ex_if_ne 13 dX9_fact_8 (by decide) (fun h8 => ?_) (fun h8 => ?_)
  · skip
    refine ex_iload_n dX9_fact_13 rfl ?_
    refine ex_look 54 dX9_fact_14 (by decide) (off := 40) (by decide) (by decide) ?_
    refine ex_aload_n dX9_fact_54 rfl ?_
    refine ex_iload_n dX9_fact_55 rfl ?_
    refine rx_cV (kd := 9) dX9_fact_56 rfl lk_X9_88 rfl (by decide) (by first | assumption | rfl) ⟨⟨rfl, rfl⟩, by decide, by decide⟩ rfl (Nat.le_of_ble_eq_true rfl) rfl (s_X9_range ha hn hc hq) (Rs.k ?_)
    refine ex_iret dX9_fact_59 rfl rfl ⟨rfl, Nat.le_refl _⟩ ?_
    exact ⟨by first | rfl | (rw [nI_clamp (by omega)]), rfl⟩
  · exact absurd (hasC_nI hc hn hq) (b2i_0.mp h8)
theorem lay5b_dec : ∀ a, a < 223 → K0 a = (5, 4) → (K0 (a + 12) = (17, 3) ∨ K0 (a + 12) = (17, 48)) ∧ ∀ i, i < (K0 (a + 12)).2 → R0 (a + 12) i = some (a + 13 + i) ∧ K0 (a + 13 + i) = (1, 10) := by decide +kernel
theorem lay5bK {a B i : Nat} (h : K0 a = (5, 4)) (hB : K0 (a + 12) = (17, B)) (hi : i < B) : K0 (a + 13 + i) = (1, 10) := ((lay5b_dec a (K0_lt h) h).2 i (by rw [hB]; exact hi)).2
theorem lay5bR {a B i : Nat} (h : K0 a = (5, 4)) (hB : K0 (a + 12) = (17, B)) (hi : i < B) : Rt t (a + 12) i = some (a + 13 + i) := by
  unfold Rt
  rw [if_neg (by rintro ⟨q, -⟩; rw [q] at hB; exact absurd (congrArg Prod.fst hB) (show ¬ (K0 85).1 = 17 by decide +kernel))]
  exact ((lay5b_dec a (K0_lt h) h).2 i (by rw [hB]; exact hi)).1
def moorI (I : Im) (a m s : Nat) (c g : Int32) : Im := up2 (boRest (up2 (up2 (boTake I (a + 13 + m) s) (a + 13 + m) 1 c) (a + 13 + m) 3 g) (a + 13 + m)) a 2 (nI (m + 1))
def niBegin (I : Im) (a b s : Nat) : Im := waBegin (up2 I a 3 1) (a + 1) b s
def ridesI (J : Im) (a : Nat) (sec : Int32) : Nat → Im
  | 0 => J
  | k + 1 => if ridesI J a sec k (a + 13 + k) 0 = 0 then ridesI J a sec k else boRide (ridesI J a sec k) (a + 13 + k) (flAt (ridesI J a sec k) (a + 1) (ridesI J a sec k (a + 13 + k) 1)) sec
def niStep (I : Im) (a n c m : Nat) : Im := ridesI (waPass I (a + 1) n c) a (I (a + 1) 7) m
def niPass (I : Im) (a n c m : Nat) : Nat → Im
  | 0 => I
  | k + 1 => niStep (niPass I a n c m k) a n c m
theorem boTake_off {a b c : Nat} (h : c ≠ a) : boTake I a b c = I c := by
  unfold boTake
  rw [tk1_off h, tk1_off h, tk1_off h, tk1_off h, tk1_off h, tk1_off h, tk1_off h, tk1_off h, tk1_off h, tk1_off h]
theorem boRest_off {a c : Nat} (h : c ≠ a) : boRest I a c = I c := by
  unfold boRest
  rw [up2_off h, up2_off h, up2_off h, up2_off h]
theorem ite_at {p : Prop} [Decidable p] {x y : Im} {c : Nat} {z : Nat → Int32} (hx : x c = z) (hy : y c = z) : (if p then x else y) c = z := by
  split
  · exact hx
  · exact hy
theorem boRide_off {a c : Nat} {f s : Int32} (h : c ≠ a) : boRide I a f s c = I c := by
  unfold boRide
  exact ite_at (by rw [up2_off h, up2_off h, up2_off h, up2_off h, up2_off h]) (by rw [up2_off h, up2_off h, up2_off h, up2_off h])
theorem ridesI_off {J : Im} {a c : Nat} {sec : Int32} : ∀ k, (∀ i, i < k → c ≠ a + 13 + i) → ridesI J a sec k c = J c := by
  intro k
  induction k with
  | zero => intro _; rfl
  | succ k ih =>
    intro h
    have h1 := ih (fun i hi => h i (by omega))
    unfold ridesI
    split
    · exact h1
    · rw [boRide_off (h k (by omega))]
      exact h1
theorem waPass_off {a n c e : Nat} (h0 : e ≠ a) (h6 : e ≠ a + 6) (h7 : e ≠ a + 7) (h9 : e ≠ a + 9) (h10 : e ≠ a + 10) : waPass I a n c e = I e := by
  unfold waPass
  try dsimp only
  rw [up2_off h0]
  funext j
  rw [riI_off h6 h9 h10]
  exact waStream_off h7
theorem niStep_off {a n c m e : Nat} (h0 : e ≠ a + 1) (h6 : e ≠ a + 7) (h7 : e ≠ a + 8) (h9 : e ≠ a + 10) (h10 : e ≠ a + 11) (hb : ∀ i, i < m → e ≠ a + 13 + i) : niStep I a n c m e = I e := by
  unfold niStep
  rw [ridesI_off m hb, waPass_off h0 (by omega) (by omega) (by omega) (by omega)]
theorem niPass_off {a n c m e : Nat} (h0 : e ≠ a + 1) (h6 : e ≠ a + 7) (h7 : e ≠ a + 8) (h9 : e ≠ a + 10) (h10 : e ≠ a + 11) (hb : ∀ i, i < m → e ≠ a + 13 + i) : ∀ k, niPass I a n c m k e = I e := by
  intro k
  induction k with
  | zero => rfl
  | succ k ih =>
    unfold niPass
    rw [niStep_off h0 h6 h7 h9 h10 hb, ih]
set_option maxRecDepth 100000 in
set_option maxHeartbeats 4000000 in
theorem s_X5_clear {a : Nat} (ha : K0 a = (5, 4)) : Ca G mdX5_clear [.ref a] (mk I L t) (Rv (mk (up2 I a 2 0) L t)) := by
  refine Ca.intro [some (.ref a)] (by decide) (Nat.le_of_ble_eq_true rfl) rfl rfl ?_
  refine ex_aload_n dX5_clear_0 rfl ?_
  refine ex_iconst (v := 0) dX5_clear_1 (by decide) ?_
  refine p_5_2 dX5_clear_2 rfl wf_X5_18 (by first | assumption | rfl) ?_
  refine ex_vret dX5_clear_5 rfl ⟨rfl, Nat.le_refl _⟩ ?_
  exact ⟨rfl, rfl⟩
set_option maxRecDepth 100000 in
set_option maxHeartbeats 4000000 in
theorem s_X5_moor {a B m s : Nat} {c g : Int32} (ha : K0 a = (5, 4)) (hB : K0 (a + 12) = (17, B + 1)) (hB2 : B < 2 ^ 31 - 1) (hm : I a 2 = nI m) (hmB : m < B + 1) (hs : K0 s = (1, 10)) (hz : I s 0 = 0 ∨ I s 0 = 1) : Ca G mdX5_moor [.ref a, .ref s, .int c, .int g] (mk I L t) (Rv (mk (moorI I a m s c g) L t)) := by
  refine Ca.intro [some (.ref a), some (.ref s), some (.int c), some (.int g)] (by decide) (Nat.le_of_ble_eq_true rfl) rfl rfl ?_
  have hkm : K0 (a + 13 + m) = (1, 10) := lay5bK ha hB hmB
  refine ex_aload_n dX5_moor_0 rfl ?_
  refine g_5_2 dX5_moor_1 rfl wf_X5_18 (by first | assumption | rfl) ?_
  refine ex_if_lt 80 dX5_moor_4 (by decide) (fun h4 => ?_) (fun h4 => ?_)
  · exact absurd h4 (by rw [hm]; exact nI_pos (by omega))
  · skip
    refine ex_aload_n dX5_moor_7 rfl ?_
    refine g_5_2 dX5_moor_8 rfl wf_X5_18 (by first | assumption | rfl) ?_
    refine ex_aload_n dX5_moor_11 rfl ?_
    refine g_5_1 dX5_moor_12 rfl wf_X5_34 (by first | assumption | rfl) (layR_5_1 (by first | assumption | rfl)) ?_
    refine rx_alen dX5_moor_15 (by first | assumption | rfl) (by decide) rfl ?_
    refine ex_icmp_ge 80 dX5_moor_16 (by decide) (fun h16 => ?_) (fun h16 => ?_)
    · exact absurd h16 (by rw [hm]; exact nI_ge hmB (by omega))
    · skip
      refine ex_aload_n dX5_moor_19 rfl ?_
      refine g_5_1 dX5_moor_20 rfl wf_X5_34 (by first | assumption | rfl) (layR_5_1 (by first | assumption | rfl)) ?_
      refine ex_aload_n dX5_moor_23 rfl ?_
      refine g_5_2 dX5_moor_24 rfl wf_X5_18 (by first | assumption | rfl) ?_
      rw [hm]
      refine rx_aald dX5_moor_27 (by first | assumption | rfl) (by decide) rfl (vp_in_nI hmB (by omega)) (by rw [nI_clamp (by omega)]; exact lay5bR ha hB hmB) ?_
      refine ex_aload_n dX5_moor_28 rfl ?_
      refine rx_cV (kd := 1) dX5_moor_29 rfl lk_X5_39 rfl (by decide) (by first | assumption | rfl) ⟨⟨rfl, rfl⟩, by decide, by decide⟩ rfl (Nat.le_of_ble_eq_true rfl) rfl (s_X1_take hkm hs hz) (Rv.k ?_)
      refine ex_aload_n dX5_moor_32 rfl ?_
      refine g_5_1 dX5_moor_33 rfl wf_X5_34 (by first | assumption | rfl) (layR_5_1 (by first | assumption | rfl)) ?_
      refine ex_aload_n dX5_moor_36 rfl ?_
      refine g_5_2 dX5_moor_37 rfl wf_X5_18 (by first | assumption | rfl) ?_
      rw [boTake_off (show a ≠ a + 13 + m by omega), hm]
      refine rx_aald dX5_moor_40 (by first | assumption | rfl) (by decide) rfl (vp_in_nI hmB (by omega)) (by rw [nI_clamp (by omega)]; exact lay5bR ha hB hmB) ?_
      refine ex_iload_n dX5_moor_41 rfl ?_
      refine p_1_1 dX5_moor_42 rfl wf_X5_43 (by first | assumption | rfl) ?_
      refine ex_aload_n dX5_moor_45 rfl ?_
      refine g_5_1 dX5_moor_46 rfl wf_X5_34 (by first | assumption | rfl) (layR_5_1 (by first | assumption | rfl)) ?_
      refine ex_aload_n dX5_moor_49 rfl ?_
      refine g_5_2 dX5_moor_50 rfl wf_X5_18 (by first | assumption | rfl) ?_
      rw [up2_off (show a ≠ a + 13 + m by omega), boTake_off (show a ≠ a + 13 + m by omega), hm]
      refine rx_aald dX5_moor_53 (by first | assumption | rfl) (by decide) rfl (vp_in_nI hmB (by omega)) (by rw [nI_clamp (by omega)]; exact lay5bR ha hB hmB) ?_
      refine ex_iload_n dX5_moor_54 rfl ?_
      refine p_1_3 dX5_moor_55 rfl wf_X5_46 (by first | assumption | rfl) ?_
      refine ex_aload_n dX5_moor_58 rfl ?_
      refine g_5_1 dX5_moor_59 rfl wf_X5_34 (by first | assumption | rfl) (layR_5_1 (by first | assumption | rfl)) ?_
      refine ex_aload_n dX5_moor_62 rfl ?_
      refine g_5_2 dX5_moor_63 rfl wf_X5_18 (by first | assumption | rfl) ?_
      rw [up2_off (show a ≠ a + 13 + m by omega), up2_off (show a ≠ a + 13 + m by omega), boTake_off (show a ≠ a + 13 + m by omega), hm]
      refine rx_aald dX5_moor_66 (by first | assumption | rfl) (by decide) rfl (vp_in_nI hmB (by omega)) (by rw [nI_clamp (by omega)]; exact lay5bR ha hB hmB) ?_
      refine rx_cV (kd := 1) dX5_moor_67 rfl lk_X5_49 rfl (by decide) (by first | assumption | rfl) ⟨⟨rfl, rfl⟩, by decide, by decide⟩ rfl (Nat.le_of_ble_eq_true rfl) rfl (s_X1_rest hkm) (Rv.k ?_)
      refine ex_aload_n dX5_moor_70 rfl ?_
      refine ex_dup dX5_moor_71 rfl ?_
      refine g_5_2 dX5_moor_72 rfl wf_X5_18 (by first | assumption | rfl) ?_
      rw [boRest_off (show a ≠ a + 13 + m by omega), up2_off (show a ≠ a + 13 + m by omega), up2_off (show a ≠ a + 13 + m by omega), boTake_off (show a ≠ a + 13 + m by omega), hm]
      refine ex_iconst (v := 1) dX5_moor_75 (by decide) ?_
      refine ex_iadd dX5_moor_76 ?_
      refine p_5_2 dX5_moor_77 rfl wf_X5_18 (by first | assumption | rfl) ?_
      refine ex_vret dX5_moor_80 rfl ⟨rfl, Nat.le_refl _⟩ ?_
      exact ⟨rfl, by rw [nI_1]; rfl⟩
set_option maxRecDepth 100000 in
set_option maxHeartbeats 4000000 in
theorem s_X5_has {a B m q : Nat} (ha : K0 a = (5, 4)) (hB : K0 (a + 12) = (17, B + 1)) (hB2 : B < 2 ^ 31 - 1) (hm : I a 2 = nI m) (hmB : m ≤ B + 1) (hq : q < 2 ^ 31) : Ca G mdX5_has [.ref a, .int (nI q)] (mk I L t) (Rs (.int (b2i (q < m ∧ ¬ I (a + 13 + q) 0 = 0))) (mk I L t)) := by
  refine Ca.intro [some (.ref a), some (.int (nI q))] (by decide) (Nat.le_of_ble_eq_true rfl) rfl rfl ?_
  refine ex_iload_n dX5_has_0 rfl ?_
  refine ex_if_lt 37 dX5_has_1 (by decide) (fun h1 => ?_) (fun h1 => ?_)
  · exact absurd h1 (nI_pos hq)
  · skip
    refine ex_iload_n dX5_has_4 rfl ?_
    refine ex_aload_n dX5_has_5 rfl ?_
    refine g_5_2 dX5_has_6 rfl wf_X5_18 (by first | assumption | rfl) ?_
    refine ex_icmp_ge 37 dX5_has_9 (by decide) (fun h9 => ?_) (fun h9 => ?_)
    · have g9 : ¬ q < m := fun z => absurd h9 (by rw [hm]; exact nI_ge z (by omega))
      refine ex_iconst (v := 0) dX5_has_37 (by decide) ?_
      refine ex_iret dX5_has_38 rfl rfl ⟨rfl, Nat.le_refl _⟩ ?_
      exact ⟨by first | exact b2i_t ⟨g9, h30⟩ | exact b2i_f (fun z => z.2 h30) | exact b2i_f (fun z => g9 z.1), rfl⟩
    · have g9 : q < m := by rw [hm] at h9; exact Nat.not_le.mp (fun z => h9 ((nI_leI (by omega) hq).mpr z))
      have hkq : K0 (a + 13 + q) = (1, 10) := lay5bK ha hB (by omega)
      refine ex_iload_n dX5_has_12 rfl ?_
      refine ex_aload_n dX5_has_13 rfl ?_
      refine g_5_1 dX5_has_14 rfl wf_X5_34 (by first | assumption | rfl) (layR_5_1 (by first | assumption | rfl)) ?_
      refine rx_alen dX5_has_17 (by first | assumption | rfl) (by decide) rfl ?_
      refine ex_icmp_ge 37 dX5_has_18 (by decide) (fun h18 => ?_) (fun h18 => ?_)
      · exact absurd h18 (nI_ge (by omega) (by omega))
      · skip
        refine ex_aload_n dX5_has_21 rfl ?_
        refine g_5_1 dX5_has_22 rfl wf_X5_34 (by first | assumption | rfl) (layR_5_1 (by first | assumption | rfl)) ?_
        refine ex_iload_n dX5_has_25 rfl ?_
        refine rx_aald dX5_has_26 (by first | assumption | rfl) (by decide) rfl (vp_in_nI (by omega) (by omega)) (by rw [nI_clamp (by omega)]; exact lay5bR ha hB (by omega)) ?_
        refine g_1_0 dX5_has_27 rfl wf_X5_52 (by first | assumption | rfl) ?_
        refine ex_if_eq 37 dX5_has_30 (by decide) (fun h30 => ?_) (fun h30 => ?_)
        · skip
          refine ex_iconst (v := 0) dX5_has_37 (by decide) ?_
          refine ex_iret dX5_has_38 rfl rfl ⟨rfl, Nat.le_refl _⟩ ?_
          exact ⟨by first | exact b2i_t ⟨g9, h30⟩ | exact b2i_f (fun z => z.2 h30) | exact b2i_f (fun z => g9 z.1), rfl⟩
        · skip
          refine ex_iconst (v := 1) dX5_has_33 (by decide) ?_
          refine ex_goto 38 dX5_has_34 (by decide) ?_
          refine ex_iret dX5_has_38 rfl rfl ⟨rfl, Nat.le_refl _⟩ ?_
          exact ⟨by first | exact b2i_t ⟨g9, h30⟩ | exact b2i_f (fun z => z.2 h30) | exact b2i_f (fun z => g9 z.1), rfl⟩
set_option maxRecDepth 100000 in
set_option maxHeartbeats 4000000 in
theorem s_X5_begin {a b s : Nat} (ha : K0 a = (5, 4)) (hb : K0 b = (0, 7)) (hs : K0 s = (8, 4)) (hz1 : I b 1 = 0 ∨ I b 1 = 1) (hz2 : I s 2 = 0 ∨ I s 2 = 1) : Ca G mdX5_begin [.ref a, .ref b, .ref s] (mk I L t) (Rv (mk (niBegin I a b s) L t)) := by
  refine Ca.intro [some (.ref a), some (.ref b), some (.ref s)] (by decide) (Nat.le_of_ble_eq_true rfl) rfl rfl ?_
  have hk1 : K0 (a + 1) = (9, 8) := (lay5 ha).2.2
  refine ex_aload_n dX5_begin_0 rfl ?_
  refine ex_iconst (v := 1) dX5_begin_1 (by decide) ?_
  refine p_5_3 dX5_begin_2 rfl wf_X5_22 ⟨rfl, rfl⟩ (by first | assumption | rfl) ?_
  refine ex_aload_n dX5_begin_5 rfl ?_
  refine g_5_0 dX5_begin_6 rfl wf_X5_12 (by first | assumption | rfl) (layR_5_0 (by first | assumption | rfl)) ?_
  refine ex_aload_n dX5_begin_9 rfl ?_
  refine ex_aload_n dX5_begin_10 rfl ?_
  refine rx_cV (kd := 9) dX5_begin_11 rfl lk_X5_53 rfl (by decide) (by first | assumption | rfl) ⟨⟨rfl, rfl⟩, by decide, by decide⟩ rfl (Nat.le_of_ble_eq_true rfl) rfl (s_X9_begin hk1 hb hs (by rw [up2_off (K0ne hb ha (by decide))]; exact hz1) (by rw [up2_off (K0ne hs ha (by decide))]; exact hz2)) (Rv.k ?_)
  refine ex_vret dX5_begin_14 rfl ⟨rfl, Nat.le_refl _⟩ ?_
  exact ⟨rfl, rfl⟩
set_option maxRecDepth 100000 in
set_option maxHeartbeats 4000000 in
theorem s_X5_pullOf {a B m q : Nat} (ha : K0 a = (5, 4)) (hB : K0 (a + 12) = (17, B + 1)) (hB2 : B < 2 ^ 31 - 1) (hm : I a 2 = nI m) (hmB : m ≤ B + 1) (hq : q < 2 ^ 31) : Ca G mdX5_pullOf [.ref a, .int (nI q)] (mk I L t) (Rs (.int (if q < m ∧ ¬ I (a + 13 + q) 0 = 0 then I (a + 13 + q) 8 else 0)) (mk I L t)) := by
  refine Ca.intro [some (.ref a), some (.int (nI q))] (by decide) (Nat.le_of_ble_eq_true rfl) rfl rfl ?_
  refine ex_aload_n dX5_pullOf_0 rfl ?_
  refine ex_iload_n dX5_pullOf_1 rfl ?_
  refine rx_cV (kd := 5) dX5_pullOf_2 rfl lk_X5_75 rfl (by decide) (by first | assumption | rfl) ⟨⟨rfl, rfl⟩, by decide, by decide⟩ rfl (Nat.le_of_ble_eq_true rfl) rfl (s_X5_has ha hB hB2 hm hmB hq) (Rs.k ?_)
  refine ex_if_eq 20 dX5_pullOf_5 (by decide) (fun h5 => ?_) (fun h5 => ?_)
  · skip
    refine ex_iconst (v := 0) dX5_pullOf_20 (by decide) ?_
    refine ex_iret dX5_pullOf_21 rfl rfl ⟨rfl, Nat.le_refl _⟩ ?_
    first | exact ⟨by rw [if_pos g], rfl⟩ | exact ⟨by rw [if_neg (b2i_0.mp h5)], rfl⟩
  · have g := b2i_n0.mp h5
    have hkq : K0 (a + 13 + q) = (1, 10) := lay5bK ha hB (by omega)
    refine ex_aload_n dX5_pullOf_8 rfl ?_
    refine g_5_1 dX5_pullOf_9 rfl wf_X5_34 (by first | assumption | rfl) (layR_5_1 (by first | assumption | rfl)) ?_
    refine ex_iload_n dX5_pullOf_12 rfl ?_
    refine rx_aald dX5_pullOf_13 (by first | assumption | rfl) (by decide) rfl (vp_in_nI (by omega) (by omega)) (by rw [nI_clamp (by omega)]; exact lay5bR ha hB (by omega)) ?_
    refine g_1_8 dX5_pullOf_14 rfl wf_X5_79 (by first | assumption | rfl) ?_
    refine ex_goto 21 dX5_pullOf_17 (by decide) ?_
    refine ex_iret dX5_pullOf_21 rfl rfl ⟨rfl, Nat.le_refl _⟩ ?_
    first | exact ⟨by rw [if_pos g], rfl⟩ | exact ⟨by rw [if_neg (b2i_0.mp h5)], rfl⟩
set_option maxRecDepth 100000 in
set_option maxHeartbeats 4000000 in
theorem s_X5_partedOf {a B m q : Nat} (ha : K0 a = (5, 4)) (hB : K0 (a + 12) = (17, B + 1)) (hB2 : B < 2 ^ 31 - 1) (hm : I a 2 = nI m) (hmB : m ≤ B + 1) (hq : q < 2 ^ 31) : Ca G mdX5_partedOf [.ref a, .int (nI q)] (mk I L t) (Rs (.int (if q < m ∧ ¬ I (a + 13 + q) 0 = 0 then I (a + 13 + q) 9 else -9)) (mk I L t)) := by
  refine Ca.intro [some (.ref a), some (.int (nI q))] (by decide) (Nat.le_of_ble_eq_true rfl) rfl rfl ?_
  refine ex_aload_n dX5_partedOf_0 rfl ?_
  refine ex_iload_n dX5_partedOf_1 rfl ?_
  refine rx_cV (kd := 5) dX5_partedOf_2 rfl lk_X5_75 rfl (by decide) (by first | assumption | rfl) ⟨⟨rfl, rfl⟩, by decide, by decide⟩ rfl (Nat.le_of_ble_eq_true rfl) rfl (s_X5_has ha hB hB2 hm hmB hq) (Rs.k ?_)
  refine ex_if_eq 20 dX5_partedOf_5 (by decide) (fun h5 => ?_) (fun h5 => ?_)
  · skip
    refine ex_bipush (v := (-9)) dX5_partedOf_20 (by decide) ?_
    refine ex_iret dX5_partedOf_22 rfl rfl ⟨rfl, Nat.le_refl _⟩ ?_
    first | exact ⟨by rw [if_pos g], rfl⟩ | exact ⟨by rw [if_neg (b2i_0.mp h5)], rfl⟩
  · have g := b2i_n0.mp h5
    have hkq : K0 (a + 13 + q) = (1, 10) := lay5bK ha hB (by omega)
    refine ex_aload_n dX5_partedOf_8 rfl ?_
    refine g_5_1 dX5_partedOf_9 rfl wf_X5_34 (by first | assumption | rfl) (layR_5_1 (by first | assumption | rfl)) ?_
    refine ex_iload_n dX5_partedOf_12 rfl ?_
    refine rx_aald dX5_partedOf_13 (by first | assumption | rfl) (by decide) rfl (vp_in_nI (by omega) (by omega)) (by rw [nI_clamp (by omega)]; exact lay5bR ha hB (by omega)) ?_
    refine g_1_9 dX5_partedOf_14 rfl wf_X5_82 (by first | assumption | rfl) ?_
    refine ex_goto 22 dX5_partedOf_17 (by decide) ?_
    refine ex_iret dX5_partedOf_22 rfl rfl ⟨rfl, Nat.le_refl _⟩ ?_
    first | exact ⟨by rw [if_pos g], rfl⟩ | exact ⟨by rw [if_neg (b2i_0.mp h5)], rfl⟩
set_option maxRecDepth 100000 in
set_option maxHeartbeats 4000000 in
theorem s_X5_pass {a B m n c q : Nat} (ha : K0 a = (5, 4)) (hB : K0 (a + 12) = (17, B + 1)) (hB2 : B < 2 ^ 31 - 1) (hm : I a 2 = nI m) (hmB : m ≤ B + 1) (hn3 : 3 ≤ n) (hn : n ≤ 16) (hc : I (a + 2) 2 = nI n) (hs3 : I (a + 4) 3 = nI c) (hc4 : c ≤ 4) (hq : q < 2 ^ 31) : Ca G mdX5_pass [.ref a, .int (nI q)] (mk I L t) (Rv (mk (niPass I a n c m q) L t)) := by
  refine Ca.intro [some (.ref a), some (.int (nI q)), none, none, none] (by decide) (Nat.le_of_ble_eq_true rfl) rfl rfl ?_
  have hk1 : K0 (a + 1) = (9, 8) := (lay5 ha).2.2
  refine ex_iconst (v := 0) dX5_pass_0 (by decide) ?_
  refine st_i2 dX5_pass_1 (by first | exact rfl | exact trivial) ?_
  refine loop_up (G := G) (d := mdX5_pass) (pc := 2) (st := []) (uc := 0) (us := 0) (P := Rv (mk (niPass I a n c m q) L t)) q (fun k => mk (niPass I a n c m k) L t) (fun k => [some (.ref a), some (.int (nI q)), some (.int (nI k)), none, none]) ?_ ?_ 0 (Nat.zero_le _)
  · intro k hk ih
    have ih0 := ih
    clear ih
    have hk0 := hk
    clear hk
    have ⟨k0, ek⟩ : ∃ k0, k0 = k := ⟨k, rfl⟩
    rw [← ek] at ih0 hk0 ⊢
    clear ek
    refine ex_iload_n dX5_pass_2 rfl ?_
    refine ex_iload_n dX5_pass_3 rfl ?_
    refine ex_icmp_ge 97 dX5_pass_4 (by decide) (fun h4 => ?_) (fun h4 => ?_)
    · exact absurd h4 (nI_ge hk0 hq)
    · skip
      refine ex_aload_n dX5_pass_7 rfl ?_
      refine g_5_0 dX5_pass_8 rfl wf_X5_12 (by first | assumption | rfl) (layR_5_0 (by first | assumption | rfl)) ?_
      refine g_9_7 dX5_pass_11 rfl wf_X5_57 (by first | assumption | rfl) ?_
      refine st_i3 dX5_pass_14 (by first | exact rfl | exact trivial) ?_
      refine ex_aload_n dX5_pass_15 rfl ?_
      refine g_5_0 dX5_pass_16 rfl wf_X5_12 (by first | assumption | rfl) (layR_5_0 (by first | assumption | rfl)) ?_
      refine rx_cV (kd := 9) dX5_pass_19 rfl lk_X5_60 rfl (by decide) (by first | assumption | rfl) ⟨⟨rfl, rfl⟩, by decide, by decide⟩ rfl (Nat.le_of_ble_eq_true rfl) rfl (s_X9_pass (n := n) (c := c) hk1 hn3 hn (by rw [niPass_off (by omega) (by omega) (by omega) (by omega) (by omega) (fun i _ => by omega) k0]; exact hc) (by rw [niPass_off (by omega) (by omega) (by omega) (by omega) (by omega) (fun i _ => by omega) k0]; exact hs3) hc4) (Rv.k ?_)
      refine ex_iconst (v := 0) dX5_pass_22 (by decide) ?_
      refine st_i4 dX5_pass_23 (by first | exact rfl | exact trivial) ?_
      refine loop_up (G := G) (d := mdX5_pass) (pc := 25) (st := []) (uc := 0) (us := 0) (P := Rv (mk (niPass I a n c m q) L t)) m (fun k => mk (ridesI (waPass (niPass I a n c m k0) (a + 1) n c) a (niPass I a n c m k0 (a + 1) 7) k) L t) (fun k => [some (.ref a), some (.int (nI q)), some (.int (nI k0)), some (.int (niPass I a n c m k0 (a + 1) 7)), some (.int (nI k))]) ?_ ?_ 0 (Nat.zero_le _)
      · intro k hk ih
        have hkk : K0 (a + 13 + k) = (1, 10) := lay5bK ha hB (by omega)
        have e0 : ridesI (waPass (niPass I a n c m k0) (a + 1) n c) a (niPass I a n c m k0 (a + 1) 7) k a 2 = nI m := by rw [ridesI_off k (fun i _ => by omega), waPass_off (by omega) (by omega) (by omega) (by omega) (by omega), niPass_off (by omega) (by omega) (by omega) (by omega) (by omega) (fun i _ => by omega) k0]; exact hm
        refine ex_iload dX5_pass_25 rfl ?_
        refine ex_aload_n dX5_pass_27 rfl ?_
        refine g_5_2 dX5_pass_28 rfl wf_X5_18 (by first | assumption | rfl) ?_
        refine ex_icmp_ge 91 dX5_pass_31 (by decide) (fun h31 => ?_) (fun h31 => ?_)
        · exact absurd h31 (by rw [e0]; exact nI_ge hk (by omega))
        · skip
          refine ex_iload dX5_pass_34 rfl ?_
          refine ex_aload_n dX5_pass_36 rfl ?_
          refine g_5_1 dX5_pass_37 rfl wf_X5_34 (by first | assumption | rfl) (layR_5_1 (by first | assumption | rfl)) ?_
          refine rx_alen dX5_pass_40 (by first | assumption | rfl) (by decide) rfl ?_
          refine ex_icmp_ge 91 dX5_pass_41 (by decide) (fun h41 => ?_) (fun h41 => ?_)
          · exact absurd h41 (nI_ge (by omega) (by omega))
          · skip
            refine ex_aload_n dX5_pass_44 rfl ?_
            refine g_5_1 dX5_pass_45 rfl wf_X5_34 (by first | assumption | rfl) (layR_5_1 (by first | assumption | rfl)) ?_
            refine ex_iload dX5_pass_48 rfl ?_
            refine rx_aald dX5_pass_50 (by first | assumption | rfl) (by decide) rfl (vp_in_nI (by omega) (by omega)) (by rw [nI_clamp (by omega)]; exact lay5bR ha hB (by omega)) ?_
            refine g_1_0 dX5_pass_51 rfl wf_X5_52 (by first | assumption | rfl) ?_
            refine ex_if_eq 85 dX5_pass_54 (by decide) (fun h54 => ?_) (fun h54 => ?_)
            · have hw : ridesI (waPass (niPass I a n c m k0) (a + 1) n c) a (niPass I a n c m k0 (a + 1) 7) (k + 1) = ridesI (waPass (niPass I a n c m k0) (a + 1) n c) a (niPass I a n c m k0 (a + 1) 7) k := if_pos h54
              refine inc4 (v := _ + 1) dX5_pass_85 (by rfl) (by first | exact rfl | exact trivial) ?_
              refine ex_goto 25 dX5_pass_88 (by decide) ?_
              rw [nI_1]
              rw [hw] at ih
              exact ih
            · have hw : ridesI (waPass (niPass I a n c m k0) (a + 1) n c) a (niPass I a n c m k0 (a + 1) 7) (k + 1) = _ := if_neg h54
              refine ex_aload_n dX5_pass_57 rfl ?_
              refine g_5_1 dX5_pass_58 rfl wf_X5_34 (by first | assumption | rfl) (layR_5_1 (by first | assumption | rfl)) ?_
              refine ex_iload dX5_pass_61 rfl ?_
              refine rx_aald dX5_pass_63 (by first | assumption | rfl) (by decide) rfl (vp_in_nI (by omega) (by omega)) (by rw [nI_clamp (by omega)]; exact lay5bR ha hB (by omega)) ?_
              refine ex_aload_n dX5_pass_64 rfl ?_
              refine g_5_0 dX5_pass_65 rfl wf_X5_12 (by first | assumption | rfl) (layR_5_0 (by first | assumption | rfl)) ?_
              refine ex_aload_n dX5_pass_68 rfl ?_
              refine g_5_1 dX5_pass_69 rfl wf_X5_34 (by first | assumption | rfl) (layR_5_1 (by first | assumption | rfl)) ?_
              refine ex_iload dX5_pass_72 rfl ?_
              refine rx_aald dX5_pass_74 (by first | assumption | rfl) (by decide) rfl (vp_in_nI (by omega) (by omega)) (by rw [nI_clamp (by omega)]; exact lay5bR ha hB (by omega)) ?_
              refine g_1_1 dX5_pass_75 rfl wf_X5_43 (by first | assumption | rfl) ?_
              refine rx_cV (kd := 9) dX5_pass_78 rfl lk_X5_63 rfl (by decide) (by first | assumption | rfl) ⟨⟨rfl, rfl⟩, by decide, by decide⟩ rfl (Nat.le_of_ble_eq_true rfl) rfl (s_X9_flowsAt hk1) (Rs.k ?_)
              refine ex_iload_n dX5_pass_81 rfl ?_
              refine rx_cV (kd := 1) dX5_pass_82 rfl lk_X5_67 rfl (by decide) (by first | assumption | rfl) ⟨⟨rfl, rfl⟩, by decide, by decide⟩ rfl (Nat.le_of_ble_eq_true rfl) rfl (s_X1_ride hkk) (Rv.k ?_)
              refine inc4 (v := _ + 1) dX5_pass_85 (by rfl) (by first | exact rfl | exact trivial) ?_
              refine ex_goto 25 dX5_pass_88 (by decide) ?_
              rw [nI_1]
              rw [hw] at ih
              exact ih
      · skip
        have e0 : ridesI (waPass (niPass I a n c m k0) (a + 1) n c) a (niPass I a n c m k0 (a + 1) 7) m a 2 = nI m := by rw [ridesI_off m (fun i _ => by omega), waPass_off (by omega) (by omega) (by omega) (by omega) (by omega), niPass_off (by omega) (by omega) (by omega) (by omega) (by omega) (fun i _ => by omega) k0]; exact hm
        refine ex_iload dX5_pass_25 rfl ?_
        refine ex_aload_n dX5_pass_27 rfl ?_
        refine g_5_2 dX5_pass_28 rfl wf_X5_18 (by first | assumption | rfl) ?_
        refine ex_icmp_ge 91 dX5_pass_31 (by decide) (fun h31 => ?_) (fun h31 => ?_)
        · skip
          refine inc2 (v := _ + 1) dX5_pass_91 (by rfl) (by first | exact rfl | exact trivial) ?_
          refine ex_goto 2 dX5_pass_94 (by decide) ?_
          refine fg3 (fg4 ?_)
          rw [nI_1]
          exact ih0
        · exact absurd (by rw [e0]; exact Int32.le_refl _) h31
  · skip
    refine ex_iload_n dX5_pass_2 rfl ?_
    refine ex_iload_n dX5_pass_3 rfl ?_
    refine ex_icmp_ge 97 dX5_pass_4 (by decide) (fun h4 => ?_) (fun h4 => ?_)
    · skip
      refine ex_vret dX5_pass_97 rfl ⟨rfl, Nat.le_refl _⟩ ?_
      exact ⟨rfl, rfl⟩
    · exact absurd (Int32.le_refl _) h4
theorem waBegin_bas {a b s : Nat} (hab : b ≠ a + 1) (hb1 : b + 1 ≠ a + 2) (hb2 : b + 1 ≠ a + 1) (hb3 : b ≠ a + 2) : ∀ j, 2 ≤ j → j ≤ 6 → waBegin I a b s (a + 1) j = I b j := by
  intro j h1 h2
  unfold waBegin
  rw [beI_off (by omega) (by omega) (by omega) (by omega) (by omega)]
  unfold be0
  rw [up2_off (by omega), swTake_off (by omega) (by omega) (by omega)]
  unfold baTake
  rw [cpR_off (by omega)]
  rcases (by omega : j = 2 ∨ j = 3 ∨ j = 4 ∨ j = 5 ∨ j = 6) with rfl | rfl | rfl | rfl | rfl <;> simp [tk1, up2, hab]
theorem waBegin_sw {a b s : Nat} (h1 : s ≠ a + 1) (h2 : s ≠ a + 2) (h3 : s ≠ a + 3) : waBegin I a b s (a + 3) 3 = I s 3 := by
  unfold waBegin
  rw [beI_off (by omega) (by omega) (by omega) (by omega) (by omega)]
  unfold be0
  rw [up2_off (by omega)]
  unfold swTake
  rw [cpR_off (by omega), cpR_off (by omega)]
  have e : baTake I (a + 1) b s = I s := baTake_off h1 h2
  simp [tk1, up2, h3, e]
theorem waBegin_off {a b s c : Nat} (h : c < a ∨ a + 10 < c) : waBegin I a b s c = I c := by
  unfold waBegin
  rw [beI_off (by omega) (by omega) (by omega) (by omega) (by omega)]
  unfold be0
  rw [up2_off (by omega), swTake_off (by omega) (by omega) (by omega), baTake_off (by omega) (by omega)]
def niWake (I : Im) (a b s n c m : Nat) : Im := niPass (niBegin I a b s) a n c m 300
set_option maxRecDepth 100000 in
set_option maxHeartbeats 4000000 in
theorem s_X5_wake {a B m n c b s : Nat} (ha : K0 a = (5, 4)) (hB : K0 (a + 12) = (17, B + 1)) (hB2 : B < 2 ^ 31 - 1) (hm : I a 2 = nI m) (hmB : m ≤ B + 1) (hb : K0 b = (0, 7)) (hs : K0 s = (8, 4)) (hz1 : I b 1 = 0 ∨ I b 1 = 1) (hz2 : I s 2 = 0 ∨ I s 2 = 1) (hn3 : 3 ≤ n) (hn : n ≤ 16) (hc : I b 2 = nI n) (hs3 : I s 3 = nI c) (hc4 : c ≤ 4) (hba : b ≠ a + 2) (hsa : s ≠ a + 4) : Ca G mdX5_wake [.ref a, .ref b, .ref s] (mk I L t) (Rv (mk (niWake I a b s n c m) L t)) := by
  refine Ca.intro [some (.ref a), some (.ref b), some (.ref s)] (by decide) (Nat.le_of_ble_eq_true rfl) rfl rfl ?_
  have hk1 : K0 (a + 1) = (9, 8) := (lay5 ha).2.2
  have hk2 : K0 (a + 2) = (0, 7) := (lay9k hk1).1
  have hk3 : K0 (a + 3) = (14, 16) := (lay0 hk2).2
  refine ex_aload_n dX5_wake_0 rfl ?_
  refine ex_aload_n dX5_wake_1 rfl ?_
  refine ex_aload_n dX5_wake_2 rfl ?_
  refine rx_cV (kd := 5) dX5_wake_3 rfl lk_X5_71 rfl (by decide) (by first | assumption | rfl) ⟨⟨rfl, rfl⟩, by decide, by decide⟩ rfl (Nat.le_of_ble_eq_true rfl) rfl (s_X5_begin ha hb hs hz1 hz2) (Rv.k ?_)
  refine ex_aload_n dX5_wake_6 rfl ?_
  refine ex_sipush (v := 300) dX5_wake_7 (by decide) ?_
  refine rx_cV (kd := 5) dX5_wake_10 rfl lk_X5_72 rfl (by decide) (by first | assumption | rfl) ⟨⟨rfl, rfl⟩, by decide, by decide⟩ rfl (Nat.le_of_ble_eq_true rfl) rfl (s_X5_pass (q := 300) (n := n) (c := c) (m := m) ha hB hB2 (by unfold niBegin; rw [waBegin_off (by omega), u2_n (by omega)]; exact hm) hmB hn3 hn (by unfold niBegin; rw [show a + 2 = a + 1 + 1 by omega, waBegin_bas (by omega) (fun q => absurd (show b = a + 2 by omega) hba) (fun q => K0ne (lay0 hb).2 hk2 (by decide) (by omega)) (fun q => K0ne hb hk3 (by decide) (by omega)) 2 (by decide) (by decide), up2_off (K0ne hb ha (by decide))]; exact hc) (by unfold niBegin; rw [show a + 4 = a + 1 + 3 by omega, waBegin_sw (fun q => K0ne hs hk2 (by decide) (by omega)) (fun q => K0ne hs hk3 (by decide) (by omega)) (by omega), up2_off (K0ne hs ha (by decide))]; exact hs3) hc4 (by decide)) (Rv.k ?_)
  refine ex_vret dX5_wake_13 rfl ⟨rfl, Nat.le_refl _⟩ ?_
  exact ⟨rfl, rfl⟩
def pullV (I : Im) (a m q : Nat) : Int32 := if q < m ∧ ¬ I (a + 13 + q) 0 = 0 then I (a + 13 + q) 8 else 0
set_option maxRecDepth 100000 in
set_option maxHeartbeats 4000000 in
theorem s_X5_leastPulled {a B m : Nat} (ha : K0 a = (5, 4)) (hB : K0 (a + 12) = (17, B + 1)) (hB2 : B < 2 ^ 31 - 1) (hm : I a 2 = nI m) (h1 : 1 ≤ m) (hmB : m ≤ B + 1) : Ca G mdX5_leastPulled [.ref a] (mk I L t) (Rs (.int (nI (calmN (pullV I a m) (m - 1)))) (mk I L t)) := by
  refine Ca.intro [some (.ref a), none, none] (by decide) (Nat.le_of_ble_eq_true rfl) rfl rfl ?_
  refine ex_iconst (v := 0) dX5_leastPulled_0 (by decide) ?_
  refine st_i1 dX5_leastPulled_1 (by first | exact rfl | exact trivial) ?_
  refine ex_iconst (v := 1) dX5_leastPulled_2 (by decide) ?_
  refine st_i2 dX5_leastPulled_3 (by first | exact rfl | exact trivial) ?_
  refine loop_up (G := G) (d := mdX5_leastPulled) (pc := 4) (st := []) (uc := 0) (us := 0) (P := Rs (.int (nI (calmN (pullV I a m) (m - 1)))) (mk I L t)) (m - 1) (fun k => mk I L t) (fun k => [some (.ref a), some (.int (nI (calmN (pullV I a m) k))), some (.int (nI (k + 1)))]) ?_ ?_ 0 (Nat.zero_le _)
  · intro k hk ih
    refine ex_iload_n dX5_leastPulled_4 rfl ?_
    refine ex_aload_n dX5_leastPulled_5 rfl ?_
    refine g_5_2 dX5_leastPulled_6 rfl wf_X5_18 (by first | assumption | rfl) ?_
    refine ex_icmp_ge 37 dX5_leastPulled_9 (by decide) (fun h9 => ?_) (fun h9 => ?_)
    · exact absurd h9 (by rw [hm]; exact nI_ge (by omega) (by omega))
    · skip
      refine ex_aload_n dX5_leastPulled_12 rfl ?_
      refine ex_iload_n dX5_leastPulled_13 rfl ?_
      refine rx_cV (kd := 5) dX5_leastPulled_14 rfl lk_X5_85 rfl (by decide) (by first | assumption | rfl) ⟨⟨rfl, rfl⟩, by decide, by decide⟩ rfl (Nat.le_of_ble_eq_true rfl) rfl (s_X5_pullOf ha hB hB2 hm hmB (by omega)) (Rs.k ?_)
      refine ex_aload_n dX5_leastPulled_17 rfl ?_
      refine ex_iload_n dX5_leastPulled_18 rfl ?_
      refine rx_cV (kd := 5) dX5_leastPulled_19 rfl lk_X5_85 rfl (by decide) (by first | assumption | rfl) ⟨⟨rfl, rfl⟩, by decide, by decide⟩ rfl (Nat.le_of_ble_eq_true rfl) rfl (s_X5_pullOf ha hB hB2 hm hmB (Nat.lt_of_le_of_lt (calmN_le _ _) (by omega))) (Rs.k ?_)
      refine ex_icmp_ge 29 dX5_leastPulled_22 (by decide) (fun h22 => ?_) (fun h22 => ?_)
      · have hw : calmN (pullV I a m) (k + 1) = calmN (pullV I a m) k := if_neg (Int32.not_lt.mpr h22)
        refine ex_iload_n dX5_leastPulled_29 rfl ?_
        refine st_i1 dX5_leastPulled_30 (by first | exact rfl | exact trivial) ?_
        refine inc2 (v := _ + 1) dX5_leastPulled_31 (by rfl) (by first | exact rfl | exact trivial) ?_
        refine ex_goto 4 dX5_leastPulled_34 (by decide) ?_
        rw [nI_1]
        rw [hw] at ih
        exact ih
      · have hw : calmN (pullV I a m) (k + 1) = k + 1 := if_pos (Int32.not_le.mp h22)
        refine ex_iload_n dX5_leastPulled_25 rfl ?_
        refine ex_goto 30 dX5_leastPulled_26 (by decide) ?_
        refine st_i1 dX5_leastPulled_30 (by first | exact rfl | exact trivial) ?_
        refine inc2 (v := _ + 1) dX5_leastPulled_31 (by rfl) (by first | exact rfl | exact trivial) ?_
        refine ex_goto 4 dX5_leastPulled_34 (by decide) ?_
        rw [nI_1]
        rw [hw] at ih
        exact ih
  · skip
    refine ex_iload_n dX5_leastPulled_4 rfl ?_
    refine ex_aload_n dX5_leastPulled_5 rfl ?_
    refine g_5_2 dX5_leastPulled_6 rfl wf_X5_18 (by first | assumption | rfl) ?_
    refine ex_icmp_ge 37 dX5_leastPulled_9 (by decide) (fun h9 => ?_) (fun h9 => ?_)
    · skip
      refine ex_iload_n dX5_leastPulled_37 rfl ?_
      refine ex_iret dX5_leastPulled_38 rfl rfl ⟨rfl, Nat.le_refl _⟩ ?_
      exact ⟨rfl, rfl⟩
    · exact absurd (by rw [hm, show m - 1 + 1 = m by omega]; exact Int32.le_refl _) h9
def bts (J : Im) (a o : Nat) : Nat → Im
  | 0 => J
  | k + 1 => boTake (bts J a o k) (a + 13 + k) (o + 13 + k)
theorem bts_off {J : Im} {a o c : Nat} : ∀ k, (∀ i, i < k → c ≠ a + 13 + i) → bts J a o k c = J c := by
  intro k
  induction k with
  | zero => intro _; rfl
  | succ k ih =>
    intro h
    unfold bts
    rw [boTake_off (h k (by omega))]
    exact ih (fun i hi => h i (by omega))
def niTake (I : Im) (a o m : Nat) : Im := bts (up2 (waTake (up2 I a 3 (I o 3)) (a + 1) (o + 1)) a 2 (nI m)) a o m
theorem waTake_off {a o c : Nat} (h : c < a ∨ a + 10 < c) : waTake I a o c = I c := by
  unfold waTake
  try dsimp only
  rw [cpR_off (by omega), cpR_off (by omega), cpR_off (by omega), cpR_off (by omega), cpR_off (by omega), tk1_off (by omega), swTake_off (by omega) (by omega) (by omega), baTake_off (by omega) (by omega)]
theorem mn_3 {m : Nat} (h : m ≤ 3) : (if nI 3 < nI m then nI 3 else nI m) = nI m := if_neg (nI_nlt h (by decide))
set_option maxRecDepth 100000 in
set_option maxHeartbeats 4000000 in
theorem s_X5_take {a o m : Nat} (ha : K0 a = (5, 4)) (ho : K0 o = (5, 4)) (hB : K0 (a + 12) = (17, 3)) (hBo : K0 (o + 12) = (17, 3)) (hm : I o 2 = nI m) (hm3 : m ≤ 3) (hz0 : I o 3 = 0 ∨ I o 3 = 1) (hz1 : I (o + 2) 1 = 0 ∨ I (o + 2) 1 = 1) (hz2 : I (o + 4) 2 = 0 ∨ I (o + 4) 2 = 1) (hzb : ∀ i, i < m → I (o + 13 + i) 0 = 0 ∨ I (o + 13 + i) 0 = 1) (hd : o + 15 < a ∨ a + 15 < o) : Ca G mdX5_take [.ref a, .ref o] (mk I L t) (Rv (mk (niTake I a o m) L t)) := by
  refine Ca.intro [some (.ref a), some (.ref o), none] (by decide) (Nat.le_of_ble_eq_true rfl) rfl rfl ?_
  have hk1 : K0 (a + 1) = (9, 8) := (lay5 ha).2.2
  have hj1 : K0 (o + 1) = (9, 8) := (lay5 ho).2.2
  refine ex_aload_n dX5_take_0 rfl ?_
  refine ex_aload_n dX5_take_1 rfl ?_
  refine g_5_3 dX5_take_2 rfl wf_X5_22 (by first | assumption | rfl) ?_
  refine p_5_3 dX5_take_5 rfl wf_X5_22 (nfZ hz0) (by first | assumption | rfl) ?_
  refine ex_aload_n dX5_take_8 rfl ?_
  refine g_5_0 dX5_take_9 rfl wf_X5_12 (by first | assumption | rfl) (layR_5_0 (by first | assumption | rfl)) ?_
  refine ex_aload_n dX5_take_12 rfl ?_
  refine g_5_0 dX5_take_13 rfl wf_X5_12 (by first | assumption | rfl) (layR_5_0 (by first | assumption | rfl)) ?_
  refine rx_cV (kd := 9) dX5_take_16 rfl lk_X5_88 rfl (by decide) (by first | assumption | rfl) ⟨⟨rfl, rfl⟩, by decide, by decide⟩ rfl (Nat.le_of_ble_eq_true rfl) rfl (s_X9_take hk1 hj1 (by rw [up2_off (by omega)]; exact hz1) (by rw [up2_off (by omega)]; exact hz2)) (Rv.k ?_)
  refine ex_aload_n dX5_take_19 rfl ?_
  refine ex_aload_n dX5_take_20 rfl ?_
  refine g_5_2 dX5_take_21 rfl wf_X5_18 (by first | assumption | rfl) ?_
  rw [waTake_off (by omega), up2_off (by omega), hm]
  refine ex_aload_n dX5_take_24 rfl ?_
  refine g_5_1 dX5_take_25 rfl wf_X5_34 (by first | assumption | rfl) (layR_5_1 (by first | assumption | rfl)) ?_
  refine rx_alen dX5_take_28 (by first | assumption | rfl) (by decide) rfl ?_
  refine ex_mmin dX5_take_29 rfl lk_X5_91 wj_min wj_m wj_minc ⟨by decide, by decide⟩ ⟨by decide, by decide⟩ (Nat.le_of_ble_eq_true rfl) ?_
  rw [mn_3 hm3]
  refine p_5_2 dX5_take_32 rfl wf_X5_18 (by first | assumption | rfl) ?_
  refine ex_iconst (v := 0) dX5_take_35 (by decide) ?_
  refine st_i2 dX5_take_36 (by first | exact rfl | exact trivial) ?_
  refine loop_up (G := G) (d := mdX5_take) (pc := 37) (st := []) (uc := 0) (us := 0) (P := Rv (mk (niTake I a o m) L t)) m (fun k => mk (bts (up2 (waTake (up2 I a 3 (I o 3)) (a + 1) (o + 1)) a 2 (nI m)) a o k) L t) (fun k => [some (.ref a), some (.ref o), some (.int (nI k))]) ?_ ?_ 0 (Nat.zero_le _)
  · intro k hk ih
    have e0 : bts (up2 (waTake (up2 I a 3 (I o 3)) (a + 1) (o + 1)) a 2 (nI m)) a o k a 2 = nI m := by rw [bts_off k (fun i _ => by omega)]; simp [up2]
    have hkk : K0 (a + 13 + k) = (1, 10) := lay5bK ha hB (by omega)
    have hjk : K0 (o + 13 + k) = (1, 10) := lay5bK ho hBo (by omega)
    refine ex_iload_n dX5_take_37 rfl ?_
    refine ex_aload_n dX5_take_38 rfl ?_
    refine g_5_2 dX5_take_39 rfl wf_X5_18 (by first | assumption | rfl) ?_
    refine ex_icmp_ge 75 dX5_take_42 (by decide) (fun h42 => ?_) (fun h42 => ?_)
    · exact absurd h42 (by rw [e0]; exact nI_ge hk (by omega))
    · skip
      refine ex_iload_n dX5_take_45 rfl ?_
      refine ex_aload_n dX5_take_46 rfl ?_
      refine g_5_1 dX5_take_47 rfl wf_X5_34 (by first | assumption | rfl) (layR_5_1 (by first | assumption | rfl)) ?_
      refine rx_alen dX5_take_50 (by first | assumption | rfl) (by decide) rfl ?_
      refine ex_icmp_ge 75 dX5_take_51 (by decide) (fun h51 => ?_) (fun h51 => ?_)
      · exact absurd h51 (nI_ge (b := 3) (by omega) (by decide))
      · skip
        refine ex_aload_n dX5_take_54 rfl ?_
        refine g_5_1 dX5_take_55 rfl wf_X5_34 (by first | assumption | rfl) (layR_5_1 (by first | assumption | rfl)) ?_
        refine ex_iload_n dX5_take_58 rfl ?_
        refine rx_aald dX5_take_59 (by first | assumption | rfl) (by decide) rfl (vpi (by omega)) (by rw [nI_clamp (by omega)]; exact lay5bR ha hB (by omega)) ?_
        refine ex_aload_n dX5_take_60 rfl ?_
        refine g_5_1 dX5_take_61 rfl wf_X5_34 (by first | assumption | rfl) (layR_5_1 (by first | assumption | rfl)) ?_
        refine ex_iload_n dX5_take_64 rfl ?_
        refine rx_aald dX5_take_65 (by first | assumption | rfl) (by decide) rfl (vpi (by omega)) (by rw [nI_clamp (by omega)]; exact lay5bR ho hBo (by omega)) ?_
        refine rx_cV (kd := 1) dX5_take_66 rfl lk_X5_39 rfl (by decide) (by first | assumption | rfl) ⟨⟨rfl, rfl⟩, by decide, by decide⟩ rfl (Nat.le_of_ble_eq_true rfl) rfl (s_X1_take hkk hjk (by rw [bts_off k (fun i _ => by omega), up2_off (by omega), waTake_off (by omega), up2_off (by omega)]; exact hzb k hk)) (Rv.k ?_)
        refine inc2 (v := _ + 1) dX5_take_69 (by rfl) (by first | exact rfl | exact trivial) ?_
        refine ex_goto 37 dX5_take_72 (by decide) ?_
        rw [nI_1]
        exact ih
  · skip
    have e0 : bts (up2 (waTake (up2 I a 3 (I o 3)) (a + 1) (o + 1)) a 2 (nI m)) a o m a 2 = nI m := by rw [bts_off m (fun i _ => by omega)]; simp [up2]
    refine ex_iload_n dX5_take_37 rfl ?_
    refine ex_aload_n dX5_take_38 rfl ?_
    refine g_5_2 dX5_take_39 rfl wf_X5_18 (by first | assumption | rfl) ?_
    refine ex_icmp_ge 75 dX5_take_42 (by decide) (fun h42 => ?_) (fun h42 => ?_)
    · skip
      refine ex_vret dX5_take_75 rfl ⟨rfl, Nat.le_refl _⟩ ?_
      exact ⟨rfl, rfl⟩
    · exact absurd (by rw [e0]; exact Int32.le_refl _) h42
def mixB (I : Im) (a : Nat) (h : Int64) : Nat → Int64
  | 0 => h
  | k + 1 => boMixR I (a + 13 + k) (mixB I a h k)
def niMix (I : Im) (a n m : Nat) (h : Int64) : Int64 := if I a 3 = 0 then 31 * h + (-1) else mixB I a (mixP (I (a + 7)) (I (a + 8)) h n) m
set_option maxRecDepth 100000 in
set_option maxHeartbeats 4000000 in
theorem s_X5_mixInto {a m n : Nat} {h : Int64} (ha : K0 a = (5, 4)) (hB : K0 (a + 12) = (17, 3)) (hm : ¬ I a 3 = 0 → I a 2 = nI m) (hm3 : m ≤ 3) (hn : n ≤ 16) (hc : ¬ I a 3 = 0 → I (a + 2) 2 = nI n) : Ca G mdX5_mixInto [.ref a, .long h] (mk I L t) (Rs (.long (niMix I a n m h)) (mk I L t)) := by
  refine Ca.intro [some (.ref a), some (.long h), none, none, none, none] (by decide) (Nat.le_of_ble_eq_true rfl) rfl rfl ?_
  have hk1 : K0 (a + 1) = (9, 8) := (lay5 ha).2.2
  refine ex_aload_n dX5_mixInto_0 rfl ?_
  refine g_5_3 dX5_mixInto_1 rfl wf_X5_22 (by first | assumption | rfl) ?_
  refine ex_if_ne 15 dX5_mixInto_4 (by decide) (fun h4 => ?_) (fun h4 => ?_)
  · skip
    have hm := hm h4
    have hc := hc h4
    rw [show niMix I a n m h = mixB I a (mixP (I (a + 7)) (I (a + 8)) h n) m from if_neg h4]
    have hk2 : K0 (a + 1 + 1) = (0, 7) := (lay9k hk1).1
    refine ex_lload_n dX5_mixInto_15 rfl ?_
    refine st_l3 dX5_mixInto_16 (by first | exact rfl | exact trivial) ?_
    refine ex_iconst (v := 0) dX5_mixInto_17 (by decide) ?_
    refine st_i5 dX5_mixInto_18 (by first | exact rfl | exact trivial) ?_
    refine loop_up (G := G) (d := mdX5_mixInto) (pc := 20) (st := []) (uc := 0) (us := 0) (P := Rs (.long (mixB I a (mixP (I (a + 7)) (I (a + 8)) h n) m)) (mk I L t)) n (fun k => mk I L t) (fun k => [some (.ref a), some (.long h), none, some (.long (mixP (I (a + 7)) (I (a + 8)) h k)), none, some (.int (nI k))]) ?_ ?_ 0 (Nat.zero_le _)
    · intro k hk ih
      refine ex_iload dX5_mixInto_20 rfl ?_
      refine ex_aload_n dX5_mixInto_22 rfl ?_
      refine g_5_0 dX5_mixInto_23 rfl wf_X5_12 (by first | assumption | rfl) (layR_5_0 (by first | assumption | rfl)) ?_
      refine g_9_0 dX5_mixInto_26 rfl wf_X5_100 (by first | assumption | rfl) (layR_9_0 (by first | assumption | rfl)) ?_
      refine g_0_2 dX5_mixInto_29 rfl wf_X5_104 (by first | assumption | rfl) ?_
      refine ex_icmp_ge 71 dX5_mixInto_32 (by decide) (fun h32 => ?_) (fun h32 => ?_)
      · exact absurd h32 (by rw [show I (a + 1 + 1) 2 = nI n from hc]; exact nI_ge hk (by omega))
      · skip
        refine ex_lload_n dX5_mixInto_35 rfl ?_
        refine ex_aload_n dX5_mixInto_36 rfl ?_
        refine g_5_0 dX5_mixInto_37 rfl wf_X5_12 (by first | assumption | rfl) (layR_5_0 (by first | assumption | rfl)) ?_
        refine ex_iload dX5_mixInto_40 rfl ?_
        refine ex_iconst (v := 0) dX5_mixInto_42 (by decide) ?_
        refine rx_cV (kd := 9) dX5_mixInto_43 rfl lk_X5_109 rfl (by decide) (by first | assumption | rfl) ⟨⟨rfl, rfl⟩, by decide, by decide⟩ rfl (Nat.le_of_ble_eq_true rfl) rfl (s_X9_fact0 (n := n) hk1 hn hc hk) (Rs.k ?_)
        refine ex_i2l dX5_mixInto_46 ?_
        refine rx_cSN dX5_mixInto_47 rfl lk_X5_96 ⟨⟨rfl, rfl⟩, by decide, by decide⟩ rfl (Nat.le_of_ble_eq_true rfl) rfl s_X11_mix (Rs.k ?_)
        refine ex_aload_n dX5_mixInto_50 rfl ?_
        refine g_5_0 dX5_mixInto_51 rfl wf_X5_12 (by first | assumption | rfl) (layR_5_0 (by first | assumption | rfl)) ?_
        refine ex_iload dX5_mixInto_54 rfl ?_
        refine ex_iconst (v := 1) dX5_mixInto_56 (by decide) ?_
        refine rx_cV (kd := 9) dX5_mixInto_57 rfl lk_X5_109 rfl (by decide) (by first | assumption | rfl) ⟨⟨rfl, rfl⟩, by decide, by decide⟩ rfl (Nat.le_of_ble_eq_true rfl) rfl (s_X9_fact1 (n := n) hk1 hn hc hk) (Rs.k ?_)
        refine ex_i2l dX5_mixInto_60 ?_
        refine rx_cSN dX5_mixInto_61 rfl lk_X5_96 ⟨⟨rfl, rfl⟩, by decide, by decide⟩ rfl (Nat.le_of_ble_eq_true rfl) rfl s_X11_mix (Rs.k ?_)
        refine st_l3 dX5_mixInto_64 (by first | exact rfl | exact trivial) ?_
        refine inc5 (v := _ + 1) dX5_mixInto_65 (by rfl) (by first | exact rfl | exact trivial) ?_
        refine ex_goto 20 dX5_mixInto_68 (by decide) ?_
        rw [nI_1]
        exact ih
    · skip
      refine ex_iload dX5_mixInto_20 rfl ?_
      refine ex_aload_n dX5_mixInto_22 rfl ?_
      refine g_5_0 dX5_mixInto_23 rfl wf_X5_12 (by first | assumption | rfl) (layR_5_0 (by first | assumption | rfl)) ?_
      refine g_9_0 dX5_mixInto_26 rfl wf_X5_100 (by first | assumption | rfl) (layR_9_0 (by first | assumption | rfl)) ?_
      refine g_0_2 dX5_mixInto_29 rfl wf_X5_104 (by first | assumption | rfl) ?_
      refine ex_icmp_ge 71 dX5_mixInto_32 (by decide) (fun h32 => ?_) (fun h32 => ?_)
      · skip
        refine ex_iconst (v := 0) dX5_mixInto_71 (by decide) ?_
        refine st_i5 dX5_mixInto_72 (by first | exact rfl | exact trivial) ?_
        refine loop_up (G := G) (d := mdX5_mixInto) (pc := 74) (st := []) (uc := 0) (us := 0) (P := Rs (.long (mixB I a (mixP (I (a + 7)) (I (a + 8)) h n) m)) (mk I L t)) m (fun k => mk I L t) (fun k => [some (.ref a), some (.long h), none, some (.long (mixB I a (mixP (I (a + 7)) (I (a + 8)) h n) k)), none, some (.int (nI k))]) ?_ ?_ 0 (Nat.zero_le _)
        · intro k hk ih
          have hkk : K0 (a + 13 + k) = (1, 10) := lay5bK ha hB (by omega)
          refine ex_iload dX5_mixInto_74 rfl ?_
          refine ex_aload_n dX5_mixInto_76 rfl ?_
          refine g_5_2 dX5_mixInto_77 rfl wf_X5_18 (by first | assumption | rfl) ?_
          refine ex_icmp_ge 111 dX5_mixInto_80 (by decide) (fun h80 => ?_) (fun h80 => ?_)
          · exact absurd h80 (by rw [hm]; exact nI_ge hk (by omega))
          · skip
            refine ex_iload dX5_mixInto_83 rfl ?_
            refine ex_aload_n dX5_mixInto_85 rfl ?_
            refine g_5_1 dX5_mixInto_86 rfl wf_X5_34 (by first | assumption | rfl) (layR_5_1 (by first | assumption | rfl)) ?_
            refine rx_alen dX5_mixInto_89 (by first | assumption | rfl) (by decide) rfl ?_
            refine ex_icmp_ge 111 dX5_mixInto_90 (by decide) (fun h90 => ?_) (fun h90 => ?_)
            · exact absurd h90 (nI_ge (b := 3) (by omega) (by decide))
            · skip
              refine ex_aload_n dX5_mixInto_93 rfl ?_
              refine g_5_1 dX5_mixInto_94 rfl wf_X5_34 (by first | assumption | rfl) (layR_5_1 (by first | assumption | rfl)) ?_
              refine ex_iload dX5_mixInto_97 rfl ?_
              refine rx_aald dX5_mixInto_99 (by first | assumption | rfl) (by decide) rfl (vpi (by omega)) (by rw [nI_clamp (by omega)]; exact lay5bR ha hB (by omega)) ?_
              refine ex_lload_n dX5_mixInto_100 rfl ?_
              refine rx_cV (kd := 1) dX5_mixInto_101 rfl lk_X5_112 rfl (by decide) (by first | assumption | rfl) ⟨⟨rfl, rfl⟩, by decide, by decide⟩ rfl (Nat.le_of_ble_eq_true rfl) rfl (s_X1_mixRideInto hkk) (Rs.k ?_)
              refine st_l3 dX5_mixInto_104 (by first | exact rfl | exact trivial) ?_
              refine inc5 (v := _ + 1) dX5_mixInto_105 (by rfl) (by first | exact rfl | exact trivial) ?_
              refine ex_goto 74 dX5_mixInto_108 (by decide) ?_
              rw [nI_1]
              exact ih
        · skip
          refine ex_iload dX5_mixInto_74 rfl ?_
          refine ex_aload_n dX5_mixInto_76 rfl ?_
          refine g_5_2 dX5_mixInto_77 rfl wf_X5_18 (by first | assumption | rfl) ?_
          refine ex_icmp_ge 111 dX5_mixInto_80 (by decide) (fun h80 => ?_) (fun h80 => ?_)
          · skip
            refine ex_lload_n dX5_mixInto_111 rfl ?_
            refine ex_lret dX5_mixInto_112 rfl ⟨rfl, Nat.le_refl _⟩ ?_
            exact ⟨rfl, rfl⟩
          · exact absurd (by rw [hm]; exact Int32.le_refl _) h80
      · exact absurd (by rw [show I (a + 1 + 1) 2 = nI n from hc]; exact Int32.le_refl _) h32
  · skip
    refine ex_lload_n dX5_mixInto_7 rfl ?_
    refine ex_ldc2 dX5_mixInto_8 rfl wl_X5_94 ?_
    refine rx_cSN dX5_mixInto_11 rfl lk_X5_96 ⟨⟨rfl, rfl⟩, by decide, by decide⟩ rfl (Nat.le_of_ble_eq_true rfl) rfl s_X11_mix (Rs.k ?_)
    refine ex_lret dX5_mixInto_14 rfl ⟨rfl, Nat.le_refl _⟩ ?_
    exact ⟨by simp [niMix, *], rfl⟩
end C5
