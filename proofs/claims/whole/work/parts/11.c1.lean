section C1
variable {G : Gp} {I : Im} {L : Nat → Nat → Int64} {t : Nat}
set_option maxRecDepth 100000 in
set_option maxHeartbeats 4000000 in
theorem s_X11_within {v lo hi : Int32} : Ca G mdX11_within [.int v, .int lo, .int hi] (mk I L t) (Rs (.int (b2i (lo ≤ v ∧ v ≤ hi))) (mk I L t)) := by
  refine Ca.intro [some (.int v), some (.int lo), some (.int hi)] (by decide) (Nat.le_of_ble_eq_true rfl) rfl rfl ?_
  refine ex_iload_n dX11_within_0 rfl ?_
  refine ex_iload_n dX11_within_1 rfl ?_
  refine ex_icmp_lt 14 dX11_within_2 (by decide) (fun h2 => ?_) (fun h2 => ?_)
  · skip
    refine ex_iconst (v := 0) dX11_within_14 (by decide) ?_
    refine ex_iret dX11_within_15 rfl rfl ⟨rfl, Nat.le_refl _⟩ ?_
    exact ⟨by first | exact b2i_t (by grind) | exact b2i_f (by grind), rfl⟩
  · skip
    refine ex_iload_n dX11_within_5 rfl ?_
    refine ex_iload_n dX11_within_6 rfl ?_
    refine ex_icmp_gt 14 dX11_within_7 (by decide) (fun h7 => ?_) (fun h7 => ?_)
    · skip
      refine ex_iconst (v := 0) dX11_within_14 (by decide) ?_
      refine ex_iret dX11_within_15 rfl rfl ⟨rfl, Nat.le_refl _⟩ ?_
      exact ⟨by first | exact b2i_t (by grind) | exact b2i_f (by grind), rfl⟩
    · skip
      refine ex_iconst (v := 1) dX11_within_10 (by decide) ?_
      refine ex_goto 15 dX11_within_11 (by decide) ?_
      refine ex_iret dX11_within_15 rfl rfl ⟨rfl, Nat.le_refl _⟩ ?_
      exact ⟨by first | exact b2i_t (by grind) | exact b2i_f (by grind), rfl⟩
set_option maxRecDepth 100000 in
set_option maxHeartbeats 4000000 in
theorem s_X11_isRow {r : Int32} : Ca G mdX11_isRow [.int r] (mk I L t) (Rs (.int (b2i (0 ≤ r ∧ r ≤ 5))) (mk I L t)) := by
  refine Ca.intro [some (.int r)] (by decide) (Nat.le_of_ble_eq_true rfl) rfl rfl ?_
  refine ex_iload_n dX11_isRow_0 rfl ?_
  refine ex_iconst (v := 0) dX11_isRow_1 (by decide) ?_
  refine ex_iconst (v := 5) dX11_isRow_2 (by decide) ?_
  refine rx_cS dX11_isRow_3 rfl lk_X11_117 ⟨⟨rfl, rfl⟩, by decide, by decide⟩ rfl (Nat.le_of_ble_eq_true rfl) rfl s_X11_within (Rs.k ?_)
  refine ex_iret dX11_isRow_6 rfl (nb2i _) ⟨rfl, Nat.le_refl _⟩ ?_
  exact ⟨rfl, rfl⟩
set_option maxRecDepth 100000 in
set_option maxHeartbeats 4000000 in
theorem s_X11_isText {r : Int32} : Ca G mdX11_isText [.int r] (mk I L t) (Rs (.int (b2i (0 ≤ r ∧ r ≤ 3))) (mk I L t)) := by
  refine Ca.intro [some (.int r)] (by decide) (Nat.le_of_ble_eq_true rfl) rfl rfl ?_
  refine ex_iload_n dX11_isText_0 rfl ?_
  refine ex_iconst (v := 0) dX11_isText_1 (by decide) ?_
  refine ex_iconst (v := 3) dX11_isText_2 (by decide) ?_
  refine rx_cS dX11_isText_3 rfl lk_X11_117 ⟨⟨rfl, rfl⟩, by decide, by decide⟩ rfl (Nat.le_of_ble_eq_true rfl) rfl s_X11_within (Rs.k ?_)
  refine ex_iret dX11_isText_6 rfl (nb2i _) ⟨rfl, Nat.le_refl _⟩ ?_
  exact ⟨rfl, rfl⟩
set_option maxRecDepth 100000 in
set_option maxHeartbeats 4000000 in
theorem s_X11_isHarbour {r : Int32} : Ca G mdX11_isHarbour [.int r] (mk I L t) (Rs (.int (b2i (0 ≤ r ∧ r ≤ 3))) (mk I L t)) := by
  refine Ca.intro [some (.int r)] (by decide) (Nat.le_of_ble_eq_true rfl) rfl rfl ?_
  refine ex_iload_n dX11_isHarbour_0 rfl ?_
  refine ex_iconst (v := 0) dX11_isHarbour_1 (by decide) ?_
  refine ex_iconst (v := 3) dX11_isHarbour_2 (by decide) ?_
  refine rx_cS dX11_isHarbour_3 rfl lk_X11_117 ⟨⟨rfl, rfl⟩, by decide, by decide⟩ rfl (Nat.le_of_ble_eq_true rfl) rfl s_X11_within (Rs.k ?_)
  refine ex_iret dX11_isHarbour_6 rfl (nb2i _) ⟨rfl, Nat.le_refl _⟩ ?_
  exact ⟨rfl, rfl⟩
set_option maxRecDepth 100000 in
set_option maxHeartbeats 4000000 in
theorem s_X11_isSea {r : Int32} : Ca G mdX11_isSea [.int r] (mk I L t) (Rs (.int (b2i (0 ≤ r ∧ r ≤ 3))) (mk I L t)) := by
  refine Ca.intro [some (.int r)] (by decide) (Nat.le_of_ble_eq_true rfl) rfl rfl ?_
  refine ex_iload_n dX11_isSea_0 rfl ?_
  refine ex_iconst (v := 0) dX11_isSea_1 (by decide) ?_
  refine ex_iconst (v := 3) dX11_isSea_2 (by decide) ?_
  refine rx_cS dX11_isSea_3 rfl lk_X11_117 ⟨⟨rfl, rfl⟩, by decide, by decide⟩ rfl (Nat.le_of_ble_eq_true rfl) rfl s_X11_within (Rs.k ?_)
  refine ex_iret dX11_isSea_6 rfl (nb2i _) ⟨rfl, Nat.le_refl _⟩ ?_
  exact ⟨rfl, rfl⟩
set_option maxRecDepth 100000 in
set_option maxHeartbeats 4000000 in
theorem s_X11_isShip {r : Int32} : Ca G mdX11_isShip [.int r] (mk I L t) (Rs (.int (b2i (0 ≤ r ∧ r ≤ 2))) (mk I L t)) := by
  refine Ca.intro [some (.int r)] (by decide) (Nat.le_of_ble_eq_true rfl) rfl rfl ?_
  refine ex_iload_n dX11_isShip_0 rfl ?_
  refine ex_iconst (v := 0) dX11_isShip_1 (by decide) ?_
  refine ex_iconst (v := 2) dX11_isShip_2 (by decide) ?_
  refine rx_cS dX11_isShip_3 rfl lk_X11_117 ⟨⟨rfl, rfl⟩, by decide, by decide⟩ rfl (Nat.le_of_ble_eq_true rfl) rfl s_X11_within (Rs.k ?_)
  refine ex_iret dX11_isShip_6 rfl (nb2i _) ⟨rfl, Nat.le_refl _⟩ ?_
  exact ⟨rfl, rfl⟩
set_option maxRecDepth 100000 in
set_option maxHeartbeats 4000000 in
theorem s_X11_isCell {r : Int32} : Ca G mdX11_isCell [.int r] (mk I L t) (Rs (.int (b2i (0 ≤ r ∧ r ≤ 15))) (mk I L t)) := by
  refine Ca.intro [some (.int r)] (by decide) (Nat.le_of_ble_eq_true rfl) rfl rfl ?_
  refine ex_iload_n dX11_isCell_0 rfl ?_
  refine ex_iconst (v := 0) dX11_isCell_1 (by decide) ?_
  refine ex_bipush (v := 15) dX11_isCell_2 (by decide) ?_
  refine rx_cS dX11_isCell_4 rfl lk_X11_117 ⟨⟨rfl, rfl⟩, by decide, by decide⟩ rfl (Nat.le_of_ble_eq_true rfl) rfl s_X11_within (Rs.k ?_)
  refine ex_iret dX11_isCell_7 rfl (nb2i _) ⟨rfl, Nat.le_refl _⟩ ?_
  exact ⟨rfl, rfl⟩
set_option maxRecDepth 100000 in
set_option maxHeartbeats 4000000 in
theorem s_X11_mix {h v : Int64} : Ca G mdX11_mix [.long h, .long v] (mk I L t) (Rs (.long (31 * h + v)) (mk I L t)) := by
  refine Ca.intro [some (.long h), none, some (.long v), none] (by decide) (Nat.le_of_ble_eq_true rfl) rfl rfl ?_
  refine ex_ldc2 dX11_mix_0 rfl wl_X11_512 ?_
  refine ex_lload_n dX11_mix_3 rfl ?_
  refine ex_lmul dX11_mix_4 ?_
  refine ex_lload_n dX11_mix_5 rfl ?_
  refine ex_ladd dX11_mix_6 ?_
  refine ex_lret dX11_mix_7 rfl ⟨rfl, Nat.le_refl _⟩ ?_
  exact ⟨rfl, rfl⟩
theorem clamp_n {m c : Nat} {C : Int32} (hC : C = nI c) (hm : m ≤ c) (hc : c < 2 ^ 31) : (if (0 : Int32) < (if C < nI m then C else nI m) then (if C < nI m then C else nI m) else 0) = nI m := by
  subst hC
  rw [if_neg (nI_nlt hm hc)]
  by_cases h : m = 0
  · subst h
    rfl
  · rw [if_pos]
    have := nI_lt (a := 0) (b := m) (by omega) (by omega)
    exact this
def nuNew (I : Im) (a n : Nat) : Im := fill (up2 (up2 I a 1 (nI n)) a 2 1) (a + 1) n 0
set_option maxRecDepth 100000 in
set_option maxHeartbeats 4000000 in
theorem s_X6_renew {a m : Nat} (ha : K0 a = (6, 3)) (hm : m ≤ 60) : Ca G mdX6_renew [.ref a, .int (nI m)] (mk I L t) (Rv (mk (nuNew I a m) L t)) := by
  refine Ca.intro [some (.ref a), some (.int (nI m)), none] (by decide) (Nat.le_of_ble_eq_true rfl) rfl rfl ?_
  refine ex_aload_n dX6_renew_0 rfl ?_
  refine ex_iconst (v := 0) dX6_renew_1 (by decide) ?_
  refine ex_iload_n dX6_renew_2 rfl ?_
  refine ex_bipush (v := 60) dX6_renew_3 (by decide) ?_
  refine ex_mmin dX6_renew_5 rfl lk_X6_23 wj_min wj_m wj_minc ⟨by decide, by decide⟩ ⟨by decide, by decide⟩ (Nat.le_of_ble_eq_true rfl) ?_
  refine ex_mmax dX6_renew_8 rfl lk_X6_29 wj_max wj_m wj_maxc ⟨by decide, by decide⟩ ⟨by decide, by decide⟩ (Nat.le_of_ble_eq_true rfl) ?_
  rw [clamp_n (C := 60) (c := 60) rfl hm (by decide)]
  refine p_6_1 dX6_renew_11 rfl wf_X6_15 (by first | assumption | rfl) ?_
  refine ex_aload_n dX6_renew_14 rfl ?_
  refine ex_iconst (v := 1) dX6_renew_15 (by decide) ?_
  refine p_6_2 dX6_renew_16 rfl wf_X6_19 ⟨rfl, rfl⟩ (by first | assumption | rfl) ?_
  refine ex_iconst (v := 0) dX6_renew_19 (by decide) ?_
  refine st_i2 dX6_renew_20 (by first | exact rfl | exact trivial) ?_
  have hk1 : K0 (a + 1) = (14, 60) := (lay6 ha).2
  have key := loop_up (G := G) (d := mdX6_renew) (pc := 21) (st := []) (uc := 0) (us := 0) (P := Rv (mk (nuNew I a m) L t)) m (fun k => mk (fill (up2 (up2 I a 1 (nI m)) a 2 1) (a + 1) k 0) L t) (fun k => [some (.ref a), some (.int (nI m)), some (.int (nI k))]) ?_ ?_ 0 (Nat.zero_le m)
  · simp only [fill_0] at key
    exact key
  · intro k hk ih
    have hs : fill (up2 (up2 I a 1 (nI m)) a 2 1) (a + 1) k 0 a 1 = nI m := by rw [fill_off (by omega)]; simp [up2]
    refine ex_iload_n dX6_renew_21 rfl ?_
    refine ex_aload_n dX6_renew_22 rfl ?_
    refine g_6_1 dX6_renew_23 rfl wf_X6_15 (by first | assumption | rfl) ?_
    refine ex_icmp_ge 42 dX6_renew_26 (by decide) (fun h26 => ?_) (fun h26 => ?_)
    · exact absurd h26 (by rw [hs]; exact nI_ge hk (by omega))
    · skip
      refine ex_aload_n dX6_renew_29 rfl ?_
      refine g_6_0 dX6_renew_30 rfl wf_X6_9 (by first | assumption | rfl) (layR_6_0 (by first | assumption | rfl)) ?_
      refine ex_iload_n dX6_renew_33 rfl ?_
      refine ex_iconst (v := 0) dX6_renew_34 (by decide) ?_
      refine rx_iast dX6_renew_35 (by first | assumption | rfl) (vpi (by omega)) ?_
      refine inc2 (v := _ + 1) dX6_renew_36 (by rfl) (by first | exact rfl | exact trivial) ?_
      refine ex_goto 21 dX6_renew_39 (by decide) ?_
      rw [fill_s (by omega), nI_1]
      exact ih
  · have hs : fill (up2 (up2 I a 1 (nI m)) a 2 1) (a + 1) m 0 a 1 = nI m := by rw [fill_off (by omega)]; simp [up2]
    refine ex_iload_n dX6_renew_21 rfl ?_
    refine ex_aload_n dX6_renew_22 rfl ?_
    refine g_6_1 dX6_renew_23 rfl wf_X6_15 (by first | assumption | rfl) ?_
    refine ex_icmp_ge 42 dX6_renew_26 (by decide) (fun h26 => ?_) (fun h26 => ?_)
    · skip
      refine ex_vret dX6_renew_42 rfl ⟨rfl, Nat.le_refl _⟩ ?_
      exact ⟨rfl, rfl⟩
    · exact absurd (by rw [hs]; exact Int32.le_refl _) h26
set_option maxRecDepth 100000 in
set_option maxHeartbeats 4000000 in
theorem s_X6_has {a : Nat} {i : Int32} (ha : K0 a = (6, 3)) : Ca G mdX6_has [.ref a, .int i] (mk I L t) (Rs (.int (b2i (0 ≤ i ∧ i < I a 1))) (mk I L t)) := by
  refine Ca.intro [some (.ref a), some (.int i)] (by decide) (Nat.le_of_ble_eq_true rfl) rfl rfl ?_
  refine ex_iload_n dX6_has_0 rfl ?_
  refine ex_if_lt 16 dX6_has_1 (by decide) (fun h1 => ?_) (fun h1 => ?_)
  · skip
    refine ex_iconst (v := 0) dX6_has_16 (by decide) ?_
    refine ex_iret dX6_has_17 rfl rfl ⟨rfl, Nat.le_refl _⟩ ?_
    exact ⟨by first | exact b2i_t (by grind) | exact b2i_f (by grind), rfl⟩
  · skip
    refine ex_iload_n dX6_has_4 rfl ?_
    refine ex_aload_n dX6_has_5 rfl ?_
    refine g_6_1 dX6_has_6 rfl wf_X6_15 (by first | assumption | rfl) ?_
    refine ex_icmp_ge 16 dX6_has_9 (by decide) (fun h9 => ?_) (fun h9 => ?_)
    · skip
      refine ex_iconst (v := 0) dX6_has_16 (by decide) ?_
      refine ex_iret dX6_has_17 rfl rfl ⟨rfl, Nat.le_refl _⟩ ?_
      exact ⟨by first | exact b2i_t (by grind) | exact b2i_f (by grind), rfl⟩
    · skip
      refine ex_iconst (v := 1) dX6_has_12 (by decide) ?_
      refine ex_goto 17 dX6_has_13 (by decide) ?_
      refine ex_iret dX6_has_17 rfl rfl ⟨rfl, Nat.le_refl _⟩ ?_
      exact ⟨by first | exact b2i_t (by grind) | exact b2i_f (by grind), rfl⟩
set_option maxRecDepth 100000 in
set_option maxHeartbeats 4000000 in
theorem s_X6_hasRun {a : Nat} {i n : Int32} (ha : K0 a = (6, 3)) : Ca G mdX6_hasRun [.ref a, .int i, .int n] (mk I L t) (Rs (.int (b2i (0 ≤ i ∧ 0 ≤ n ∧ i ≤ I a 1 - n))) (mk I L t)) := by
  refine Ca.intro [some (.ref a), some (.int i), some (.int n)] (by decide) (Nat.le_of_ble_eq_true rfl) rfl rfl ?_
  refine ex_iload_n dX6_hasRun_0 rfl ?_
  refine ex_if_lt 22 dX6_hasRun_1 (by decide) (fun h1 => ?_) (fun h1 => ?_)
  · skip
    refine ex_iconst (v := 0) dX6_hasRun_22 (by decide) ?_
    refine ex_iret dX6_hasRun_23 rfl rfl ⟨rfl, Nat.le_refl _⟩ ?_
    exact ⟨by first | exact b2i_t (by grind) | exact b2i_f (by grind), rfl⟩
  · skip
    refine ex_iload_n dX6_hasRun_4 rfl ?_
    refine ex_if_lt 22 dX6_hasRun_5 (by decide) (fun h5 => ?_) (fun h5 => ?_)
    · skip
      refine ex_iconst (v := 0) dX6_hasRun_22 (by decide) ?_
      refine ex_iret dX6_hasRun_23 rfl rfl ⟨rfl, Nat.le_refl _⟩ ?_
      exact ⟨by first | exact b2i_t (by grind) | exact b2i_f (by grind), rfl⟩
    · skip
      refine ex_iload_n dX6_hasRun_8 rfl ?_
      refine ex_aload_n dX6_hasRun_9 rfl ?_
      refine g_6_1 dX6_hasRun_10 rfl wf_X6_15 (by first | assumption | rfl) ?_
      refine ex_iload_n dX6_hasRun_13 rfl ?_
      refine ex_isub dX6_hasRun_14 ?_
      refine ex_icmp_gt 22 dX6_hasRun_15 (by decide) (fun h15 => ?_) (fun h15 => ?_)
      · skip
        refine ex_iconst (v := 0) dX6_hasRun_22 (by decide) ?_
        refine ex_iret dX6_hasRun_23 rfl rfl ⟨rfl, Nat.le_refl _⟩ ?_
        exact ⟨by first | exact b2i_t (by grind) | exact b2i_f (by grind), rfl⟩
      · skip
        refine ex_iconst (v := 1) dX6_hasRun_18 (by decide) ?_
        refine ex_goto 23 dX6_hasRun_19 (by decide) ?_
        refine ex_iret dX6_hasRun_23 rfl rfl ⟨rfl, Nat.le_refl _⟩ ?_
        exact ⟨by first | exact b2i_t (by grind) | exact b2i_f (by grind), rfl⟩
theorem loop_upI {G : Gp} {d : Md} {pc : Nat} {st : List Value} {uc us : Nat} {P : Option Value → Mem → Prop} (m : Nat) (F : Nat → Mem) (lf : Nat → List (Option Value)) (Inv : Nat → Prop) (body : ∀ k, k < m → Inv k → (Inv (k + 1) → Ex G d pc (lf (k + 1)) st (F (k + 1)) uc us P) → Ex G d pc (lf k) st (F k) uc us P) (exit : Inv m → Ex G d pc (lf m) st (F m) uc us P) : ∀ k, k ≤ m → Inv k → Ex G d pc (lf k) st (F k) uc us P := by
  have key : ∀ c k, k + c = m → Inv k → Ex G d pc (lf k) st (F k) uc us P := by
    intro c
    induction c with
    | zero =>
      intro k hk hI
      have : k = m := by omega
      subst this
      exact exit hI
    | succ c ih =>
      intro k hk hI
      exact body k (by omega) hI (ih (k + 1) (by omega))
  intro k hk hI
  exact key (m - k) k (by omega) hI
def sumL (f : Nat → Int32) : Nat → Int64
  | 0 => 0
  | k + 1 => sumL f k + (f k).toInt64
def mixL (f : Nat → Int32) (h : Int64) : Nat → Int64
  | 0 => h
  | k + 1 => 31 * mixL f h k + (f k).toInt64
set_option maxRecDepth 100000 in
set_option maxHeartbeats 4000000 in
theorem s_X6_allWithin {a m : Nat} {lo hi : Int32} (ha : K0 a = (6, 3)) (hm : m ≤ 60) (hs : I a 1 = nI m) : Ca G mdX6_allWithin [.ref a, .int lo, .int hi] (mk I L t) (Rs (.int (b2i (∀ j, j < m → lo ≤ I (a + 1) j ∧ I (a + 1) j ≤ hi))) (mk I L t)) := by
  refine Ca.intro [some (.ref a), some (.int lo), some (.int hi), none] (by decide) (Nat.le_of_ble_eq_true rfl) rfl rfl ?_
  refine ex_iconst (v := 0) dX6_allWithin_0 (by decide) ?_
  refine st_i3 dX6_allWithin_1 (by first | exact rfl | exact trivial) ?_
  have hk1 : K0 (a + 1) = (14, 60) := (lay6 ha).2
  refine loop_upI (G := G) (d := mdX6_allWithin) (pc := 2) (st := []) (uc := 0) (us := 0) (P := Rs (.int (b2i (∀ j, j < m → lo ≤ I (a + 1) j ∧ I (a + 1) j ≤ hi))) (mk I L t)) m (fun k => mk I L t) (fun k => [some (.ref a), some (.int lo), some (.int hi), some (.int (nI k))]) (fun k => ∀ j, j < k → (lo ≤ I (a + 1) j ∧ I (a + 1) j ≤ hi)) ?_ ?_ 0 (Nat.zero_le _) (fun j hj => absurd hj (Nat.not_lt_zero j))
  · intro k hk hI ih
    refine ex_iload_n dX6_allWithin_2 rfl ?_
    refine ex_aload_n dX6_allWithin_3 rfl ?_
    refine g_6_1 dX6_allWithin_4 rfl wf_X6_15 (by first | assumption | rfl) ?_
    refine ex_icmp_ge 32 dX6_allWithin_7 (by decide) (fun h7 => ?_) (fun h7 => ?_)
    · exact absurd h7 (by rw [hs]; exact nI_ge hk (by omega))
    · skip
      refine ex_aload_n dX6_allWithin_10 rfl ?_
      refine g_6_0 dX6_allWithin_11 rfl wf_X6_9 (by first | assumption | rfl) (layR_6_0 (by first | assumption | rfl)) ?_
      refine ex_iload_n dX6_allWithin_14 rfl ?_
      refine rx_iald dX6_allWithin_15 (by first | assumption | rfl) (vpi (by omega)) ?_
      refine ex_iload_n dX6_allWithin_16 rfl ?_
      refine ex_iload_n dX6_allWithin_17 rfl ?_
      refine rx_cSN dX6_allWithin_18 rfl lk_X6_32 ⟨⟨rfl, rfl⟩, by decide, by decide⟩ rfl (Nat.le_of_ble_eq_true rfl) rfl s_X11_within (Rs.k ?_)
      refine ex_if_ne 26 dX6_allWithin_21 (by decide) (fun h21 => ?_) (fun h21 => ?_)
      · skip
        refine inc3 (v := _ + 1) dX6_allWithin_26 (by rfl) (by first | exact rfl | exact trivial) ?_
        refine ex_goto 2 dX6_allWithin_29 (by decide) ?_
        rw [nI_1]
        exact ih (lt_s hI (by have := b2i_n0.mp h21; rw [nI_clamp (by omega)] at this; exact this))
      · skip
        refine ex_iconst (v := 0) dX6_allWithin_24 (by decide) ?_
        refine ex_iret dX6_allWithin_25 rfl rfl ⟨rfl, Nat.le_refl _⟩ ?_
        exact ⟨b2i_f (fun q => (b2i_0.mp h21) (by rw [nI_clamp (by omega)]; exact q k hk)), rfl⟩
  · intro hI
    refine ex_iload_n dX6_allWithin_2 rfl ?_
    refine ex_aload_n dX6_allWithin_3 rfl ?_
    refine g_6_1 dX6_allWithin_4 rfl wf_X6_15 (by first | assumption | rfl) ?_
    refine ex_icmp_ge 32 dX6_allWithin_7 (by decide) (fun h7 => ?_) (fun h7 => ?_)
    · skip
      refine ex_iconst (v := 1) dX6_allWithin_32 (by decide) ?_
      refine ex_iret dX6_allWithin_33 rfl rfl ⟨rfl, Nat.le_refl _⟩ ?_
      exact ⟨b2i_t hI, rfl⟩
    · exact absurd (by rw [hs]; exact Int32.le_refl _) h7
set_option maxRecDepth 100000 in
set_option maxHeartbeats 4000000 in
theorem s_X6_sum {a m : Nat} (ha : K0 a = (6, 3)) (hm : m ≤ 60) (hs : I a 1 = nI m) : Ca G mdX6_sum [.ref a] (mk I L t) (Rs (.long (sumL (I (a + 1)) m)) (mk I L t)) := by
  refine Ca.intro [some (.ref a), none, none, none] (by decide) (Nat.le_of_ble_eq_true rfl) rfl rfl ?_
  refine ex_lconst (v := 0) dX6_sum_0 (by decide) ?_
  refine st_l1 dX6_sum_1 (by first | exact rfl | exact trivial) ?_
  refine ex_iconst (v := 0) dX6_sum_2 (by decide) ?_
  refine st_i3 dX6_sum_3 (by first | exact rfl | exact trivial) ?_
  have hk1 : K0 (a + 1) = (14, 60) := (lay6 ha).2
  refine loop_up (G := G) (d := mdX6_sum) (pc := 4) (st := []) (uc := 0) (us := 0) (P := Rs (.long (sumL (I (a + 1)) m)) (mk I L t)) m (fun k => mk I L t) (fun k => [some (.ref a), some (.long (sumL (I (a + 1)) k)), none, some (.int (nI k))]) ?_ ?_ 0 (Nat.zero_le _)
  · intro k hk ih
    refine ex_iload_n dX6_sum_4 rfl ?_
    refine ex_aload_n dX6_sum_5 rfl ?_
    refine g_6_1 dX6_sum_6 rfl wf_X6_15 (by first | assumption | rfl) ?_
    refine ex_icmp_ge 28 dX6_sum_9 (by decide) (fun h9 => ?_) (fun h9 => ?_)
    · exact absurd h9 (by rw [hs]; exact nI_ge hk (by omega))
    · skip
      refine ex_lload_n dX6_sum_12 rfl ?_
      refine ex_aload_n dX6_sum_13 rfl ?_
      refine g_6_0 dX6_sum_14 rfl wf_X6_9 (by first | assumption | rfl) (layR_6_0 (by first | assumption | rfl)) ?_
      refine ex_iload_n dX6_sum_17 rfl ?_
      refine rx_iald dX6_sum_18 (by first | assumption | rfl) (vpi (by omega)) ?_
      refine ex_i2l dX6_sum_19 ?_
      refine ex_ladd dX6_sum_20 ?_
      refine st_l1 dX6_sum_21 (by first | exact rfl | exact trivial) ?_
      refine inc3 (v := _ + 1) dX6_sum_22 (by rfl) (by first | exact rfl | exact trivial) ?_
      refine ex_goto 4 dX6_sum_25 (by decide) ?_
      rw [nI_1, nI_clamp (by omega)]
      exact ih
  · skip
    refine ex_iload_n dX6_sum_4 rfl ?_
    refine ex_aload_n dX6_sum_5 rfl ?_
    refine g_6_1 dX6_sum_6 rfl wf_X6_15 (by first | assumption | rfl) ?_
    refine ex_icmp_ge 28 dX6_sum_9 (by decide) (fun h9 => ?_) (fun h9 => ?_)
    · skip
      refine ex_lload_n dX6_sum_28 rfl ?_
      refine ex_lret dX6_sum_29 rfl ⟨rfl, Nat.le_refl _⟩ ?_
      exact ⟨rfl, rfl⟩
    · exact absurd (by rw [hs]; exact Int32.le_refl _) h9
def rowMix (I : Im) (a m : Nat) (h : Int64) : Int64 := if I a 2 = 0 then 31 * h + (-1) else mixL (I (a + 1)) (31 * h + (nI m).toInt64) m
set_option maxRecDepth 100000 in
set_option maxHeartbeats 4000000 in
theorem s_X6_mixInto {a m : Nat} {h : Int64} (ha : K0 a = (6, 3)) (hm : m ≤ 60) (hs : I a 1 = nI m) : Ca G mdX6_mixInto [.ref a, .long h] (mk I L t) (Rs (.long (rowMix I a m h)) (mk I L t)) := by
  refine Ca.intro [some (.ref a), some (.long h), none, none, none, none] (by decide) (Nat.le_of_ble_eq_true rfl) rfl rfl ?_
  refine ex_aload_n dX6_mixInto_0 rfl ?_
  refine g_6_2 dX6_mixInto_1 rfl wf_X6_19 (by first | assumption | rfl) ?_
  refine ex_if_ne 15 dX6_mixInto_4 (by decide) (fun h4 => ?_) (fun h4 => ?_)
  · skip
    rw [show rowMix I a m h = mixL (I (a + 1)) (31 * h + (nI m).toInt64) m from if_neg h4]
    refine ex_lload_n dX6_mixInto_15 rfl ?_
    refine ex_aload_n dX6_mixInto_16 rfl ?_
    refine g_6_1 dX6_mixInto_17 rfl wf_X6_15 (by first | assumption | rfl) ?_
    refine ex_i2l dX6_mixInto_20 ?_
    refine rx_cSN dX6_mixInto_21 rfl lk_X6_38 ⟨⟨rfl, rfl⟩, by decide, by decide⟩ rfl (Nat.le_of_ble_eq_true rfl) rfl s_X11_mix (Rs.k ?_)
    refine st_l3 dX6_mixInto_24 (by first | exact rfl | exact trivial) ?_
    rw [hs]
    refine ex_iconst (v := 0) dX6_mixInto_25 (by decide) ?_
    refine st_i5 dX6_mixInto_26 (by first | exact rfl | exact trivial) ?_
    have hk1 : K0 (a + 1) = (14, 60) := (lay6 ha).2
    refine loop_up (G := G) (d := mdX6_mixInto) (pc := 28) (st := []) (uc := 0) (us := 0) (P := Rs (.long (mixL (I (a + 1)) (31 * h + (nI m).toInt64) m)) (mk I L t)) m (fun k => mk I L t) (fun k => [some (.ref a), some (.long h), none, some (.long (mixL (I (a + 1)) (31 * h + (nI m).toInt64) k)), none, some (.int (nI k))]) ?_ ?_ 0 (Nat.zero_le _)
    · intro k hk ih
      refine ex_iload dX6_mixInto_28 rfl ?_
      refine ex_aload_n dX6_mixInto_30 rfl ?_
      refine g_6_1 dX6_mixInto_31 rfl wf_X6_15 (by first | assumption | rfl) ?_
      refine ex_icmp_ge 56 dX6_mixInto_34 (by decide) (fun h34 => ?_) (fun h34 => ?_)
      · exact absurd h34 (by rw [hs]; exact nI_ge hk (by omega))
      · skip
        refine ex_lload_n dX6_mixInto_37 rfl ?_
        refine ex_aload_n dX6_mixInto_38 rfl ?_
        refine g_6_0 dX6_mixInto_39 rfl wf_X6_9 (by first | assumption | rfl) (layR_6_0 (by first | assumption | rfl)) ?_
        refine ex_iload dX6_mixInto_42 rfl ?_
        refine rx_iald dX6_mixInto_44 (by first | assumption | rfl) (vpi (by omega)) ?_
        refine ex_i2l dX6_mixInto_45 ?_
        refine rx_cSN dX6_mixInto_46 rfl lk_X6_38 ⟨⟨rfl, rfl⟩, by decide, by decide⟩ rfl (Nat.le_of_ble_eq_true rfl) rfl s_X11_mix (Rs.k ?_)
        refine st_l3 dX6_mixInto_49 (by first | exact rfl | exact trivial) ?_
        refine inc5 (v := _ + 1) dX6_mixInto_50 (by rfl) (by first | exact rfl | exact trivial) ?_
        refine ex_goto 28 dX6_mixInto_53 (by decide) ?_
        rw [nI_1, nI_clamp (by omega)]
        exact ih
    · skip
      refine ex_iload dX6_mixInto_28 rfl ?_
      refine ex_aload_n dX6_mixInto_30 rfl ?_
      refine g_6_1 dX6_mixInto_31 rfl wf_X6_15 (by first | assumption | rfl) ?_
      refine ex_icmp_ge 56 dX6_mixInto_34 (by decide) (fun h34 => ?_) (fun h34 => ?_)
      · skip
        refine ex_lload_n dX6_mixInto_56 rfl ?_
        refine ex_lret dX6_mixInto_57 rfl ⟨rfl, Nat.le_refl _⟩ ?_
        exact ⟨rfl, rfl⟩
      · exact absurd (by rw [hs]; exact Int32.le_refl _) h34
  · skip
    refine ex_lload_n dX6_mixInto_7 rfl ?_
    refine ex_ldc2 dX6_mixInto_8 rfl wl_X6_36 ?_
    refine rx_cSN dX6_mixInto_11 rfl lk_X6_38 ⟨⟨rfl, rfl⟩, by decide, by decide⟩ rfl (Nat.le_of_ble_eq_true rfl) rfl s_X11_mix (Rs.k ?_)
    refine ex_lret dX6_mixInto_14 rfl ⟨rfl, Nat.le_refl _⟩ ?_
    exact ⟨by simp [rowMix, *], rfl⟩
set_option maxRecDepth 100000 in
set_option maxHeartbeats 4000000 in
theorem s_X4_mixInto {a m : Nat} {h : Int64} (ha : K0 a = (4, 3)) (hm : m ≤ 100) (hs : I a 1 = nI m) : Ca G mdX4_mixInto [.ref a, .long h] (mk I L t) (Rs (.long (rowMix I a m h)) (mk I L t)) := by
  refine Ca.intro [some (.ref a), some (.long h), none, none, none, none] (by decide) (Nat.le_of_ble_eq_true rfl) rfl rfl ?_
  refine ex_aload_n dX4_mixInto_0 rfl ?_
  refine g_4_2 dX4_mixInto_1 rfl wf_X4_19 (by first | assumption | rfl) ?_
  refine ex_if_ne 15 dX4_mixInto_4 (by decide) (fun h4 => ?_) (fun h4 => ?_)
  · skip
    rw [show rowMix I a m h = mixL (I (a + 1)) (31 * h + (nI m).toInt64) m from if_neg h4]
    refine ex_lload_n dX4_mixInto_15 rfl ?_
    refine ex_aload_n dX4_mixInto_16 rfl ?_
    refine g_4_1 dX4_mixInto_17 rfl wf_X4_15 (by first | assumption | rfl) ?_
    refine ex_i2l dX4_mixInto_20 ?_
    refine rx_cSN dX4_mixInto_21 rfl lk_X4_34 ⟨⟨rfl, rfl⟩, by decide, by decide⟩ rfl (Nat.le_of_ble_eq_true rfl) rfl s_X11_mix (Rs.k ?_)
    refine st_l3 dX4_mixInto_24 (by first | exact rfl | exact trivial) ?_
    rw [hs]
    refine ex_iconst (v := 0) dX4_mixInto_25 (by decide) ?_
    refine st_i5 dX4_mixInto_26 (by first | exact rfl | exact trivial) ?_
    have hk1 : K0 (a + 1) = (13, 100) := (lay4 ha).2
    refine loop_up (G := G) (d := mdX4_mixInto) (pc := 28) (st := []) (uc := 0) (us := 0) (P := Rs (.long (mixL (I (a + 1)) (31 * h + (nI m).toInt64) m)) (mk I L t)) m (fun k => mk I L t) (fun k => [some (.ref a), some (.long h), none, some (.long (mixL (I (a + 1)) (31 * h + (nI m).toInt64) k)), none, some (.int (nI k))]) ?_ ?_ 0 (Nat.zero_le _)
    · intro k hk ih
      refine ex_iload dX4_mixInto_28 rfl ?_
      refine ex_aload_n dX4_mixInto_30 rfl ?_
      refine g_4_1 dX4_mixInto_31 rfl wf_X4_15 (by first | assumption | rfl) ?_
      refine ex_icmp_ge 56 dX4_mixInto_34 (by decide) (fun h34 => ?_) (fun h34 => ?_)
      · exact absurd h34 (by rw [hs]; exact nI_ge hk (by omega))
      · skip
        refine ex_lload_n dX4_mixInto_37 rfl ?_
        refine ex_aload_n dX4_mixInto_38 rfl ?_
        refine g_4_0 dX4_mixInto_39 rfl wf_X4_9 (by first | assumption | rfl) (layR_4_0 (by first | assumption | rfl)) ?_
        refine ex_iload dX4_mixInto_42 rfl ?_
        refine rx_bald dX4_mixInto_44 (by first | assumption | rfl) (vpi (by omega)) ?_
        refine ex_i2l dX4_mixInto_45 ?_
        refine rx_cSN dX4_mixInto_46 rfl lk_X4_34 ⟨⟨rfl, rfl⟩, by decide, by decide⟩ rfl (Nat.le_of_ble_eq_true rfl) rfl s_X11_mix (Rs.k ?_)
        refine st_l3 dX4_mixInto_49 (by first | exact rfl | exact trivial) ?_
        refine inc5 (v := _ + 1) dX4_mixInto_50 (by rfl) (by first | exact rfl | exact trivial) ?_
        refine ex_goto 28 dX4_mixInto_53 (by decide) ?_
        rw [nI_1, nI_clamp (by omega)]
        exact ih
    · skip
      refine ex_iload dX4_mixInto_28 rfl ?_
      refine ex_aload_n dX4_mixInto_30 rfl ?_
      refine g_4_1 dX4_mixInto_31 rfl wf_X4_15 (by first | assumption | rfl) ?_
      refine ex_icmp_ge 56 dX4_mixInto_34 (by decide) (fun h34 => ?_) (fun h34 => ?_)
      · skip
        refine ex_lload_n dX4_mixInto_56 rfl ?_
        refine ex_lret dX4_mixInto_57 rfl ⟨rfl, Nat.le_refl _⟩ ?_
        exact ⟨rfl, rfl⟩
      · exact absurd (by rw [hs]; exact Int32.le_refl _) h34
  · skip
    refine ex_lload_n dX4_mixInto_7 rfl ?_
    refine ex_ldc2 dX4_mixInto_8 rfl wl_X4_32 ?_
    refine rx_cSN dX4_mixInto_11 rfl lk_X4_34 ⟨⟨rfl, rfl⟩, by decide, by decide⟩ rfl (Nat.le_of_ble_eq_true rfl) rfl s_X11_mix (Rs.k ?_)
    refine ex_lret dX4_mixInto_14 rfl ⟨rfl, Nat.le_refl _⟩ ?_
    exact ⟨by simp [rowMix, *], rfl⟩
def leNew (I : Im) (a n : Nat) : Im := fill (up2 (up2 I a 1 (nI n)) a 2 1) (a + 1) n 32
set_option maxRecDepth 100000 in
set_option maxHeartbeats 4000000 in
theorem s_X4_renew {a m : Nat} (ha : K0 a = (4, 3)) (hm : m ≤ 100) : Ca G mdX4_renew [.ref a, .int (nI m)] (mk I L t) (Rv (mk (leNew I a m) L t)) := by
  refine Ca.intro [some (.ref a), some (.int (nI m)), none] (by decide) (Nat.le_of_ble_eq_true rfl) rfl rfl ?_
  refine ex_aload_n dX4_renew_0 rfl ?_
  refine ex_iconst (v := 0) dX4_renew_1 (by decide) ?_
  refine ex_iload_n dX4_renew_2 rfl ?_
  refine ex_bipush (v := 100) dX4_renew_3 (by decide) ?_
  refine ex_mmin dX4_renew_5 rfl lk_X4_23 wj_min wj_m wj_minc ⟨by decide, by decide⟩ ⟨by decide, by decide⟩ (Nat.le_of_ble_eq_true rfl) ?_
  refine ex_mmax dX4_renew_8 rfl lk_X4_29 wj_max wj_m wj_maxc ⟨by decide, by decide⟩ ⟨by decide, by decide⟩ (Nat.le_of_ble_eq_true rfl) ?_
  rw [clamp_n (C := 100) (c := 100) rfl hm (by decide)]
  refine p_4_1 dX4_renew_11 rfl wf_X4_15 (by first | assumption | rfl) ?_
  refine ex_aload_n dX4_renew_14 rfl ?_
  refine ex_iconst (v := 1) dX4_renew_15 (by decide) ?_
  refine p_4_2 dX4_renew_16 rfl wf_X4_19 ⟨rfl, rfl⟩ (by first | assumption | rfl) ?_
  refine ex_iconst (v := 0) dX4_renew_19 (by decide) ?_
  refine st_i2 dX4_renew_20 (by first | exact rfl | exact trivial) ?_
  have hk1 : K0 (a + 1) = (13, 100) := (lay4 ha).2
  have key := loop_up (G := G) (d := mdX4_renew) (pc := 21) (st := []) (uc := 0) (us := 0) (P := Rv (mk (leNew I a m) L t)) m (fun k => mk (fill (up2 (up2 I a 1 (nI m)) a 2 1) (a + 1) k 32) L t) (fun k => [some (.ref a), some (.int (nI m)), some (.int (nI k))]) ?_ ?_ 0 (Nat.zero_le _)
  · simp only [fill_0] at key
    exact key
  · intro k hk ih
    have hs : fill (up2 (up2 I a 1 (nI m)) a 2 1) (a + 1) k 32 a 1 = nI m := by rw [fill_off (by omega)]; simp [up2]
    refine ex_iload_n dX4_renew_21 rfl ?_
    refine ex_aload_n dX4_renew_22 rfl ?_
    refine g_4_1 dX4_renew_23 rfl wf_X4_15 (by first | assumption | rfl) ?_
    refine ex_icmp_ge 43 dX4_renew_26 (by decide) (fun h26 => ?_) (fun h26 => ?_)
    · exact absurd h26 (by rw [hs]; exact nI_ge hk (by omega))
    · skip
      refine ex_aload_n dX4_renew_29 rfl ?_
      refine g_4_0 dX4_renew_30 rfl wf_X4_9 (by first | assumption | rfl) (layR_4_0 (by first | assumption | rfl)) ?_
      refine ex_iload_n dX4_renew_33 rfl ?_
      refine ex_bipush (v := 32) dX4_renew_34 (by decide) ?_
      refine rx_bast dX4_renew_36 (by first | assumption | rfl) (vpi (by omega)) ?_
      refine inc2 (v := _ + 1) dX4_renew_37 (by rfl) (by first | exact rfl | exact trivial) ?_
      refine ex_goto 21 dX4_renew_40 (by decide) ?_
      rw [nI_1, show ((32 : Int32).toInt8.toInt32) = 32 from rfl, fill_s (by omega)]
      exact ih
  · have hs : fill (up2 (up2 I a 1 (nI m)) a 2 1) (a + 1) m 32 a 1 = nI m := by rw [fill_off (by omega)]; simp [up2]
    refine ex_iload_n dX4_renew_21 rfl ?_
    refine ex_aload_n dX4_renew_22 rfl ?_
    refine g_4_1 dX4_renew_23 rfl wf_X4_15 (by first | assumption | rfl) ?_
    refine ex_icmp_ge 43 dX4_renew_26 (by decide) (fun h26 => ?_) (fun h26 => ?_)
    · skip
      refine ex_vret dX4_renew_43 rfl ⟨rfl, Nat.le_refl _⟩ ?_
      exact ⟨rfl, rfl⟩
    · exact absurd (by rw [hs]; exact Int32.le_refl _) h26
set_option maxRecDepth 100000 in
set_option maxHeartbeats 4000000 in
theorem s_X4_has {a : Nat} {i : Int32} (ha : K0 a = (4, 3)) : Ca G mdX4_has [.ref a, .int i] (mk I L t) (Rs (.int (b2i (0 ≤ i ∧ i < I a 1))) (mk I L t)) := by
  refine Ca.intro [some (.ref a), some (.int i)] (by decide) (Nat.le_of_ble_eq_true rfl) rfl rfl ?_
  refine ex_iload_n dX4_has_0 rfl ?_
  refine ex_if_lt 16 dX4_has_1 (by decide) (fun h1 => ?_) (fun h1 => ?_)
  · skip
    refine ex_iconst (v := 0) dX4_has_16 (by decide) ?_
    refine ex_iret dX4_has_17 rfl rfl ⟨rfl, Nat.le_refl _⟩ ?_
    exact ⟨by first | exact b2i_t (by grind) | exact b2i_f (by grind), rfl⟩
  · skip
    refine ex_iload_n dX4_has_4 rfl ?_
    refine ex_aload_n dX4_has_5 rfl ?_
    refine g_4_1 dX4_has_6 rfl wf_X4_15 (by first | assumption | rfl) ?_
    refine ex_icmp_ge 16 dX4_has_9 (by decide) (fun h9 => ?_) (fun h9 => ?_)
    · skip
      refine ex_iconst (v := 0) dX4_has_16 (by decide) ?_
      refine ex_iret dX4_has_17 rfl rfl ⟨rfl, Nat.le_refl _⟩ ?_
      exact ⟨by first | exact b2i_t (by grind) | exact b2i_f (by grind), rfl⟩
    · skip
      refine ex_iconst (v := 1) dX4_has_12 (by decide) ?_
      refine ex_goto 17 dX4_has_13 (by decide) ?_
      refine ex_iret dX4_has_17 rfl rfl ⟨rfl, Nat.le_refl _⟩ ?_
      exact ⟨by first | exact b2i_t (by grind) | exact b2i_f (by grind), rfl⟩
end C1
