section C8
variable {G : Gp} {I : Im} {L : Nat → Nat → Int64} {t : Nat}
theorem baNew_rd {p : Nat} : baNew (rdM I p) 86 = rdM (baNew I 86) p := by
  unfold baNew
  rw [rdM_c (by decide), rdM_c (by decide), rdM_c (by decide), rdM_c (by decide), rdM_c (by decide), rdM_c (by decide)]
  funext a j
  by_cases h : a = 87
  · subst h
    simp [fill, rdM, up2]
  · have h87 : a ≠ 86 + 1 := h
    rw [fill_off h87]
    by_cases h2 : a = 85
    · subst h2
      simp [rdM, up2, fill]
    · rw [rdM_off h2, rdM_off h2, fill_off h87]
theorem swNew_rd {p : Nat} : swNew (rdM I p) 88 = rdM (swNew I 88) p := by
  unfold swNew
  rw [rdM_c (by decide), rdM_c (by decide)]
theorem nI_back {x : Int32} (h : 0 ≤ x) : x = nI x.toNatClampNeg := by
  obtain ⟨j, hj, rfl⟩ := nI_of (Int32.not_lt.mpr h)
  rw [nI_clamp hj]
theorem numR_n {f : Nat → Int32} {p : Nat} (h : ¬ numR f p 3 16 < 0) : ∃ n, 3 ≤ n ∧ n ≤ 16 ∧ numR f p 3 16 = nI n ∧ (numR f p 3 16).toNatClampNeg = n := by
  have h1 := numR_in h
  have h0 : 0 ≤ numR f p 3 16 := by grind
  obtain ⟨j, hj, e⟩ := nI_of (Int32.not_lt.mpr h0)
  rw [e] at h1 ⊢
  have a1 := (nI_leI (a := 3) (by decide) hj).mp h1.1
  have a2 := (nI_leI (b := 16) hj (by decide)).mp h1.2
  exact ⟨j, a1, a2, rfl, nI_clamp hj⟩
set_option maxRecDepth 100000 in
set_option maxHeartbeats 4000000 in
theorem s_X7_readHarbour {m b : Nat} (hb : K0 b = (4, 3)) (hm : I b 1 = nI m) (hm100 : m ≤ 100) : Ca G mdX7_readHarbour [.ref 85, .ref b] (mk I L t) (Rs (.int (readH I b m).1) (mk (rdM (readH I b m).2.2 (readH I b m).2.1) L b)) := by
  refine Ca.intro [some (.ref 85), some (.ref b), none, none] (by decide) (Nat.le_of_ble_eq_true rfl) rfl rfl ?_
  have nb : ∀ q k n, K0 q = (k, n) → k ≠ 4 → b ≠ q := fun q k n h h2 => K0ne hb h (fun z => h2 z.symm)
  have hb1 : K0 (b + 1) = (13, 100) := (lay4 hb).2
  have nb1 : ∀ q k n, K0 q = (k, n) → k ≠ 13 → b + 1 ≠ q := fun q k n h h2 => K0ne hb1 h (fun z => h2 z.symm)
  have b5 : b ≠ 85 := nb 85 7 4 rfl (by decide)
  have b6 : b ≠ 86 := nb 86 0 7 rfl (by decide)
  have b7 : b ≠ 87 := nb 87 14 16 rfl (by decide)
  have b8 : b ≠ 88 := nb 88 8 4 rfl (by decide)
  have b9 : b ≠ 89 := nb 89 14 4 rfl (by decide)
  have b0 : b ≠ 90 := nb 90 14 4 rfl (by decide)
  have c5 : b + 1 ≠ 85 := nb1 85 7 4 rfl (by decide)
  have c6 : b + 1 ≠ 86 := nb1 86 0 7 rfl (by decide)
  have c7 : b + 1 ≠ 87 := nb1 87 14 16 rfl (by decide)
  have c8 : b + 1 ≠ 88 := nb1 88 8 4 rfl (by decide)
  have c9 : b + 1 ≠ 89 := nb1 89 14 4 rfl (by decide)
  have c0 : b + 1 ≠ 90 := nb1 90 14 4 rfl (by decide)
  refine ex_aload_n dX7_readHarbour_0 rfl ?_
  refine ex_aload_n dX7_readHarbour_1 rfl ?_
  refine rx_cV (kd := 7) dX7_readHarbour_2 rfl lk_X7_36 rfl (by decide) (by first | assumption | rfl) ⟨⟨rfl, rfl⟩, by decide, by decide⟩ rfl (Nat.le_of_ble_eq_true rfl) rfl s_X7_open (Rv.k ?_)
  refine ex_aload_n dX7_readHarbour_5 rfl ?_
  refine g_7_0 dX7_readHarbour_6 rfl wf_X7_12 (by first | assumption | rfl) rfl ?_
  refine rx_cV (kd := 0) dX7_readHarbour_9 rfl lk_X7_40 rfl (by decide) (by first | assumption | rfl) ⟨⟨rfl, rfl⟩, by decide, by decide⟩ rfl (Nat.le_of_ble_eq_true rfl) rfl (s_X0_renew (a := 86) rfl) (Rv.k ?_)
  rw [baNew_rd]
  refine ex_aload_n dX7_readHarbour_12 rfl ?_
  refine rx_cV (kd := 7) dX7_readHarbour_13 rfl lk_X7_43 rfl (by decide) (by first | assumption | rfl) ⟨⟨rfl, rfl⟩, by decide, by decide⟩ rfl (Nat.le_of_ble_eq_true rfl) rfl (s_X7_skipBlanks (t := b) (m := m) hb (by rw [baNew_off b6 b7]; exact hm) hm100 (by decide)) (Rv.k ?_)
  rw [baNew_off c6 c7]
  refine ex_aload_n dX7_readHarbour_16 rfl ?_
  refine ex_bipush (v := 99) dX7_readHarbour_17 (by decide) ?_
  refine rx_cV (kd := 7) dX7_readHarbour_19 rfl lk_X7_46 rfl (by decide) (by first | assumption | rfl) ⟨⟨rfl, rfl⟩, by decide, by decide⟩ rfl (Nat.le_of_ble_eq_true rfl) rfl (s_X7_take (t := b) (m := m) hb (by rw [baNew_off b6 b7]; exact hm) hm100 (by have := @skipN_le (sgF (I (b + 1)) m) 100 0; omega)) (Rs.k ?_)
  refine ex_if_ne 30 dX7_readHarbour_22 (by decide) (fun h22 => ?_) (fun h22 => ?_)
  · have g := b2i_n0.mp h22
    rw [baNew_off c6 c7] at g ⊢
    rw [if_pos g]
    refine ex_aload_n dX7_readHarbour_30 rfl ?_
    refine ex_iconst (v := 3) dX7_readHarbour_31 (by decide) ?_
    refine ex_bipush (v := 16) dX7_readHarbour_32 (by decide) ?_
    refine rx_cV (kd := 7) dX7_readHarbour_34 rfl lk_X7_50 rfl (by decide) (by first | assumption | rfl) ⟨⟨rfl, rfl⟩, by decide, by decide⟩ rfl (Nat.le_of_ble_eq_true rfl) rfl (s_X7_number (t := b) (m := m) hb (by rw [baNew_off b6 b7]; exact hm) hm100 (by have := @skipN_le (sgF (I (b + 1)) m) 100 0; omega)) (Rs.k ?_)
    refine st_i2 dX7_readHarbour_37 (by first | exact rfl | exact trivial) ?_
    refine ex_iload_n dX7_readHarbour_38 rfl ?_
    refine ex_if_ge 47 dX7_readHarbour_39 (by decide) (fun h39 => ?_) (fun h39 => ?_)
    · rw [baNew_off c6 c7] at h39 ⊢
      obtain ⟨n, hn3, hn, ec, ek⟩ := numR_n (Int32.not_lt.mpr h39)
      have hH : readH I b m = rdH (sgF (I (b + 1)) m) n m 100 (skipN (sgF (I (b + 1)) m) 100 (numN (sgF (I (b + 1)) m) (skipN (sgF (I (b + 1)) m) 100 0 + 1))) (up2 (baNew I 86) 86 2 (numR (sgF (I (b + 1)) m) (skipN (sgF (I (b + 1)) m) 100 0 + 1) 3 16)) := by unfold readH; dsimp only; rw [if_pos g, if_neg (Int32.not_lt.mpr h39), ek]
      generalize numR (sgF (I (b + 1)) m) (skipN (sgF (I (b + 1)) m) 100 0 + 1) 3 16 = c at *
      refine ex_aload_n dX7_readHarbour_47 rfl ?_
      refine g_7_0 dX7_readHarbour_48 rfl wf_X7_12 (by first | assumption | rfl) rfl ?_
      refine ex_iload_n dX7_readHarbour_51 rfl ?_
      refine p_0_2 dX7_readHarbour_52 rfl wf_X7_54 (by first | assumption | rfl) ?_
      rw [rdM_c (by decide)]
      refine ex_aload_n dX7_readHarbour_55 rfl ?_
      refine rx_cV (kd := 7) dX7_readHarbour_56 rfl lk_X7_43 rfl (by decide) (by first | assumption | rfl) ⟨⟨rfl, rfl⟩, by decide, by decide⟩ rfl (Nat.le_of_ble_eq_true rfl) rfl (s_X7_skipBlanks (t := b) (m := m) hb (by rw [up2_off b6, baNew_off b6 b7]; exact hm) hm100 (by have := @skipN_le (sgF (I (b + 1)) m) 100 0; have h3 := @numN_le (sgF (I (b + 1)) m) (skipN (sgF (I (b + 1)) m) 100 0 + 1); omega)) (Rv.k ?_)
      rw [up2_off c6, baNew_off c6 c7]
      refine ex_iconst (v := 0) dX7_readHarbour_59 (by decide) ?_
      refine st_i3 dX7_readHarbour_60 (by first | exact rfl | exact trivial) ?_
      have key : ∀ k i p (J : Im), i + k = 100 → J b = I b → J (b + 1) = I (b + 1) → J 86 2 = nI n → p + k * 200 < 2 ^ 31 - 1000 → Ex G mdX7_readHarbour 61 [some (.ref 85), some (.ref b), some (.int c), some (.int (nI i))] [] (mk (rdM J p) L b) 0 0 (Rs (.int (rdH (sgF (I (b + 1)) m) n m k p J).1) (mk (rdM (rdH (sgF (I (b + 1)) m) n m k p J).2.2 (rdH (sgF (I (b + 1)) m) n m k p J).2.1) L b)) := by
        intro k
        induction k with
        | zero =>
          intro i p J hi e1 e2 e3 hp
          refine ex_iload_n dX7_readHarbour_61 rfl ?_
          refine ex_bipush (v := 100) dX7_readHarbour_62 (by decide) ?_
          refine ex_icmp_ge 103 dX7_readHarbour_64 (by decide) (fun h64 => ?_) (fun h64 => ?_)
          · skip
            refine ex_bipush (v := (-9)) dX7_readHarbour_103 (by decide) ?_
            refine ex_iret dX7_readHarbour_105 rfl rfl ⟨rfl, Nat.le_refl _⟩ ?_
            exact ⟨rfl, rfl⟩
          · exact absurd (nI_le (a := 100) (by omega) (by omega)) h64
        | succ k ih =>
          intro i p J hi e1 e2 e3 hp
          have hmJ : J b 1 = nI m := by rw [e1]; exact hm
          refine ex_iload_n dX7_readHarbour_61 rfl ?_
          refine ex_bipush (v := 100) dX7_readHarbour_62 (by decide) ?_
          refine ex_icmp_ge 103 dX7_readHarbour_64 (by decide) (fun h64 => ?_) (fun h64 => ?_)
          · exact absurd h64 (nI_ge (b := 100) (by omega) (by omega))
          · skip
            refine ex_aload_n dX7_readHarbour_67 rfl ?_
            refine g_7_3 dX7_readHarbour_68 rfl wf_X7_32 (by first | assumption | rfl) ?_
            rw [rdM_r]
            refine ex_aload_n dX7_readHarbour_71 rfl ?_
            refine g_7_2 dX7_readHarbour_72 rfl wf_X7_28 (by first | assumption | rfl) rfl ?_
            refine g_4_1 dX7_readHarbour_75 rfl wf_X7_57 hb ?_
            rw [rdM_off b5, hmJ]
            refine ex_icmp_ge 103 dX7_readHarbour_78 (by decide) (fun h78 => ?_) (fun h78 => ?_)
            · have hpm : m ≤ p := (nI_leI (by omega) (by omega)).mp h78
              have hR : rdH (sgF (I (b + 1)) m) n m (k + 1) p J = (-9, p, J) := if_pos hpm
              refine ex_bipush (v := (-9)) dX7_readHarbour_103 (by decide) ?_
              refine ex_iret dX7_readHarbour_105 rfl rfl ⟨rfl, Nat.le_refl _⟩ ?_
              exact ⟨by rw [hR], by rw [hR]⟩
            · have hpm : ¬ m ≤ p := fun q => h78 (nI_le q (by omega))
              refine ex_aload_n dX7_readHarbour_81 rfl ?_
              refine rx_cV (kd := 7) dX7_readHarbour_82 rfl lk_X7_60 rfl (by decide) (by first | assumption | rfl) ⟨⟨rfl, rfl⟩, by decide, by decide⟩ rfl (Nat.le_of_ble_eq_true rfl) rfl (s_X7_harbourItem (t := b) (m := m) (n := n) hb hmJ hm100 hn3 hn e3 (by omega)) (Rs.k ?_)
              refine ex_if_ne 93 dX7_readHarbour_85 (by decide) (fun h85 => ?_) (fun h85 => ?_)
              · have g := b2i_n0.mp h85
                rw [e2] at g ⊢
                have hR : rdH (sgF (I (b + 1)) m) n m (k + 1) p J = rdH (sgF (I (b + 1)) m) n m k (skipN (sgF (I (b + 1)) m) 100 (itm (sgF (I (b + 1)) m) n p).2.1) (itE J (itm (sgF (I (b + 1)) m) n p)) := by rw [rdH, if_neg hpm, if_pos g]
                refine ex_aload_n dX7_readHarbour_93 rfl ?_
                refine rx_cV (kd := 7) dX7_readHarbour_94 rfl lk_X7_43 rfl (by decide) (by first | assumption | rfl) ⟨⟨rfl, rfl⟩, by decide, by decide⟩ rfl (Nat.le_of_ble_eq_true rfl) rfl (s_X7_skipBlanks (t := b) (m := m) hb (by rw [itE_off b6 b7]; exact hmJ) hm100 (Nat.lt_of_le_of_lt itm_le (by omega))) (Rv.k ?_)
                refine inc3 (v := _ + 1) dX7_readHarbour_97 (by rfl) (by first | exact rfl | exact trivial) ?_
                refine ex_goto 61 dX7_readHarbour_100 (by decide) ?_
                rw [nI_1, itE_off c6 c7, e2, hR]
                exact ih (i + 1) _ _ (by omega) (by rw [itE_off b6 b7]; exact e1) (by rw [itE_off c6 c7]; exact e2) (by rw [itE_2]; exact e3) (by have h1 := @skipN_le (sgF (I (b + 1)) m) 100 (itm (sgF (I (b + 1)) m) n p).2.1; have h2 := @itm_le (sgF (I (b + 1)) m) n p; omega)
              · have g := b2i_0.mp h85
                rw [e2] at g ⊢
                have hR : rdH (sgF (I (b + 1)) m) n m (k + 1) p J = (nI (itm (sgF (I (b + 1)) m) n p).2.1, (itm (sgF (I (b + 1)) m) n p).2.1, itE J (itm (sgF (I (b + 1)) m) n p)) := by rw [rdH, if_neg hpm, if_neg g]
                refine ex_aload_n dX7_readHarbour_88 rfl ?_
                refine g_7_3 dX7_readHarbour_89 rfl wf_X7_32 (by first | assumption | rfl) ?_
                rw [rdM_r]
                refine ex_iret dX7_readHarbour_92 rfl rfl ⟨rfl, Nat.le_refl _⟩ ?_
                exact ⟨by rw [hR], by rw [hR]⟩
      have hfin := key 100 0 (skipN (sgF (I (b + 1)) m) 100 (numN (sgF (I (b + 1)) m) (skipN (sgF (I (b + 1)) m) 100 0 + 1))) (up2 (baNew I 86) 86 2 c) (by decide) (by rw [up2_off b6, baNew_off b6 b7]) (by rw [up2_off c6, baNew_off c6 c7]) (by rw [u2_s]; exact ec) (by have h1 := @skipN_le (sgF (I (b + 1)) m) 100 (numN (sgF (I (b + 1)) m) (skipN (sgF (I (b + 1)) m) 100 0 + 1)); have h2 := @skipN_le (sgF (I (b + 1)) m) 100 0; have h3 := @numN_le (sgF (I (b + 1)) m) (skipN (sgF (I (b + 1)) m) 100 0 + 1); omega)
      rw [hH]
      exact hfin
    · rw [baNew_off c6 c7] at h39 ⊢
      have hH : readH I b m = (nI (numN (sgF (I (b + 1)) m) (skipN (sgF (I (b + 1)) m) 100 0 + 1)), numN (sgF (I (b + 1)) m) (skipN (sgF (I (b + 1)) m) 100 0 + 1), baNew I 86) := by unfold readH; dsimp only; rw [if_pos g, if_pos (Int32.not_le.mp h39)]
      refine ex_aload_n dX7_readHarbour_42 rfl ?_
      refine g_7_3 dX7_readHarbour_43 rfl wf_X7_32 (by first | assumption | rfl) ?_
      rw [rdM_r]
      refine ex_iret dX7_readHarbour_46 rfl rfl ⟨rfl, Nat.le_refl _⟩ ?_
      exact ⟨by rw [hH], by rw [hH]⟩
  · have g := b2i_0.mp h22
    rw [baNew_off c6 c7] at g ⊢
    rw [if_neg g]
    have hH : readH I b m = (nI (skipN (sgF (I (b + 1)) m) 100 0), skipN (sgF (I (b + 1)) m) 100 0, baNew I 86) := if_neg g
    refine ex_aload_n dX7_readHarbour_25 rfl ?_
    refine g_7_3 dX7_readHarbour_26 rfl wf_X7_32 (by first | assumption | rfl) ?_
    rw [rdM_r]
    refine ex_iret dX7_readHarbour_29 rfl rfl ⟨rfl, Nat.le_refl _⟩ ?_
    exact ⟨by rw [hH], by rw [hH]⟩
theorem itSE_3 {f : Nat → Int32} {c p : Nat} {J : Im} (g : (itS f c p).1 = true) (h : J 88 3 = nI c) : itSE J c (itS f c p) 88 3 = nI (c + 1) := by
  have hk : (itS f c p).2.2.1 = 1 := by
    unfold itS at *
    repeat' split at g
    all_goals first | (exact absurd g (by decide)) | skip
    repeat' split
    all_goals first | rfl | contradiction
  unfold itSE
  rw [if_pos hk]
  unfold swAdd
  rw [u2_s]
set_option maxRecDepth 100000 in
set_option maxHeartbeats 4000000 in
theorem s_X7_readSea {m b : Nat} (hb : K0 b = (4, 3)) (hm : I b 1 = nI m) (hm100 : m ≤ 100) : Ca G mdX7_readSea [.ref 85, .ref b] (mk I L t) (Rs (.int (readS I b m).1) (mk (rdM (readS I b m).2.2 (readS I b m).2.1) L b)) := by
  refine Ca.intro [some (.ref 85), some (.ref b), none] (by decide) (Nat.le_of_ble_eq_true rfl) rfl rfl ?_
  have nb : ∀ q k n, K0 q = (k, n) → k ≠ 4 → b ≠ q := fun q k n h h2 => K0ne hb h (fun z => h2 z.symm)
  have hb1 : K0 (b + 1) = (13, 100) := (lay4 hb).2
  have nb1 : ∀ q k n, K0 q = (k, n) → k ≠ 13 → b + 1 ≠ q := fun q k n h h2 => K0ne hb1 h (fun z => h2 z.symm)
  have b5 : b ≠ 85 := nb 85 7 4 rfl (by decide)
  have b6 : b ≠ 86 := nb 86 0 7 rfl (by decide)
  have b7 : b ≠ 87 := nb 87 14 16 rfl (by decide)
  have b8 : b ≠ 88 := nb 88 8 4 rfl (by decide)
  have b9 : b ≠ 89 := nb 89 14 4 rfl (by decide)
  have b0 : b ≠ 90 := nb 90 14 4 rfl (by decide)
  have c5 : b + 1 ≠ 85 := nb1 85 7 4 rfl (by decide)
  have c6 : b + 1 ≠ 86 := nb1 86 0 7 rfl (by decide)
  have c7 : b + 1 ≠ 87 := nb1 87 14 16 rfl (by decide)
  have c8 : b + 1 ≠ 88 := nb1 88 8 4 rfl (by decide)
  have c9 : b + 1 ≠ 89 := nb1 89 14 4 rfl (by decide)
  have c0 : b + 1 ≠ 90 := nb1 90 14 4 rfl (by decide)
  refine ex_aload_n dX7_readSea_0 rfl ?_
  refine ex_aload_n dX7_readSea_1 rfl ?_
  refine rx_cV (kd := 7) dX7_readSea_2 rfl lk_X7_36 rfl (by decide) (by first | assumption | rfl) ⟨⟨rfl, rfl⟩, by decide, by decide⟩ rfl (Nat.le_of_ble_eq_true rfl) rfl s_X7_open (Rv.k ?_)
  refine ex_aload_n dX7_readSea_5 rfl ?_
  refine g_7_1 dX7_readSea_6 rfl wf_X7_21 (by first | assumption | rfl) rfl ?_
  refine rx_cV (kd := 8) dX7_readSea_9 rfl lk_X7_64 rfl (by decide) (by first | assumption | rfl) ⟨⟨rfl, rfl⟩, by decide, by decide⟩ rfl (Nat.le_of_ble_eq_true rfl) rfl (s_X8_renew (a := 88) rfl) (Rv.k ?_)
  rw [swNew_rd]
  refine ex_aload_n dX7_readSea_12 rfl ?_
  refine rx_cV (kd := 7) dX7_readSea_13 rfl lk_X7_43 rfl (by decide) (by first | assumption | rfl) ⟨⟨rfl, rfl⟩, by decide, by decide⟩ rfl (Nat.le_of_ble_eq_true rfl) rfl (s_X7_skipBlanks (t := b) (m := m) hb (by unfold swNew; rw [up2_off b8, up2_off b8]; exact hm) hm100 (by decide)) (Rv.k ?_)
  rw [show swNew I 88 (b + 1) = I (b + 1) from by unfold swNew; rw [up2_off c8, up2_off c8]]
  refine ex_iconst (v := 0) dX7_readSea_16 (by decide) ?_
  refine st_i2 dX7_readSea_17 (by first | exact rfl | exact trivial) ?_
  have key : ∀ k i p c (J : Im), i + k = 100 → J b = I b → J (b + 1) = I (b + 1) → J 88 3 = nI c → c ≤ 4 → p + k * 200 < 2 ^ 31 - 1000 → Ex G mdX7_readSea 18 [some (.ref 85), some (.ref b), some (.int (nI i))] [] (mk (rdM J p) L b) 0 0 (Rs (.int (rdS (sgF (I (b + 1)) m) m k p c J).1) (mk (rdM (rdS (sgF (I (b + 1)) m) m k p c J).2.2 (rdS (sgF (I (b + 1)) m) m k p c J).2.1) L b)) := by
    intro k
    induction k with
    | zero =>
      intro i p c J hi e1 e2 e3 hc4 hp
      refine ex_iload_n dX7_readSea_18 rfl ?_
      refine ex_bipush (v := 100) dX7_readSea_19 (by decide) ?_
      refine ex_icmp_ge 60 dX7_readSea_21 (by decide) (fun h21 => ?_) (fun h21 => ?_)
      · skip
        refine ex_bipush (v := (-9)) dX7_readSea_60 (by decide) ?_
        refine ex_iret dX7_readSea_62 rfl rfl ⟨rfl, Nat.le_refl _⟩ ?_
        exact ⟨rfl, rfl⟩
      · exact absurd (nI_le (a := 100) (by omega) (by omega)) h21
    | succ k ih =>
      intro i p c J hi e1 e2 e3 hc4 hp
      have hmJ : J b 1 = nI m := by rw [e1]; exact hm
      refine ex_iload_n dX7_readSea_18 rfl ?_
      refine ex_bipush (v := 100) dX7_readSea_19 (by decide) ?_
      refine ex_icmp_ge 60 dX7_readSea_21 (by decide) (fun h21 => ?_) (fun h21 => ?_)
      · exact absurd h21 (nI_ge (b := 100) (by omega) (by omega))
      · skip
        refine ex_aload_n dX7_readSea_24 rfl ?_
        refine g_7_3 dX7_readSea_25 rfl wf_X7_32 (by first | assumption | rfl) ?_
        rw [rdM_r]
        refine ex_aload_n dX7_readSea_28 rfl ?_
        refine g_7_2 dX7_readSea_29 rfl wf_X7_28 (by first | assumption | rfl) rfl ?_
        refine g_4_1 dX7_readSea_32 rfl wf_X7_57 hb ?_
        rw [rdM_off b5, hmJ]
        refine ex_icmp_ge 60 dX7_readSea_35 (by decide) (fun h35 => ?_) (fun h35 => ?_)
        · have hpm : m ≤ p := (nI_leI (by omega) (by omega)).mp h35
          have hR : rdS (sgF (I (b + 1)) m) m (k + 1) p c J = (-9, p, J) := if_pos hpm
          refine ex_bipush (v := (-9)) dX7_readSea_60 (by decide) ?_
          refine ex_iret dX7_readSea_62 rfl rfl ⟨rfl, Nat.le_refl _⟩ ?_
          exact ⟨by rw [hR], by rw [hR]⟩
        · have hpm : ¬ m ≤ p := fun q => h35 (nI_le q (by omega))
          refine ex_aload_n dX7_readSea_38 rfl ?_
          refine rx_cV (kd := 7) dX7_readSea_39 rfl lk_X7_65 rfl (by decide) (by first | assumption | rfl) ⟨⟨rfl, rfl⟩, by decide, by decide⟩ rfl (Nat.le_of_ble_eq_true rfl) rfl (s_X7_seaItem (t := b) (m := m) (c := c) hb hmJ hm100 e3 hc4 (by omega)) (Rs.k ?_)
          refine ex_if_ne 50 dX7_readSea_42 (by decide) (fun h42 => ?_) (fun h42 => ?_)
          · have g := b2i_n0.mp h42
            rw [e2] at g ⊢
            have hc3 : c < 4 := by rcases Nat.lt_or_ge c 4 with q | q; exact q; rw [itS, if_pos q] at g; exact absurd g (fun z => Bool.noConfusion z)
            have hR : rdS (sgF (I (b + 1)) m) m (k + 1) p c J = rdS (sgF (I (b + 1)) m) m k (skipN (sgF (I (b + 1)) m) 100 (itS (sgF (I (b + 1)) m) c p).2.1) (c + 1) (itSE J c (itS (sgF (I (b + 1)) m) c p)) := by rw [rdS, if_neg hpm, if_pos g]
            refine ex_aload_n dX7_readSea_50 rfl ?_
            refine rx_cV (kd := 7) dX7_readSea_51 rfl lk_X7_43 rfl (by decide) (by first | assumption | rfl) ⟨⟨rfl, rfl⟩, by decide, by decide⟩ rfl (Nat.le_of_ble_eq_true rfl) rfl (s_X7_skipBlanks (t := b) (m := m) hb (by rw [itSE_off b8 b9 b0]; exact hmJ) hm100 (Nat.lt_of_le_of_lt itS_le (by omega))) (Rv.k ?_)
            refine inc2 (v := _ + 1) dX7_readSea_54 (by rfl) (by first | exact rfl | exact trivial) ?_
            refine ex_goto 18 dX7_readSea_57 (by decide) ?_
            rw [nI_1, itSE_off c8 c9 c0, e2, hR]
            exact ih (i + 1) _ (c + 1) _ (by omega) (by rw [itSE_off b8 b9 b0]; exact e1) (by rw [itSE_off c8 c9 c0]; exact e2) (itSE_3 g e3) hc3 (by have h1 := @skipN_le (sgF (I (b + 1)) m) 100 (itS (sgF (I (b + 1)) m) c p).2.1; have h2 := @itS_le (sgF (I (b + 1)) m) c p; omega)
          · have g := b2i_0.mp h42
            rw [e2] at g ⊢
            have hR : rdS (sgF (I (b + 1)) m) m (k + 1) p c J = (nI (itS (sgF (I (b + 1)) m) c p).2.1, (itS (sgF (I (b + 1)) m) c p).2.1, itSE J c (itS (sgF (I (b + 1)) m) c p)) := by rw [rdS, if_neg hpm, if_neg g]
            refine ex_aload_n dX7_readSea_45 rfl ?_
            refine g_7_3 dX7_readSea_46 rfl wf_X7_32 (by first | assumption | rfl) ?_
            rw [rdM_r]
            refine ex_iret dX7_readSea_49 rfl rfl ⟨rfl, Nat.le_refl _⟩ ?_
            exact ⟨by rw [hR], by rw [hR]⟩
  have hfin := key 100 0 (skipN (sgF (I (b + 1)) m) 100 0) 0 (swNew I 88) (by decide) (by unfold swNew; rw [up2_off b8, up2_off b8]) (by unfold swNew; rw [up2_off c8, up2_off c8]) (by unfold swNew; rw [u2_s]; rfl) (by decide) (by have h2 := @skipN_le (sgF (I (b + 1)) m) 100 0; omega)
  exact hfin
end C8
