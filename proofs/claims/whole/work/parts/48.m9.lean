section M9
variable {G : Gp} {I : Im} {L : Nat → Nat → Int64} {t : Nat}
def mvS (N : Nat → Int32) (a : Nat) : Int32 := f_X12_strainOf (N (a + 6)) (N (a + 3)) (N (a + 4))
def mvF (N : Nat → Int32) (a : Nat) (x : Int32) : Int32 := x - (if N (a + 6) ≤ 0 then -mvS N a else mvS N a)
def mvV (N : Nat → Int32) (a : Nat) (x : Int32) : Int32 := N (a + 7) + mvF N a x / (4 * N (a + 2)) - (N (a + 7) + mvF N a x / (4 * N (a + 2))) / 16
def mvN (N : Nat → Int32) (a : Nat) (x : Int32) : Nat → Int32 := upn (upn N (a + 6) (N (a + 6) + mvV N a x)) (a + 7) (mvV N a x)
def wt1 (N : Nat → Int32) (a : Nat) : Nat → Int32 := upn N (a + 8) (if mvS N a < N (a + 8) then N (a + 8) else mvS N a)
def wtN (N : Nat → Int32) (a : Nat) : Nat → Int32 := if N (a + 9) = -9 ∧ N (a + 5) < mvS N a then upn (wt1 N a) (a + 9) (N 30) else wt1 N a
set_option maxRecDepth 100000 in
set_option maxHeartbeats 4000000 in
theorem s_X12_moves {B : Nat} {N : Nat → Int32} {x : Int32} {a : Nat} (ha : 95 ≤ a) (ha2 : a ≤ 115) (hw : ¬ 4 * N (a + 2) = 0) (hb : I 200 24 = nI B) (hB : B ≤ 500) : Ca G mdX12_moves [.ref 200, .int (nI a), .int x] (mk (nw I B N) L t) (Rv (mk (nw I B (mvN N a x)) L t)) := by
  refine Ca.intro [some (.ref 200), some (.int (nI a)), some (.int x), none, none, none, none] (by decide) (Nat.le_of_ble_eq_true rfl) rfl rfl ?_
  refine ex_aload_n dX12_moves_0 rfl ?_
  refine ex_iload_n dX12_moves_1 rfl ?_
  refine ex_bipush (v := 6) dX12_moves_2 (by decide) ?_
  refine ex_iadd dX12_moves_4 ?_
  refine rx_cV (kd := 12) dX12_moves_5 rfl lk_X12_183 rfl (by decide) (by first | assumption | rfl) ⟨⟨rfl, rfl⟩, by decide, by decide⟩ rfl (Nat.le_of_ble_eq_true rfl) rfl (s_X12_v (p := a + 6) (nI_add a 6) (by omega) hb hB) (Rs.k ?_)
  refine st_i3 dX12_moves_8 (by first | exact rfl | exact trivial) ?_
  refine ex_iload_n dX12_moves_9 rfl ?_
  refine ex_aload_n dX12_moves_10 rfl ?_
  refine ex_iload_n dX12_moves_11 rfl ?_
  refine ex_iconst (v := 3) dX12_moves_12 (by decide) ?_
  refine ex_iadd dX12_moves_13 ?_
  refine rx_cV (kd := 12) dX12_moves_14 rfl lk_X12_183 rfl (by decide) (by first | assumption | rfl) ⟨⟨rfl, rfl⟩, by decide, by decide⟩ rfl (Nat.le_of_ble_eq_true rfl) rfl (s_X12_v (p := a + 3) (nI_add a 3) (by omega) hb hB) (Rs.k ?_)
  refine ex_aload_n dX12_moves_17 rfl ?_
  refine ex_iload_n dX12_moves_18 rfl ?_
  refine ex_iconst (v := 4) dX12_moves_19 (by decide) ?_
  refine ex_iadd dX12_moves_20 ?_
  refine rx_cV (kd := 12) dX12_moves_21 rfl lk_X12_183 rfl (by decide) (by first | assumption | rfl) ⟨⟨rfl, rfl⟩, by decide, by decide⟩ rfl (Nat.le_of_ble_eq_true rfl) rfl (s_X12_v (p := a + 4) (nI_add a 4) (by omega) hb hB) (Rs.k ?_)
  refine rx_cS dX12_moves_24 rfl lk_X12_198 ⟨⟨rfl, rfl⟩, by decide, by decide⟩ rfl (Nat.le_of_ble_eq_true rfl) rfl s_X12_strainOf (Rs.k ?_)
  refine st_i4 dX12_moves_27 (by first | exact rfl | exact trivial) ?_
  refine ex_iload_n dX12_moves_29 rfl ?_
  refine ex_iload_n dX12_moves_30 rfl ?_
  refine ex_if_le 39 dX12_moves_31 (by decide) (fun h31 => ?_) (fun h31 => ?_)
  · have hf : mvF N a x = x - (-mvS N a) := by unfold mvF; rw [if_pos h31]
    refine ex_iload dX12_moves_39 rfl ?_
    refine ex_ineg dX12_moves_41 ?_
    refine ex_isub dX12_moves_42 ?_
    refine st_i5 dX12_moves_43 (by first | exact rfl | exact trivial) ?_
    refine ex_aload_n dX12_moves_45 rfl ?_
    refine ex_iload_n dX12_moves_46 rfl ?_
    refine ex_bipush (v := 7) dX12_moves_47 (by decide) ?_
    refine ex_iadd dX12_moves_49 ?_
    refine rx_cV (kd := 12) dX12_moves_50 rfl lk_X12_183 rfl (by decide) (by first | assumption | rfl) ⟨⟨rfl, rfl⟩, by decide, by decide⟩ rfl (Nat.le_of_ble_eq_true rfl) rfl (s_X12_v (p := a + 7) (nI_add a 7) (by omega) hb hB) (Rs.k ?_)
    refine ex_iload dX12_moves_53 rfl ?_
    refine ex_iconst (v := 4) dX12_moves_55 (by decide) ?_
    refine ex_aload_n dX12_moves_56 rfl ?_
    refine ex_iload_n dX12_moves_57 rfl ?_
    refine ex_iconst (v := 2) dX12_moves_58 (by decide) ?_
    refine ex_iadd dX12_moves_59 ?_
    refine rx_cV (kd := 12) dX12_moves_60 rfl lk_X12_183 rfl (by decide) (by first | assumption | rfl) ⟨⟨rfl, rfl⟩, by decide, by decide⟩ rfl (Nat.le_of_ble_eq_true rfl) rfl (s_X12_v (p := a + 2) (nI_add a 2) (by omega) hb hB) (Rs.k ?_)
    refine ex_imul dX12_moves_63 ?_
    refine ex_idiv dX12_moves_64 hw ?_
    refine ex_iadd dX12_moves_65 ?_
    refine st_i6 dX12_moves_66 (by first | exact rfl | exact trivial) ?_
    refine ex_iload dX12_moves_68 rfl ?_
    refine ex_iload dX12_moves_70 rfl ?_
    refine ex_bipush (v := 16) dX12_moves_72 (by decide) ?_
    refine ex_idiv dX12_moves_74 (by decide) ?_
    refine ex_isub dX12_moves_75 ?_
    refine st_i6 dX12_moves_76 (by first | exact rfl | exact trivial) ?_
    refine ex_iload_n dX12_moves_78 rfl ?_
    refine ex_iload dX12_moves_79 rfl ?_
    refine ex_iadd dX12_moves_81 ?_
    refine st_i3 dX12_moves_82 (by first | exact rfl | exact trivial) ?_
    refine ex_aload_n dX12_moves_83 rfl ?_
    refine ex_iload_n dX12_moves_84 rfl ?_
    refine ex_bipush (v := 6) dX12_moves_85 (by decide) ?_
    refine ex_iadd dX12_moves_87 ?_
    refine ex_iload_n dX12_moves_88 rfl ?_
    refine rx_cV (kd := 12) dX12_moves_89 rfl lk_X12_160 rfl (by decide) (by first | assumption | rfl) ⟨⟨rfl, rfl⟩, by decide, by decide⟩ rfl (Nat.le_of_ble_eq_true rfl) rfl (s_X12_put_ (p := a + 6) (nI_add a 6) (by omega) hb hB) (Rv.k ?_)
    refine ex_aload_n dX12_moves_92 rfl ?_
    refine ex_iload_n dX12_moves_93 rfl ?_
    refine ex_bipush (v := 7) dX12_moves_94 (by decide) ?_
    refine ex_iadd dX12_moves_96 ?_
    refine ex_iload dX12_moves_97 rfl ?_
    refine rx_cV (kd := 12) dX12_moves_99 rfl lk_X12_160 rfl (by decide) (by first | assumption | rfl) ⟨⟨rfl, rfl⟩, by decide, by decide⟩ rfl (Nat.le_of_ble_eq_true rfl) rfl (s_X12_put_ (p := a + 7) (nI_add a 7) (by omega) hb hB) (Rv.k ?_)
    refine ex_vret dX12_moves_102 rfl ⟨rfl, Nat.le_refl _⟩ ?_
    refine ⟨rfl, ?_⟩
    unfold mvN mvV
    rw [hf]
    rfl
  · have hf : mvF N a x = x - mvS N a := by unfold mvF; rw [if_neg h31]
    refine ex_iload dX12_moves_34 rfl ?_
    refine ex_goto 42 dX12_moves_36 (by decide) ?_
    refine ex_isub dX12_moves_42 ?_
    refine st_i5 dX12_moves_43 (by first | exact rfl | exact trivial) ?_
    refine ex_aload_n dX12_moves_45 rfl ?_
    refine ex_iload_n dX12_moves_46 rfl ?_
    refine ex_bipush (v := 7) dX12_moves_47 (by decide) ?_
    refine ex_iadd dX12_moves_49 ?_
    refine rx_cV (kd := 12) dX12_moves_50 rfl lk_X12_183 rfl (by decide) (by first | assumption | rfl) ⟨⟨rfl, rfl⟩, by decide, by decide⟩ rfl (Nat.le_of_ble_eq_true rfl) rfl (s_X12_v (p := a + 7) (nI_add a 7) (by omega) hb hB) (Rs.k ?_)
    refine ex_iload dX12_moves_53 rfl ?_
    refine ex_iconst (v := 4) dX12_moves_55 (by decide) ?_
    refine ex_aload_n dX12_moves_56 rfl ?_
    refine ex_iload_n dX12_moves_57 rfl ?_
    refine ex_iconst (v := 2) dX12_moves_58 (by decide) ?_
    refine ex_iadd dX12_moves_59 ?_
    refine rx_cV (kd := 12) dX12_moves_60 rfl lk_X12_183 rfl (by decide) (by first | assumption | rfl) ⟨⟨rfl, rfl⟩, by decide, by decide⟩ rfl (Nat.le_of_ble_eq_true rfl) rfl (s_X12_v (p := a + 2) (nI_add a 2) (by omega) hb hB) (Rs.k ?_)
    refine ex_imul dX12_moves_63 ?_
    refine ex_idiv dX12_moves_64 hw ?_
    refine ex_iadd dX12_moves_65 ?_
    refine st_i6 dX12_moves_66 (by first | exact rfl | exact trivial) ?_
    refine ex_iload dX12_moves_68 rfl ?_
    refine ex_iload dX12_moves_70 rfl ?_
    refine ex_bipush (v := 16) dX12_moves_72 (by decide) ?_
    refine ex_idiv dX12_moves_74 (by decide) ?_
    refine ex_isub dX12_moves_75 ?_
    refine st_i6 dX12_moves_76 (by first | exact rfl | exact trivial) ?_
    refine ex_iload_n dX12_moves_78 rfl ?_
    refine ex_iload dX12_moves_79 rfl ?_
    refine ex_iadd dX12_moves_81 ?_
    refine st_i3 dX12_moves_82 (by first | exact rfl | exact trivial) ?_
    refine ex_aload_n dX12_moves_83 rfl ?_
    refine ex_iload_n dX12_moves_84 rfl ?_
    refine ex_bipush (v := 6) dX12_moves_85 (by decide) ?_
    refine ex_iadd dX12_moves_87 ?_
    refine ex_iload_n dX12_moves_88 rfl ?_
    refine rx_cV (kd := 12) dX12_moves_89 rfl lk_X12_160 rfl (by decide) (by first | assumption | rfl) ⟨⟨rfl, rfl⟩, by decide, by decide⟩ rfl (Nat.le_of_ble_eq_true rfl) rfl (s_X12_put_ (p := a + 6) (nI_add a 6) (by omega) hb hB) (Rv.k ?_)
    refine ex_aload_n dX12_moves_92 rfl ?_
    refine ex_iload_n dX12_moves_93 rfl ?_
    refine ex_bipush (v := 7) dX12_moves_94 (by decide) ?_
    refine ex_iadd dX12_moves_96 ?_
    refine ex_iload dX12_moves_97 rfl ?_
    refine rx_cV (kd := 12) dX12_moves_99 rfl lk_X12_160 rfl (by decide) (by first | assumption | rfl) ⟨⟨rfl, rfl⟩, by decide, by decide⟩ rfl (Nat.le_of_ble_eq_true rfl) rfl (s_X12_put_ (p := a + 7) (nI_add a 7) (by omega) hb hB) (Rv.k ?_)
    refine ex_vret dX12_moves_102 rfl ⟨rfl, Nat.le_refl _⟩ ?_
    refine ⟨rfl, ?_⟩
    unfold mvN mvV
    rw [hf]
    rfl
set_option maxRecDepth 100000 in
set_option maxHeartbeats 4000000 in
theorem s_X12_watches {B : Nat} {N : Nat → Int32} {a : Nat} (ha : 95 ≤ a) (ha2 : a ≤ 115) (hb : I 200 24 = nI B) (hB : B ≤ 500) : Ca G mdX12_watches [.ref 200, .int (nI a)] (mk (nw I B N) L t) (Rv (mk (nw I B (wtN N a)) L t)) := by
  refine Ca.intro [some (.ref 200), some (.int (nI a)), none] (by decide) (Nat.le_of_ble_eq_true rfl) rfl rfl ?_
  refine ex_aload_n dX12_watches_0 rfl ?_
  refine ex_iload_n dX12_watches_1 rfl ?_
  refine ex_bipush (v := 6) dX12_watches_2 (by decide) ?_
  refine ex_iadd dX12_watches_4 ?_
  refine rx_cV (kd := 12) dX12_watches_5 rfl lk_X12_183 rfl (by decide) (by first | assumption | rfl) ⟨⟨rfl, rfl⟩, by decide, by decide⟩ rfl (Nat.le_of_ble_eq_true rfl) rfl (s_X12_v (p := a + 6) (nI_add a 6) (by omega) hb hB) (Rs.k ?_)
  refine ex_aload_n dX12_watches_8 rfl ?_
  refine ex_iload_n dX12_watches_9 rfl ?_
  refine ex_iconst (v := 3) dX12_watches_10 (by decide) ?_
  refine ex_iadd dX12_watches_11 ?_
  refine rx_cV (kd := 12) dX12_watches_12 rfl lk_X12_183 rfl (by decide) (by first | assumption | rfl) ⟨⟨rfl, rfl⟩, by decide, by decide⟩ rfl (Nat.le_of_ble_eq_true rfl) rfl (s_X12_v (p := a + 3) (nI_add a 3) (by omega) hb hB) (Rs.k ?_)
  refine ex_aload_n dX12_watches_15 rfl ?_
  refine ex_iload_n dX12_watches_16 rfl ?_
  refine ex_iconst (v := 4) dX12_watches_17 (by decide) ?_
  refine ex_iadd dX12_watches_18 ?_
  refine rx_cV (kd := 12) dX12_watches_19 rfl lk_X12_183 rfl (by decide) (by first | assumption | rfl) ⟨⟨rfl, rfl⟩, by decide, by decide⟩ rfl (Nat.le_of_ble_eq_true rfl) rfl (s_X12_v (p := a + 4) (nI_add a 4) (by omega) hb hB) (Rs.k ?_)
  refine rx_cS dX12_watches_22 rfl lk_X12_198 ⟨⟨rfl, rfl⟩, by decide, by decide⟩ rfl (Nat.le_of_ble_eq_true rfl) rfl s_X12_strainOf (Rs.k ?_)
  refine st_i2 dX12_watches_25 (by first | exact rfl | exact trivial) ?_
  refine ex_aload_n dX12_watches_26 rfl ?_
  refine ex_iload_n dX12_watches_27 rfl ?_
  refine ex_bipush (v := 8) dX12_watches_28 (by decide) ?_
  refine ex_iadd dX12_watches_30 ?_
  refine ex_aload_n dX12_watches_31 rfl ?_
  refine ex_iload_n dX12_watches_32 rfl ?_
  refine ex_bipush (v := 8) dX12_watches_33 (by decide) ?_
  refine ex_iadd dX12_watches_35 ?_
  refine rx_cV (kd := 12) dX12_watches_36 rfl lk_X12_183 rfl (by decide) (by first | assumption | rfl) ⟨⟨rfl, rfl⟩, by decide, by decide⟩ rfl (Nat.le_of_ble_eq_true rfl) rfl (s_X12_v (p := a + 8) (nI_add a 8) (by omega) hb hB) (Rs.k ?_)
  refine ex_iload_n dX12_watches_39 rfl ?_
  refine rx_cS dX12_watches_40 rfl lk_X12_202 ⟨⟨rfl, rfl⟩, by decide, by decide⟩ rfl (Nat.le_of_ble_eq_true rfl) rfl s_X12_greater (Rs.k ?_)
  refine rx_cV (kd := 12) dX12_watches_43 rfl lk_X12_160 rfl (by decide) (by first | assumption | rfl) ⟨⟨rfl, rfl⟩, by decide, by decide⟩ rfl (Nat.le_of_ble_eq_true rfl) rfl (s_X12_put_ (p := a + 8) (nI_add a 8) (by omega) hb hB) (Rv.k ?_)
  refine ex_aload_n dX12_watches_46 rfl ?_
  refine ex_iload_n dX12_watches_47 rfl ?_
  refine ex_bipush (v := 9) dX12_watches_48 (by decide) ?_
  refine ex_iadd dX12_watches_50 ?_
  refine rx_cV (kd := 12) dX12_watches_51 rfl lk_X12_183 rfl (by decide) (by first | assumption | rfl) ⟨⟨rfl, rfl⟩, by decide, by decide⟩ rfl (Nat.le_of_ble_eq_true rfl) rfl (s_X12_v (p := a + 9) (nI_add a 9) (by omega) hb hB) (Rs.k ?_)
  rw [upn_n (by omega)]
  refine ex_bipush (v := (-9)) dX12_watches_54 (by decide) ?_
  refine ex_icmp_ne 84 dX12_watches_56 (by decide) (fun h56 => ?_) (fun h56 => ?_)
  · have hc : wtN N a = wt1 N a := if_neg (fun z => h56 z.1)
    refine ex_vret dX12_watches_84 rfl ⟨rfl, Nat.le_refl _⟩ ?_
    exact ⟨rfl, by rw [hc]; rfl⟩
  · skip
    refine ex_iload_n dX12_watches_59 rfl ?_
    refine ex_aload_n dX12_watches_60 rfl ?_
    refine ex_iload_n dX12_watches_61 rfl ?_
    refine ex_iconst (v := 5) dX12_watches_62 (by decide) ?_
    refine ex_iadd dX12_watches_63 ?_
    refine rx_cV (kd := 12) dX12_watches_64 rfl lk_X12_183 rfl (by decide) (by first | assumption | rfl) ⟨⟨rfl, rfl⟩, by decide, by decide⟩ rfl (Nat.le_of_ble_eq_true rfl) rfl (s_X12_v (p := a + 5) (nI_add a 5) (by omega) hb hB) (Rs.k ?_)
    rw [upn_n (by omega)]
    refine ex_icmp_le 84 dX12_watches_67 (by decide) (fun h67 => ?_) (fun h67 => ?_)
    · have hc : wtN N a = wt1 N a := if_neg (fun z => absurd z.2 (Int32.not_lt.mpr h67))
      refine ex_vret dX12_watches_84 rfl ⟨rfl, Nat.le_refl _⟩ ?_
      exact ⟨rfl, by rw [hc]; rfl⟩
    · have hc : wtN N a = upn (wt1 N a) (a + 9) (N 30) := if_pos ⟨h56, Int32.not_le.mp h67⟩
      refine ex_aload_n dX12_watches_70 rfl ?_
      refine ex_iload_n dX12_watches_71 rfl ?_
      refine ex_bipush (v := 9) dX12_watches_72 (by decide) ?_
      refine ex_iadd dX12_watches_74 ?_
      refine ex_aload_n dX12_watches_75 rfl ?_
      refine ex_bipush (v := 30) dX12_watches_76 (by decide) ?_
      refine rx_cV (kd := 12) dX12_watches_78 rfl lk_X12_183 rfl (by decide) (by first | assumption | rfl) ⟨⟨rfl, rfl⟩, by decide, by decide⟩ rfl (Nat.le_of_ble_eq_true rfl) rfl (s_X12_v (p := 30) rfl (by omega) hb hB) (Rs.k ?_)
      rw [upn_n (by omega)]
      refine rx_cV (kd := 12) dX12_watches_81 rfl lk_X12_160 rfl (by decide) (by first | assumption | rfl) ⟨⟨rfl, rfl⟩, by decide, by decide⟩ rfl (Nat.le_of_ble_eq_true rfl) rfl (s_X12_put_ (p := a + 9) (nI_add a 9) (by omega) hb hB) (Rv.k ?_)
      refine ex_vret dX12_watches_84 rfl ⟨rfl, Nat.le_refl _⟩ ?_
      exact ⟨rfl, by rw [hc]; rfl⟩
theorem mvN_off {N : Nat → Int32} {a p : Nat} {x : Int32} (h : p ≠ a + 6) (h2 : p ≠ a + 7) : mvN N a x p = N p := by
  unfold mvN
  rw [upn_n h2, upn_n h]
theorem wtN_off {N : Nat → Int32} {a p : Nat} (h : p ≠ a + 8) (h2 : p ≠ a + 9) : wtN N a p = N p := by
  unfold wtN wt1
  split
  · rw [upn_n h2, upn_n h]
  · rw [upn_n h]
def rdN (N : Nat → Int32) (n k : Nat) : Nat → Int32 :=
  match k with
  | 0 => N
  | k + 1 => if rdN N n k (95 + 10 * k) = 1 then wtN (mvN (rdN N n k) (95 + 10 * k) (fTo (rdN N n k) (rdN N n k (95 + 10 * k + 1)).toNatClampNeg + fFr (rdN N n k) n (rdN N n k (95 + 10 * k + 1)).toNatClampNeg)) (95 + 10 * k) else rdN N n k
termination_by k
theorem rdN_0 {N : Nat → Int32} {n : Nat} : rdN N n 0 = N := by rw [rdN]
theorem rdN_s {N : Nat → Int32} {n k : Nat} : rdN N n (k + 1) = if rdN N n k (95 + 10 * k) = 1 then wtN (mvN (rdN N n k) (95 + 10 * k) (fTo (rdN N n k) (rdN N n k (95 + 10 * k + 1)).toNatClampNeg + fFr (rdN N n k) n (rdN N n k (95 + 10 * k + 1)).toNatClampNeg)) (95 + 10 * k) else rdN N n k := by rw [rdN]
theorem rdN_off {N : Nat → Int32} {n p : Nat} : ∀ k, (∀ i, i < k → p < 95 + 10 * i + 6 ∨ 95 + 10 * i + 10 ≤ p) → rdN N n k p = N p := by
  intro k
  induction k with
  | zero => intro _; rw [rdN_0]
  | succ k ih =>
    intro h
    have hk := h k (by omega)
    rw [rdN_s]
    split
    · rw [wtN_off (by omega) (by omega), mvN_off (by omega) (by omega)]
      exact ih (fun i hi => h i (by omega))
    · exact ih (fun i hi => h i (by omega))
def gLo (N : Nat → Int32) (s : Int32) (k : Nat) : Int32 := if s = 0 then N (31 + k) else if N (63 + k) < N (31 + k) then N (63 + k) else N (31 + k)
def gHi (N : Nat → Int32) (s : Int32) (k : Nat) : Int32 := if s = 0 then N (31 + k) else if N (31 + k) < N (79 + k) then N (79 + k) else N (31 + k)
def rgN (N : Nat → Int32) (s : Int32) (k : Nat) : Nat → Int32 := wnd (wnd N 63 k (gLo N s)) 79 k (gHi N s)
theorem rgN_0 {N : Nat → Int32} {s : Int32} : rgN N s 0 = N := by
  unfold rgN
  rw [wnd_0, wnd_0]
theorem rgN_o {N : Nat → Int32} {s : Int32} {k p : Nat} (h : p < 63 ∨ 63 + k ≤ p) (h2 : p < 79 ∨ 79 + k ≤ p) : rgN N s k p = N p := by
  unfold rgN
  rw [wnd_out h2, wnd_out h]
theorem rgN_s {N : Nat → Int32} {s : Int32} {k : Nat} (hk : k < 16) : upn (upn (rgN N s k) (63 + k) (gLo N s k)) (79 + k) (gHi N s k) = rgN N s (k + 1) := by
  unfold rgN
  rw [← wnd_s (N := wnd N 63 (k + 1) (gLo N s)), ← wnd_s (N := N)]
  congr 1
  funext p
  unfold upn
  by_cases h : p = 63 + k
  · rw [if_pos h, wnd_out (by omega), if_pos h]
  · rw [if_neg h]
    unfold wnd
    by_cases h2 : 79 ≤ p ∧ p < 79 + k
    · rw [if_pos h2, if_pos h2]
    · rw [if_neg h2, if_neg h2]
      exact (if_neg h).symm
def WfN (N : Nat → Int32) (n mo c : Nat) : Prop := (3 ≤ n ∧ n ≤ 16) ∧ N 0 = nI n ∧ (mo < n ∧ N 1 = nI mo) ∧ (c ≤ 4 ∧ N 21 = nI c ∧ ∀ i, i < c → ¬ N (22 + 2 * i) = 0) ∧ ∀ s, s < 3 → N (95 + 10 * s) = 1 → (∃ j, j < 16 ∧ N (95 + 10 * s + 1) = nI j) ∧ ¬ 4 * N (95 + 10 * s + 2) = 0
def s1N (N : Nat → Int32) (n : Nat) : Nat → Int32 := wnd N 47 (n - 1) (flV N)
def s2N (N : Nat → Int32) (n mo c : Nat) : Nat → Int32 := htN (s1N N n) n mo (puN (s1N N n) (N 30) c)
def s3N (N : Nat → Int32) (n mo c : Nat) : Nat → Int32 := rdN (s2N N n mo c) n 3
def secN (N : Nat → Int32) (n mo c : Nat) : Nat → Int32 := upn (rgN (s3N N n mo c) (N 30) n) 30 (N 30 + 1)
theorem s2N_o {N : Nat → Int32} {n mo c p : Nat} (hn : n ≤ 16) (hm : mo < n) (h : p < 31 ∨ 63 ≤ p) : s2N N n mo c p = N p := by
  unfold s2N htN s1N
  rw [upn_n (by omega), wnd_out (by omega), wnd_out (by omega)]
theorem s3N_o {N : Nat → Int32} {n mo c p : Nat} (hn : n ≤ 16) (hm : mo < n) (h : p < 31 ∨ (63 ≤ p ∧ p < 95)) : s3N N n mo c p = N p := by
  unfold s3N
  rw [rdN_off 3 (fun i hi => by omega), s2N_o hn hm (by omega)]
theorem s3N_r {N : Nat → Int32} {n mo c i j : Nat} (hn : n ≤ 16) (hm : mo < n) (hi : i < 3) (hj : j < 6) : s3N N n mo c (95 + 10 * i + j) = N (95 + 10 * i + j) := by
  unfold s3N
  rw [rdN_off 3 (fun i hi => by omega), s2N_o hn hm (by omega)]
theorem secN_c {N : Nat → Int32} {n mo c p : Nat} (hn : n ≤ 16) (hm : mo < n) (h : p < 30) : secN N n mo c p = N p := by
  unfold secN
  rw [upn_n (by omega), rgN_o (by omega) (by omega), s3N_o hn hm (by omega)]
theorem secN_r {N : Nat → Int32} {n mo c i j : Nat} (hn : n ≤ 16) (hm : mo < n) (hi : i < 3) (hj : j < 6) : secN N n mo c (95 + 10 * i + j) = N (95 + 10 * i + j) := by
  unfold secN
  rw [upn_n (by omega), rgN_o (by omega) (by omega), s3N_r hn hm hi hj]
theorem WfN_of {N M : Nat → Int32} {n mo c : Nat} (hc : ∀ p, p < 30 → M p = N p) (hr : ∀ i j, i < 3 → j < 6 → M (95 + 10 * i + j) = N (95 + 10 * i + j)) (h : WfN N n mo c) : WfN M n mo c := by
  obtain ⟨h1, h2, h3, h4, h5⟩ := h
  refine ⟨h1, by rw [hc 0 (by decide)]; exact h2, ⟨h3.1, by rw [hc 1 (by decide)]; exact h3.2⟩, ⟨h4.1, by rw [hc 21 (by decide)]; exact h4.2.1, fun i hi => by rw [hc (22 + 2 * i) (by omega)]; exact h4.2.2 i hi⟩, fun s hs => ?_⟩
  have e0 := hr s 0 hs (by decide)
  rw [Nat.add_zero] at e0
  rw [e0, hr s 1 hs (by decide), hr s 2 hs (by decide)]
  exact h5 s hs
theorem WfN_s {N : Nat → Int32} {n mo c : Nat} (h : WfN N n mo c) : WfN (secN N n mo c) n mo c := WfN_of (fun p hp => secN_c h.1.2 h.2.2.1.1 hp) (fun i j hi hj => secN_r h.1.2 h.2.2.1.1 hi hj) h
set_option maxRecDepth 100000 in
set_option maxHeartbeats 4000000 in
theorem s_X12_second {B : Nat} {N : Nat → Int32} {n mo c : Nat} (hw : WfN N n mo c) (hb : I 200 24 = nI B) (hB : B ≤ 500) : Ca G mdX12_second [.ref 200] (mk (nw I B N) L t) (Rv (mk (nw I B (secN N n mo c)) L t)) := by
  refine Ca.intro [some (.ref 200), none, none, none] (by decide) (Nat.le_of_ble_eq_true rfl) rfl rfl ?_
  have hw1 := hw.1
  have hw3 := hw.2.2.1.1
  refine ex_aload_n dX12_second_0 rfl ?_
  refine ex_bipush (v := 30) dX12_second_1 (by decide) ?_
  refine rx_cV (kd := 12) dX12_second_3 rfl lk_X12_183 rfl (by decide) (by first | assumption | rfl) ⟨⟨rfl, rfl⟩, by decide, by decide⟩ rfl (Nat.le_of_ble_eq_true rfl) rfl (s_X12_v (p := 30) rfl (by omega) hb hB) (Rs.k ?_)
  refine st_i1 dX12_second_6 (by first | exact rfl | exact trivial) ?_
  refine ex_aload_n dX12_second_7 rfl ?_
  refine rx_cV (kd := 12) dX12_second_8 rfl lk_X12_205 rfl (by decide) (by first | assumption | rfl) ⟨⟨rfl, rfl⟩, by decide, by decide⟩ rfl (Nat.le_of_ble_eq_true rfl) rfl (s_X12_flows hw.1.1 hw.1.2 hw.2.1 hb hB) (Rv.k ?_)
  refine ex_aload_n dX12_second_11 rfl ?_
  refine ex_aload_n dX12_second_12 rfl ?_
  refine ex_iload_n dX12_second_13 rfl ?_
  refine rx_cV (kd := 12) dX12_second_14 rfl lk_X12_208 rfl (by decide) (by first | assumption | rfl) ⟨⟨rfl, rfl⟩, by decide, by decide⟩ rfl (Nat.le_of_ble_eq_true rfl) rfl (s_X12_pushAt hw.2.2.2.1.1 (by rw [wnd_out (by omega)]; exact hw.2.2.2.1.2.1) (fun i hi => by rw [wnd_out (by have := hw.2.2.2.1.1; omega)]; exact hw.2.2.2.1.2.2 i hi) hb hB) (Rs.k ?_)
  refine rx_cV (kd := 12) dX12_second_17 rfl lk_X12_211 rfl (by decide) (by first | assumption | rfl) ⟨⟨rfl, rfl⟩, by decide, by decide⟩ rfl (Nat.le_of_ble_eq_true rfl) rfl (s_X12_heights hw.1.1 hw.1.2 (by rw [wnd_out (by omega)]; exact hw.2.1) hw.2.2.1.1 (by rw [wnd_out (by omega)]; exact hw.2.2.1.2) hb hB) (Rv.k ?_)
  refine ex_iconst (v := 0) dX12_second_20 (by decide) ?_
  refine st_i2 dX12_second_21 (by first | exact rfl | exact trivial) ?_
  have key := loop_up (G := G) (d := mdX12_second) (pc := 22) (st := []) (uc := 0) (us := 0) (P := Rv (mk (nw I B (secN N n mo c)) L t)) 3 (fun k => mk (nw I B (rdN (s2N N n mo c) n k)) L t) (fun k => [some (.ref 200), some (.int (N 30)), some (.int (nI k)), none]) ?_ ?_ 0 (Nat.zero_le _)
  · rw [rdN_0] at key
    exact key
  · intro k hk ih
    have e0 : ∀ j, j < 6 → (rdN (s2N N n mo c) n k) (95 + 10 * k + j) = N (95 + 10 * k + j) := fun j hj => by rw [rdN_off k (fun i hi => by omega), s2N_o hw.1.2 hw.2.2.1.1 (by omega)]
    have e00 := e0 0 (by decide)
    rw [Nat.add_zero] at e00
    refine ex_iload_n dX12_second_22 rfl ?_
    refine ex_iconst (v := 3) dX12_second_23 (by decide) ?_
    refine ex_icmp_ge 80 dX12_second_24 (by decide) (fun h24 => ?_) (fun h24 => ?_)
    · exact absurd h24 (nI_ge hk (by decide))
    · skip
      refine ex_iload_n dX12_second_27 rfl ?_
      refine rx_cS dX12_second_28 rfl lk_X12_164 ⟨⟨rfl, rfl⟩, by decide, by decide⟩ rfl (Nat.le_of_ble_eq_true rfl) rfl s_X12_rider (Rs.k ?_)
      refine st_i3 dX12_second_31 (by first | exact rfl | exact trivial) ?_
      refine ex_aload_n dX12_second_32 rfl ?_
      refine ex_iload_n dX12_second_33 rfl ?_
      refine rx_cV (kd := 12) dX12_second_34 rfl lk_X12_183 rfl (by decide) (by first | assumption | rfl) ⟨⟨rfl, rfl⟩, by decide, by decide⟩ rfl (Nat.le_of_ble_eq_true rfl) rfl (s_X12_v (p := 95 + 10 * k) rfl (by omega) hb hB) (Rs.k ?_)
      refine ex_iconst (v := 1) dX12_second_37 (by decide) ?_
      refine ex_icmp_ne 74 dX12_second_38 (by decide) (fun h38 => ?_) (fun h38 => ?_)
      · have hc : rdN (s2N N n mo c) n (k + 1) = (rdN (s2N N n mo c) n k) := rdN_s.trans (if_neg h38)
        refine inc2 (v := _ + 1) dX12_second_74 (by rfl) (by first | exact rfl | exact trivial) ?_
        refine ex_goto 22 dX12_second_77 (by decide) ?_
        refine fg3 ?_
        rw [nI_1]
        rw [hc] at ih
        exact ih
      · obtain ⟨⟨j, hj, ej⟩, g2⟩ := hw.2.2.2.2 k hk (e00.symm.trans h38)
        have hc : rdN (s2N N n mo c) n (k + 1) = wtN (mvN (rdN (s2N N n mo c) n k) (95 + 10 * k) (fTo (rdN (s2N N n mo c) n k) j + fFr (rdN (s2N N n mo c) n k) n j)) (95 + 10 * k) := by
          rw [rdN_s, if_pos h38, e0 1 (by decide), ej, nI_clamp (by omega)]
        refine ex_aload_n dX12_second_41 rfl ?_
        refine ex_iload_n dX12_second_42 rfl ?_
        refine ex_aload_n dX12_second_43 rfl ?_
        refine ex_aload_n dX12_second_44 rfl ?_
        refine ex_iload_n dX12_second_45 rfl ?_
        refine ex_iconst (v := 1) dX12_second_46 (by decide) ?_
        refine ex_iadd dX12_second_47 ?_
        refine rx_cV (kd := 12) dX12_second_48 rfl lk_X12_183 rfl (by decide) (by first | assumption | rfl) ⟨⟨rfl, rfl⟩, by decide, by decide⟩ rfl (Nat.le_of_ble_eq_true rfl) rfl (s_X12_v (p := 95 + 10 * k + 1) (nI_1 _) (by omega) hb hB) (Rs.k ?_)
        rw [e0 1 (by decide), ej]
        refine rx_cV (kd := 12) dX12_second_51 rfl lk_X12_192 rfl (by decide) (by first | assumption | rfl) ⟨⟨rfl, rfl⟩, by decide, by decide⟩ rfl (Nat.le_of_ble_eq_true rfl) rfl (s_X12_flowTo (k := j) (by omega) hb hB) (Rs.k ?_)
        refine ex_aload_n dX12_second_54 rfl ?_
        refine ex_aload_n dX12_second_55 rfl ?_
        refine ex_iload_n dX12_second_56 rfl ?_
        refine ex_iconst (v := 1) dX12_second_57 (by decide) ?_
        refine ex_iadd dX12_second_58 ?_
        refine rx_cV (kd := 12) dX12_second_59 rfl lk_X12_183 rfl (by decide) (by first | assumption | rfl) ⟨⟨rfl, rfl⟩, by decide, by decide⟩ rfl (Nat.le_of_ble_eq_true rfl) rfl (s_X12_v (p := 95 + 10 * k + 1) (nI_1 _) (by omega) hb hB) (Rs.k ?_)
        rw [e0 1 (by decide), ej]
        refine rx_cV (kd := 12) dX12_second_62 rfl lk_X12_195 rfl (by decide) (by first | assumption | rfl) ⟨⟨rfl, rfl⟩, by decide, by decide⟩ rfl (Nat.le_of_ble_eq_true rfl) rfl (s_X12_flowFrom (k := j) (by omega) hw.1.2 (by rw [rdN_off k (fun i hi => by omega), s2N_o hw.1.2 hw.2.2.1.1 (by omega)]; exact hw.2.1) hb hB) (Rs.k ?_)
        refine ex_iadd dX12_second_65 ?_
        refine rx_cV (kd := 12) dX12_second_66 rfl lk_X12_214 rfl (by decide) (by first | assumption | rfl) ⟨⟨rfl, rfl⟩, by decide, by decide⟩ rfl (Nat.le_of_ble_eq_true rfl) rfl (s_X12_moves (by omega) (by omega) (by rw [e0 2 (by decide)]; exact g2) hb hB) (Rv.k ?_)
        refine ex_aload_n dX12_second_69 rfl ?_
        refine ex_iload_n dX12_second_70 rfl ?_
        refine rx_cV (kd := 12) dX12_second_71 rfl lk_X12_217 rfl (by decide) (by first | assumption | rfl) ⟨⟨rfl, rfl⟩, by decide, by decide⟩ rfl (Nat.le_of_ble_eq_true rfl) rfl (s_X12_watches (by omega) (by omega) hb hB) (Rv.k ?_)
        refine inc2 (v := _ + 1) dX12_second_74 (by rfl) (by first | exact rfl | exact trivial) ?_
        refine ex_goto 22 dX12_second_77 (by decide) ?_
        refine fg3 ?_
        rw [nI_1]
        rw [hc] at ih
        exact ih
  · skip
    refine ex_iload_n dX12_second_22 rfl ?_
    refine ex_iconst (v := 3) dX12_second_23 (by decide) ?_
    refine ex_icmp_ge 80 dX12_second_24 (by decide) (fun h24 => ?_) (fun h24 => ?_)
    · skip
      refine ex_iconst (v := 0) dX12_second_80 (by decide) ?_
      refine st_i2 dX12_second_81 (by first | exact rfl | exact trivial) ?_
      have key := loop_up (G := G) (d := mdX12_second) (pc := 82) (st := []) (uc := 0) (us := 0) (P := Rv (mk (nw I B (secN N n mo c)) L t)) n (fun k => mk (nw I B (rgN (s3N N n mo c) (N 30) k)) L t) (fun k => [some (.ref 200), some (.int (N 30)), some (.int (nI k)), none]) ?_ ?_ 0 (Nat.zero_le _)
      · rw [rgN_0] at key
        exact key
      · intro k hk ih
        refine ex_iload_n dX12_second_82 rfl ?_
        refine ex_aload_n dX12_second_83 rfl ?_
        refine ex_iconst (v := 0) dX12_second_84 (by decide) ?_
        refine rx_cV (kd := 12) dX12_second_85 rfl lk_X12_183 rfl (by decide) (by first | assumption | rfl) ⟨⟨rfl, rfl⟩, by decide, by decide⟩ rfl (Nat.le_of_ble_eq_true rfl) rfl (s_X12_v (p := 0) rfl (by omega) hb hB) (Rs.k ?_)
        rw [rgN_o (by omega) (by omega), s3N_o hw.1.2 hw.2.2.1.1 (by omega), hw.2.1]
        refine ex_icmp_ge 162 dX12_second_88 (by decide) (fun h88 => ?_) (fun h88 => ?_)
        · exact absurd h88 (nI_ge hk (by omega))
        · skip
          refine ex_aload_n dX12_second_91 rfl ?_
          refine ex_bipush (v := 31) dX12_second_92 (by decide) ?_
          refine ex_iload_n dX12_second_94 rfl ?_
          refine ex_iadd dX12_second_95 ?_
          refine rx_cV (kd := 12) dX12_second_96 rfl lk_X12_183 rfl (by decide) (by first | assumption | rfl) ⟨⟨rfl, rfl⟩, by decide, by decide⟩ rfl (Nat.le_of_ble_eq_true rfl) rfl (s_X12_v (p := 31 + k) (nI_add 31 k) (by omega) hb hB) (Rs.k ?_)
          rw [rgN_o (by omega) (by omega)]
          refine st_i3 dX12_second_99 (by first | exact rfl | exact trivial) ?_
          refine ex_aload_n dX12_second_100 rfl ?_
          refine ex_bipush (v := 63) dX12_second_101 (by decide) ?_
          refine ex_iload_n dX12_second_103 rfl ?_
          refine ex_iadd dX12_second_104 ?_
          refine ex_iload_n dX12_second_105 rfl ?_
          refine ex_if_ne 113 dX12_second_106 (by decide) (fun h106 => ?_) (fun h106 => ?_)
          · have hl : gLo (s3N N n mo c) (N 30) k = (if s3N N n mo c (63 + k) < s3N N n mo c (31 + k) then s3N N n mo c (63 + k) else s3N N n mo c (31 + k)) := if_neg h106
            refine ex_aload_n dX12_second_113 rfl ?_
            refine ex_bipush (v := 63) dX12_second_114 (by decide) ?_
            refine ex_iload_n dX12_second_116 rfl ?_
            refine ex_iadd dX12_second_117 ?_
            refine rx_cV (kd := 12) dX12_second_118 rfl lk_X12_183 rfl (by decide) (by first | assumption | rfl) ⟨⟨rfl, rfl⟩, by decide, by decide⟩ rfl (Nat.le_of_ble_eq_true rfl) rfl (s_X12_v (p := 63 + k) (nI_add 63 k) (by omega) hb hB) (Rs.k ?_)
            rw [rgN_o (by omega) (by omega)]
            refine ex_iload_n dX12_second_121 rfl ?_
            refine rx_cS dX12_second_122 rfl lk_X12_189 ⟨⟨rfl, rfl⟩, by decide, by decide⟩ rfl (Nat.le_of_ble_eq_true rfl) rfl s_X12_lesser (Rs.k ?_)
            refine rx_cV (kd := 12) dX12_second_125 rfl lk_X12_160 rfl (by decide) (by first | assumption | rfl) ⟨⟨rfl, rfl⟩, by decide, by decide⟩ rfl (Nat.le_of_ble_eq_true rfl) rfl (s_X12_put_ (p := 63 + k) (nI_add 63 k) (by omega) hb hB) (Rv.k ?_)
            refine ex_aload_n dX12_second_128 rfl ?_
            refine ex_bipush (v := 79) dX12_second_129 (by decide) ?_
            refine ex_iload_n dX12_second_131 rfl ?_
            refine ex_iadd dX12_second_132 ?_
            refine ex_iload_n dX12_second_133 rfl ?_
            refine ex_if_ne 141 dX12_second_134 (by decide) (fun h134 => ?_) (fun h134 => ?_)
            · have hh : gHi (s3N N n mo c) (N 30) k = (if s3N N n mo c (31 + k) < s3N N n mo c (79 + k) then s3N N n mo c (79 + k) else s3N N n mo c (31 + k)) := if_neg h134
              refine ex_aload_n dX12_second_141 rfl ?_
              refine ex_bipush (v := 79) dX12_second_142 (by decide) ?_
              refine ex_iload_n dX12_second_144 rfl ?_
              refine ex_iadd dX12_second_145 ?_
              refine rx_cV (kd := 12) dX12_second_146 rfl lk_X12_183 rfl (by decide) (by first | assumption | rfl) ⟨⟨rfl, rfl⟩, by decide, by decide⟩ rfl (Nat.le_of_ble_eq_true rfl) rfl (s_X12_v (p := 79 + k) (nI_add 79 k) (by omega) hb hB) (Rs.k ?_)
              rw [upn_n (by omega), rgN_o (by omega) (by omega)]
              refine ex_iload_n dX12_second_149 rfl ?_
              refine rx_cS dX12_second_150 rfl lk_X12_202 ⟨⟨rfl, rfl⟩, by decide, by decide⟩ rfl (Nat.le_of_ble_eq_true rfl) rfl s_X12_greater (Rs.k ?_)
              refine rx_cV (kd := 12) dX12_second_153 rfl lk_X12_160 rfl (by decide) (by first | assumption | rfl) ⟨⟨rfl, rfl⟩, by decide, by decide⟩ rfl (Nat.le_of_ble_eq_true rfl) rfl (s_X12_put_ (p := 79 + k) (nI_add 79 k) (by omega) hb hB) (Rv.k ?_)
              refine inc2 (v := _ + 1) dX12_second_156 (by rfl) (by first | exact rfl | exact trivial) ?_
              refine ex_goto 82 dX12_second_159 (by decide) ?_
              refine fg3 ?_
              rw [nI_1]
              rw [← rgN_s (by omega), hl, hh] at ih
              exact ih
            · have hh : gHi (s3N N n mo c) (N 30) k = s3N N n mo c (31 + k) := if_pos h134
              refine ex_iload_n dX12_second_137 rfl ?_
              refine ex_goto 153 dX12_second_138 (by decide) ?_
              refine rx_cV (kd := 12) dX12_second_153 rfl lk_X12_160 rfl (by decide) (by first | assumption | rfl) ⟨⟨rfl, rfl⟩, by decide, by decide⟩ rfl (Nat.le_of_ble_eq_true rfl) rfl (s_X12_put_ (p := 79 + k) (nI_add 79 k) (by omega) hb hB) (Rv.k ?_)
              refine inc2 (v := _ + 1) dX12_second_156 (by rfl) (by first | exact rfl | exact trivial) ?_
              refine ex_goto 82 dX12_second_159 (by decide) ?_
              refine fg3 ?_
              rw [nI_1]
              rw [← rgN_s (by omega), hl, hh] at ih
              exact ih
          · have hl : gLo (s3N N n mo c) (N 30) k = s3N N n mo c (31 + k) := if_pos h106
            refine ex_iload_n dX12_second_109 rfl ?_
            refine ex_goto 125 dX12_second_110 (by decide) ?_
            refine rx_cV (kd := 12) dX12_second_125 rfl lk_X12_160 rfl (by decide) (by first | assumption | rfl) ⟨⟨rfl, rfl⟩, by decide, by decide⟩ rfl (Nat.le_of_ble_eq_true rfl) rfl (s_X12_put_ (p := 63 + k) (nI_add 63 k) (by omega) hb hB) (Rv.k ?_)
            refine ex_aload_n dX12_second_128 rfl ?_
            refine ex_bipush (v := 79) dX12_second_129 (by decide) ?_
            refine ex_iload_n dX12_second_131 rfl ?_
            refine ex_iadd dX12_second_132 ?_
            refine ex_iload_n dX12_second_133 rfl ?_
            refine ex_if_ne 141 dX12_second_134 (by decide) (fun h134 => ?_) (fun h134 => ?_)
            · have hh : gHi (s3N N n mo c) (N 30) k = (if s3N N n mo c (31 + k) < s3N N n mo c (79 + k) then s3N N n mo c (79 + k) else s3N N n mo c (31 + k)) := if_neg h134
              refine ex_aload_n dX12_second_141 rfl ?_
              refine ex_bipush (v := 79) dX12_second_142 (by decide) ?_
              refine ex_iload_n dX12_second_144 rfl ?_
              refine ex_iadd dX12_second_145 ?_
              refine rx_cV (kd := 12) dX12_second_146 rfl lk_X12_183 rfl (by decide) (by first | assumption | rfl) ⟨⟨rfl, rfl⟩, by decide, by decide⟩ rfl (Nat.le_of_ble_eq_true rfl) rfl (s_X12_v (p := 79 + k) (nI_add 79 k) (by omega) hb hB) (Rs.k ?_)
              rw [upn_n (by omega), rgN_o (by omega) (by omega)]
              refine ex_iload_n dX12_second_149 rfl ?_
              refine rx_cS dX12_second_150 rfl lk_X12_202 ⟨⟨rfl, rfl⟩, by decide, by decide⟩ rfl (Nat.le_of_ble_eq_true rfl) rfl s_X12_greater (Rs.k ?_)
              refine rx_cV (kd := 12) dX12_second_153 rfl lk_X12_160 rfl (by decide) (by first | assumption | rfl) ⟨⟨rfl, rfl⟩, by decide, by decide⟩ rfl (Nat.le_of_ble_eq_true rfl) rfl (s_X12_put_ (p := 79 + k) (nI_add 79 k) (by omega) hb hB) (Rv.k ?_)
              refine inc2 (v := _ + 1) dX12_second_156 (by rfl) (by first | exact rfl | exact trivial) ?_
              refine ex_goto 82 dX12_second_159 (by decide) ?_
              refine fg3 ?_
              rw [nI_1]
              rw [← rgN_s (by omega), hl, hh] at ih
              exact ih
            · have hh : gHi (s3N N n mo c) (N 30) k = s3N N n mo c (31 + k) := if_pos h134
              refine ex_iload_n dX12_second_137 rfl ?_
              refine ex_goto 153 dX12_second_138 (by decide) ?_
              refine rx_cV (kd := 12) dX12_second_153 rfl lk_X12_160 rfl (by decide) (by first | assumption | rfl) ⟨⟨rfl, rfl⟩, by decide, by decide⟩ rfl (Nat.le_of_ble_eq_true rfl) rfl (s_X12_put_ (p := 79 + k) (nI_add 79 k) (by omega) hb hB) (Rv.k ?_)
              refine inc2 (v := _ + 1) dX12_second_156 (by rfl) (by first | exact rfl | exact trivial) ?_
              refine ex_goto 82 dX12_second_159 (by decide) ?_
              refine fg3 ?_
              rw [nI_1]
              rw [← rgN_s (by omega), hl, hh] at ih
              exact ih
      · skip
        refine ex_iload_n dX12_second_82 rfl ?_
        refine ex_aload_n dX12_second_83 rfl ?_
        refine ex_iconst (v := 0) dX12_second_84 (by decide) ?_
        refine rx_cV (kd := 12) dX12_second_85 rfl lk_X12_183 rfl (by decide) (by first | assumption | rfl) ⟨⟨rfl, rfl⟩, by decide, by decide⟩ rfl (Nat.le_of_ble_eq_true rfl) rfl (s_X12_v (p := 0) rfl (by omega) hb hB) (Rs.k ?_)
        rw [rgN_o (by omega) (by omega), s3N_o hw.1.2 hw.2.2.1.1 (by omega), hw.2.1]
        refine ex_icmp_ge 162 dX12_second_88 (by decide) (fun h88 => ?_) (fun h88 => ?_)
        · skip
          refine ex_aload_n dX12_second_162 rfl ?_
          refine ex_bipush (v := 30) dX12_second_163 (by decide) ?_
          refine ex_iload_n dX12_second_165 rfl ?_
          refine ex_iconst (v := 1) dX12_second_166 (by decide) ?_
          refine ex_iadd dX12_second_167 ?_
          refine rx_cV (kd := 12) dX12_second_168 rfl lk_X12_160 rfl (by decide) (by first | assumption | rfl) ⟨⟨rfl, rfl⟩, by decide, by decide⟩ rfl (Nat.le_of_ble_eq_true rfl) rfl (s_X12_put_ (p := 30) rfl (by omega) hb hB) (Rv.k ?_)
          refine ex_vret dX12_second_171 rfl ⟨rfl, Nat.le_refl _⟩ ?_
          exact ⟨rfl, rfl⟩
        · exact absurd (Int32.le_refl _) h88
    · exact absurd (by decide : nI 3 ≤ nI 3) h24
set_option maxRecDepth 100000 in
set_option maxHeartbeats 4000000 in
theorem s_X12_range {B : Nat} {N : Nat → Int32} {k : Nat} (hk : k < 16) (hb : I 200 24 = nI B) (hB : B ≤ 500) : Ca G mdX12_range [.ref 200, .int (nI k)] (mk (nw I B N) L t) (Rs (.int (N (79 + k) - N (63 + k))) (mk (nw I B N) L t)) := by
  refine Ca.intro [some (.ref 200), some (.int (nI k))] (by decide) (Nat.le_of_ble_eq_true rfl) rfl rfl ?_
  refine ex_aload_n dX12_range_0 rfl ?_
  refine ex_bipush (v := 79) dX12_range_1 (by decide) ?_
  refine ex_iload_n dX12_range_3 rfl ?_
  refine ex_iadd dX12_range_4 ?_
  refine rx_cV (kd := 12) dX12_range_5 rfl lk_X12_183 rfl (by decide) (by first | assumption | rfl) ⟨⟨rfl, rfl⟩, by decide, by decide⟩ rfl (Nat.le_of_ble_eq_true rfl) rfl (s_X12_v (p := 79 + k) (nI_add 79 k) (by omega) hb hB) (Rs.k ?_)
  refine ex_aload_n dX12_range_8 rfl ?_
  refine ex_bipush (v := 63) dX12_range_9 (by decide) ?_
  refine ex_iload_n dX12_range_11 rfl ?_
  refine ex_iadd dX12_range_12 ?_
  refine rx_cV (kd := 12) dX12_range_13 rfl lk_X12_183 rfl (by decide) (by first | assumption | rfl) ⟨⟨rfl, rfl⟩, by decide, by decide⟩ rfl (Nat.le_of_ble_eq_true rfl) rfl (s_X12_v (p := 63 + k) (nI_add 63 k) (by omega) hb hB) (Rs.k ?_)
  refine ex_isub dX12_range_16 ?_
  refine ex_iret dX12_range_17 rfl rfl ⟨rfl, Nat.le_refl _⟩ ?_
  exact ⟨rfl, rfl⟩
end M9
