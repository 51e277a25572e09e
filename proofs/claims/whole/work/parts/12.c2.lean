section C2
variable {G : Gp} {I : Im} {L : Nat → Nat → Int64} {t : Nat}
def baNew (I : Im) (a : Nat) : Im := fill (up2 (up2 (up2 (up2 (up2 (up2 I a 1 1) a 2 0) a 3 0) a 4 4) a 5 1) a 6 0) (a + 1) 16 4
def tk1 (I : Im) (a b j : Nat) : Im := up2 I a j (I b j)
def baTake (I : Im) (a b : Nat) : Im := cpR (tk1 (tk1 (tk1 (tk1 (tk1 (tk1 I a b 1) a b 2) a b 3) a b 4) a b 5) a b 6) (b + 1) (a + 1) 0 0 16
abbrev hasC (I : Im) (a : Nat) (k : Int32) : Prop := 0 ≤ k ∧ k < I a 2 ∧ k < 16
abbrev hasW (I : Im) (a : Nat) (k : Int32) : Prop := 0 ≤ k ∧ k < I a 2 - 1 ∧ k < 15
def opn (I : Im) (a q : Nat) : Int32 := if hasW I a (nI q) ∧ ¬ (I a 6 >>> (nI q &&& 31)) &&& 1 = 1 then (if I (a + 1) (q + 1) < I (a + 1) q then I (a + 1) (q + 1) else I (a + 1) q) else 0
def baWall (I : Im) (a : Nat) (k : Int32) : Im := if hasW I a k then up2 I a 6 (I a 6 ||| 1 <<< (k &&& 31)) else I
def baBreak (I : Im) (a : Nat) (k : Int32) : Im := if hasW I a k then up2 I a 6 (I a 6 &&& (1 <<< (k &&& 31) ^^^ (-1))) else I
def baWide (I : Im) (a : Nat) (v : Int32) : Im := up2 I a 4 (if 0 < (if I a 4 + v < 9 then I a 4 + v else 9) then (if I a 4 + v < 9 then I a 4 + v else 9) else 0)
def deepV (x v : Int32) : Int32 := if 1 < (if x + v < 9 then x + v else 9) then (if x + v < 9 then x + v else 9) else 1
def baDeep (I : Im) (a : Nat) (k v : Int32) : Im := if hasC I a k then up2 I (a + 1) k.toNatClampNeg (deepV (I (a + 1) k.toNatClampNeg) v) else I
def facF (I : Im) (a w : Nat) : Int32 := if w = 0 then I a 2 else if w = 1 then I a 3 else if w = 2 then I a 4 else if w = 3 then I a 5 else if w = 4 then I a 6 else if hasC I a (nI (w - 5)) then I (a + 1) (w - 5) else 0
def baMix (I : Im) (a n : Nat) (h : Int64) : Int64 := if I a 1 = 0 then 31 * h + (-1) else mixL (facF I a) h (5 + n)
set_option maxRecDepth 100000 in
set_option maxHeartbeats 4000000 in
theorem s_X0_renew {a : Nat} (ha : K0 a = (0, 7)) : Ca G mdX0_renew [.ref a] (mk I L t) (Rv (mk (baNew I a) L t)) := by
  refine Ca.intro [some (.ref a), none] (by decide) (Nat.le_of_ble_eq_true rfl) rfl rfl ?_
  refine ex_aload_n dX0_renew_0 rfl ?_
  refine ex_iconst (v := 1) dX0_renew_1 (by decide) ?_
  refine p_0_1 dX0_renew_2 rfl wf_X0_15 ⟨rfl, rfl⟩ (by first | assumption | rfl) ?_
  refine ex_aload_n dX0_renew_5 rfl ?_
  refine ex_iconst (v := 0) dX0_renew_6 (by decide) ?_
  refine p_0_2 dX0_renew_7 rfl wf_X0_19 (by first | assumption | rfl) ?_
  refine ex_aload_n dX0_renew_10 rfl ?_
  refine ex_iconst (v := 0) dX0_renew_11 (by decide) ?_
  refine p_0_3 dX0_renew_12 rfl wf_X0_23 (by first | assumption | rfl) ?_
  refine ex_aload_n dX0_renew_15 rfl ?_
  refine ex_iconst (v := 4) dX0_renew_16 (by decide) ?_
  refine p_0_4 dX0_renew_17 rfl wf_X0_26 (by first | assumption | rfl) ?_
  refine ex_aload_n dX0_renew_20 rfl ?_
  refine ex_iconst (v := 1) dX0_renew_21 (by decide) ?_
  refine p_0_5 dX0_renew_22 rfl wf_X0_29 (by first | assumption | rfl) ?_
  refine ex_aload_n dX0_renew_25 rfl ?_
  refine ex_iconst (v := 0) dX0_renew_26 (by decide) ?_
  refine p_0_6 dX0_renew_27 rfl wf_X0_32 (by first | assumption | rfl) ?_
  refine ex_iconst (v := 0) dX0_renew_30 (by decide) ?_
  refine st_i1 dX0_renew_31 (by first | exact rfl | exact trivial) ?_
  have hk1 : K0 (a + 1) = (14, 16) := (lay0 ha).2
  have key := loop_up (G := G) (d := mdX0_renew) (pc := 32) (st := []) (uc := 0) (us := 0) (P := Rv (mk (baNew I a) L t)) 16 (fun k => mk (fill (up2 (up2 (up2 (up2 (up2 (up2 I a 1 1) a 2 0) a 3 0) a 4 4) a 5 1) a 6 0) (a + 1) k 4) L t) (fun k => [some (.ref a), some (.int (nI k))]) ?_ ?_ 0 (Nat.zero_le _)
  · simp only [fill_0] at key
    exact key
  · intro k hk ih
    refine ex_iload_n dX0_renew_32 rfl ?_
    refine ex_bipush (v := 16) dX0_renew_33 (by decide) ?_
    refine ex_icmp_ge 51 dX0_renew_35 (by decide) (fun h35 => ?_) (fun h35 => ?_)
    · exact absurd h35 (nI_ge hk (by decide))
    · skip
      refine ex_aload_n dX0_renew_38 rfl ?_
      refine g_0_0 dX0_renew_39 rfl wf_X0_9 (by first | assumption | rfl) (layR_0_0 (by first | assumption | rfl)) ?_
      refine ex_iload_n dX0_renew_42 rfl ?_
      refine ex_iconst (v := 4) dX0_renew_43 (by decide) ?_
      refine rx_iast dX0_renew_44 (by first | assumption | rfl) (vpi (by omega)) ?_
      refine inc1 (v := _ + 1) dX0_renew_45 (by rfl) (by first | exact rfl | exact trivial) ?_
      refine ex_goto 32 dX0_renew_48 (by decide) ?_
      rw [fill_s (by omega), nI_1]
      exact ih
  · skip
    refine ex_iload_n dX0_renew_32 rfl ?_
    refine ex_bipush (v := 16) dX0_renew_33 (by decide) ?_
    refine ex_icmp_ge 51 dX0_renew_35 (by decide) (fun h35 => ?_) (fun h35 => ?_)
    · skip
      refine ex_vret dX0_renew_51 rfl ⟨rfl, Nat.le_refl _⟩ ?_
      exact ⟨rfl, rfl⟩
    · exact absurd (Int32.le_refl _) h35
set_option maxRecDepth 100000 in
set_option maxHeartbeats 4000000 in
theorem s_X0_take {a b : Nat} (ha : K0 a = (0, 7)) (hb : K0 b = (0, 7)) (hz : I b 1 = 0 ∨ I b 1 = 1) : Ca G mdX0_take [.ref a, .ref b] (mk I L t) (Rv (mk (baTake I a b) L t)) := by
  refine Ca.intro [some (.ref a), some (.ref b)] (by decide) (Nat.le_of_ble_eq_true rfl) rfl rfl ?_
  have hk1 : K0 (a + 1) = (14, 16) := (lay0 ha).2
  have hk2 : K0 (b + 1) = (14, 16) := (lay0 hb).2
  refine ex_aload_n dX0_take_0 rfl ?_
  refine ex_aload_n dX0_take_1 rfl ?_
  refine g_0_1 dX0_take_2 rfl wf_X0_15 (by first | assumption | rfl) ?_
  refine p_0_1 dX0_take_5 rfl wf_X0_15 (nfZ hz) (by first | assumption | rfl) ?_
  refine ex_aload_n dX0_take_8 rfl ?_
  refine ex_aload_n dX0_take_9 rfl ?_
  refine g_0_2 dX0_take_10 rfl wf_X0_19 (by first | assumption | rfl) ?_
  refine p_0_2 dX0_take_13 rfl wf_X0_19 (by first | assumption | rfl) ?_
  refine ex_aload_n dX0_take_16 rfl ?_
  refine ex_aload_n dX0_take_17 rfl ?_
  refine g_0_3 dX0_take_18 rfl wf_X0_23 (by first | assumption | rfl) ?_
  refine p_0_3 dX0_take_21 rfl wf_X0_23 (by first | assumption | rfl) ?_
  refine ex_aload_n dX0_take_24 rfl ?_
  refine ex_aload_n dX0_take_25 rfl ?_
  refine g_0_4 dX0_take_26 rfl wf_X0_26 (by first | assumption | rfl) ?_
  refine p_0_4 dX0_take_29 rfl wf_X0_26 (by first | assumption | rfl) ?_
  refine ex_aload_n dX0_take_32 rfl ?_
  refine ex_aload_n dX0_take_33 rfl ?_
  refine g_0_5 dX0_take_34 rfl wf_X0_29 (by first | assumption | rfl) ?_
  refine p_0_5 dX0_take_37 rfl wf_X0_29 (by first | assumption | rfl) ?_
  refine ex_aload_n dX0_take_40 rfl ?_
  refine ex_aload_n dX0_take_41 rfl ?_
  refine g_0_6 dX0_take_42 rfl wf_X0_32 (by first | assumption | rfl) ?_
  refine p_0_6 dX0_take_45 rfl wf_X0_32 (by first | assumption | rfl) ?_
  refine ex_aload_n dX0_take_48 rfl ?_
  refine g_0_0 dX0_take_49 rfl wf_X0_9 (by first | assumption | rfl) (layR_0_0 (by first | assumption | rfl)) ?_
  refine ex_iconst (v := 0) dX0_take_52 (by decide) ?_
  refine ex_aload_n dX0_take_53 rfl ?_
  refine g_0_0 dX0_take_54 rfl wf_X0_9 (by first | assumption | rfl) (layR_0_0 (by first | assumption | rfl)) ?_
  refine ex_iconst (v := 0) dX0_take_57 (by decide) ?_
  refine ex_bipush (v := 16) dX0_take_58 (by decide) ?_
  refine rx_copy dX0_take_60 rfl lk_X0_35 (by first | assumption | rfl) (by first | assumption | rfl) (by decide) (by decide) (by decide) (by decide) (by decide) ⟨by decide, by decide⟩ (Nat.le_of_ble_eq_true rfl) ?_
  refine ex_vret dX0_take_63 rfl ⟨rfl, Nat.le_refl _⟩ ?_
  exact ⟨rfl, rfl⟩
theorem b2n (p : Prop) [Decidable p] : some (Value.int (b2i p)) = some (Value.int (b2i p)) := rfl
set_option maxRecDepth 100000 in
set_option maxHeartbeats 4000000 in
theorem s_X0_hasCell {a : Nat} {k : Int32} (ha : K0 a = (0, 7)) : Ca G mdX0_hasCell [.ref a, .int k] (mk I L t) (Rs (.int (b2i (0 ≤ k ∧ k < I a 2 ∧ k < 16))) (mk I L t)) := by
  refine Ca.intro [some (.ref a), some (.int k)] (by decide) (Nat.le_of_ble_eq_true rfl) rfl rfl ?_
  refine ex_iload_n dX0_hasCell_0 rfl ?_
  refine ex_if_lt 22 dX0_hasCell_1 (by decide) (fun h1 => ?_) (fun h1 => ?_)
  · skip
    refine ex_iconst (v := 0) dX0_hasCell_22 (by decide) ?_
    refine ex_iret dX0_hasCell_23 rfl rfl ⟨rfl, Nat.le_refl _⟩ ?_
    exact ⟨by first | exact b2i_t (by grind) | exact b2i_f (by grind), rfl⟩
  · skip
    refine ex_iload_n dX0_hasCell_4 rfl ?_
    refine ex_aload_n dX0_hasCell_5 rfl ?_
    refine g_0_2 dX0_hasCell_6 rfl wf_X0_19 (by first | assumption | rfl) ?_
    refine ex_icmp_ge 22 dX0_hasCell_9 (by decide) (fun h9 => ?_) (fun h9 => ?_)
    · skip
      refine ex_iconst (v := 0) dX0_hasCell_22 (by decide) ?_
      refine ex_iret dX0_hasCell_23 rfl rfl ⟨rfl, Nat.le_refl _⟩ ?_
      exact ⟨by first | exact b2i_t (by grind) | exact b2i_f (by grind), rfl⟩
    · skip
      refine ex_iload_n dX0_hasCell_12 rfl ?_
      refine ex_bipush (v := 16) dX0_hasCell_13 (by decide) ?_
      refine ex_icmp_ge 22 dX0_hasCell_15 (by decide) (fun h15 => ?_) (fun h15 => ?_)
      · skip
        refine ex_iconst (v := 0) dX0_hasCell_22 (by decide) ?_
        refine ex_iret dX0_hasCell_23 rfl rfl ⟨rfl, Nat.le_refl _⟩ ?_
        exact ⟨by first | exact b2i_t (by grind) | exact b2i_f (by grind), rfl⟩
      · skip
        refine ex_iconst (v := 1) dX0_hasCell_18 (by decide) ?_
        refine ex_goto 23 dX0_hasCell_19 (by decide) ?_
        refine ex_iret dX0_hasCell_23 rfl rfl ⟨rfl, Nat.le_refl _⟩ ?_
        exact ⟨by first | exact b2i_t (by grind) | exact b2i_f (by grind), rfl⟩
set_option maxRecDepth 100000 in
set_option maxHeartbeats 4000000 in
theorem s_X0_hasWallPlace {a : Nat} {k : Int32} (ha : K0 a = (0, 7)) : Ca G mdX0_hasWallPlace [.ref a, .int k] (mk I L t) (Rs (.int (b2i (0 ≤ k ∧ k < I a 2 - 1 ∧ k < 15))) (mk I L t)) := by
  refine Ca.intro [some (.ref a), some (.int k)] (by decide) (Nat.le_of_ble_eq_true rfl) rfl rfl ?_
  refine ex_iload_n dX0_hasWallPlace_0 rfl ?_
  refine ex_if_lt 24 dX0_hasWallPlace_1 (by decide) (fun h1 => ?_) (fun h1 => ?_)
  · skip
    refine ex_iconst (v := 0) dX0_hasWallPlace_24 (by decide) ?_
    refine ex_iret dX0_hasWallPlace_25 rfl rfl ⟨rfl, Nat.le_refl _⟩ ?_
    exact ⟨by first | exact b2i_t (by grind) | exact b2i_f (by grind), rfl⟩
  · skip
    refine ex_iload_n dX0_hasWallPlace_4 rfl ?_
    refine ex_aload_n dX0_hasWallPlace_5 rfl ?_
    refine g_0_2 dX0_hasWallPlace_6 rfl wf_X0_19 (by first | assumption | rfl) ?_
    refine ex_iconst (v := 1) dX0_hasWallPlace_9 (by decide) ?_
    refine ex_isub dX0_hasWallPlace_10 ?_
    refine ex_icmp_ge 24 dX0_hasWallPlace_11 (by decide) (fun h11 => ?_) (fun h11 => ?_)
    · skip
      refine ex_iconst (v := 0) dX0_hasWallPlace_24 (by decide) ?_
      refine ex_iret dX0_hasWallPlace_25 rfl rfl ⟨rfl, Nat.le_refl _⟩ ?_
      exact ⟨by first | exact b2i_t (by grind) | exact b2i_f (by grind), rfl⟩
    · skip
      refine ex_iload_n dX0_hasWallPlace_14 rfl ?_
      refine ex_bipush (v := 15) dX0_hasWallPlace_15 (by decide) ?_
      refine ex_icmp_ge 24 dX0_hasWallPlace_17 (by decide) (fun h17 => ?_) (fun h17 => ?_)
      · skip
        refine ex_iconst (v := 0) dX0_hasWallPlace_24 (by decide) ?_
        refine ex_iret dX0_hasWallPlace_25 rfl rfl ⟨rfl, Nat.le_refl _⟩ ?_
        exact ⟨by first | exact b2i_t (by grind) | exact b2i_f (by grind), rfl⟩
      · skip
        refine ex_iconst (v := 1) dX0_hasWallPlace_20 (by decide) ?_
        refine ex_goto 25 dX0_hasWallPlace_21 (by decide) ?_
        refine ex_iret dX0_hasWallPlace_25 rfl rfl ⟨rfl, Nat.le_refl _⟩ ?_
        exact ⟨by first | exact b2i_t (by grind) | exact b2i_f (by grind), rfl⟩
set_option maxRecDepth 100000 in
set_option maxHeartbeats 4000000 in
theorem s_X0_openingBehind {a q : Nat} (ha : K0 a = (0, 7)) (hq : q < 16) : Ca G mdX0_openingBehind [.ref a, .int (nI q)] (mk I L t) (Rs (.int (opn I a q)) (mk I L t)) := by
  refine Ca.intro [some (.ref a), some (.int (nI q))] (by decide) (Nat.le_of_ble_eq_true rfl) rfl rfl ?_
  have hk1 : K0 (a + 1) = (14, 16) := (lay0 ha).2
  refine ex_aload_n dX0_openingBehind_0 rfl ?_
  refine ex_iload_n dX0_openingBehind_1 rfl ?_
  refine rx_cV (kd := 0) dX0_openingBehind_2 rfl lk_X0_41 rfl (by decide) (by first | assumption | rfl) ⟨⟨rfl, rfl⟩, by decide, by decide⟩ rfl (Nat.le_of_ble_eq_true rfl) rfl (s_X0_hasWallPlace ha) (Rs.k ?_)
  refine ex_if_eq 20 dX0_openingBehind_5 (by decide) (fun h5 => ?_) (fun h5 => ?_)
  · skip
    refine ex_iconst (v := 0) dX0_openingBehind_20 (by decide) ?_
    refine ex_iret dX0_openingBehind_21 rfl rfl ⟨rfl, Nat.le_refl _⟩ ?_
    exact ⟨by simp only [b2i_0, b2i_n0] at *; rw [opn, if_neg (by grind)], rfl⟩
  · skip
    refine ex_aload_n dX0_openingBehind_8 rfl ?_
    refine g_0_6 dX0_openingBehind_9 rfl wf_X0_32 (by first | assumption | rfl) ?_
    refine ex_iload_n dX0_openingBehind_12 rfl ?_
    refine ex_ishr dX0_openingBehind_13 ?_
    refine ex_iconst (v := 1) dX0_openingBehind_14 (by decide) ?_
    refine ex_iand dX0_openingBehind_15 ?_
    refine ex_iconst (v := 1) dX0_openingBehind_16 (by decide) ?_
    refine ex_icmp_ne 22 dX0_openingBehind_17 (by decide) (fun h17 => ?_) (fun h17 => ?_)
    · skip
      refine ex_aload_n dX0_openingBehind_22 rfl ?_
      refine g_0_0 dX0_openingBehind_23 rfl wf_X0_9 (by first | assumption | rfl) (layR_0_0 (by first | assumption | rfl)) ?_
      refine ex_iload_n dX0_openingBehind_26 rfl ?_
      refine rx_iald dX0_openingBehind_27 (by first | assumption | rfl) (vpi hq) ?_
      refine ex_aload_n dX0_openingBehind_28 rfl ?_
      refine g_0_0 dX0_openingBehind_29 rfl wf_X0_9 (by first | assumption | rfl) (layR_0_0 (by first | assumption | rfl)) ?_
      refine ex_iload_n dX0_openingBehind_32 rfl ?_
      refine ex_iconst (v := 1) dX0_openingBehind_33 (by decide) ?_
      refine ex_iadd dX0_openingBehind_34 ?_
      refine rx_iald dX0_openingBehind_35 (by first | assumption | rfl) (by have := b2i_n0.mp h5; rw [nI_1]; exact vpi (by have h9 := (nI_ltI (b := 15) (by omega) (by decide)).mp this.2.2; omega)) ?_
      refine ex_mmin dX0_openingBehind_36 rfl lk_X0_45 wj_min wj_m wj_minc ⟨by decide, by decide⟩ ⟨by decide, by decide⟩ (Nat.le_of_ble_eq_true rfl) ?_
      refine ex_iret dX0_openingBehind_39 rfl rfl ⟨rfl, Nat.le_refl _⟩ ?_
      exact ⟨by rw [opn, if_pos (show hasW I a (nI q) ∧ ¬ (I a 6 >>> (nI q &&& 31)) &&& 1 = 1 from ⟨b2i_n0.mp h5, h17⟩), nI_1, nI_clamp (by omega), nI_clamp (by omega)], rfl⟩
    · skip
      refine ex_iconst (v := 0) dX0_openingBehind_20 (by decide) ?_
      refine ex_iret dX0_openingBehind_21 rfl rfl ⟨rfl, Nat.le_refl _⟩ ?_
      exact ⟨by simp only [b2i_0, b2i_n0] at *; rw [opn, if_neg (by grind)], rfl⟩
set_option maxRecDepth 100000 in
set_option maxHeartbeats 4000000 in
theorem s_X0_raiseWall {a : Nat} {k : Int32} (ha : K0 a = (0, 7)) : Ca G mdX0_raiseWall [.ref a, .int k] (mk I L t) (Rv (mk (baWall I a k) L t)) := by
  refine Ca.intro [some (.ref a), some (.int k)] (by decide) (Nat.le_of_ble_eq_true rfl) rfl rfl ?_
  refine ex_aload_n dX0_raiseWall_0 rfl ?_
  refine ex_iload_n dX0_raiseWall_1 rfl ?_
  refine rx_cV (kd := 0) dX0_raiseWall_2 rfl lk_X0_41 rfl (by decide) (by first | assumption | rfl) ⟨⟨rfl, rfl⟩, by decide, by decide⟩ rfl (Nat.le_of_ble_eq_true rfl) rfl (s_X0_hasWallPlace ha) (Rs.k ?_)
  refine ex_if_eq 20 dX0_raiseWall_5 (by decide) (fun h5 => ?_) (fun h5 => ?_)
  · skip
    refine ex_vret dX0_raiseWall_20 rfl ⟨rfl, Nat.le_refl _⟩ ?_
    first | exact ⟨rfl, by rw [baWall, if_pos (b2i_n0.mp h5)]⟩ | exact ⟨rfl, by rw [baWall, if_neg (b2i_0.mp h5)]⟩
  · skip
    refine ex_aload_n dX0_raiseWall_8 rfl ?_
    refine ex_dup dX0_raiseWall_9 rfl ?_
    refine g_0_6 dX0_raiseWall_10 rfl wf_X0_32 (by first | assumption | rfl) ?_
    refine ex_iconst (v := 1) dX0_raiseWall_13 (by decide) ?_
    refine ex_iload_n dX0_raiseWall_14 rfl ?_
    refine ex_ishl dX0_raiseWall_15 ?_
    refine ex_ior dX0_raiseWall_16 ?_
    refine p_0_6 dX0_raiseWall_17 rfl wf_X0_32 (by first | assumption | rfl) ?_
    refine ex_vret dX0_raiseWall_20 rfl ⟨rfl, Nat.le_refl _⟩ ?_
    first | exact ⟨rfl, by rw [baWall, if_pos (b2i_n0.mp h5)]⟩ | exact ⟨rfl, by rw [baWall, if_neg (b2i_0.mp h5)]⟩
set_option maxRecDepth 100000 in
set_option maxHeartbeats 4000000 in
theorem s_X0_breakWall {a : Nat} {k : Int32} (ha : K0 a = (0, 7)) : Ca G mdX0_breakWall [.ref a, .int k] (mk I L t) (Rv (mk (baBreak I a k) L t)) := by
  refine Ca.intro [some (.ref a), some (.int k)] (by decide) (Nat.le_of_ble_eq_true rfl) rfl rfl ?_
  refine ex_aload_n dX0_breakWall_0 rfl ?_
  refine ex_iload_n dX0_breakWall_1 rfl ?_
  refine rx_cV (kd := 0) dX0_breakWall_2 rfl lk_X0_41 rfl (by decide) (by first | assumption | rfl) ⟨⟨rfl, rfl⟩, by decide, by decide⟩ rfl (Nat.le_of_ble_eq_true rfl) rfl (s_X0_hasWallPlace ha) (Rs.k ?_)
  refine ex_if_eq 22 dX0_breakWall_5 (by decide) (fun h5 => ?_) (fun h5 => ?_)
  · skip
    refine ex_vret dX0_breakWall_22 rfl ⟨rfl, Nat.le_refl _⟩ ?_
    first | exact ⟨rfl, by rw [baBreak, if_pos (b2i_n0.mp h5)]⟩ | exact ⟨rfl, by rw [baBreak, if_neg (b2i_0.mp h5)]⟩
  · skip
    refine ex_aload_n dX0_breakWall_8 rfl ?_
    refine ex_dup dX0_breakWall_9 rfl ?_
    refine g_0_6 dX0_breakWall_10 rfl wf_X0_32 (by first | assumption | rfl) ?_
    refine ex_iconst (v := 1) dX0_breakWall_13 (by decide) ?_
    refine ex_iload_n dX0_breakWall_14 rfl ?_
    refine ex_ishl dX0_breakWall_15 ?_
    refine ex_iconst (v := (-1)) dX0_breakWall_16 (by decide) ?_
    refine ex_ixor dX0_breakWall_17 ?_
    refine ex_iand dX0_breakWall_18 ?_
    refine p_0_6 dX0_breakWall_19 rfl wf_X0_32 (by first | assumption | rfl) ?_
    refine ex_vret dX0_breakWall_22 rfl ⟨rfl, Nat.le_refl _⟩ ?_
    first | exact ⟨rfl, by rw [baBreak, if_pos (b2i_n0.mp h5)]⟩ | exact ⟨rfl, by rw [baBreak, if_neg (b2i_0.mp h5)]⟩
set_option maxRecDepth 100000 in
set_option maxHeartbeats 4000000 in
theorem s_X0_widen {a : Nat} {v : Int32} (ha : K0 a = (0, 7)) : Ca G mdX0_widen [.ref a, .int v] (mk I L t) (Rv (mk (baWide I a v) L t)) := by
  refine Ca.intro [some (.ref a), some (.int v)] (by decide) (Nat.le_of_ble_eq_true rfl) rfl rfl ?_
  refine ex_aload_n dX0_widen_0 rfl ?_
  refine ex_iconst (v := 0) dX0_widen_1 (by decide) ?_
  refine ex_bipush (v := 9) dX0_widen_2 (by decide) ?_
  refine ex_aload_n dX0_widen_4 rfl ?_
  refine g_0_4 dX0_widen_5 rfl wf_X0_26 (by first | assumption | rfl) ?_
  refine ex_iload_n dX0_widen_8 rfl ?_
  refine ex_iadd dX0_widen_9 ?_
  refine ex_mmin dX0_widen_10 rfl lk_X0_45 wj_min wj_m wj_minc ⟨by decide, by decide⟩ ⟨by decide, by decide⟩ (Nat.le_of_ble_eq_true rfl) ?_
  refine ex_mmax dX0_widen_13 rfl lk_X0_51 wj_max wj_m wj_maxc ⟨by decide, by decide⟩ ⟨by decide, by decide⟩ (Nat.le_of_ble_eq_true rfl) ?_
  refine p_0_4 dX0_widen_16 rfl wf_X0_26 (by first | assumption | rfl) ?_
  refine ex_vret dX0_widen_19 rfl ⟨rfl, Nat.le_refl _⟩ ?_
  exact ⟨rfl, rfl⟩
theorem in16 {k : Int32} (h0 : 0 ≤ k) (h1 : k < 16) : vp_in k 16 := by
  rw [vp_in_iff]
  rw [Int32.le_iff_toInt_le] at h0
  rw [Int32.lt_iff_toInt_lt] at h1
  exact ⟨h0, h1⟩
set_option maxRecDepth 100000 in
set_option maxHeartbeats 4000000 in
theorem s_X0_deepen {a : Nat} {k v : Int32} (ha : K0 a = (0, 7)) : Ca G mdX0_deepen [.ref a, .int k, .int v] (mk I L t) (Rv (mk (baDeep I a k v) L t)) := by
  refine Ca.intro [some (.ref a), some (.int k), some (.int v)] (by decide) (Nat.le_of_ble_eq_true rfl) rfl rfl ?_
  have hk1 : K0 (a + 1) = (14, 16) := (lay0 ha).2
  refine ex_aload_n dX0_deepen_0 rfl ?_
  refine ex_iload_n dX0_deepen_1 rfl ?_
  refine rx_cV (kd := 0) dX0_deepen_2 rfl lk_X0_54 rfl (by decide) (by first | assumption | rfl) ⟨⟨rfl, rfl⟩, by decide, by decide⟩ rfl (Nat.le_of_ble_eq_true rfl) rfl (s_X0_hasCell ha) (Rs.k ?_)
  refine ex_if_eq 31 dX0_deepen_5 (by decide) (fun h5 => ?_) (fun h5 => ?_)
  · skip
    refine ex_vret dX0_deepen_31 rfl ⟨rfl, Nat.le_refl _⟩ ?_
    first | exact ⟨rfl, by rw [baDeep, if_pos (b2i_n0.mp h5)]; rfl⟩ | exact ⟨rfl, by rw [baDeep, if_neg (b2i_0.mp h5)]⟩
  · skip
    refine ex_aload_n dX0_deepen_8 rfl ?_
    refine g_0_0 dX0_deepen_9 rfl wf_X0_9 (by first | assumption | rfl) (layR_0_0 (by first | assumption | rfl)) ?_
    refine ex_iload_n dX0_deepen_12 rfl ?_
    refine ex_iconst (v := 1) dX0_deepen_13 (by decide) ?_
    refine ex_bipush (v := 9) dX0_deepen_14 (by decide) ?_
    refine ex_aload_n dX0_deepen_16 rfl ?_
    refine g_0_0 dX0_deepen_17 rfl wf_X0_9 (by first | assumption | rfl) (layR_0_0 (by first | assumption | rfl)) ?_
    refine ex_iload_n dX0_deepen_20 rfl ?_
    refine rx_iald dX0_deepen_21 (by first | assumption | rfl) (in16 (b2i_n0.mp h5).1 (b2i_n0.mp h5).2.2) ?_
    refine ex_iload_n dX0_deepen_22 rfl ?_
    refine ex_iadd dX0_deepen_23 ?_
    refine ex_mmin dX0_deepen_24 rfl lk_X0_45 wj_min wj_m wj_minc ⟨by decide, by decide⟩ ⟨by decide, by decide⟩ (Nat.le_of_ble_eq_true rfl) ?_
    refine ex_mmax dX0_deepen_27 rfl lk_X0_51 wj_max wj_m wj_maxc ⟨by decide, by decide⟩ ⟨by decide, by decide⟩ (Nat.le_of_ble_eq_true rfl) ?_
    refine rx_iast dX0_deepen_30 (by first | assumption | rfl) (in16 (b2i_n0.mp h5).1 (b2i_n0.mp h5).2.2) ?_
    refine ex_vret dX0_deepen_31 rfl ⟨rfl, Nat.le_refl _⟩ ?_
    first | exact ⟨rfl, by rw [baDeep, if_pos (b2i_n0.mp h5)]; rfl⟩ | exact ⟨rfl, by rw [baDeep, if_neg (b2i_0.mp h5)]⟩
set_option maxRecDepth 100000 in
set_option maxHeartbeats 4000000 in
theorem s_X0_fact {a w : Nat} (ha : K0 a = (0, 7)) (hw : w ≤ 20) : Ca G mdX0_fact [.ref a, .int (nI w)] (mk I L t) (Rs (.int (facF I a w)) (mk I L t)) := by
  refine Ca.intro [some (.ref a), some (.int (nI w))] (by decide) (Nat.le_of_ble_eq_true rfl) rfl rfl ?_
  have hk1 : K0 (a + 1) = (14, 16) := (lay0 ha).2
  refine ex_iload_n dX0_fact_0 rfl ?_
  refine ex_tsw 0 4 [36, 41, 46, 51, 56] 61 dX0_fact_1 (by decide) (by decide) (by decide) (by decide) (by decide) (fun i hi hs => ?_) (fun hs => ?_)
  · rcases (by omega : i = 0 ∨ i = 1 ∨ i = 2 ∨ i = 3 ∨ i = 4) with rfl | rfl | rfl | rfl | rfl
    · show Ex G _ 36 _ _ _ _ _ _
      refine ex_aload_n dX0_fact_36 rfl ?_
      refine g_0_2 dX0_fact_37 rfl wf_X0_19 (by first | assumption | rfl) ?_
      refine ex_iret dX0_fact_40 rfl rfl ⟨rfl, Nat.le_refl _⟩ ?_
      exact ⟨by have := (nI_eq (by omega) (by decide)).mp hs; subst this; rfl, rfl⟩
    · show Ex G _ 41 _ _ _ _ _ _
      refine ex_aload_n dX0_fact_41 rfl ?_
      refine g_0_3 dX0_fact_42 rfl wf_X0_23 (by first | assumption | rfl) ?_
      refine ex_iret dX0_fact_45 rfl rfl ⟨rfl, Nat.le_refl _⟩ ?_
      exact ⟨by have := (nI_eq (by omega) (by decide)).mp hs; subst this; rfl, rfl⟩
    · show Ex G _ 46 _ _ _ _ _ _
      refine ex_aload_n dX0_fact_46 rfl ?_
      refine g_0_4 dX0_fact_47 rfl wf_X0_26 (by first | assumption | rfl) ?_
      refine ex_iret dX0_fact_50 rfl rfl ⟨rfl, Nat.le_refl _⟩ ?_
      exact ⟨by have := (nI_eq (by omega) (by decide)).mp hs; subst this; rfl, rfl⟩
    · show Ex G _ 51 _ _ _ _ _ _
      refine ex_aload_n dX0_fact_51 rfl ?_
      refine g_0_5 dX0_fact_52 rfl wf_X0_29 (by first | assumption | rfl) ?_
      refine ex_iret dX0_fact_55 rfl rfl ⟨rfl, Nat.le_refl _⟩ ?_
      exact ⟨by have := (nI_eq (by omega) (by decide)).mp hs; subst this; rfl, rfl⟩
    · show Ex G _ 56 _ _ _ _ _ _
      refine ex_aload_n dX0_fact_56 rfl ?_
      refine g_0_6 dX0_fact_57 rfl wf_X0_32 (by first | assumption | rfl) ?_
      refine ex_iret dX0_fact_60 rfl rfl ⟨rfl, Nat.le_refl _⟩ ?_
      exact ⟨by have := (nI_eq (by omega) (by decide)).mp hs; subst this; rfl, rfl⟩
  · have n0 := hs 0 (by decide)
    have n1 := hs 1 (by decide)
    have n2 := hs 2 (by decide)
    have n3 := hs 3 (by decide)
    have n4 := hs 4 (by decide)
    have hw5 : 5 ≤ w := by rcases Nat.lt_or_ge w 5 with q | q; exact absurd rfl (by have := hs w (by omega); rwa [Nat.zero_add] at this) ; exact q
    have e5 : nI w - 5 = nI (w - 5) := pk_sub (b := 5) hw5
    refine ex_aload_n dX0_fact_61 rfl ?_
    refine ex_iload_n dX0_fact_62 rfl ?_
    refine ex_iconst (v := 5) dX0_fact_63 (by decide) ?_
    refine ex_isub dX0_fact_64 ?_
    refine rx_cV (kd := 0) dX0_fact_65 rfl lk_X0_54 rfl (by decide) (by first | assumption | rfl) ⟨⟨rfl, rfl⟩, by decide, by decide⟩ rfl (Nat.le_of_ble_eq_true rfl) rfl (s_X0_hasCell ha) (Rs.k ?_)
    refine ex_if_eq 82 dX0_fact_68 (by decide) (fun h68 => ?_) (fun h68 => ?_)
    · skip
      refine ex_iconst (v := 0) dX0_fact_82 (by decide) ?_
      refine ex_iret dX0_fact_83 rfl rfl ⟨rfl, Nat.le_refl _⟩ ?_
      exact ⟨by first | (rw [e5] at h68 ⊢; rw [nI_clamp (by omega)]; simp only [facF, show ¬ w = 0 by omega, show ¬ w = 1 by omega, show ¬ w = 2 by omega, show ¬ w = 3 by omega, show ¬ w = 4 by omega, if_false]; rw [if_pos (b2i_n0.mp h68)]) | (rw [e5] at h68; simp only [facF, show ¬ w = 0 by omega, show ¬ w = 1 by omega, show ¬ w = 2 by omega, show ¬ w = 3 by omega, show ¬ w = 4 by omega, if_false]; rw [if_neg (b2i_0.mp h68)]), rfl⟩
    · skip
      refine ex_aload_n dX0_fact_71 rfl ?_
      refine g_0_0 dX0_fact_72 rfl wf_X0_9 (by first | assumption | rfl) (layR_0_0 (by first | assumption | rfl)) ?_
      refine ex_iload_n dX0_fact_75 rfl ?_
      refine ex_iconst (v := 5) dX0_fact_76 (by decide) ?_
      refine ex_isub dX0_fact_77 ?_
      refine rx_iald dX0_fact_78 (by first | assumption | rfl) (by rw [e5] at h68 ⊢; exact in16 (b2i_n0.mp h68).1 (b2i_n0.mp h68).2.2) ?_
      refine ex_goto 83 dX0_fact_79 (by decide) ?_
      refine ex_iret dX0_fact_83 rfl rfl ⟨rfl, Nat.le_refl _⟩ ?_
      exact ⟨by first | (rw [e5] at h68 ⊢; rw [nI_clamp (by omega)]; simp only [facF, show ¬ w = 0 by omega, show ¬ w = 1 by omega, show ¬ w = 2 by omega, show ¬ w = 3 by omega, show ¬ w = 4 by omega, if_false]; rw [if_pos (b2i_n0.mp h68)]) | (rw [e5] at h68; simp only [facF, show ¬ w = 0 by omega, show ¬ w = 1 by omega, show ¬ w = 2 by omega, show ¬ w = 3 by omega, show ¬ w = 4 by omega, if_false]; rw [if_neg (b2i_0.mp h68)]), rfl⟩
set_option maxRecDepth 100000 in
set_option maxHeartbeats 4000000 in
theorem s_X0_mixInto {a n : Nat} {h : Int64} (ha : K0 a = (0, 7)) (hn : n ≤ 15 + 1) (hc : I a 2 = nI n) : Ca G mdX0_mixInto [.ref a, .long h] (mk I L t) (Rs (.long (baMix I a n h)) (mk I L t)) := by
  refine Ca.intro [some (.ref a), some (.long h), none, none, none, none] (by decide) (Nat.le_of_ble_eq_true rfl) rfl rfl ?_
  refine ex_aload_n dX0_mixInto_0 rfl ?_
  refine g_0_1 dX0_mixInto_1 rfl wf_X0_15 (by first | assumption | rfl) ?_
  refine ex_if_ne 15 dX0_mixInto_4 (by decide) (fun h4 => ?_) (fun h4 => ?_)
  · skip
    rw [show baMix I a n h = mixL (facF I a) h (5 + n) from if_neg h4]
    have hs : (5 : Int32) + I a 2 = nI (5 + n) := by rw [hc]; exact nI_add 5 n
    refine ex_lload_n dX0_mixInto_15 rfl ?_
    refine st_l3 dX0_mixInto_16 (by first | exact rfl | exact trivial) ?_
    refine ex_iconst (v := 0) dX0_mixInto_17 (by decide) ?_
    refine st_i5 dX0_mixInto_18 (by first | exact rfl | exact trivial) ?_
    refine loop_up (G := G) (d := mdX0_mixInto) (pc := 20) (st := []) (uc := 0) (us := 0) (P := Rs (.long (mixL (facF I a) h (5 + n))) (mk I L t)) (5 + n) (fun k => mk I L t) (fun k => [some (.ref a), some (.long h), none, some (.long (mixL (facF I a) h k)), none, some (.int (nI k))]) ?_ ?_ 0 (Nat.zero_le _)
    · intro k hk ih
      refine ex_iload dX0_mixInto_20 rfl ?_
      refine ex_iconst (v := 5) dX0_mixInto_22 (by decide) ?_
      refine ex_aload_n dX0_mixInto_23 rfl ?_
      refine g_0_2 dX0_mixInto_24 rfl wf_X0_19 (by first | assumption | rfl) ?_
      refine ex_iadd dX0_mixInto_27 ?_
      refine ex_icmp_ge 49 dX0_mixInto_28 (by decide) (fun h28 => ?_) (fun h28 => ?_)
      · exact absurd h28 (by rw [hs]; exact nI_ge hk (by omega))
      · skip
        refine ex_lload_n dX0_mixInto_31 rfl ?_
        refine ex_aload_n dX0_mixInto_32 rfl ?_
        refine ex_iload dX0_mixInto_33 rfl ?_
        refine rx_cV (kd := 0) dX0_mixInto_35 rfl lk_X0_63 rfl (by decide) (by first | assumption | rfl) ⟨⟨rfl, rfl⟩, by decide, by decide⟩ rfl (Nat.le_of_ble_eq_true rfl) rfl (s_X0_fact ha (by omega)) (Rs.k ?_)
        refine ex_i2l dX0_mixInto_38 ?_
        refine rx_cSN dX0_mixInto_39 rfl lk_X0_59 ⟨⟨rfl, rfl⟩, by decide, by decide⟩ rfl (Nat.le_of_ble_eq_true rfl) rfl s_X11_mix (Rs.k ?_)
        refine st_l3 dX0_mixInto_42 (by first | exact rfl | exact trivial) ?_
        refine inc5 (v := _ + 1) dX0_mixInto_43 (by rfl) (by first | exact rfl | exact trivial) ?_
        refine ex_goto 20 dX0_mixInto_46 (by decide) ?_
        rw [nI_1]
        exact ih
    · skip
      refine ex_iload dX0_mixInto_20 rfl ?_
      refine ex_iconst (v := 5) dX0_mixInto_22 (by decide) ?_
      refine ex_aload_n dX0_mixInto_23 rfl ?_
      refine g_0_2 dX0_mixInto_24 rfl wf_X0_19 (by first | assumption | rfl) ?_
      refine ex_iadd dX0_mixInto_27 ?_
      refine ex_icmp_ge 49 dX0_mixInto_28 (by decide) (fun h28 => ?_) (fun h28 => ?_)
      · skip
        refine ex_lload_n dX0_mixInto_49 rfl ?_
        refine ex_lret dX0_mixInto_50 rfl ⟨rfl, Nat.le_refl _⟩ ?_
        exact ⟨rfl, rfl⟩
      · exact absurd (by rw [hs]; exact Int32.le_refl _) h28
  · skip
    refine ex_lload_n dX0_mixInto_7 rfl ?_
    refine ex_ldc2 dX0_mixInto_8 rfl wl_X0_57 ?_
    refine rx_cSN dX0_mixInto_11 rfl lk_X0_59 ⟨⟨rfl, rfl⟩, by decide, by decide⟩ rfl (Nat.le_of_ble_eq_true rfl) rfl s_X11_mix (Rs.k ?_)
    refine ex_lret dX0_mixInto_14 rfl ⟨rfl, Nat.le_refl _⟩ ?_
    exact ⟨by simp [baMix, *], rfl⟩
end C2
