section C3
variable {G : Gp} {I : Im} {L : Nat → Nat → Int64} {t : Nat}
def swNew (I : Im) (a : Nat) : Im := up2 (up2 I a 2 1) a 3 0
def swTake (I : Im) (a b : Nat) : Im := cpR (cpR (tk1 (tk1 I a b 2) a b 3) (b + 1) (a + 1) 0 0 4) (b + 2) (a + 2) 0 0 4
def swAdd (I : Im) (a c : Nat) (x y : Int32) : Im := up2 (up2 (up2 I (a + 1) c x) (a + 2) c y) a 3 (nI (c + 1))
def pus1 (s b p : Int32) : Int32 := if s - s / b * b < b / 2 then p else -p
def pusF (I : Im) (a : Nat) (s : Int32) : Nat → Int32
  | 0 => 0
  | k + 1 => if I (a + 1) k ≤ 0 then pusF I a s k else pusF I a s k + pus1 s (I (a + 1) k) (I (a + 2) k)
theorem pusF_s {I : Im} {a k : Nat} {s : Int32} (h : ¬ I (a + 1) k ≤ 0) : pusF I a s (k + 1) = pusF I a s k + pus1 s (I (a + 1) k) (I (a + 2) k) := if_neg h
theorem pusF_z {I : Im} {a k : Nat} {s : Int32} (h : I (a + 1) k ≤ 0) : pusF I a s (k + 1) = pusF I a s k := if_pos h
def mixP (f g : Nat → Int32) (h : Int64) : Nat → Int64
  | 0 => h
  | k + 1 => 31 * (31 * mixP f g h k + (f k).toInt64) + (g k).toInt64
def swMix (I : Im) (a c : Nat) (h : Int64) : Int64 := if I a 2 = 0 then 31 * h + (-1) else mixP (I (a + 1)) (I (a + 2)) h c
def boBuild (I : Im) (a : Nat) (c w g s p : Int32) : Im := up2 (up2 (up2 (up2 (up2 (up2 I a 0 1) a 1 c) a 2 w) a 3 g) a 4 s) a 5 p
def boTake (I : Im) (a b : Nat) : Im := tk1 (tk1 (tk1 (tk1 (tk1 (tk1 (tk1 (tk1 (tk1 (tk1 I a b 0) a b 1) a b 2) a b 3) a b 4) a b 5) a b 6) a b 7) a b 8) a b 9
def boRest (I : Im) (a : Nat) : Im := up2 (up2 (up2 (up2 I a 6 0) a 7 0) a 8 0) a 9 (-9)
def stra (pl tg sl : Int32) : Int32 := if 0 < (if pl < 0 then -pl else pl) - sl then tg * ((if pl < 0 then -pl else pl) - sl) else 0
def mx (x y : Int32) : Int32 := if x < y then y else x
def boRide (I : Im) (a : Nat) (fl sec : Int32) : Im :=
  let sp := I a 7 + (if 0 < I a 6 then fl - stra (I a 6) (I a 3) (I a 4) else fl + stra (I a 6) (I a 3) (I a 4)) / mx 1 (4 * I a 2)
  let sp2 := sp - sp / 16
  let pl := I a 6 + sp2
  let now := stra pl (I a 3) (I a 4)
  let I4 := up2 (up2 (up2 (up2 I a 7 sp) a 7 sp2) a 6 pl) a 8 (mx (I a 8) now)
  if I a 9 = -9 ∧ I a 5 < now then up2 I4 a 9 sec else I4
def riddenF (I : Im) (a w : Nat) : Int32 := if w = 0 then I a 6 else if w = 1 then I a 7 else if w = 2 then I a 8 else I a 9
def boMix (I : Im) (a : Nat) (h : Int64) : Int64 := if I a 0 = 0 then 31 * h + (-1) else 31 * (31 * (31 * (31 * (31 * h + (I a 1).toInt64) + (I a 2).toInt64) + (I a 3).toInt64) + (I a 4).toInt64) + (I a 5).toInt64
def boMixR (I : Im) (a : Nat) (h : Int64) : Int64 := if I a 0 = 0 then h else 31 * (31 * (31 * (31 * h + (I a 6).toInt64) + (I a 7).toInt64) + (I a 8).toInt64) + (I a 9).toInt64
def woPlan (I : Im) (a : Nat) (s k v c : Int32) : Im := up2 (up2 (up2 (up2 I a 0 s) a 1 k) a 2 v) a 3 c
def woDo (I : Im) (w b : Nat) : Im := if I w 0 = 0 then baWall I b (I w 1) else if I w 0 = 1 then baBreak I b (I w 1) else if I w 0 = 2 then baWide I b (I w 2) else if I w 0 = 3 then baWide I b (-(I w 2)) else if I w 0 = 4 then baDeep I b (I w 1) (I w 2) else baDeep I b (I w 1) (-(I w 2))
def woMix (I : Im) (a : Nat) (h : Int64) : Int64 := 31 * (31 * (31 * (31 * h + (I a 0).toInt64) + (I a 1).toInt64) + (I a 2).toInt64) + (I a 3).toInt64
set_option maxRecDepth 100000 in
set_option maxHeartbeats 4000000 in
theorem s_X8_renew {a : Nat} (ha : K0 a = (8, 4)) : Ca G mdX8_renew [.ref a] (mk I L t) (Rv (mk (swNew I a) L t)) := by
  refine Ca.intro [some (.ref a)] (by decide) (Nat.le_of_ble_eq_true rfl) rfl rfl ?_
  refine ex_aload_n dX8_renew_0 rfl ?_
  refine ex_iconst (v := 1) dX8_renew_1 (by decide) ?_
  refine p_8_2 dX8_renew_2 rfl wf_X8_18 ⟨rfl, rfl⟩ (by first | assumption | rfl) ?_
  refine ex_aload_n dX8_renew_5 rfl ?_
  refine ex_iconst (v := 0) dX8_renew_6 (by decide) ?_
  refine p_8_3 dX8_renew_7 rfl wf_X8_22 (by first | assumption | rfl) ?_
  refine ex_vret dX8_renew_10 rfl ⟨rfl, Nat.le_refl _⟩ ?_
  exact ⟨rfl, rfl⟩
set_option maxRecDepth 100000 in
set_option maxHeartbeats 4000000 in
theorem s_X8_take {a b : Nat} (ha : K0 a = (8, 4)) (hb : K0 b = (8, 4)) (hz : I b 2 = 0 ∨ I b 2 = 1) : Ca G mdX8_take [.ref a, .ref b] (mk I L t) (Rv (mk (swTake I a b) L t)) := by
  refine Ca.intro [some (.ref a), some (.ref b)] (by decide) (Nat.le_of_ble_eq_true rfl) rfl rfl ?_
  have hk1 : K0 (a + 1) = (14, 4) := (lay8 ha).2.2.1
  have hk2 : K0 (a + 2) = (14, 4) := (lay8 ha).2.2.2
  have hj1 : K0 (b + 1) = (14, 4) := (lay8 hb).2.2.1
  have hj2 : K0 (b + 2) = (14, 4) := (lay8 hb).2.2.2
  refine ex_aload_n dX8_take_0 rfl ?_
  refine ex_aload_n dX8_take_1 rfl ?_
  refine g_8_2 dX8_take_2 rfl wf_X8_18 (by first | assumption | rfl) ?_
  refine p_8_2 dX8_take_5 rfl wf_X8_18 (nfZ hz) (by first | assumption | rfl) ?_
  refine ex_aload_n dX8_take_8 rfl ?_
  refine ex_aload_n dX8_take_9 rfl ?_
  refine g_8_3 dX8_take_10 rfl wf_X8_22 (by first | assumption | rfl) ?_
  refine p_8_3 dX8_take_13 rfl wf_X8_22 (by first | assumption | rfl) ?_
  refine ex_aload_n dX8_take_16 rfl ?_
  refine g_8_0 dX8_take_17 rfl wf_X8_9 (by first | assumption | rfl) (layR_8_0 (by first | assumption | rfl)) ?_
  refine ex_iconst (v := 0) dX8_take_20 (by decide) ?_
  refine ex_aload_n dX8_take_21 rfl ?_
  refine g_8_0 dX8_take_22 rfl wf_X8_9 (by first | assumption | rfl) (layR_8_0 (by first | assumption | rfl)) ?_
  refine ex_iconst (v := 0) dX8_take_25 (by decide) ?_
  refine ex_iconst (v := 4) dX8_take_26 (by decide) ?_
  refine rx_copy dX8_take_27 rfl lk_X8_26 (by first | assumption | rfl) (by first | assumption | rfl) (by decide) (by decide) (by decide) (by decide) (by decide) ⟨by decide, by decide⟩ (Nat.le_of_ble_eq_true rfl) ?_
  refine ex_aload_n dX8_take_30 rfl ?_
  refine g_8_1 dX8_take_31 rfl wf_X8_15 (by first | assumption | rfl) (layR_8_1 (by first | assumption | rfl)) ?_
  refine ex_iconst (v := 0) dX8_take_34 (by decide) ?_
  refine ex_aload_n dX8_take_35 rfl ?_
  refine g_8_1 dX8_take_36 rfl wf_X8_15 (by first | assumption | rfl) (layR_8_1 (by first | assumption | rfl)) ?_
  refine ex_iconst (v := 0) dX8_take_39 (by decide) ?_
  refine ex_iconst (v := 4) dX8_take_40 (by decide) ?_
  refine rx_copy dX8_take_41 rfl lk_X8_26 (by first | assumption | rfl) (by first | assumption | rfl) (by decide) (by decide) (by decide) (by decide) (by decide) ⟨by decide, by decide⟩ (Nat.le_of_ble_eq_true rfl) ?_
  refine ex_vret dX8_take_44 rfl ⟨rfl, Nat.le_refl _⟩ ?_
  exact ⟨rfl, rfl⟩
set_option maxRecDepth 100000 in
set_option maxHeartbeats 4000000 in
theorem s_X8_hasSet {a : Nat} {i : Int32} (ha : K0 a = (8, 4)) : Ca G mdX8_hasSet [.ref a, .int i] (mk I L t) (Rs (.int (b2i (0 ≤ i ∧ i < I a 3 ∧ i < 4))) (mk I L t)) := by
  refine Ca.intro [some (.ref a), some (.int i)] (by decide) (Nat.le_of_ble_eq_true rfl) rfl rfl ?_
  refine ex_iload_n dX8_hasSet_0 rfl ?_
  refine ex_if_lt 21 dX8_hasSet_1 (by decide) (fun h1 => ?_) (fun h1 => ?_)
  · skip
    refine ex_iconst (v := 0) dX8_hasSet_21 (by decide) ?_
    refine ex_iret dX8_hasSet_22 rfl rfl ⟨rfl, Nat.le_refl _⟩ ?_
    exact ⟨by first | exact b2i_t (by grind) | exact b2i_f (by grind), rfl⟩
  · skip
    refine ex_iload_n dX8_hasSet_4 rfl ?_
    refine ex_aload_n dX8_hasSet_5 rfl ?_
    refine g_8_3 dX8_hasSet_6 rfl wf_X8_22 (by first | assumption | rfl) ?_
    refine ex_icmp_ge 21 dX8_hasSet_9 (by decide) (fun h9 => ?_) (fun h9 => ?_)
    · skip
      refine ex_iconst (v := 0) dX8_hasSet_21 (by decide) ?_
      refine ex_iret dX8_hasSet_22 rfl rfl ⟨rfl, Nat.le_refl _⟩ ?_
      exact ⟨by first | exact b2i_t (by grind) | exact b2i_f (by grind), rfl⟩
    · skip
      refine ex_iload_n dX8_hasSet_12 rfl ?_
      refine ex_iconst (v := 4) dX8_hasSet_13 (by decide) ?_
      refine ex_icmp_ge 21 dX8_hasSet_14 (by decide) (fun h14 => ?_) (fun h14 => ?_)
      · skip
        refine ex_iconst (v := 0) dX8_hasSet_21 (by decide) ?_
        refine ex_iret dX8_hasSet_22 rfl rfl ⟨rfl, Nat.le_refl _⟩ ?_
        exact ⟨by first | exact b2i_t (by grind) | exact b2i_f (by grind), rfl⟩
      · skip
        refine ex_iconst (v := 1) dX8_hasSet_17 (by decide) ?_
        refine ex_goto 22 dX8_hasSet_18 (by decide) ?_
        refine ex_iret dX8_hasSet_22 rfl rfl ⟨rfl, Nat.le_refl _⟩ ?_
        exact ⟨by first | exact b2i_t (by grind) | exact b2i_f (by grind), rfl⟩
set_option maxRecDepth 100000 in
set_option maxHeartbeats 4000000 in
theorem s_X8_add {a c : Nat} {x y : Int32} (ha : K0 a = (8, 4)) (hc : I a 3 = nI c) (h4 : c < 4) : Ca G mdX8_add [.ref a, .int x, .int y] (mk I L t) (Rv (mk (swAdd I a c x y) L t)) := by
  refine Ca.intro [some (.ref a), some (.int x), some (.int y)] (by decide) (Nat.le_of_ble_eq_true rfl) rfl rfl ?_
  have hk1 : K0 (a + 1) = (14, 4) := (lay8 ha).2.2.1
  have hk2 : K0 (a + 2) = (14, 4) := (lay8 ha).2.2.2
  refine ex_aload_n dX8_add_0 rfl ?_
  refine g_8_3 dX8_add_1 rfl wf_X8_22 (by first | assumption | rfl) ?_
  refine ex_if_lt 45 dX8_add_4 (by decide) (fun h4x => ?_) (fun h4x => ?_)
  · exact absurd h4x (by rw [hc]; exact nI_pos (by omega))
  · skip
    refine ex_aload_n dX8_add_7 rfl ?_
    refine g_8_3 dX8_add_8 rfl wf_X8_22 (by first | assumption | rfl) ?_
    refine ex_iconst (v := 4) dX8_add_11 (by decide) ?_
    refine ex_icmp_ge 45 dX8_add_12 (by decide) (fun h12 => ?_) (fun h12 => ?_)
    · exact absurd h12 (by rw [hc]; exact nI_ge (b := 4) h4 (by decide))
    · skip
      refine ex_aload_n dX8_add_15 rfl ?_
      refine g_8_0 dX8_add_16 rfl wf_X8_9 (by first | assumption | rfl) (layR_8_0 (by first | assumption | rfl)) ?_
      refine ex_aload_n dX8_add_19 rfl ?_
      refine g_8_3 dX8_add_20 rfl wf_X8_22 (by first | assumption | rfl) ?_
      refine ex_iload_n dX8_add_23 rfl ?_
      refine rx_iast dX8_add_24 (by first | assumption | rfl) (by rw [hc]; exact vpi h4) ?_
      refine ex_aload_n dX8_add_25 rfl ?_
      refine g_8_1 dX8_add_26 rfl wf_X8_15 (by first | assumption | rfl) (layR_8_1 (by first | assumption | rfl)) ?_
      refine ex_aload_n dX8_add_29 rfl ?_
      refine g_8_3 dX8_add_30 rfl wf_X8_22 (by first | assumption | rfl) ?_
      rw [up2_off (show a ≠ a + 1 by omega)]
      refine ex_iload_n dX8_add_33 rfl ?_
      refine rx_iast dX8_add_34 (by first | assumption | rfl) (by rw [hc]; exact vpi h4) ?_
      refine ex_aload_n dX8_add_35 rfl ?_
      refine ex_dup dX8_add_36 rfl ?_
      refine g_8_3 dX8_add_37 rfl wf_X8_22 (by first | assumption | rfl) ?_
      rw [up2_off (show a ≠ a + 2 by omega), up2_off (show a ≠ a + 1 by omega)]
      refine ex_iconst (v := 1) dX8_add_40 (by decide) ?_
      refine ex_iadd dX8_add_41 ?_
      refine p_8_3 dX8_add_42 rfl wf_X8_22 (by first | assumption | rfl) ?_
      refine ex_vret dX8_add_45 rfl ⟨rfl, Nat.le_refl _⟩ ?_
      exact ⟨rfl, by rw [hc, nI_clamp (by omega), nI_1]; rfl⟩
set_option maxRecDepth 100000 in
set_option maxHeartbeats 4000000 in
theorem s_X8_pushAt {a c : Nat} {s : Int32} (ha : K0 a = (8, 4)) (hs : I a 3 = nI c) (h4 : c ≤ 4) : Ca G mdX8_pushAt [.ref a, .int s] (mk I L t) (Rs (.int (pusF I a s c)) (mk I L t)) := by
  refine Ca.intro [some (.ref a), some (.int s), none, none] (by decide) (Nat.le_of_ble_eq_true rfl) rfl rfl ?_
  have hk1 : K0 (a + 1) = (14, 4) := (lay8 ha).2.2.1
  have hk2 : K0 (a + 2) = (14, 4) := (lay8 ha).2.2.2
  refine ex_iconst (v := 0) dX8_pushAt_0 (by decide) ?_
  refine st_i2 dX8_pushAt_1 (by first | exact rfl | exact trivial) ?_
  refine ex_iconst (v := 0) dX8_pushAt_2 (by decide) ?_
  refine st_i3 dX8_pushAt_3 (by first | exact rfl | exact trivial) ?_
  refine loop_up (G := G) (d := mdX8_pushAt) (pc := 4) (st := []) (uc := 0) (us := 0) (P := Rs (.int (pusF I a s c)) (mk I L t)) c (fun k => mk I L t) (fun k => [some (.ref a), some (.int s), some (.int (pusF I a s k)), some (.int (nI k))]) ?_ ?_ 0 (Nat.zero_le _)
  · intro k hk ih
    refine ex_iload_n dX8_pushAt_4 rfl ?_
    refine ex_aload_n dX8_pushAt_5 rfl ?_
    refine g_8_3 dX8_pushAt_6 rfl wf_X8_22 (by first | assumption | rfl) ?_
    refine ex_icmp_ge 70 dX8_pushAt_9 (by decide) (fun h9 => ?_) (fun h9 => ?_)
    · exact absurd h9 (by rw [hs]; exact nI_ge hk (by omega))
    · skip
      refine ex_iload_n dX8_pushAt_12 rfl ?_
      refine ex_iconst (v := 4) dX8_pushAt_13 (by decide) ?_
      refine ex_icmp_ge 70 dX8_pushAt_14 (by decide) (fun h14 => ?_) (fun h14 => ?_)
      · exact absurd h14 (nI_ge (b := 4) (by omega) (by decide))
      · skip
        refine ex_aload_n dX8_pushAt_17 rfl ?_
        refine g_8_0 dX8_pushAt_18 rfl wf_X8_9 (by first | assumption | rfl) (layR_8_0 (by first | assumption | rfl)) ?_
        refine ex_iload_n dX8_pushAt_21 rfl ?_
        refine rx_iald dX8_pushAt_22 (by first | assumption | rfl) (vpi (by omega)) ?_
        refine ex_if_le 64 dX8_pushAt_23 (by decide) (fun h23 => ?_) (fun h23 => ?_)
        · rw [nI_clamp (by omega)] at h23
          refine inc3 (v := _ + 1) dX8_pushAt_64 (by rfl) (by first | exact rfl | exact trivial) ?_
          refine ex_goto 4 dX8_pushAt_67 (by decide) ?_
          rw [nI_1]
          try simp only [nI_clamp (show k < 2 ^ 31 by omega)]
          first | (rw [← g43, ← pusF_s h23]; exact ih) | (rw [← pusF_z h23]; exact ih)
        · rw [nI_clamp (by omega)] at h23
          refine ex_iload_n dX8_pushAt_26 rfl ?_
          refine ex_iload_n dX8_pushAt_27 rfl ?_
          refine ex_aload_n dX8_pushAt_28 rfl ?_
          refine g_8_0 dX8_pushAt_29 rfl wf_X8_9 (by first | assumption | rfl) (layR_8_0 (by first | assumption | rfl)) ?_
          refine ex_iload_n dX8_pushAt_32 rfl ?_
          refine rx_iald dX8_pushAt_33 (by first | assumption | rfl) (vpi (by omega)) ?_
          refine ex_irem dX8_pushAt_34 (by rw [nI_clamp (by omega)]; intro q; rw [q] at h23; exact h23 (by decide)) ?_
          refine ex_aload_n dX8_pushAt_35 rfl ?_
          refine g_8_0 dX8_pushAt_36 rfl wf_X8_9 (by first | assumption | rfl) (layR_8_0 (by first | assumption | rfl)) ?_
          refine ex_iload_n dX8_pushAt_39 rfl ?_
          refine rx_iald dX8_pushAt_40 (by first | assumption | rfl) (vpi (by omega)) ?_
          refine ex_iconst (v := 2) dX8_pushAt_41 (by decide) ?_
          refine ex_idiv dX8_pushAt_42 (by decide) ?_
          refine ex_icmp_ge 55 dX8_pushAt_43 (by decide) (fun h43 => ?_) (fun h43 => ?_)
          · rw [nI_clamp (by omega)] at h43
            have g43 : pus1 s (I (a + 1) k) (I (a + 2) k) = -(I (a + 2) k) := if_neg (Int32.not_lt.mpr h43)
            refine ex_aload_n dX8_pushAt_55 rfl ?_
            refine g_8_1 dX8_pushAt_56 rfl wf_X8_15 (by first | assumption | rfl) (layR_8_1 (by first | assumption | rfl)) ?_
            refine ex_iload_n dX8_pushAt_59 rfl ?_
            refine rx_iald dX8_pushAt_60 (by first | assumption | rfl) (vpi (by omega)) ?_
            refine ex_ineg dX8_pushAt_61 ?_
            refine ex_iadd dX8_pushAt_62 ?_
            refine st_i2 dX8_pushAt_63 (by first | exact rfl | exact trivial) ?_
            refine inc3 (v := _ + 1) dX8_pushAt_64 (by rfl) (by first | exact rfl | exact trivial) ?_
            refine ex_goto 4 dX8_pushAt_67 (by decide) ?_
            rw [nI_1]
            try simp only [nI_clamp (show k < 2 ^ 31 by omega)]
            first | (rw [← g43, ← pusF_s h23]; exact ih) | (rw [← pusF_z h23]; exact ih)
          · rw [nI_clamp (by omega)] at h43
            have g43 : pus1 s (I (a + 1) k) (I (a + 2) k) = I (a + 2) k := if_pos (Int32.not_le.mp h43)
            refine ex_aload_n dX8_pushAt_46 rfl ?_
            refine g_8_1 dX8_pushAt_47 rfl wf_X8_15 (by first | assumption | rfl) (layR_8_1 (by first | assumption | rfl)) ?_
            refine ex_iload_n dX8_pushAt_50 rfl ?_
            refine rx_iald dX8_pushAt_51 (by first | assumption | rfl) (vpi (by omega)) ?_
            refine ex_goto 62 dX8_pushAt_52 (by decide) ?_
            refine ex_iadd dX8_pushAt_62 ?_
            refine st_i2 dX8_pushAt_63 (by first | exact rfl | exact trivial) ?_
            refine inc3 (v := _ + 1) dX8_pushAt_64 (by rfl) (by first | exact rfl | exact trivial) ?_
            refine ex_goto 4 dX8_pushAt_67 (by decide) ?_
            rw [nI_1]
            try simp only [nI_clamp (show k < 2 ^ 31 by omega)]
            first | (rw [← g43, ← pusF_s h23]; exact ih) | (rw [← pusF_z h23]; exact ih)
  · skip
    refine ex_iload_n dX8_pushAt_4 rfl ?_
    refine ex_aload_n dX8_pushAt_5 rfl ?_
    refine g_8_3 dX8_pushAt_6 rfl wf_X8_22 (by first | assumption | rfl) ?_
    refine ex_icmp_ge 70 dX8_pushAt_9 (by decide) (fun h9 => ?_) (fun h9 => ?_)
    · skip
      refine ex_iload_n dX8_pushAt_70 rfl ?_
      refine ex_iret dX8_pushAt_71 rfl rfl ⟨rfl, Nat.le_refl _⟩ ?_
      exact ⟨rfl, rfl⟩
    · exact absurd (by rw [hs]; exact Int32.le_refl _) h9
set_option maxRecDepth 100000 in
set_option maxHeartbeats 4000000 in
theorem s_X8_mixInto {a c : Nat} {h : Int64} (ha : K0 a = (8, 4)) (hs : I a 3 = nI c) (hc4 : c ≤ 4) : Ca G mdX8_mixInto [.ref a, .long h] (mk I L t) (Rs (.long (swMix I a c h)) (mk I L t)) := by
  refine Ca.intro [some (.ref a), some (.long h), none, none, none, none] (by decide) (Nat.le_of_ble_eq_true rfl) rfl rfl ?_
  have hk1 : K0 (a + 1) = (14, 4) := (lay8 ha).2.2.1
  have hk2 : K0 (a + 2) = (14, 4) := (lay8 ha).2.2.2
  refine ex_aload_n dX8_mixInto_0 rfl ?_
  refine g_8_2 dX8_mixInto_1 rfl wf_X8_18 (by first | assumption | rfl) ?_
  refine ex_if_ne 15 dX8_mixInto_4 (by decide) (fun h4 => ?_) (fun h4 => ?_)
  · skip
    rw [show swMix I a c h = mixP (I (a + 1)) (I (a + 2)) h c from if_neg h4]
    refine ex_lload_n dX8_mixInto_15 rfl ?_
    refine st_l3 dX8_mixInto_16 (by first | exact rfl | exact trivial) ?_
    refine ex_iconst (v := 0) dX8_mixInto_17 (by decide) ?_
    refine st_i5 dX8_mixInto_18 (by first | exact rfl | exact trivial) ?_
    refine loop_up (G := G) (d := mdX8_mixInto) (pc := 20) (st := []) (uc := 0) (us := 0) (P := Rs (.long (mixP (I (a + 1)) (I (a + 2)) h c)) (mk I L t)) c (fun k => mk I L t) (fun k => [some (.ref a), some (.long h), none, some (.long (mixP (I (a + 1)) (I (a + 2)) h k)), none, some (.int (nI k))]) ?_ ?_ 0 (Nat.zero_le _)
    · intro k hk ih
      refine ex_iload dX8_mixInto_20 rfl ?_
      refine ex_aload_n dX8_mixInto_22 rfl ?_
      refine g_8_3 dX8_mixInto_23 rfl wf_X8_22 (by first | assumption | rfl) ?_
      refine ex_icmp_ge 65 dX8_mixInto_26 (by decide) (fun h26 => ?_) (fun h26 => ?_)
      · exact absurd h26 (by rw [hs]; exact nI_ge hk (by omega))
      · skip
        refine ex_iload dX8_mixInto_29 rfl ?_
        refine ex_iconst (v := 4) dX8_mixInto_31 (by decide) ?_
        refine ex_icmp_ge 65 dX8_mixInto_32 (by decide) (fun h32 => ?_) (fun h32 => ?_)
        · exact absurd h32 (nI_ge (b := 4) (by omega) (by decide))
        · skip
          refine ex_lload_n dX8_mixInto_35 rfl ?_
          refine ex_aload_n dX8_mixInto_36 rfl ?_
          refine g_8_0 dX8_mixInto_37 rfl wf_X8_9 (by first | assumption | rfl) (layR_8_0 (by first | assumption | rfl)) ?_
          refine ex_iload dX8_mixInto_40 rfl ?_
          refine rx_iald dX8_mixInto_42 (by first | assumption | rfl) (vpi (by omega)) ?_
          refine ex_i2l dX8_mixInto_43 ?_
          refine rx_cSN dX8_mixInto_44 rfl lk_X8_34 ⟨⟨rfl, rfl⟩, by decide, by decide⟩ rfl (Nat.le_of_ble_eq_true rfl) rfl s_X11_mix (Rs.k ?_)
          refine ex_aload_n dX8_mixInto_47 rfl ?_
          refine g_8_1 dX8_mixInto_48 rfl wf_X8_15 (by first | assumption | rfl) (layR_8_1 (by first | assumption | rfl)) ?_
          refine ex_iload dX8_mixInto_51 rfl ?_
          refine rx_iald dX8_mixInto_53 (by first | assumption | rfl) (vpi (by omega)) ?_
          refine ex_i2l dX8_mixInto_54 ?_
          refine rx_cSN dX8_mixInto_55 rfl lk_X8_34 ⟨⟨rfl, rfl⟩, by decide, by decide⟩ rfl (Nat.le_of_ble_eq_true rfl) rfl s_X11_mix (Rs.k ?_)
          refine st_l3 dX8_mixInto_58 (by first | exact rfl | exact trivial) ?_
          refine inc5 (v := _ + 1) dX8_mixInto_59 (by rfl) (by first | exact rfl | exact trivial) ?_
          refine ex_goto 20 dX8_mixInto_62 (by decide) ?_
          rw [nI_1, nI_clamp (by omega)]
          exact ih
    · skip
      refine ex_iload dX8_mixInto_20 rfl ?_
      refine ex_aload_n dX8_mixInto_22 rfl ?_
      refine g_8_3 dX8_mixInto_23 rfl wf_X8_22 (by first | assumption | rfl) ?_
      refine ex_icmp_ge 65 dX8_mixInto_26 (by decide) (fun h26 => ?_) (fun h26 => ?_)
      · skip
        refine ex_lload_n dX8_mixInto_65 rfl ?_
        refine ex_lret dX8_mixInto_66 rfl ⟨rfl, Nat.le_refl _⟩ ?_
        exact ⟨rfl, rfl⟩
      · exact absurd (by rw [hs]; exact Int32.le_refl _) h26
  · skip
    refine ex_lload_n dX8_mixInto_7 rfl ?_
    refine ex_ldc2 dX8_mixInto_8 rfl wl_X8_32 ?_
    refine rx_cSN dX8_mixInto_11 rfl lk_X8_34 ⟨⟨rfl, rfl⟩, by decide, by decide⟩ rfl (Nat.le_of_ble_eq_true rfl) rfl s_X11_mix (Rs.k ?_)
    refine ex_lret dX8_mixInto_14 rfl ⟨rfl, Nat.le_refl _⟩ ?_
    exact ⟨by simp [swMix, *], rfl⟩
set_option maxRecDepth 100000 in
set_option maxHeartbeats 4000000 in
theorem s_X1_build {a : Nat} {c w g s p : Int32} (ha : K0 a = (1, 10)) : Ca G mdX1_build [.ref a, .int c, .int w, .int g, .int s, .int p] (mk I L t) (Rv (mk (boBuild I a c w g s p) L t)) := by
  refine Ca.intro [some (.ref a), some (.int c), some (.int w), some (.int g), some (.int s), some (.int p)] (by decide) (Nat.le_of_ble_eq_true rfl) rfl rfl ?_
  refine ex_aload_n dX1_build_0 rfl ?_
  refine ex_iconst (v := 1) dX1_build_1 (by decide) ?_
  refine p_1_0 dX1_build_2 rfl wf_X1_9 ⟨rfl, rfl⟩ (by first | assumption | rfl) ?_
  refine ex_aload_n dX1_build_5 rfl ?_
  refine ex_iload_n dX1_build_6 rfl ?_
  refine p_1_1 dX1_build_7 rfl wf_X1_15 (by first | assumption | rfl) ?_
  refine ex_aload_n dX1_build_10 rfl ?_
  refine ex_iload_n dX1_build_11 rfl ?_
  refine p_1_2 dX1_build_12 rfl wf_X1_19 (by first | assumption | rfl) ?_
  refine ex_aload_n dX1_build_15 rfl ?_
  refine ex_iload_n dX1_build_16 rfl ?_
  refine p_1_3 dX1_build_17 rfl wf_X1_22 (by first | assumption | rfl) ?_
  refine ex_aload_n dX1_build_20 rfl ?_
  refine ex_iload dX1_build_21 rfl ?_
  refine p_1_4 dX1_build_23 rfl wf_X1_25 (by first | assumption | rfl) ?_
  refine ex_aload_n dX1_build_26 rfl ?_
  refine ex_iload dX1_build_27 rfl ?_
  refine p_1_5 dX1_build_29 rfl wf_X1_28 (by first | assumption | rfl) ?_
  refine ex_vret dX1_build_32 rfl ⟨rfl, Nat.le_refl _⟩ ?_
  exact ⟨rfl, rfl⟩
set_option maxRecDepth 100000 in
set_option maxHeartbeats 4000000 in
theorem s_X1_take {a b : Nat} (ha : K0 a = (1, 10)) (hb : K0 b = (1, 10)) (hz : I b 0 = 0 ∨ I b 0 = 1) : Ca G mdX1_take [.ref a, .ref b] (mk I L t) (Rv (mk (boTake I a b) L t)) := by
  refine Ca.intro [some (.ref a), some (.ref b)] (by decide) (Nat.le_of_ble_eq_true rfl) rfl rfl ?_
  refine ex_aload_n dX1_take_0 rfl ?_
  refine ex_aload_n dX1_take_1 rfl ?_
  refine g_1_0 dX1_take_2 rfl wf_X1_9 (by first | assumption | rfl) ?_
  refine p_1_0 dX1_take_5 rfl wf_X1_9 (nfZ hz) (by first | assumption | rfl) ?_
  refine ex_aload_n dX1_take_8 rfl ?_
  refine ex_aload_n dX1_take_9 rfl ?_
  refine g_1_1 dX1_take_10 rfl wf_X1_15 (by first | assumption | rfl) ?_
  refine p_1_1 dX1_take_13 rfl wf_X1_15 (by first | assumption | rfl) ?_
  refine ex_aload_n dX1_take_16 rfl ?_
  refine ex_aload_n dX1_take_17 rfl ?_
  refine g_1_2 dX1_take_18 rfl wf_X1_19 (by first | assumption | rfl) ?_
  refine p_1_2 dX1_take_21 rfl wf_X1_19 (by first | assumption | rfl) ?_
  refine ex_aload_n dX1_take_24 rfl ?_
  refine ex_aload_n dX1_take_25 rfl ?_
  refine g_1_3 dX1_take_26 rfl wf_X1_22 (by first | assumption | rfl) ?_
  refine p_1_3 dX1_take_29 rfl wf_X1_22 (by first | assumption | rfl) ?_
  refine ex_aload_n dX1_take_32 rfl ?_
  refine ex_aload_n dX1_take_33 rfl ?_
  refine g_1_4 dX1_take_34 rfl wf_X1_25 (by first | assumption | rfl) ?_
  refine p_1_4 dX1_take_37 rfl wf_X1_25 (by first | assumption | rfl) ?_
  refine ex_aload_n dX1_take_40 rfl ?_
  refine ex_aload_n dX1_take_41 rfl ?_
  refine g_1_5 dX1_take_42 rfl wf_X1_28 (by first | assumption | rfl) ?_
  refine p_1_5 dX1_take_45 rfl wf_X1_28 (by first | assumption | rfl) ?_
  refine ex_aload_n dX1_take_48 rfl ?_
  refine ex_aload_n dX1_take_49 rfl ?_
  refine g_1_6 dX1_take_50 rfl wf_X1_31 (by first | assumption | rfl) ?_
  refine p_1_6 dX1_take_53 rfl wf_X1_31 (by first | assumption | rfl) ?_
  refine ex_aload_n dX1_take_56 rfl ?_
  refine ex_aload_n dX1_take_57 rfl ?_
  refine g_1_7 dX1_take_58 rfl wf_X1_34 (by first | assumption | rfl) ?_
  refine p_1_7 dX1_take_61 rfl wf_X1_34 (by first | assumption | rfl) ?_
  refine ex_aload_n dX1_take_64 rfl ?_
  refine ex_aload_n dX1_take_65 rfl ?_
  refine g_1_8 dX1_take_66 rfl wf_X1_37 (by first | assumption | rfl) ?_
  refine p_1_8 dX1_take_69 rfl wf_X1_37 (by first | assumption | rfl) ?_
  refine ex_aload_n dX1_take_72 rfl ?_
  refine ex_aload_n dX1_take_73 rfl ?_
  refine g_1_9 dX1_take_74 rfl wf_X1_40 (by first | assumption | rfl) ?_
  refine p_1_9 dX1_take_77 rfl wf_X1_40 (by first | assumption | rfl) ?_
  refine ex_vret dX1_take_80 rfl ⟨rfl, Nat.le_refl _⟩ ?_
  exact ⟨rfl, rfl⟩
set_option maxRecDepth 100000 in
set_option maxHeartbeats 4000000 in
theorem s_X1_rest {a : Nat} (ha : K0 a = (1, 10)) : Ca G mdX1_rest [.ref a] (mk I L t) (Rv (mk (boRest I a) L t)) := by
  refine Ca.intro [some (.ref a)] (by decide) (Nat.le_of_ble_eq_true rfl) rfl rfl ?_
  refine ex_aload_n dX1_rest_0 rfl ?_
  refine ex_iconst (v := 0) dX1_rest_1 (by decide) ?_
  refine p_1_6 dX1_rest_2 rfl wf_X1_31 (by first | assumption | rfl) ?_
  refine ex_aload_n dX1_rest_5 rfl ?_
  refine ex_iconst (v := 0) dX1_rest_6 (by decide) ?_
  refine p_1_7 dX1_rest_7 rfl wf_X1_34 (by first | assumption | rfl) ?_
  refine ex_aload_n dX1_rest_10 rfl ?_
  refine ex_iconst (v := 0) dX1_rest_11 (by decide) ?_
  refine p_1_8 dX1_rest_12 rfl wf_X1_37 (by first | assumption | rfl) ?_
  refine ex_aload_n dX1_rest_15 rfl ?_
  refine ex_bipush (v := (-9)) dX1_rest_16 (by decide) ?_
  refine p_1_9 dX1_rest_18 rfl wf_X1_40 (by first | assumption | rfl) ?_
  refine ex_vret dX1_rest_21 rfl ⟨rfl, Nat.le_refl _⟩ ?_
  exact ⟨rfl, rfl⟩
theorem iflt {x : Int32} {α : Type} {u v : α} (h : 0 ≤ x) : (if x < 0 then u else v) = v := if_neg (by grind)
theorem mx1 (w : Int32) : ¬ mx 1 w = 0 := by
  unfold mx
  split
  · intro q
    rename_i h
    rw [q] at h
    exact absurd h (by decide)
  · decide
set_option maxRecDepth 100000 in
set_option maxHeartbeats 4000000 in
theorem s_X1_strain {a : Nat} (ha : K0 a = (1, 10)) : Ca G mdX1_strain [.ref a] (mk I L t) (Rs (.int (stra (I a 6) (I a 3) (I a 4))) (mk I L t)) := by
  refine Ca.intro [some (.ref a), none] (by decide) (Nat.le_of_ble_eq_true rfl) rfl rfl ?_
  refine ex_aload_n dX1_strain_0 rfl ?_
  refine g_1_6 dX1_strain_1 rfl wf_X1_31 (by first | assumption | rfl) ?_
  refine ex_if_ge 15 dX1_strain_4 (by decide) (fun h4 => ?_) (fun h4 => ?_)
  · skip
    refine ex_aload_n dX1_strain_15 rfl ?_
    refine g_1_6 dX1_strain_16 rfl wf_X1_31 (by first | assumption | rfl) ?_
    refine ex_aload_n dX1_strain_19 rfl ?_
    refine g_1_4 dX1_strain_20 rfl wf_X1_25 (by first | assumption | rfl) ?_
    refine ex_isub dX1_strain_23 ?_
    refine st_i1 dX1_strain_24 (by first | exact rfl | exact trivial) ?_
    refine ex_iload_n dX1_strain_25 rfl ?_
    refine ex_if_le 38 dX1_strain_26 (by decide) (fun h26 => ?_) (fun h26 => ?_)
    · skip
      refine ex_iconst (v := 0) dX1_strain_38 (by decide) ?_
      refine ex_iret dX1_strain_39 rfl rfl ⟨rfl, Nat.le_refl _⟩ ?_
      exact ⟨by simp only [stra]; grind, rfl⟩
    · skip
      refine ex_aload_n dX1_strain_29 rfl ?_
      refine g_1_3 dX1_strain_30 rfl wf_X1_22 (by first | assumption | rfl) ?_
      refine ex_iload_n dX1_strain_33 rfl ?_
      refine ex_imul dX1_strain_34 ?_
      refine ex_goto 39 dX1_strain_35 (by decide) ?_
      refine ex_iret dX1_strain_39 rfl rfl ⟨rfl, Nat.le_refl _⟩ ?_
      exact ⟨by simp only [stra]; grind, rfl⟩
  · skip
    refine ex_aload_n dX1_strain_7 rfl ?_
    refine g_1_6 dX1_strain_8 rfl wf_X1_31 (by first | assumption | rfl) ?_
    refine ex_ineg dX1_strain_11 ?_
    refine ex_goto 19 dX1_strain_12 (by decide) ?_
    refine ex_aload_n dX1_strain_19 rfl ?_
    refine g_1_4 dX1_strain_20 rfl wf_X1_25 (by first | assumption | rfl) ?_
    refine ex_isub dX1_strain_23 ?_
    refine st_i1 dX1_strain_24 (by first | exact rfl | exact trivial) ?_
    refine ex_iload_n dX1_strain_25 rfl ?_
    refine ex_if_le 38 dX1_strain_26 (by decide) (fun h26 => ?_) (fun h26 => ?_)
    · skip
      refine ex_iconst (v := 0) dX1_strain_38 (by decide) ?_
      refine ex_iret dX1_strain_39 rfl rfl ⟨rfl, Nat.le_refl _⟩ ?_
      exact ⟨by simp only [stra]; grind, rfl⟩
    · skip
      refine ex_aload_n dX1_strain_29 rfl ?_
      refine g_1_3 dX1_strain_30 rfl wf_X1_22 (by first | assumption | rfl) ?_
      refine ex_iload_n dX1_strain_33 rfl ?_
      refine ex_imul dX1_strain_34 ?_
      refine ex_goto 39 dX1_strain_35 (by decide) ?_
      refine ex_iret dX1_strain_39 rfl rfl ⟨rfl, Nat.le_refl _⟩ ?_
      exact ⟨by simp only [stra]; grind, rfl⟩
theorem ride_q {x s : Int32} (h : ¬ x = -9) (z y : Im) (n : Int32) : (if x = -9 ∧ s < n then z else y) = y := if_neg (fun q => h q.1)
theorem ride_n {x s n : Int32} (h : n ≤ s) (z y : Im) : (if x = -9 ∧ s < n then z else y) = y := if_neg (fun q => Int32.not_lt.mpr h q.2)
theorem ride_p {x s n : Int32} (h1 : x = -9) (h : ¬ n ≤ s) (z y : Im) : (if x = -9 ∧ s < n then z else y) = z := if_pos ⟨h1, Int32.not_le.mp h⟩
theorem u2_if {α : Type} {f : Nat → Nat → α} {a j a' j' : Nat} {v : α} : up2 f a j v a' j' = if j' = j then (if a' = a then v else f a' j') else f a' j' := by
  unfold up2
  by_cases h : j' = j <;> by_cases h2 : a' = a <;> simp [h, h2]
set_option maxRecDepth 100000 in
set_option maxHeartbeats 4000000 in
theorem s_X1_ride {a : Nat} {fl sec : Int32} (ha : K0 a = (1, 10)) : Ca G mdX1_ride [.ref a, .int fl, .int sec] (mk I L t) (Rv (mk (boRide I a fl sec) L t)) := by
  refine Ca.intro [some (.ref a), some (.int fl), some (.int sec), none, none] (by decide) (Nat.le_of_ble_eq_true rfl) rfl rfl ?_
  refine ex_aload_n dX1_ride_0 rfl ?_
  refine g_1_6 dX1_ride_1 rfl wf_X1_31 (by first | assumption | rfl) ?_
  refine ex_if_le 16 dX1_ride_4 (by decide) (fun h4 => ?_) (fun h4 => ?_)
  · have g4 : ¬ 0 < I a 6 := Int32.not_lt.mpr h4
    refine ex_iload_n dX1_ride_16 rfl ?_
    refine ex_aload_n dX1_ride_17 rfl ?_
    refine rx_cV (kd := 1) dX1_ride_18 rfl lk_X1_43 rfl (by decide) (by first | assumption | rfl) ⟨⟨rfl, rfl⟩, by decide, by decide⟩ rfl (Nat.le_of_ble_eq_true rfl) rfl (s_X1_strain ha) (Rs.k ?_)
    refine ex_iadd dX1_ride_21 ?_
    refine st_i3 dX1_ride_22 (by first | exact rfl | exact trivial) ?_
    refine ex_aload_n dX1_ride_23 rfl ?_
    refine ex_dup dX1_ride_24 rfl ?_
    refine g_1_7 dX1_ride_25 rfl wf_X1_34 (by first | assumption | rfl) ?_
    refine ex_iload_n dX1_ride_28 rfl ?_
    refine ex_iconst (v := 1) dX1_ride_29 (by decide) ?_
    refine ex_iconst (v := 4) dX1_ride_30 (by decide) ?_
    refine ex_aload_n dX1_ride_31 rfl ?_
    refine g_1_2 dX1_ride_32 rfl wf_X1_19 (by first | assumption | rfl) ?_
    refine ex_imul dX1_ride_35 ?_
    refine ex_mmax dX1_ride_36 rfl lk_X1_47 wj_max wj_m wj_maxc ⟨by decide, by decide⟩ ⟨by decide, by decide⟩ (Nat.le_of_ble_eq_true rfl) ?_
    refine ex_idiv dX1_ride_39 (mx1 _) ?_
    refine ex_iadd dX1_ride_40 ?_
    refine p_1_7 dX1_ride_41 rfl wf_X1_34 (by first | assumption | rfl) ?_
    refine ex_aload_n dX1_ride_44 rfl ?_
    refine ex_dup dX1_ride_45 rfl ?_
    refine g_1_7 dX1_ride_46 rfl wf_X1_34 (by first | assumption | rfl) ?_
    simp only [u2_if, Nat.reduceEqDiff, if_true, if_false, eq_self]
    refine ex_aload_n dX1_ride_49 rfl ?_
    refine g_1_7 dX1_ride_50 rfl wf_X1_34 (by first | assumption | rfl) ?_
    simp only [u2_if, Nat.reduceEqDiff, if_true, if_false, eq_self]
    refine ex_bipush (v := 16) dX1_ride_53 (by decide) ?_
    refine ex_idiv dX1_ride_55 (by decide) ?_
    refine ex_isub dX1_ride_56 ?_
    refine p_1_7 dX1_ride_57 rfl wf_X1_34 (by first | assumption | rfl) ?_
    refine ex_aload_n dX1_ride_60 rfl ?_
    refine ex_dup dX1_ride_61 rfl ?_
    refine g_1_6 dX1_ride_62 rfl wf_X1_31 (by first | assumption | rfl) ?_
    simp only [u2_if, Nat.reduceEqDiff, if_true, if_false, eq_self]
    refine ex_aload_n dX1_ride_65 rfl ?_
    refine g_1_7 dX1_ride_66 rfl wf_X1_34 (by first | assumption | rfl) ?_
    simp only [u2_if, Nat.reduceEqDiff, if_true, if_false, eq_self]
    refine ex_iadd dX1_ride_69 ?_
    refine p_1_6 dX1_ride_70 rfl wf_X1_31 (by first | assumption | rfl) ?_
    refine ex_aload_n dX1_ride_73 rfl ?_
    refine rx_cV (kd := 1) dX1_ride_74 rfl lk_X1_43 rfl (by decide) (by first | assumption | rfl) ⟨⟨rfl, rfl⟩, by decide, by decide⟩ rfl (Nat.le_of_ble_eq_true rfl) rfl (s_X1_strain ha) (Rs.k ?_)
    simp only [u2_if, Nat.reduceEqDiff, if_true, if_false, eq_self]
    refine st_i4 dX1_ride_77 (by first | exact rfl | exact trivial) ?_
    refine ex_aload_n dX1_ride_79 rfl ?_
    refine ex_aload_n dX1_ride_80 rfl ?_
    refine g_1_8 dX1_ride_81 rfl wf_X1_37 (by first | assumption | rfl) ?_
    simp only [u2_if, Nat.reduceEqDiff, if_true, if_false, eq_self]
    refine ex_iload dX1_ride_84 rfl ?_
    refine ex_mmax dX1_ride_86 rfl lk_X1_47 wj_max wj_m wj_maxc ⟨by decide, by decide⟩ ⟨by decide, by decide⟩ (Nat.le_of_ble_eq_true rfl) ?_
    refine p_1_8 dX1_ride_89 rfl wf_X1_37 (by first | assumption | rfl) ?_
    refine ex_aload_n dX1_ride_92 rfl ?_
    refine g_1_9 dX1_ride_93 rfl wf_X1_40 (by first | assumption | rfl) ?_
    simp only [u2_if, Nat.reduceEqDiff, if_true, if_false, eq_self]
    refine ex_bipush (v := (-9)) dX1_ride_96 (by decide) ?_
    refine ex_icmp_ne 115 dX1_ride_98 (by decide) (fun h98 => ?_) (fun h98 => ?_)
    · have hE := ride_q (s := I a 5) h98
      refine ex_vret dX1_ride_115 rfl ⟨rfl, Nat.le_refl _⟩ ?_
      exact ⟨rfl, by unfold boRide; simp only [g4, if_true, if_false]; first | exact congrArg (fun z => mk z L t) (hE _ _ _).symm | exact congrArg (fun z => mk z L t) (hE _ _).symm⟩
    · skip
      refine ex_iload dX1_ride_101 rfl ?_
      refine ex_aload_n dX1_ride_103 rfl ?_
      refine g_1_5 dX1_ride_104 rfl wf_X1_28 (by first | assumption | rfl) ?_
      simp only [u2_if, Nat.reduceEqDiff, if_true, if_false, eq_self]
      refine ex_icmp_le 115 dX1_ride_107 (by decide) (fun h107 => ?_) (fun h107 => ?_)
      · have hE := ride_n (x := I a 9) h107
        refine ex_vret dX1_ride_115 rfl ⟨rfl, Nat.le_refl _⟩ ?_
        exact ⟨rfl, by unfold boRide; simp only [g4, if_true, if_false]; first | exact congrArg (fun z => mk z L t) (hE _ _ _).symm | exact congrArg (fun z => mk z L t) (hE _ _).symm⟩
      · have hE := ride_p h98 h107
        refine ex_aload_n dX1_ride_110 rfl ?_
        refine ex_iload_n dX1_ride_111 rfl ?_
        refine p_1_9 dX1_ride_112 rfl wf_X1_40 (by first | assumption | rfl) ?_
        refine ex_vret dX1_ride_115 rfl ⟨rfl, Nat.le_refl _⟩ ?_
        exact ⟨rfl, by unfold boRide; simp only [g4, if_true, if_false]; first | exact congrArg (fun z => mk z L t) (hE _ _ _).symm | exact congrArg (fun z => mk z L t) (hE _ _).symm⟩
  · have g4 : 0 < I a 6 := Int32.not_le.mp h4
    refine ex_iload_n dX1_ride_7 rfl ?_
    refine ex_aload_n dX1_ride_8 rfl ?_
    refine rx_cV (kd := 1) dX1_ride_9 rfl lk_X1_43 rfl (by decide) (by first | assumption | rfl) ⟨⟨rfl, rfl⟩, by decide, by decide⟩ rfl (Nat.le_of_ble_eq_true rfl) rfl (s_X1_strain ha) (Rs.k ?_)
    refine ex_isub dX1_ride_12 ?_
    refine ex_goto 22 dX1_ride_13 (by decide) ?_
    refine st_i3 dX1_ride_22 (by first | exact rfl | exact trivial) ?_
    refine ex_aload_n dX1_ride_23 rfl ?_
    refine ex_dup dX1_ride_24 rfl ?_
    refine g_1_7 dX1_ride_25 rfl wf_X1_34 (by first | assumption | rfl) ?_
    refine ex_iload_n dX1_ride_28 rfl ?_
    refine ex_iconst (v := 1) dX1_ride_29 (by decide) ?_
    refine ex_iconst (v := 4) dX1_ride_30 (by decide) ?_
    refine ex_aload_n dX1_ride_31 rfl ?_
    refine g_1_2 dX1_ride_32 rfl wf_X1_19 (by first | assumption | rfl) ?_
    refine ex_imul dX1_ride_35 ?_
    refine ex_mmax dX1_ride_36 rfl lk_X1_47 wj_max wj_m wj_maxc ⟨by decide, by decide⟩ ⟨by decide, by decide⟩ (Nat.le_of_ble_eq_true rfl) ?_
    refine ex_idiv dX1_ride_39 (mx1 _) ?_
    refine ex_iadd dX1_ride_40 ?_
    refine p_1_7 dX1_ride_41 rfl wf_X1_34 (by first | assumption | rfl) ?_
    refine ex_aload_n dX1_ride_44 rfl ?_
    refine ex_dup dX1_ride_45 rfl ?_
    refine g_1_7 dX1_ride_46 rfl wf_X1_34 (by first | assumption | rfl) ?_
    simp only [u2_if, Nat.reduceEqDiff, if_true, if_false, eq_self]
    refine ex_aload_n dX1_ride_49 rfl ?_
    refine g_1_7 dX1_ride_50 rfl wf_X1_34 (by first | assumption | rfl) ?_
    simp only [u2_if, Nat.reduceEqDiff, if_true, if_false, eq_self]
    refine ex_bipush (v := 16) dX1_ride_53 (by decide) ?_
    refine ex_idiv dX1_ride_55 (by decide) ?_
    refine ex_isub dX1_ride_56 ?_
    refine p_1_7 dX1_ride_57 rfl wf_X1_34 (by first | assumption | rfl) ?_
    refine ex_aload_n dX1_ride_60 rfl ?_
    refine ex_dup dX1_ride_61 rfl ?_
    refine g_1_6 dX1_ride_62 rfl wf_X1_31 (by first | assumption | rfl) ?_
    simp only [u2_if, Nat.reduceEqDiff, if_true, if_false, eq_self]
    refine ex_aload_n dX1_ride_65 rfl ?_
    refine g_1_7 dX1_ride_66 rfl wf_X1_34 (by first | assumption | rfl) ?_
    simp only [u2_if, Nat.reduceEqDiff, if_true, if_false, eq_self]
    refine ex_iadd dX1_ride_69 ?_
    refine p_1_6 dX1_ride_70 rfl wf_X1_31 (by first | assumption | rfl) ?_
    refine ex_aload_n dX1_ride_73 rfl ?_
    refine rx_cV (kd := 1) dX1_ride_74 rfl lk_X1_43 rfl (by decide) (by first | assumption | rfl) ⟨⟨rfl, rfl⟩, by decide, by decide⟩ rfl (Nat.le_of_ble_eq_true rfl) rfl (s_X1_strain ha) (Rs.k ?_)
    simp only [u2_if, Nat.reduceEqDiff, if_true, if_false, eq_self]
    refine st_i4 dX1_ride_77 (by first | exact rfl | exact trivial) ?_
    refine ex_aload_n dX1_ride_79 rfl ?_
    refine ex_aload_n dX1_ride_80 rfl ?_
    refine g_1_8 dX1_ride_81 rfl wf_X1_37 (by first | assumption | rfl) ?_
    simp only [u2_if, Nat.reduceEqDiff, if_true, if_false, eq_self]
    refine ex_iload dX1_ride_84 rfl ?_
    refine ex_mmax dX1_ride_86 rfl lk_X1_47 wj_max wj_m wj_maxc ⟨by decide, by decide⟩ ⟨by decide, by decide⟩ (Nat.le_of_ble_eq_true rfl) ?_
    refine p_1_8 dX1_ride_89 rfl wf_X1_37 (by first | assumption | rfl) ?_
    refine ex_aload_n dX1_ride_92 rfl ?_
    refine g_1_9 dX1_ride_93 rfl wf_X1_40 (by first | assumption | rfl) ?_
    simp only [u2_if, Nat.reduceEqDiff, if_true, if_false, eq_self]
    refine ex_bipush (v := (-9)) dX1_ride_96 (by decide) ?_
    refine ex_icmp_ne 115 dX1_ride_98 (by decide) (fun h98 => ?_) (fun h98 => ?_)
    · have hE := ride_q (s := I a 5) h98
      refine ex_vret dX1_ride_115 rfl ⟨rfl, Nat.le_refl _⟩ ?_
      exact ⟨rfl, by unfold boRide; simp only [g4, if_true, if_false]; first | exact congrArg (fun z => mk z L t) (hE _ _ _).symm | exact congrArg (fun z => mk z L t) (hE _ _).symm⟩
    · skip
      refine ex_iload dX1_ride_101 rfl ?_
      refine ex_aload_n dX1_ride_103 rfl ?_
      refine g_1_5 dX1_ride_104 rfl wf_X1_28 (by first | assumption | rfl) ?_
      simp only [u2_if, Nat.reduceEqDiff, if_true, if_false, eq_self]
      refine ex_icmp_le 115 dX1_ride_107 (by decide) (fun h107 => ?_) (fun h107 => ?_)
      · have hE := ride_n (x := I a 9) h107
        refine ex_vret dX1_ride_115 rfl ⟨rfl, Nat.le_refl _⟩ ?_
        exact ⟨rfl, by unfold boRide; simp only [g4, if_true, if_false]; first | exact congrArg (fun z => mk z L t) (hE _ _ _).symm | exact congrArg (fun z => mk z L t) (hE _ _).symm⟩
      · have hE := ride_p h98 h107
        refine ex_aload_n dX1_ride_110 rfl ?_
        refine ex_iload_n dX1_ride_111 rfl ?_
        refine p_1_9 dX1_ride_112 rfl wf_X1_40 (by first | assumption | rfl) ?_
        refine ex_vret dX1_ride_115 rfl ⟨rfl, Nat.le_refl _⟩ ?_
        exact ⟨rfl, by unfold boRide; simp only [g4, if_true, if_false]; first | exact congrArg (fun z => mk z L t) (hE _ _ _).symm | exact congrArg (fun z => mk z L t) (hE _ _).symm⟩
set_option maxRecDepth 100000 in
set_option maxHeartbeats 4000000 in
theorem s_X1_ridden {a w : Nat} (ha : K0 a = (1, 10)) (hw : w ≤ 3) : Ca G mdX1_ridden [.ref a, .int (nI w)] (mk I L t) (Rs (.int (riddenF I a w)) (mk I L t)) := by
  refine Ca.intro [some (.ref a), some (.int (nI w))] (by decide) (Nat.le_of_ble_eq_true rfl) rfl rfl ?_
  refine ex_iload_n dX1_ridden_0 rfl ?_
  refine ex_tsw 0 2 [28, 33, 38] 43 dX1_ridden_1 (by decide) (by decide) (by decide) (by decide) (by decide) (fun i hi hs => ?_) (fun hs => ?_)
  · rcases (by omega : i = 0 ∨ i = 1 ∨ i = 2) with rfl | rfl | rfl
    · show Ex G _ 28 _ _ _ _ _ _
      refine ex_aload_n dX1_ridden_28 rfl ?_
      refine g_1_6 dX1_ridden_29 rfl wf_X1_31 (by first | assumption | rfl) ?_
      refine ex_iret dX1_ridden_32 rfl rfl ⟨rfl, Nat.le_refl _⟩ ?_
      exact ⟨by have := (nI_eq (by omega) (by decide)).mp hs; subst this; rfl, rfl⟩
    · show Ex G _ 33 _ _ _ _ _ _
      refine ex_aload_n dX1_ridden_33 rfl ?_
      refine g_1_7 dX1_ridden_34 rfl wf_X1_34 (by first | assumption | rfl) ?_
      refine ex_iret dX1_ridden_37 rfl rfl ⟨rfl, Nat.le_refl _⟩ ?_
      exact ⟨by have := (nI_eq (by omega) (by decide)).mp hs; subst this; rfl, rfl⟩
    · show Ex G _ 38 _ _ _ _ _ _
      refine ex_aload_n dX1_ridden_38 rfl ?_
      refine g_1_8 dX1_ridden_39 rfl wf_X1_37 (by first | assumption | rfl) ?_
      refine ex_iret dX1_ridden_42 rfl rfl ⟨rfl, Nat.le_refl _⟩ ?_
      exact ⟨by have := (nI_eq (by omega) (by decide)).mp hs; subst this; rfl, rfl⟩
  · have h3 : w = 3 := by rcases (by omega : w = 0 ∨ w = 1 ∨ w = 2 ∨ w = 3) with rfl | rfl | rfl | rfl; exact absurd rfl (hs 0 (by decide)); exact absurd rfl (hs 1 (by decide)); exact absurd rfl (hs 2 (by decide)); rfl
    subst h3
    refine ex_aload_n dX1_ridden_43 rfl ?_
    refine g_1_9 dX1_ridden_44 rfl wf_X1_40 (by first | assumption | rfl) ?_
    refine ex_iret dX1_ridden_47 rfl rfl ⟨rfl, Nat.le_refl _⟩ ?_
    exact ⟨rfl, rfl⟩
set_option maxRecDepth 100000 in
set_option maxHeartbeats 4000000 in
theorem s_X1_mixInto {a : Nat} {h : Int64} (ha : K0 a = (1, 10)) : Ca G mdX1_mixInto [.ref a, .long h] (mk I L t) (Rs (.long (boMix I a h)) (mk I L t)) := by
  refine Ca.intro [some (.ref a), some (.long h), none] (by decide) (Nat.le_of_ble_eq_true rfl) rfl rfl ?_
  refine ex_aload_n dX1_mixInto_0 rfl ?_
  refine g_1_0 dX1_mixInto_1 rfl wf_X1_9 (by first | assumption | rfl) ?_
  refine ex_if_ne 15 dX1_mixInto_4 (by decide) (fun h4 => ?_) (fun h4 => ?_)
  · skip
    refine ex_lload_n dX1_mixInto_15 rfl ?_
    refine ex_aload_n dX1_mixInto_16 rfl ?_
    refine g_1_1 dX1_mixInto_17 rfl wf_X1_15 (by first | assumption | rfl) ?_
    refine ex_i2l dX1_mixInto_20 ?_
    refine rx_cSN dX1_mixInto_21 rfl lk_X1_55 ⟨⟨rfl, rfl⟩, by decide, by decide⟩ rfl (Nat.le_of_ble_eq_true rfl) rfl s_X11_mix (Rs.k ?_)
    refine ex_aload_n dX1_mixInto_24 rfl ?_
    refine g_1_2 dX1_mixInto_25 rfl wf_X1_19 (by first | assumption | rfl) ?_
    refine ex_i2l dX1_mixInto_28 ?_
    refine rx_cSN dX1_mixInto_29 rfl lk_X1_55 ⟨⟨rfl, rfl⟩, by decide, by decide⟩ rfl (Nat.le_of_ble_eq_true rfl) rfl s_X11_mix (Rs.k ?_)
    refine ex_aload_n dX1_mixInto_32 rfl ?_
    refine g_1_3 dX1_mixInto_33 rfl wf_X1_22 (by first | assumption | rfl) ?_
    refine ex_i2l dX1_mixInto_36 ?_
    refine rx_cSN dX1_mixInto_37 rfl lk_X1_55 ⟨⟨rfl, rfl⟩, by decide, by decide⟩ rfl (Nat.le_of_ble_eq_true rfl) rfl s_X11_mix (Rs.k ?_)
    refine ex_aload_n dX1_mixInto_40 rfl ?_
    refine g_1_4 dX1_mixInto_41 rfl wf_X1_25 (by first | assumption | rfl) ?_
    refine ex_i2l dX1_mixInto_44 ?_
    refine rx_cSN dX1_mixInto_45 rfl lk_X1_55 ⟨⟨rfl, rfl⟩, by decide, by decide⟩ rfl (Nat.le_of_ble_eq_true rfl) rfl s_X11_mix (Rs.k ?_)
    refine ex_aload_n dX1_mixInto_48 rfl ?_
    refine g_1_5 dX1_mixInto_49 rfl wf_X1_28 (by first | assumption | rfl) ?_
    refine ex_i2l dX1_mixInto_52 ?_
    refine rx_cSN dX1_mixInto_53 rfl lk_X1_55 ⟨⟨rfl, rfl⟩, by decide, by decide⟩ rfl (Nat.le_of_ble_eq_true rfl) rfl s_X11_mix (Rs.k ?_)
    refine ex_lret dX1_mixInto_56 rfl ⟨rfl, Nat.le_refl _⟩ ?_
    exact ⟨by simp [boMix, *], rfl⟩
  · skip
    refine ex_lload_n dX1_mixInto_7 rfl ?_
    refine ex_ldc2 dX1_mixInto_8 rfl wl_X1_53 ?_
    refine rx_cSN dX1_mixInto_11 rfl lk_X1_55 ⟨⟨rfl, rfl⟩, by decide, by decide⟩ rfl (Nat.le_of_ble_eq_true rfl) rfl s_X11_mix (Rs.k ?_)
    refine ex_lret dX1_mixInto_14 rfl ⟨rfl, Nat.le_refl _⟩ ?_
    exact ⟨by simp [boMix, *], rfl⟩
set_option maxRecDepth 100000 in
set_option maxHeartbeats 4000000 in
theorem s_X1_mixRideInto {a : Nat} {h : Int64} (ha : K0 a = (1, 10)) : Ca G mdX1_mixRideInto [.ref a, .long h] (mk I L t) (Rs (.long (boMixR I a h)) (mk I L t)) := by
  refine Ca.intro [some (.ref a), some (.long h), none] (by decide) (Nat.le_of_ble_eq_true rfl) rfl rfl ?_
  refine ex_aload_n dX1_mixRideInto_0 rfl ?_
  refine g_1_0 dX1_mixRideInto_1 rfl wf_X1_9 (by first | assumption | rfl) ?_
  refine ex_if_ne 9 dX1_mixRideInto_4 (by decide) (fun h4 => ?_) (fun h4 => ?_)
  · skip
    refine ex_lload_n dX1_mixRideInto_9 rfl ?_
    refine ex_aload_n dX1_mixRideInto_10 rfl ?_
    refine g_1_6 dX1_mixRideInto_11 rfl wf_X1_31 (by first | assumption | rfl) ?_
    refine ex_i2l dX1_mixRideInto_14 ?_
    refine rx_cSN dX1_mixRideInto_15 rfl lk_X1_55 ⟨⟨rfl, rfl⟩, by decide, by decide⟩ rfl (Nat.le_of_ble_eq_true rfl) rfl s_X11_mix (Rs.k ?_)
    refine ex_aload_n dX1_mixRideInto_18 rfl ?_
    refine g_1_7 dX1_mixRideInto_19 rfl wf_X1_34 (by first | assumption | rfl) ?_
    refine ex_i2l dX1_mixRideInto_22 ?_
    refine rx_cSN dX1_mixRideInto_23 rfl lk_X1_55 ⟨⟨rfl, rfl⟩, by decide, by decide⟩ rfl (Nat.le_of_ble_eq_true rfl) rfl s_X11_mix (Rs.k ?_)
    refine ex_aload_n dX1_mixRideInto_26 rfl ?_
    refine g_1_8 dX1_mixRideInto_27 rfl wf_X1_37 (by first | assumption | rfl) ?_
    refine ex_i2l dX1_mixRideInto_30 ?_
    refine rx_cSN dX1_mixRideInto_31 rfl lk_X1_55 ⟨⟨rfl, rfl⟩, by decide, by decide⟩ rfl (Nat.le_of_ble_eq_true rfl) rfl s_X11_mix (Rs.k ?_)
    refine ex_aload_n dX1_mixRideInto_34 rfl ?_
    refine g_1_9 dX1_mixRideInto_35 rfl wf_X1_40 (by first | assumption | rfl) ?_
    refine ex_i2l dX1_mixRideInto_38 ?_
    refine rx_cSN dX1_mixRideInto_39 rfl lk_X1_55 ⟨⟨rfl, rfl⟩, by decide, by decide⟩ rfl (Nat.le_of_ble_eq_true rfl) rfl s_X11_mix (Rs.k ?_)
    refine ex_lret dX1_mixRideInto_42 rfl ⟨rfl, Nat.le_refl _⟩ ?_
    exact ⟨by simp [boMixR, *], rfl⟩
  · skip
    refine ex_lload_n dX1_mixRideInto_7 rfl ?_
    refine ex_lret dX1_mixRideInto_8 rfl ⟨rfl, Nat.le_refl _⟩ ?_
    exact ⟨by simp [boMixR, *], rfl⟩
set_option maxRecDepth 100000 in
set_option maxHeartbeats 4000000 in
theorem s_X10_plan {a : Nat} {s k v c : Int32} (ha : K0 a = (10, 4)) : Ca G mdX10_plan [.ref a, .int s, .int k, .int v, .int c] (mk I L t) (Rv (mk (woPlan I a s k v c) L t)) := by
  refine Ca.intro [some (.ref a), some (.int s), some (.int k), some (.int v), some (.int c)] (by decide) (Nat.le_of_ble_eq_true rfl) rfl rfl ?_
  refine ex_aload_n dX10_plan_0 rfl ?_
  refine ex_iload_n dX10_plan_1 rfl ?_
  refine p_10_0 dX10_plan_2 rfl wf_X10_7 (by first | assumption | rfl) ?_
  refine ex_aload_n dX10_plan_5 rfl ?_
  refine ex_iload_n dX10_plan_6 rfl ?_
  refine p_10_1 dX10_plan_7 rfl wf_X10_13 (by first | assumption | rfl) ?_
  refine ex_aload_n dX10_plan_10 rfl ?_
  refine ex_iload_n dX10_plan_11 rfl ?_
  refine p_10_2 dX10_plan_12 rfl wf_X10_16 (by first | assumption | rfl) ?_
  refine ex_aload_n dX10_plan_15 rfl ?_
  refine ex_iload dX10_plan_16 rfl ?_
  refine p_10_3 dX10_plan_18 rfl wf_X10_19 (by first | assumption | rfl) ?_
  refine ex_vret dX10_plan_21 rfl ⟨rfl, Nat.le_refl _⟩ ?_
  exact ⟨rfl, rfl⟩
set_option maxRecDepth 100000 in
set_option maxHeartbeats 4000000 in
theorem s_X10_mixInto {a : Nat} {h : Int64} (ha : K0 a = (10, 4)) : Ca G mdX10_mixInto [.ref a, .long h] (mk I L t) (Rs (.long (woMix I a h)) (mk I L t)) := by
  refine Ca.intro [some (.ref a), some (.long h), none] (by decide) (Nat.le_of_ble_eq_true rfl) rfl rfl ?_
  refine ex_lload_n dX10_mixInto_0 rfl ?_
  refine ex_aload_n dX10_mixInto_1 rfl ?_
  refine g_10_0 dX10_mixInto_2 rfl wf_X10_7 (by first | assumption | rfl) ?_
  refine ex_i2l dX10_mixInto_5 ?_
  refine rx_cSN dX10_mixInto_6 rfl lk_X10_38 ⟨⟨rfl, rfl⟩, by decide, by decide⟩ rfl (Nat.le_of_ble_eq_true rfl) rfl s_X11_mix (Rs.k ?_)
  refine ex_aload_n dX10_mixInto_9 rfl ?_
  refine g_10_1 dX10_mixInto_10 rfl wf_X10_13 (by first | assumption | rfl) ?_
  refine ex_i2l dX10_mixInto_13 ?_
  refine rx_cSN dX10_mixInto_14 rfl lk_X10_38 ⟨⟨rfl, rfl⟩, by decide, by decide⟩ rfl (Nat.le_of_ble_eq_true rfl) rfl s_X11_mix (Rs.k ?_)
  refine ex_aload_n dX10_mixInto_17 rfl ?_
  refine g_10_2 dX10_mixInto_18 rfl wf_X10_16 (by first | assumption | rfl) ?_
  refine ex_i2l dX10_mixInto_21 ?_
  refine rx_cSN dX10_mixInto_22 rfl lk_X10_38 ⟨⟨rfl, rfl⟩, by decide, by decide⟩ rfl (Nat.le_of_ble_eq_true rfl) rfl s_X11_mix (Rs.k ?_)
  refine ex_aload_n dX10_mixInto_25 rfl ?_
  refine g_10_3 dX10_mixInto_26 rfl wf_X10_19 (by first | assumption | rfl) ?_
  refine ex_i2l dX10_mixInto_29 ?_
  refine rx_cSN dX10_mixInto_30 rfl lk_X10_38 ⟨⟨rfl, rfl⟩, by decide, by decide⟩ rfl (Nat.le_of_ble_eq_true rfl) rfl s_X11_mix (Rs.k ?_)
  refine ex_lret dX10_mixInto_33 rfl ⟨rfl, Nat.le_refl _⟩ ?_
  exact ⟨rfl, rfl⟩
set_option maxRecDepth 100000 in
set_option maxHeartbeats 4000000 in
theorem s_X10_change {w b : Nat} (hw : K0 w = (10, 4)) (hb : K0 b = (0, 7)) : Ca G mdX10_change [.ref w, .ref b] (mk I L t) (Rv (mk (woDo I w b) L t)) := by
  refine Ca.intro [some (.ref w), some (.ref b)] (by decide) (Nat.le_of_ble_eq_true rfl) rfl rfl ?_
  refine ex_aload_n dX10_change_0 rfl ?_
  refine g_10_0 dX10_change_1 rfl wf_X10_7 (by first | assumption | rfl) ?_
  refine ex_tsw 0 4 [40, 51, 62, 73, 85] 100 dX10_change_4 (by decide) (by decide) (by decide) (by decide) (by decide) (fun i hi hs => ?_) (fun hs => ?_)
  · rcases (by omega : i = 0 ∨ i = 1 ∨ i = 2 ∨ i = 3 ∨ i = 4) with rfl | rfl | rfl | rfl | rfl
    · show Ex G _ 40 _ _ _ _ _ _
      refine ex_aload_n dX10_change_40 rfl ?_
      refine ex_aload_n dX10_change_41 rfl ?_
      refine g_10_1 dX10_change_42 rfl wf_X10_13 (by first | assumption | rfl) ?_
      refine rx_cV (kd := 0) dX10_change_45 rfl lk_X10_22 rfl (by decide) (by first | assumption | rfl) ⟨⟨rfl, rfl⟩, by decide, by decide⟩ rfl (Nat.le_of_ble_eq_true rfl) rfl (s_X0_raiseWall hb) (Rv.k ?_)
      refine ex_goto 113 dX10_change_48 (by decide) ?_
      refine ex_vret dX10_change_113 rfl ⟨rfl, Nat.le_refl _⟩ ?_
      exact ⟨rfl, by rw [woDo, hs]; rfl⟩
    · show Ex G _ 51 _ _ _ _ _ _
      refine ex_aload_n dX10_change_51 rfl ?_
      refine ex_aload_n dX10_change_52 rfl ?_
      refine g_10_1 dX10_change_53 rfl wf_X10_13 (by first | assumption | rfl) ?_
      refine rx_cV (kd := 0) dX10_change_56 rfl lk_X10_28 rfl (by decide) (by first | assumption | rfl) ⟨⟨rfl, rfl⟩, by decide, by decide⟩ rfl (Nat.le_of_ble_eq_true rfl) rfl (s_X0_breakWall hb) (Rv.k ?_)
      refine ex_goto 113 dX10_change_59 (by decide) ?_
      refine ex_vret dX10_change_113 rfl ⟨rfl, Nat.le_refl _⟩ ?_
      exact ⟨rfl, by rw [woDo, hs]; rfl⟩
    · show Ex G _ 62 _ _ _ _ _ _
      refine ex_aload_n dX10_change_62 rfl ?_
      refine ex_aload_n dX10_change_63 rfl ?_
      refine g_10_2 dX10_change_64 rfl wf_X10_16 (by first | assumption | rfl) ?_
      refine rx_cV (kd := 0) dX10_change_67 rfl lk_X10_31 rfl (by decide) (by first | assumption | rfl) ⟨⟨rfl, rfl⟩, by decide, by decide⟩ rfl (Nat.le_of_ble_eq_true rfl) rfl (s_X0_widen hb) (Rv.k ?_)
      refine ex_goto 113 dX10_change_70 (by decide) ?_
      refine ex_vret dX10_change_113 rfl ⟨rfl, Nat.le_refl _⟩ ?_
      exact ⟨rfl, by rw [woDo, hs]; rfl⟩
    · show Ex G _ 73 _ _ _ _ _ _
      refine ex_aload_n dX10_change_73 rfl ?_
      refine ex_aload_n dX10_change_74 rfl ?_
      refine g_10_2 dX10_change_75 rfl wf_X10_16 (by first | assumption | rfl) ?_
      refine ex_ineg dX10_change_78 ?_
      refine rx_cV (kd := 0) dX10_change_79 rfl lk_X10_31 rfl (by decide) (by first | assumption | rfl) ⟨⟨rfl, rfl⟩, by decide, by decide⟩ rfl (Nat.le_of_ble_eq_true rfl) rfl (s_X0_widen hb) (Rv.k ?_)
      refine ex_goto 113 dX10_change_82 (by decide) ?_
      refine ex_vret dX10_change_113 rfl ⟨rfl, Nat.le_refl _⟩ ?_
      exact ⟨rfl, by rw [woDo, hs]; rfl⟩
    · show Ex G _ 85 _ _ _ _ _ _
      refine ex_aload_n dX10_change_85 rfl ?_
      refine ex_aload_n dX10_change_86 rfl ?_
      refine g_10_1 dX10_change_87 rfl wf_X10_13 (by first | assumption | rfl) ?_
      refine ex_aload_n dX10_change_90 rfl ?_
      refine g_10_2 dX10_change_91 rfl wf_X10_16 (by first | assumption | rfl) ?_
      refine rx_cV (kd := 0) dX10_change_94 rfl lk_X10_34 rfl (by decide) (by first | assumption | rfl) ⟨⟨rfl, rfl⟩, by decide, by decide⟩ rfl (Nat.le_of_ble_eq_true rfl) rfl (s_X0_deepen hb) (Rv.k ?_)
      refine ex_goto 113 dX10_change_97 (by decide) ?_
      refine ex_vret dX10_change_113 rfl ⟨rfl, Nat.le_refl _⟩ ?_
      exact ⟨rfl, by rw [woDo, hs]; rfl⟩
  · have n0 : ¬ I w 0 = 0 := hs 0 (by decide)
    have n1 : ¬ I w 0 = 1 := hs 1 (by decide)
    have n2 : ¬ I w 0 = 2 := hs 2 (by decide)
    have n3 : ¬ I w 0 = 3 := hs 3 (by decide)
    have n4 : ¬ I w 0 = 4 := hs 4 (by decide)
    refine ex_aload_n dX10_change_100 rfl ?_
    refine ex_aload_n dX10_change_101 rfl ?_
    refine g_10_1 dX10_change_102 rfl wf_X10_13 (by first | assumption | rfl) ?_
    refine ex_aload_n dX10_change_105 rfl ?_
    refine g_10_2 dX10_change_106 rfl wf_X10_16 (by first | assumption | rfl) ?_
    refine ex_ineg dX10_change_109 ?_
    refine rx_cV (kd := 0) dX10_change_110 rfl lk_X10_34 rfl (by decide) (by first | assumption | rfl) ⟨⟨rfl, rfl⟩, by decide, by decide⟩ rfl (Nat.le_of_ble_eq_true rfl) rfl (s_X0_deepen hb) (Rv.k ?_)
    refine ex_vret dX10_change_113 rfl ⟨rfl, Nat.le_refl _⟩ ?_
    exact ⟨rfl, by simp only [woDo, n0, n1, n2, n3, n4, if_false]⟩
end C3
