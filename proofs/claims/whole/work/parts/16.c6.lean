section C6
variable {G : Gp} {I : Im} {L : Nat → Nat → Int64} {t : Nat}
def mn (x y : Int32) : Int32 := if y < x then y else x
abbrev Cr : Type := Int32 × Int32 × Int32 × Int32 × Int32
/-- many, first, last, shortest, longest behind a crossing at i -/
def cr1 (i : Int32) (v : Cr) : Cr := (v.1 + 1, (if v.1 = 0 then i else v.2.1), i, (if v.1 = 0 then v.2.2.2.1 else if v.1 = 1 then i - v.2.2.1 else mn v.2.2.2.1 (i - v.2.2.1)), (if v.1 = 0 then v.2.2.2.2 else mx v.2.2.2.2 (i - v.2.2.1)))
def crN (f : Nat → Int32) : Nat → Cr
  | 0 => (0, 0, 0, 0, 0)
  | k + 1 => if f k < 0 ∧ 0 ≤ f (k + 1) then cr1 (nI (k + 1)) (crN f k) else crN f k
def crW (I : Im) (v : Cr) : Im := fun a j => if a = 99 then (if j = 1 then v.1 else if j = 2 then v.2.1 else if j = 3 then v.2.2.1 else if j = 4 then v.2.2.2.1 else if j = 5 then v.2.2.2.2 else I 99 j) else I a j
theorem crW_off {v : Cr} {a : Nat} (h : a ≠ 99) : crW I v a = I a := by
  funext j
  simp [crW, h]
theorem crW_0 : up2 (up2 (up2 (up2 (up2 I 99 1 0) 99 2 0) 99 3 0) 99 4 0) 99 5 0 = crW I (0, 0, 0, 0, 0) := by
  funext a j
  by_cases ha : a = 99
  · subst ha
    simp only [crW, u2_if, if_true]
    repeat' split
    all_goals first | rfl | omega
  · simp [crW, up2, ha]
def lastL (f : Nat → Int32) : Nat → Nat
  | 0 => 0
  | k + 1 => if 100 < f k ∨ f k < -100 then k + 1 else lastL f k
def cutB (I : Im) : Int32 := if 2 ≤ I 99 1 then (I 99 3 - I 99 2) / (I 99 1 - 1) else 0
def gcdS : Nat → Nat → Nat → Nat
  | 0, x, _ => x
  | k + 1, x, y => if y = 0 then x else gcdS k y (x % y)
def frT (L : Nat → Nat → Int64) (o u : Nat) : Nat → Nat → Int64 := up2 (up2 L 103 0 (nI (o / gcdS 64 o u)).toInt64) 103 1 (nI (u / gcdS 64 o u)).toInt64
set_option maxRecDepth 100000 in
set_option maxHeartbeats 4000000 in
theorem s_X2_cross {v : Cr} {i : Int32} : Ca G mdX2_cross [.ref 99, .int i] (mk (crW I v) L t) (Rv (mk (crW I (cr1 i v)) L t)) := by
  refine Ca.intro [some (.ref 99), some (.int i)] (by decide) (Nat.le_of_ble_eq_true rfl) rfl rfl ?_
  refine ex_aload_n dX2_cross_0 rfl ?_
  refine g_2_1 dX2_cross_1 rfl wf_X2_15 (by first | assumption | rfl) ?_
  simp only [show ∀ j, crW I v 99 j = (if j = 1 then v.1 else if j = 2 then v.2.1 else if j = 3 then v.2.2.1 else if j = 4 then v.2.2.2.1 else if j = 5 then v.2.2.2.2 else I 99 j) from fun _ => rfl, u2_if, Nat.reduceEqDiff, if_true, if_false, eq_self]
  refine ex_if_ne 15 dX2_cross_4 (by decide) (fun h4 => ?_) (fun h4 => ?_)
  · skip
    refine ex_aload_n dX2_cross_15 rfl ?_
    refine ex_aload_n dX2_cross_16 rfl ?_
    refine g_2_1 dX2_cross_17 rfl wf_X2_15 (by first | assumption | rfl) ?_
    simp only [show ∀ j, crW I v 99 j = (if j = 1 then v.1 else if j = 2 then v.2.1 else if j = 3 then v.2.2.1 else if j = 4 then v.2.2.2.1 else if j = 5 then v.2.2.2.2 else I 99 j) from fun _ => rfl, u2_if, Nat.reduceEqDiff, if_true, if_false, eq_self]
    refine ex_iconst (v := 1) dX2_cross_20 (by decide) ?_
    refine ex_icmp_ne 33 dX2_cross_21 (by decide) (fun h21 => ?_) (fun h21 => ?_)
    · skip
      refine ex_aload_n dX2_cross_33 rfl ?_
      refine g_2_4 dX2_cross_34 rfl wf_X2_25 (by first | assumption | rfl) ?_
      simp only [show ∀ j, crW I v 99 j = (if j = 1 then v.1 else if j = 2 then v.2.1 else if j = 3 then v.2.2.1 else if j = 4 then v.2.2.2.1 else if j = 5 then v.2.2.2.2 else I 99 j) from fun _ => rfl, u2_if, Nat.reduceEqDiff, if_true, if_false, eq_self]
      refine ex_iload_n dX2_cross_37 rfl ?_
      refine ex_aload_n dX2_cross_38 rfl ?_
      refine g_2_3 dX2_cross_39 rfl wf_X2_22 (by first | assumption | rfl) ?_
      simp only [show ∀ j, crW I v 99 j = (if j = 1 then v.1 else if j = 2 then v.2.1 else if j = 3 then v.2.2.1 else if j = 4 then v.2.2.2.1 else if j = 5 then v.2.2.2.2 else I 99 j) from fun _ => rfl, u2_if, Nat.reduceEqDiff, if_true, if_false, eq_self]
      refine ex_isub dX2_cross_42 ?_
      refine ex_mmin dX2_cross_43 rfl lk_X2_35 wj_min wj_m wj_minc ⟨by decide, by decide⟩ ⟨by decide, by decide⟩ (Nat.le_of_ble_eq_true rfl) ?_
      refine p_2_4 dX2_cross_46 rfl wf_X2_25 (by first | assumption | rfl) ?_
      refine ex_aload_n dX2_cross_49 rfl ?_
      refine ex_aload_n dX2_cross_50 rfl ?_
      refine g_2_5 dX2_cross_51 rfl wf_X2_28 (by first | assumption | rfl) ?_
      simp only [show ∀ j, crW I v 99 j = (if j = 1 then v.1 else if j = 2 then v.2.1 else if j = 3 then v.2.2.1 else if j = 4 then v.2.2.2.1 else if j = 5 then v.2.2.2.2 else I 99 j) from fun _ => rfl, u2_if, Nat.reduceEqDiff, if_true, if_false, eq_self]
      refine ex_iload_n dX2_cross_54 rfl ?_
      refine ex_aload_n dX2_cross_55 rfl ?_
      refine g_2_3 dX2_cross_56 rfl wf_X2_22 (by first | assumption | rfl) ?_
      simp only [show ∀ j, crW I v 99 j = (if j = 1 then v.1 else if j = 2 then v.2.1 else if j = 3 then v.2.2.1 else if j = 4 then v.2.2.2.1 else if j = 5 then v.2.2.2.2 else I 99 j) from fun _ => rfl, u2_if, Nat.reduceEqDiff, if_true, if_false, eq_self]
      refine ex_isub dX2_cross_59 ?_
      refine ex_mmax dX2_cross_60 rfl lk_X2_41 wj_max wj_m wj_maxc ⟨by decide, by decide⟩ ⟨by decide, by decide⟩ (Nat.le_of_ble_eq_true rfl) ?_
      refine p_2_5 dX2_cross_63 rfl wf_X2_28 (by first | assumption | rfl) ?_
      refine ex_aload_n dX2_cross_66 rfl ?_
      refine ex_iload_n dX2_cross_67 rfl ?_
      refine p_2_3 dX2_cross_68 rfl wf_X2_22 (by first | assumption | rfl) ?_
      refine ex_aload_n dX2_cross_71 rfl ?_
      refine ex_dup dX2_cross_72 rfl ?_
      refine g_2_1 dX2_cross_73 rfl wf_X2_15 (by first | assumption | rfl) ?_
      simp only [show ∀ j, crW I v 99 j = (if j = 1 then v.1 else if j = 2 then v.2.1 else if j = 3 then v.2.2.1 else if j = 4 then v.2.2.2.1 else if j = 5 then v.2.2.2.2 else I 99 j) from fun _ => rfl, u2_if, Nat.reduceEqDiff, if_true, if_false, eq_self]
      refine ex_iconst (v := 1) dX2_cross_76 (by decide) ?_
      refine ex_iadd dX2_cross_77 ?_
      refine p_2_1 dX2_cross_78 rfl wf_X2_15 (by first | assumption | rfl) ?_
      refine ex_vret dX2_cross_81 rfl ⟨rfl, Nat.le_refl _⟩ ?_
      refine ⟨rfl, congrArg (fun z => mk z L t) ?_⟩
      funext a j
      by_cases ha : a = 99
      · subst ha
        simp only [crW, cr1, u2_if, if_true, Nat.reduceEqDiff, if_false, mx, mn] at *
        repeat' split
        all_goals first | rfl | omega | (simp_all; done)
      · simp [crW, up2, ha]
    · skip
      refine ex_iload_n dX2_cross_24 rfl ?_
      refine ex_aload_n dX2_cross_25 rfl ?_
      refine g_2_3 dX2_cross_26 rfl wf_X2_22 (by first | assumption | rfl) ?_
      simp only [show ∀ j, crW I v 99 j = (if j = 1 then v.1 else if j = 2 then v.2.1 else if j = 3 then v.2.2.1 else if j = 4 then v.2.2.2.1 else if j = 5 then v.2.2.2.2 else I 99 j) from fun _ => rfl, u2_if, Nat.reduceEqDiff, if_true, if_false, eq_self]
      refine ex_isub dX2_cross_29 ?_
      refine ex_goto 46 dX2_cross_30 (by decide) ?_
      refine p_2_4 dX2_cross_46 rfl wf_X2_25 (by first | assumption | rfl) ?_
      refine ex_aload_n dX2_cross_49 rfl ?_
      refine ex_aload_n dX2_cross_50 rfl ?_
      refine g_2_5 dX2_cross_51 rfl wf_X2_28 (by first | assumption | rfl) ?_
      simp only [show ∀ j, crW I v 99 j = (if j = 1 then v.1 else if j = 2 then v.2.1 else if j = 3 then v.2.2.1 else if j = 4 then v.2.2.2.1 else if j = 5 then v.2.2.2.2 else I 99 j) from fun _ => rfl, u2_if, Nat.reduceEqDiff, if_true, if_false, eq_self]
      refine ex_iload_n dX2_cross_54 rfl ?_
      refine ex_aload_n dX2_cross_55 rfl ?_
      refine g_2_3 dX2_cross_56 rfl wf_X2_22 (by first | assumption | rfl) ?_
      simp only [show ∀ j, crW I v 99 j = (if j = 1 then v.1 else if j = 2 then v.2.1 else if j = 3 then v.2.2.1 else if j = 4 then v.2.2.2.1 else if j = 5 then v.2.2.2.2 else I 99 j) from fun _ => rfl, u2_if, Nat.reduceEqDiff, if_true, if_false, eq_self]
      refine ex_isub dX2_cross_59 ?_
      refine ex_mmax dX2_cross_60 rfl lk_X2_41 wj_max wj_m wj_maxc ⟨by decide, by decide⟩ ⟨by decide, by decide⟩ (Nat.le_of_ble_eq_true rfl) ?_
      refine p_2_5 dX2_cross_63 rfl wf_X2_28 (by first | assumption | rfl) ?_
      refine ex_aload_n dX2_cross_66 rfl ?_
      refine ex_iload_n dX2_cross_67 rfl ?_
      refine p_2_3 dX2_cross_68 rfl wf_X2_22 (by first | assumption | rfl) ?_
      refine ex_aload_n dX2_cross_71 rfl ?_
      refine ex_dup dX2_cross_72 rfl ?_
      refine g_2_1 dX2_cross_73 rfl wf_X2_15 (by first | assumption | rfl) ?_
      simp only [show ∀ j, crW I v 99 j = (if j = 1 then v.1 else if j = 2 then v.2.1 else if j = 3 then v.2.2.1 else if j = 4 then v.2.2.2.1 else if j = 5 then v.2.2.2.2 else I 99 j) from fun _ => rfl, u2_if, Nat.reduceEqDiff, if_true, if_false, eq_self]
      refine ex_iconst (v := 1) dX2_cross_76 (by decide) ?_
      refine ex_iadd dX2_cross_77 ?_
      refine p_2_1 dX2_cross_78 rfl wf_X2_15 (by first | assumption | rfl) ?_
      refine ex_vret dX2_cross_81 rfl ⟨rfl, Nat.le_refl _⟩ ?_
      refine ⟨rfl, congrArg (fun z => mk z L t) ?_⟩
      funext a j
      by_cases ha : a = 99
      · subst ha
        simp only [crW, cr1, u2_if, if_true, Nat.reduceEqDiff, if_false, mx, mn] at *
        repeat' split
        all_goals first | rfl | omega | (simp_all; done)
      · simp [crW, up2, ha]
  · skip
    refine ex_aload_n dX2_cross_7 rfl ?_
    refine ex_iload_n dX2_cross_8 rfl ?_
    refine p_2_2 dX2_cross_9 rfl wf_X2_19 (by first | assumption | rfl) ?_
    refine ex_goto 66 dX2_cross_12 (by decide) ?_
    refine ex_aload_n dX2_cross_66 rfl ?_
    refine ex_iload_n dX2_cross_67 rfl ?_
    refine p_2_3 dX2_cross_68 rfl wf_X2_22 (by first | assumption | rfl) ?_
    refine ex_aload_n dX2_cross_71 rfl ?_
    refine ex_dup dX2_cross_72 rfl ?_
    refine g_2_1 dX2_cross_73 rfl wf_X2_15 (by first | assumption | rfl) ?_
    simp only [show ∀ j, crW I v 99 j = (if j = 1 then v.1 else if j = 2 then v.2.1 else if j = 3 then v.2.2.1 else if j = 4 then v.2.2.2.1 else if j = 5 then v.2.2.2.2 else I 99 j) from fun _ => rfl, u2_if, Nat.reduceEqDiff, if_true, if_false, eq_self]
    refine ex_iconst (v := 1) dX2_cross_76 (by decide) ?_
    refine ex_iadd dX2_cross_77 ?_
    refine p_2_1 dX2_cross_78 rfl wf_X2_15 (by first | assumption | rfl) ?_
    refine ex_vret dX2_cross_81 rfl ⟨rfl, Nat.le_refl _⟩ ?_
    refine ⟨rfl, congrArg (fun z => mk z L t) ?_⟩
    funext a j
    by_cases ha : a = 99
    · subst ha
      simp only [crW, cr1, u2_if, if_true, Nat.reduceEqDiff, if_false, mx, mn] at *
      repeat' split
      all_goals first | rfl | omega | (simp_all; done)
    · simp [crW, up2, ha]
set_option maxRecDepth 100000 in
set_option maxHeartbeats 4000000 in
theorem s_X2_look {b N n : Nat} (hb : K0 b = (14, N + 1)) (hb9 : b ≠ 99) (hnN : n ≤ N + 1) (hN : N < 2 ^ 31 - 1) : Ca G mdX2_look [.ref 99, .ref b, .int (nI n)] (mk I L t) (Rv (mk (crW I (crN (I b) (n - 1))) L t)) := by
  refine Ca.intro [some (.ref 99), some (.ref b), some (.int (nI n)), none] (by decide) (Nat.le_of_ble_eq_true rfl) rfl rfl ?_
  refine ex_aload_n dX2_look_0 rfl ?_
  refine ex_iconst (v := 0) dX2_look_1 (by decide) ?_
  refine p_2_1 dX2_look_2 rfl wf_X2_15 (by first | assumption | rfl) ?_
  refine ex_aload_n dX2_look_5 rfl ?_
  refine ex_iconst (v := 0) dX2_look_6 (by decide) ?_
  refine p_2_2 dX2_look_7 rfl wf_X2_19 (by first | assumption | rfl) ?_
  refine ex_aload_n dX2_look_10 rfl ?_
  refine ex_iconst (v := 0) dX2_look_11 (by decide) ?_
  refine p_2_3 dX2_look_12 rfl wf_X2_22 (by first | assumption | rfl) ?_
  refine ex_aload_n dX2_look_15 rfl ?_
  refine ex_iconst (v := 0) dX2_look_16 (by decide) ?_
  refine p_2_4 dX2_look_17 rfl wf_X2_25 (by first | assumption | rfl) ?_
  refine ex_aload_n dX2_look_20 rfl ?_
  refine ex_iconst (v := 0) dX2_look_21 (by decide) ?_
  refine p_2_5 dX2_look_22 rfl wf_X2_28 (by first | assumption | rfl) ?_
  refine ex_iconst (v := 1) dX2_look_25 (by decide) ?_
  refine st_i3 dX2_look_26 (by first | exact rfl | exact trivial) ?_
  have key := loop_up (G := G) (d := mdX2_look) (pc := 27) (st := []) (uc := 0) (us := 0) (P := Rv (mk (crW I (crN (I b) (n - 1))) L t)) (n - 1) (fun k => mk (crW I (crN (I b) k)) L t) (fun k => [some (.ref 99), some (.ref b), some (.int (nI n)), some (.int (nI (k + 1)))]) ?_ ?_ 0 (Nat.zero_le _)
  · rw [show crN (I b) 0 = (0, 0, 0, 0, 0) from rfl] at key
    rw [crW_0]
    exact key
  · intro k hk ih
    refine ex_iload_n dX2_look_27 rfl ?_
    refine ex_iload_n dX2_look_28 rfl ?_
    refine ex_icmp_ge 63 dX2_look_29 (by decide) (fun h29 => ?_) (fun h29 => ?_)
    · exact absurd h29 (nI_ge (by omega) (by omega))
    · skip
      refine ex_iload_n dX2_look_32 rfl ?_
      refine ex_aload_n dX2_look_33 rfl ?_
      refine rx_alen dX2_look_34 (by first | assumption | rfl) (by decide) rfl ?_
      refine ex_icmp_ge 63 dX2_look_35 (by decide) (fun h35 => ?_) (fun h35 => ?_)
      · exact absurd h35 (nI_ge (by omega) (by omega))
      · skip
        refine ex_aload_n dX2_look_38 rfl ?_
        refine ex_iload_n dX2_look_39 rfl ?_
        refine ex_iconst (v := 1) dX2_look_40 (by decide) ?_
        refine ex_isub dX2_look_41 ?_
        refine rx_iald dX2_look_42 (by first | assumption | rfl) (by rw [nI_pred]; exact vp_in_nI (by omega) (by omega)) ?_
        rw [crW_off hb9, nI_pred, nI_clamp (by omega)]
        refine ex_if_ge 57 dX2_look_43 (by decide) (fun h43 => ?_) (fun h43 => ?_)
        · have hw : crN (I b) (k + 1) = crN (I b) k := if_neg (fun q => Int32.not_lt.mpr h43 q.1)
          refine inc3 (v := _ + 1) dX2_look_57 (by rfl) (by first | exact rfl | exact trivial) ?_
          refine ex_goto 27 dX2_look_60 (by decide) ?_
          rw [nI_1]
          rw [hw] at ih
          exact ih
        · skip
          refine ex_aload_n dX2_look_46 rfl ?_
          refine ex_iload_n dX2_look_47 rfl ?_
          refine rx_iald dX2_look_48 (by first | assumption | rfl) (vp_in_nI (by omega) (by omega)) ?_
          rw [crW_off hb9, nI_clamp (by omega)]
          refine ex_if_lt 57 dX2_look_49 (by decide) (fun h49 => ?_) (fun h49 => ?_)
          · have hw : crN (I b) (k + 1) = crN (I b) k := if_neg (fun q => Int32.not_le.mpr h49 q.2)
            refine inc3 (v := _ + 1) dX2_look_57 (by rfl) (by first | exact rfl | exact trivial) ?_
            refine ex_goto 27 dX2_look_60 (by decide) ?_
            rw [nI_1]
            rw [hw] at ih
            exact ih
          · have hw : crN (I b) (k + 1) = cr1 (nI (k + 1)) (crN (I b) k) := if_pos ⟨Int32.not_le.mp h43, Int32.not_lt.mp h49⟩
            refine ex_aload_n dX2_look_52 rfl ?_
            refine ex_iload_n dX2_look_53 rfl ?_
            refine rx_cV (kd := 2) dX2_look_54 rfl lk_X2_31 rfl (by decide) (by first | assumption | rfl) ⟨⟨rfl, rfl⟩, by decide, by decide⟩ rfl (Nat.le_of_ble_eq_true rfl) rfl s_X2_cross (Rv.k ?_)
            refine inc3 (v := _ + 1) dX2_look_57 (by rfl) (by first | exact rfl | exact trivial) ?_
            refine ex_goto 27 dX2_look_60 (by decide) ?_
            rw [nI_1]
            rw [hw] at ih
            exact ih
  · skip
    refine ex_iload_n dX2_look_27 rfl ?_
    refine ex_iload_n dX2_look_28 rfl ?_
    refine ex_icmp_ge 63 dX2_look_29 (by decide) (fun h29 => ?_) (fun h29 => ?_)
    · skip
      refine ex_vret dX2_look_63 rfl ⟨rfl, Nat.le_refl _⟩ ?_
      exact ⟨rfl, rfl⟩
    · have hn0 : n = 0 := by
        rcases Nat.eq_zero_or_pos n with q | q
        · exact q
        · exact absurd (by rw [show n - 1 + 1 = n by omega]; exact Int32.le_refl _) h29
      subst hn0
      exact absurd (by decide : nI 0 ≤ nI (0 - 1 + 1)) h29
set_option maxRecDepth 100000 in
set_option maxHeartbeats 4000000 in
theorem s_X2_haveBeat  : Ca G mdX2_haveBeat [.ref 99] (mk I L t) (Rs (.int (b2i (2 ≤ I 99 1))) (mk I L t)) := by
  refine Ca.intro [some (.ref 99)] (by decide) (Nat.le_of_ble_eq_true rfl) rfl rfl ?_
  refine ex_aload_n dX2_haveBeat_0 rfl ?_
  refine g_2_1 dX2_haveBeat_1 rfl wf_X2_15 (by first | assumption | rfl) ?_
  refine ex_iconst (v := 2) dX2_haveBeat_4 (by decide) ?_
  refine ex_icmp_lt 12 dX2_haveBeat_5 (by decide) (fun h5 => ?_) (fun h5 => ?_)
  · skip
    refine ex_iconst (v := 0) dX2_haveBeat_12 (by decide) ?_
    refine ex_iret dX2_haveBeat_13 rfl rfl ⟨rfl, Nat.le_refl _⟩ ?_
    exact ⟨by first | exact b2i_t (by grind) | exact b2i_f (by grind), rfl⟩
  · skip
    refine ex_iconst (v := 1) dX2_haveBeat_8 (by decide) ?_
    refine ex_goto 13 dX2_haveBeat_9 (by decide) ?_
    refine ex_iret dX2_haveBeat_13 rfl rfl ⟨rfl, Nat.le_refl _⟩ ?_
    exact ⟨by first | exact b2i_t (by grind) | exact b2i_f (by grind), rfl⟩
set_option maxRecDepth 100000 in
set_option maxHeartbeats 4000000 in
theorem s_X2_cutBeat  : Ca G mdX2_cutBeat [.ref 99] (mk I L t) (Rs (.int (cutB I)) (mk I L t)) := by
  refine Ca.intro [some (.ref 99)] (by decide) (Nat.le_of_ble_eq_true rfl) rfl rfl ?_
  refine ex_aload_n dX2_cutBeat_0 rfl ?_
  refine rx_cV (kd := 2) dX2_cutBeat_1 rfl lk_X2_44 rfl (by decide) (by first | assumption | rfl) ⟨⟨rfl, rfl⟩, by decide, by decide⟩ rfl (Nat.le_of_ble_eq_true rfl) rfl s_X2_haveBeat (Rs.k ?_)
  refine ex_if_eq 26 dX2_cutBeat_4 (by decide) (fun h4 => ?_) (fun h4 => ?_)
  · skip
    refine ex_iconst (v := 0) dX2_cutBeat_26 (by decide) ?_
    refine ex_iret dX2_cutBeat_27 rfl rfl ⟨rfl, Nat.le_refl _⟩ ?_
    first | exact ⟨by rw [cutB, if_pos (b2i_n0.mp h4)], rfl⟩ | exact ⟨by rw [cutB, if_neg (b2i_0.mp h4)], rfl⟩
  · skip
    refine ex_aload_n dX2_cutBeat_7 rfl ?_
    refine g_2_3 dX2_cutBeat_8 rfl wf_X2_22 (by first | assumption | rfl) ?_
    refine ex_aload_n dX2_cutBeat_11 rfl ?_
    refine g_2_2 dX2_cutBeat_12 rfl wf_X2_19 (by first | assumption | rfl) ?_
    refine ex_isub dX2_cutBeat_15 ?_
    refine ex_aload_n dX2_cutBeat_16 rfl ?_
    refine g_2_1 dX2_cutBeat_17 rfl wf_X2_15 (by first | assumption | rfl) ?_
    refine ex_iconst (v := 1) dX2_cutBeat_20 (by decide) ?_
    refine ex_isub dX2_cutBeat_21 ?_
    refine ex_idiv dX2_cutBeat_22 (by have := b2i_n0.mp h4; intro q; grind) ?_
    refine ex_goto 27 dX2_cutBeat_23 (by decide) ?_
    refine ex_iret dX2_cutBeat_27 rfl rfl ⟨rfl, Nat.le_refl _⟩ ?_
    first | exact ⟨by rw [cutB, if_pos (b2i_n0.mp h4)], rfl⟩ | exact ⟨by rw [cutB, if_neg (b2i_0.mp h4)], rfl⟩
theorem loop_dn {d : Md} {pc : Nat} {st : List Value} {uc us : Nat} {P : Nat → Option Value → Mem → Prop} (F : Mem) (lf : Nat → List (Option Value)) (base : Ex G d pc (lf 0) st F uc us (P 0)) (body : ∀ k, Ex G d pc (lf k) st F uc us (P k) → Ex G d pc (lf (k + 1)) st F uc us (P (k + 1))) : ∀ k, Ex G d pc (lf k) st F uc us (P k) := by
  intro k
  induction k with
  | zero => exact base
  | succ k ih => exact body k ih
set_option maxRecDepth 100000 in
set_option maxHeartbeats 4000000 in
theorem s_X2_lastLoud  : Ca G mdX2_lastLoud [.ref 99] (mk I L t) (Rs (.int (nI (lastL (I 100) 400))) (mk I L t)) := by
  refine Ca.intro [some (.ref 99), none] (by decide) (Nat.le_of_ble_eq_true rfl) rfl rfl ?_
  refine ex_sipush (v := 400) dX2_lastLoud_0 (by decide) ?_
  refine st_i1 dX2_lastLoud_3 (by first | exact rfl | exact trivial) ?_
  have key : ∀ k, k ≤ 400 → Ex G mdX2_lastLoud 4 [some (.ref 99), some (.int (nI k))] [] (mk I L t) 0 0 (Rs (.int (nI (lastL (I 100) k))) (mk I L t)) := by
    intro k
    induction k with
    | zero =>
      intro hk
      refine ex_iload_n dX2_lastLoud_4 rfl ?_
      refine ex_if_le 42 dX2_lastLoud_5 (by decide) (fun h5 => ?_) (fun h5 => ?_)
      · skip
        refine ex_iconst (v := 0) dX2_lastLoud_42 (by decide) ?_
        refine ex_iret dX2_lastLoud_43 rfl rfl ⟨rfl, Nat.le_refl _⟩ ?_
        exact ⟨rfl, rfl⟩
      · exact absurd (by decide : nI 0 ≤ 0) h5
    | succ k ih =>
      intro hk
      refine ex_iload_n dX2_lastLoud_4 rfl ?_
      refine ex_if_le 42 dX2_lastLoud_5 (by decide) (fun h5 => ?_) (fun h5 => ?_)
      · exact absurd h5 (nI_nle (by omega) (by omega))
      · skip
        refine ex_aload_n dX2_lastLoud_8 rfl ?_
        refine g_2_0 dX2_lastLoud_9 rfl wf_X2_9 (by first | assumption | rfl) rfl ?_
        refine ex_iload_n dX2_lastLoud_12 rfl ?_
        refine ex_iconst (v := 1) dX2_lastLoud_13 (by decide) ?_
        refine ex_isub dX2_lastLoud_14 ?_
        refine rx_iald dX2_lastLoud_15 (by first | assumption | rfl) (by rw [nI_pred]; exact vpi (by omega)) ?_
        rw [nI_pred, nI_clamp (by omega)]
        refine ex_bipush (v := 100) dX2_lastLoud_16 (by decide) ?_
        refine ex_icmp_gt 34 dX2_lastLoud_18 (by decide) (fun h18 => ?_) (fun h18 => ?_)
        · have hw : lastL (I 100) (k + 1) = k + 1 := if_pos (Or.inl h18)
          refine ex_iload_n dX2_lastLoud_34 rfl ?_
          refine ex_iret dX2_lastLoud_35 rfl rfl ⟨rfl, Nat.le_refl _⟩ ?_
          exact ⟨by rw [hw], rfl⟩
        · skip
          refine ex_aload_n dX2_lastLoud_21 rfl ?_
          refine g_2_0 dX2_lastLoud_22 rfl wf_X2_9 (by first | assumption | rfl) rfl ?_
          refine ex_iload_n dX2_lastLoud_25 rfl ?_
          refine ex_iconst (v := 1) dX2_lastLoud_26 (by decide) ?_
          refine ex_isub dX2_lastLoud_27 ?_
          refine rx_iald dX2_lastLoud_28 (by first | assumption | rfl) (by rw [nI_pred]; exact vpi (by omega)) ?_
          rw [nI_pred, nI_clamp (by omega)]
          refine ex_bipush (v := (-100)) dX2_lastLoud_29 (by decide) ?_
          refine ex_icmp_ge 36 dX2_lastLoud_31 (by decide) (fun h31 => ?_) (fun h31 => ?_)
          · have hw : lastL (I 100) (k + 1) = lastL (I 100) k := if_neg (fun q => q.elim h18 (Int32.not_lt.mpr h31))
            refine inc1 (v := _ + (-1)) dX2_lastLoud_36 (by rfl) (by first | exact rfl | exact trivial) ?_
            refine ex_goto 4 dX2_lastLoud_39 (by decide) ?_
            rw [pk_m1, hw]
            exact ih (by omega)
          · have hw : lastL (I 100) (k + 1) = k + 1 := if_pos (Or.inr (Int32.not_le.mp h31))
            refine ex_iload_n dX2_lastLoud_34 rfl ?_
            refine ex_iret dX2_lastLoud_35 rfl rfl ⟨rfl, Nat.le_refl _⟩ ?_
            exact ⟨by rw [hw], rfl⟩
  exact key 400 (Nat.le_refl _)
set_option maxRecDepth 100000 in
set_option maxHeartbeats 4000000 in
theorem s_X3_divisor {x y : Nat} (hx : x < 2 ^ 31) (hy : y < 2 ^ 31) : Ca G mdX3_divisor [.int (nI x), .int (nI y)] (mk I L t) (Rs (.int (nI (gcdS 64 x y))) (mk I L t)) := by
  refine Ca.intro [some (.int (nI x)), some (.int (nI y)), none, none, none, none] (by decide) (Nat.le_of_ble_eq_true rfl) rfl rfl ?_
  refine ex_iload_n dX3_divisor_0 rfl ?_
  refine st_i2 dX3_divisor_1 (by first | exact rfl | exact trivial) ?_
  refine ex_iload_n dX3_divisor_2 rfl ?_
  refine st_i3 dX3_divisor_3 (by first | exact rfl | exact trivial) ?_
  refine ex_iconst (v := 0) dX3_divisor_4 (by decide) ?_
  refine st_i4 dX3_divisor_5 (by first | exact rfl | exact trivial) ?_
  have key : ∀ f i x1 y1, i + f = 64 → x1 < 2 ^ 31 → y1 < 2 ^ 31 → Ex G mdX3_divisor 7 [some (.int (nI x)), some (.int (nI y)), some (.int (nI x1)), some (.int (nI y1)), some (.int (nI i)), none] [] (mk I L t) 0 0 (Rs (.int (nI (gcdS f x1 y1))) (mk I L t)) := by
    intro f
    induction f with
    | zero =>
      intro i x1 y1 hi hx1 hy1
      refine ex_iload dX3_divisor_7 rfl ?_
      refine ex_bipush (v := 64) dX3_divisor_9 (by decide) ?_
      refine ex_icmp_ge 34 dX3_divisor_11 (by decide) (fun h11 => ?_) (fun h11 => ?_)
      · skip
        refine ex_iload_n dX3_divisor_34 rfl ?_
        refine ex_mabs dX3_divisor_35 rfl lk_X3_25 wj_abs wj_m wj_absc ⟨by decide, by decide⟩ ⟨by decide, by decide⟩ (Nat.le_of_ble_eq_true rfl) ?_
        refine ex_iret dX3_divisor_38 rfl rfl ⟨rfl, Nat.le_refl _⟩ ?_
        exact ⟨by rw [if_pos (nI_pos' hx1)]; rfl, rfl⟩
      · exact absurd (nI_le (a := 64) (by omega) (by omega)) h11
    | succ f ih =>
      intro i x1 y1 hi hx1 hy1
      refine ex_iload dX3_divisor_7 rfl ?_
      refine ex_bipush (v := 64) dX3_divisor_9 (by decide) ?_
      refine ex_icmp_ge 34 dX3_divisor_11 (by decide) (fun h11 => ?_) (fun h11 => ?_)
      · exact absurd h11 (nI_ge (b := 64) (by omega) (by omega))
      · skip
        refine ex_iload_n dX3_divisor_14 rfl ?_
        refine ex_if_eq 34 dX3_divisor_15 (by decide) (fun h15 => ?_) (fun h15 => ?_)
        · have hy0 : y1 = 0 := (nI_eq hy1 (by decide)).mp h15
          refine ex_iload_n dX3_divisor_34 rfl ?_
          refine ex_mabs dX3_divisor_35 rfl lk_X3_25 wj_abs wj_m wj_absc ⟨by decide, by decide⟩ ⟨by decide, by decide⟩ (Nat.le_of_ble_eq_true rfl) ?_
          refine ex_iret dX3_divisor_38 rfl rfl ⟨rfl, Nat.le_refl _⟩ ?_
          exact ⟨by rw [if_pos (nI_pos' hx1), gcdS, if_pos hy0], rfl⟩
        · have hy0 : ¬ y1 = 0 := fun q => h15 (by rw [q]; rfl)
          refine ex_iload_n dX3_divisor_18 rfl ?_
          refine ex_iload_n dX3_divisor_19 rfl ?_
          refine ex_irem dX3_divisor_20 h15 ?_
          refine st_i5 dX3_divisor_21 (by first | exact rfl | exact trivial) ?_
          refine ex_iload_n dX3_divisor_23 rfl ?_
          refine st_i2 dX3_divisor_24 (by first | exact rfl | exact trivial) ?_
          refine ex_iload dX3_divisor_25 rfl ?_
          refine st_i3 dX3_divisor_27 (by first | exact rfl | exact trivial) ?_
          refine inc4 (v := _ + 1) dX3_divisor_28 (by rfl) (by first | exact rfl | exact trivial) ?_
          refine ex_goto 7 dX3_divisor_31 (by decide) ?_
          refine fg5 ?_
          rw [nI_1, pk_rem hx1 (by omega) hy1]
          have := ih (i + 1) y1 (x1 % y1) (by omega) hy1 (Nat.lt_trans (Nat.mod_lt _ (by omega)) hy1)
          rw [show gcdS (f + 1) x1 y1 = gcdS f y1 (x1 % y1) from if_neg hy0]
          exact this
  exact key 64 0 x y (by decide) hx hy
theorem gcdS_pos : ∀ f x y, 0 < x ∨ 0 < y → 0 < gcdS (f + 1) x y := by
  intro f
  induction f with
  | zero =>
    intro x y h
    unfold gcdS
    split
    · omega
    · unfold gcdS
      omega
  | succ f ih =>
    intro x y h
    unfold gcdS
    split
    · omega
    · exact ih y (x % y) (by omega)
theorem gcdS_le : ∀ f x y B, x ≤ B → y ≤ B → gcdS f x y ≤ B := by
  intro f
  induction f with
  | zero => intro x y B hx _; exact hx
  | succ f ih =>
    intro x y B hx hy
    unfold gcdS
    split
    · exact hx
    · exact ih y (x % y) B hy (Nat.le_trans (Nat.le_of_lt (Nat.mod_lt _ (by omega))) hy)
theorem mx_1 {g : Nat} (h0 : 0 < g) (h : g < 2 ^ 31) : (if (1 : Int32) < nI g then nI g else 1) = nI g := by
  by_cases q : g = 1
  · subst q
    rfl
  · exact if_pos (nI_lt (a := 1) (by omega) h)
set_option maxRecDepth 100000 in
set_option maxHeartbeats 4000000 in
theorem s_X3_tell {o u : Nat} (ho : o < 2 ^ 31) (hu : u < 2 ^ 31) (hu1 : 1 ≤ u) (hg : gcdS 64 o u ≤ u) : Ca G mdX3_tell [.ref 103, .int (nI o), .int (nI u)] (mk I L t) (Rv (mk I (frT L o u) t)) := by
  refine Ca.intro [some (.ref 103), some (.int (nI o)), some (.int (nI u)), none] (by decide) (Nat.le_of_ble_eq_true rfl) rfl rfl ?_
  have hg0 : 0 < gcdS 64 o u := gcdS_pos 63 o u (Or.inr hu1)
  have hg1 : gcdS 64 o u < 2 ^ 31 := Nat.lt_of_le_of_lt hg hu
  refine ex_iconst (v := 1) dX3_tell_0 (by decide) ?_
  refine ex_iload_n dX3_tell_1 rfl ?_
  refine ex_iload_n dX3_tell_2 rfl ?_
  refine rx_cS dX3_tell_3 rfl lk_X3_16 ⟨⟨rfl, rfl⟩, by decide, by decide⟩ rfl (Nat.le_of_ble_eq_true rfl) rfl (s_X3_divisor ho hu) (Rs.k ?_)
  refine ex_mmax dX3_tell_6 rfl lk_X3_20 wj_max wj_m wj_maxc ⟨by decide, by decide⟩ ⟨by decide, by decide⟩ (Nat.le_of_ble_eq_true rfl) ?_
  rw [mx_1 hg0 hg1]
  refine st_i3 dX3_tell_9 (by first | exact rfl | exact trivial) ?_
  refine ex_aload_n dX3_tell_10 rfl ?_
  refine ex_iload_n dX3_tell_11 rfl ?_
  refine ex_iload_n dX3_tell_12 rfl ?_
  refine ex_idiv dX3_tell_13 (nI_ne0 hg0 hg1) ?_
  rw [pk_div ho hg0 hg1]
  refine ex_i2l dX3_tell_14 ?_
  refine p_3_0 dX3_tell_15 rfl wf_X3_7 (by first | assumption | rfl) ?_
  refine ex_aload_n dX3_tell_18 rfl ?_
  refine ex_iconst (v := 1) dX3_tell_19 (by decide) ?_
  refine ex_iload_n dX3_tell_20 rfl ?_
  refine ex_iload_n dX3_tell_21 rfl ?_
  refine ex_idiv dX3_tell_22 (nI_ne0 hg0 hg1) ?_
  rw [pk_div hu hg0 hg1]
  refine ex_mmax dX3_tell_23 rfl lk_X3_20 wj_max wj_m wj_maxc ⟨by decide, by decide⟩ ⟨by decide, by decide⟩ (Nat.le_of_ble_eq_true rfl) ?_
  rw [mx_1 (Nat.div_pos hg hg0) (Nat.lt_of_le_of_lt (Nat.div_le_self _ _) hu)]
  refine ex_i2l dX3_tell_26 ?_
  refine p_3_1 dX3_tell_27 rfl wf_X3_13 (by first | assumption | rfl) ?_
  refine ex_vret dX3_tell_30 rfl ⟨rfl, Nat.le_refl _⟩ ?_
  exact ⟨rfl, rfl⟩
end C6
