section M2
variable {G : Gp} {I : Im} {L : Nat → Nat → Int64} {t : Nat}
theorem b2i_1 {p : Prop} [Decidable p] (h : p) : b2i p = 1 := if_pos h
def byF (b : Nat → Int32) (q m p : Nat) : Int32 := if p < m then b (100 * q + p) else 0
set_option maxRecDepth 100000 in
set_option maxHeartbeats 4000000 in
theorem s_X12_byteAt {q p m : Nat} (hq : q < 4) (hm : m ≤ 100) (hs : I 205 q = nI m) (hp : p < 2 ^ 31) : Ca G mdX12_byteAt [.ref 200, .int (nI q), .int (nI p)] (mk I L t) (Rs (.int (byF (I 206) q m p)) (mk I L t)) := by
  refine Ca.intro [some (.ref 200), some (.int (nI q)), some (.int (nI p))] (by decide) (Nat.le_of_ble_eq_true rfl) rfl rfl ?_
  refine ex_iload_n dX12_byteAt_0 rfl ?_
  refine ex_aload_n dX12_byteAt_1 rfl ?_
  refine g_12_8 dX12_byteAt_2 rfl wf_X12_22 (by first | assumption | rfl) (show Rt _ 200 8 = some 205 from rfl) ?_
  refine ex_iload_n dX12_byteAt_5 rfl ?_
  refine rx_iald dX12_byteAt_6 (by first | assumption | rfl) (vp_in_nI hq (by decide)) ?_
  rw [nI_clamp (by omega), hs]
  refine ex_icmp_ge 24 dX12_byteAt_7 (by decide) (fun h7 => ?_) (fun h7 => ?_)
  · have g7 : m ≤ p := (nI_leI (by omega) hp).mp h7
    refine ex_iconst (v := 0) dX12_byteAt_24 (by decide) ?_
    refine ex_iret dX12_byteAt_25 rfl rfl ⟨rfl, Nat.le_refl _⟩ ?_
    exact ⟨by unfold byF; first | rw [if_neg (Nat.not_lt.mpr g7)] | rw [if_pos g7, (ixm (c := 100) (C := 100) (R := 4) rfl (vp_in_nI hq (by decide)) (vp_in_nI (by omega) (by decide)) (by decide)).2, nI_clamp (by omega), nI_clamp (by omega)], rfl⟩
  · have g7 : p < m := Nat.not_le.mp (fun z => h7 (nI_le z hp))
    refine ex_aload_n dX12_byteAt_10 rfl ?_
    refine g_12_9 dX12_byteAt_11 rfl wf_X12_25 (by first | assumption | rfl) (show Rt _ 200 9 = some 206 from rfl) ?_
    refine ex_bipush (v := 100) dX12_byteAt_14 (by decide) ?_
    refine ex_iload_n dX12_byteAt_16 rfl ?_
    refine ex_imul dX12_byteAt_17 ?_
    refine ex_iload_n dX12_byteAt_18 rfl ?_
    refine ex_iadd dX12_byteAt_19 ?_
    refine rx_bald dX12_byteAt_20 (by first | assumption | rfl) (ixm (C := 100) (R := 4) rfl (vp_in_nI hq (by decide)) (vp_in_nI (by omega) (by decide)) (by decide)).1 ?_
    refine ex_goto 25 dX12_byteAt_21 (by decide) ?_
    refine ex_iret dX12_byteAt_25 rfl rfl ⟨rfl, Nat.le_refl _⟩ ?_
    exact ⟨by unfold byF; first | rw [if_neg (Nat.not_lt.mpr g7)] | rw [if_pos g7, (ixm (c := 100) (C := 100) (R := 4) rfl (vp_in_nI hq (by decide)) (vp_in_nI (by omega) (by decide)) (by decide)).2, nI_clamp (by omega), nI_clamp (by omega)], rfl⟩
def rm (I : Im) (p : Nat) (x : Int32) : Im := up2 (up2 I 200 15 (nI p)) 200 16 x
theorem rm_p {p : Nat} {x : Int32} : rm I p x 200 15 = nI p := by
  unfold rm
  rw [u2_j (by decide), u2_s]
theorem rm_x {p : Nat} {x : Int32} : rm I p x 200 16 = x := u2_s
theorem rm_off {p e : Nat} {x : Int32} (h : e ≠ 200) : rm I p x e = I e := by
  unfold rm
  rw [up2_off h, up2_off h]
theorem rm_o {p j : Nat} {x : Int32} (h : j ≠ 15) (h2 : j ≠ 16) : rm I p x 200 j = I 200 j := by
  unfold rm
  rw [u2_j h2, u2_j h]
theorem rm_wp {p q : Nat} {x : Int32} : up2 (rm I p x) 200 15 (nI q) = rm I q x := by
  funext e j
  unfold rm up2
  by_cases h : e = 200
  · subst h
    by_cases h1 : j = 15
    · subst h1
      simp
    · simp [h1]
  · simp [h]
theorem rm_wx {p : Nat} {x y : Int32} : up2 (rm I p x) 200 16 y = rm I p y := by
  funext e j
  unfold rm up2
  by_cases h : e = 200 ∧ j = 16
  · rw [if_pos h, if_pos h]
  · rw [if_neg h, if_neg h, if_neg h]
theorem rm_c {p c j : Nat} {x v : Int32} (h : c ≠ 200) : up2 (rm I p x) c j v = rm (up2 I c j v) p x := by
  funext e i
  unfold rm up2
  by_cases h1 : e = 200
  · subst h1
    have : ¬ (200 = c ∧ i = j) := fun q => h q.1.symm
    simp [this]
  · simp [h1]
theorem rm_id {I : Im} {p : Nat} (h : I 200 15 = nI p) : I = rm I p (I 200 16) := by
  unfold rm
  rw [← up2_id h, ← up2_id rfl]
def Rx (v : Value) (J : Im) (p : Nat) (L : Nat → Nat → Int64) (t : Nat) : Option Value → Mem → Prop := fun r M => r = some v ∧ ∃ x, M = mk (rm J p x) L t
theorem Rx.k {d : Md} {pc : Nat} {ls : List (Option Value)} {st : List Value} {uc us : Nat} {P : Option Value → Mem → Prop} {v : Value} {J : Im} {p : Nat} (k : ∀ x, Ex G d pc ls (v :: st) (mk (rm J p x) L t) uc us P) : ∀ r M1, Rx v J p L t r M1 → Ex G d pc ls (r.toList ++ st) M1 uc us P := by
  intro r M1 h
  obtain ⟨rfl, x, rfl⟩ := h
  exact k x
def TqS (I : Im) (q m : Nat) : Prop := q < 4 ∧ m ≤ 100 ∧ I 205 q = nI m ∧ ∀ j, j < 400 → -128 ≤ I 206 j ∧ I 206 j ≤ 127
def numV (f : Nat → Int32) (p : Nat) : Int32 := if figOk f p 0 then numW f p else 0
abbrev numOk (f : Nat → Int32) (p : Nat) (lo hi : Int32) : Prop := figOk f p 0 ∧ lo ≤ numW f p ∧ numW f p ≤ hi
theorem byF_b {q m p : Nat} (h : TqS I q m) : -128 ≤ byF (I 206) q m p ∧ byF (I 206) q m p ≤ 127 := by
  unfold byF
  split
  · exact h.2.2.2 _ (by have := h.1; have := h.2.1; omega)
  · exact ⟨by decide, by decide⟩
theorem fig_i {x lo : Int32} (hx : -128 ≤ x ∧ x ≤ 127) : (48 ≤ x ∧ x ≤ 57) ↔ (0 ≤ x - 48 ∧ x - 48 ≤ 9) := by
  have h1 := Int32.le_iff_toInt_le.mp hx.1
  have h2 := Int32.le_iff_toInt_le.mp hx.2
  rw [(by decide : (-128 : Int32).toInt = -128)] at h1
  rw [(by decide : (127 : Int32).toInt = 127)] at h2
  have e : (x - 48).toInt = x.toInt - 48 := by
    rw [Int32.toInt_sub, (by decide : (48 : Int32).toInt = 48)]
    exact Int.bmod_eq_of_le (by omega) (by omega)
  simp only [Int32.le_iff_toInt_le, e, (by decide : (48 : Int32).toInt = 48), (by decide : (57 : Int32).toInt = 57), (by decide : (0 : Int32).toInt = 0), (by decide : (9 : Int32).toInt = 9)]
  omega
set_option maxRecDepth 100000 in
set_option maxHeartbeats 4000000 in
theorem s_X12_sign {q m p : Nat} {x : Int32} (h : TqS I q m) (hp : p < 2 ^ 30) {b : Int32} : Ca G mdX12_sign [.ref 200, .int (nI q), .int b] (mk (rm I p x) L t) (Rs (.int (b2i ((byF (I 206) q m) p = b))) (mk (rm I (if (byF (I 206) q m) p = b then p + 1 else p) x) L t)) := by
  refine Ca.intro [some (.ref 200), some (.int (nI q)), some (.int b), none] (by decide) (Nat.le_of_ble_eq_true rfl) rfl rfl ?_
  refine ex_aload_n dX12_sign_0 rfl ?_
  refine ex_iload_n dX12_sign_1 rfl ?_
  refine ex_aload_n dX12_sign_2 rfl ?_
  refine g_12_15 dX12_sign_3 rfl wf_X12_114 (by first | assumption | rfl) ?_
  rw [rm_p]
  refine rx_cV (kd := 12) dX12_sign_6 rfl lk_X12_117 rfl (by decide) (by first | assumption | rfl) ⟨⟨rfl, rfl⟩, by decide, by decide⟩ rfl (Nat.le_of_ble_eq_true rfl) rfl (s_X12_byteAt h.1 h.2.1 (by rw [rm_off (by decide)]; exact h.2.2.1) (by omega)) (Rs.k ?_)
  rw [rm_off (by decide)]
  refine ex_iload_n dX12_sign_9 rfl ?_
  refine ex_icmp_ne 17 dX12_sign_10 (by decide) (fun h10 => ?_) (fun h10 => ?_)
  · rw [if_neg h10, b2i_0.mpr h10]
    refine ex_iconst (v := 0) dX12_sign_17 (by decide) ?_
    refine st_i3 dX12_sign_18 (by first | exact rfl | exact trivial) ?_
    refine ex_aload_n dX12_sign_19 rfl ?_
    refine ex_dup dX12_sign_20 rfl ?_
    refine g_12_15 dX12_sign_21 rfl wf_X12_114 (by first | assumption | rfl) ?_
    rw [rm_p]
    refine ex_iload_n dX12_sign_24 rfl ?_
    refine ex_if_eq 32 dX12_sign_25 (by decide) (fun h25 => ?_) (fun h25 => ?_)
    · skip
      refine ex_iconst (v := 0) dX12_sign_32 (by decide) ?_
      refine ex_iadd dX12_sign_33 ?_
      refine p_12_15 dX12_sign_34 rfl wf_X12_114 (by first | assumption | rfl) ?_
      refine ex_iload_n dX12_sign_37 rfl ?_
      refine ex_iret dX12_sign_38 rfl rfl ⟨rfl, Nat.le_refl _⟩ ?_
      exact ⟨rfl, by first | rw [Int32.add_zero, rm_wp] | rw [nI_1, rm_wp]⟩
    · exact absurd h25 (by decide)
  · rw [if_pos h10, b2i_1 h10]
    refine ex_iconst (v := 1) dX12_sign_13 (by decide) ?_
    refine ex_goto 18 dX12_sign_14 (by decide) ?_
    refine st_i3 dX12_sign_18 (by first | exact rfl | exact trivial) ?_
    refine ex_aload_n dX12_sign_19 rfl ?_
    refine ex_dup dX12_sign_20 rfl ?_
    refine g_12_15 dX12_sign_21 rfl wf_X12_114 (by first | assumption | rfl) ?_
    rw [rm_p]
    refine ex_iload_n dX12_sign_24 rfl ?_
    refine ex_if_eq 32 dX12_sign_25 (by decide) (fun h25 => ?_) (fun h25 => ?_)
    · exact absurd h25 (by decide)
    · skip
      refine ex_iconst (v := 1) dX12_sign_28 (by decide) ?_
      refine ex_goto 33 dX12_sign_29 (by decide) ?_
      refine ex_iadd dX12_sign_33 ?_
      refine p_12_15 dX12_sign_34 rfl wf_X12_114 (by first | assumption | rfl) ?_
      refine ex_iload_n dX12_sign_37 rfl ?_
      refine ex_iret dX12_sign_38 rfl rfl ⟨rfl, Nat.le_refl _⟩ ?_
      exact ⟨rfl, by first | rw [Int32.add_zero, rm_wp] | rw [nI_1, rm_wp]⟩
set_option maxRecDepth 100000 in
set_option maxHeartbeats 4000000 in
theorem s_X12_figure {q m p : Nat} {x : Int32} (h : TqS I q m) (hp : p < 2 ^ 30) {b : Int32} : Ca G mdX12_figure [.ref 200, .int (nI q), .int b] (mk (rm I p x) L t) (Rs (.int (b2i (figOk (byF (I 206) q m) p b))) (mk (rm I (if figOk (byF (I 206) q m) p b then p + 1 else p) ((byF (I 206) q m) p - 48)) L t)) := by
  refine Ca.intro [some (.ref 200), some (.int (nI q)), some (.int b), none] (by decide) (Nat.le_of_ble_eq_true rfl) rfl rfl ?_
  refine ex_aload_n dX12_figure_0 rfl ?_
  refine ex_aload_n dX12_figure_1 rfl ?_
  refine ex_iload_n dX12_figure_2 rfl ?_
  refine ex_aload_n dX12_figure_3 rfl ?_
  refine g_12_15 dX12_figure_4 rfl wf_X12_114 (by first | assumption | rfl) ?_
  rw [rm_p]
  refine rx_cV (kd := 12) dX12_figure_7 rfl lk_X12_117 rfl (by decide) (by first | assumption | rfl) ⟨⟨rfl, rfl⟩, by decide, by decide⟩ rfl (Nat.le_of_ble_eq_true rfl) rfl (s_X12_byteAt h.1 h.2.1 (by rw [rm_off (by decide)]; exact h.2.2.1) (by omega)) (Rs.k ?_)
  rw [rm_off (by decide)]
  refine ex_bipush (v := 48) dX12_figure_10 (by decide) ?_
  refine ex_isub dX12_figure_12 ?_
  refine p_12_16 dX12_figure_13 rfl wf_X12_120 (by first | assumption | rfl) ?_
  rw [rm_wx]
  refine ex_aload_n dX12_figure_16 rfl ?_
  refine g_12_16 dX12_figure_17 rfl wf_X12_120 (by first | assumption | rfl) ?_
  rw [rm_x]
  refine ex_iload_n dX12_figure_20 rfl ?_
  refine ex_bipush (v := 9) dX12_figure_21 (by decide) ?_
  refine rx_cS dX12_figure_23 rfl lk_X12_86 ⟨⟨rfl, rfl⟩, by decide, by decide⟩ rfl (Nat.le_of_ble_eq_true rfl) rfl s_X12_in (Rs.k ?_)
  refine st_i3 dX12_figure_26 (by first | exact rfl | exact trivial) ?_
  refine ex_aload_n dX12_figure_27 rfl ?_
  refine ex_dup dX12_figure_28 rfl ?_
  refine g_12_15 dX12_figure_29 rfl wf_X12_114 (by first | assumption | rfl) ?_
  rw [rm_p]
  refine ex_iload_n dX12_figure_32 rfl ?_
  refine ex_if_eq 40 dX12_figure_33 (by decide) (fun h33 => ?_) (fun h33 => ?_)
  · rw [if_neg (b2i_0.mp h33)]
    refine ex_iconst (v := 0) dX12_figure_40 (by decide) ?_
    refine ex_iadd dX12_figure_41 ?_
    refine p_12_15 dX12_figure_42 rfl wf_X12_114 (by first | assumption | rfl) ?_
    refine ex_iload_n dX12_figure_45 rfl ?_
    refine ex_iret dX12_figure_46 rfl (nb2i _) ⟨rfl, Nat.le_refl _⟩ ?_
    exact ⟨rfl, by first | rw [Int32.add_zero, rm_wp] | rw [nI_1, rm_wp]⟩
  · rw [if_pos (b2i_n0.mp h33)]
    refine ex_iconst (v := 1) dX12_figure_36 (by decide) ?_
    refine ex_goto 41 dX12_figure_37 (by decide) ?_
    refine ex_iadd dX12_figure_41 ?_
    refine p_12_15 dX12_figure_42 rfl wf_X12_114 (by first | assumption | rfl) ?_
    refine ex_iload_n dX12_figure_45 rfl ?_
    refine ex_iret dX12_figure_46 rfl (nb2i _) ⟨rfl, Nat.le_refl _⟩ ?_
    exact ⟨rfl, by first | rw [Int32.add_zero, rm_wp] | rw [nI_1, rm_wp]⟩
theorem b2i_fig {q m p : Nat} (h : TqS I q m) : b2i (48 ≤ byF (I 206) q m p ∧ byF (I 206) q m p ≤ 57) = b2i (figOk (byF (I 206) q m) p 0) := by
  by_cases c : 48 ≤ byF (I 206) q m p ∧ byF (I 206) q m p ≤ 57
  · rw [b2i_1 c, b2i_1 (show figOk (byF (I 206) q m) p 0 from (fig_i (lo := 0) (byF_b h)).mp c)]
  · rw [b2i_0.mpr c, b2i_0.mpr (show ¬ figOk (byF (I 206) q m) p 0 from fun z => c ((fig_i (lo := 0) (byF_b h)).mpr z))]
theorem w10 {x : Int32} : 10 * 0 + x - 48 = x - 48 := by
  rw [Int32.mul_zero, Int32.zero_add]
theorem w11 {x y : Int32} : 10 * x + y - 48 = 10 * x + (y - 48) := by
  rw [Int32.sub_eq_add_neg, Int32.sub_eq_add_neg, Int32.add_assoc]
section
variable {f : Nat → Int32} {p : Nat} {lo hi : Int32}
theorem nmA (c : ¬ figOk f p 0) : some (Value.int 0) = some (Value.int (b2i (numOk f p lo hi))) ∧ mk (rm I p 0) L t = mk (rm I (numN f p) (numV f p)) L t := by
  unfold numN numV
  rw [if_neg c, if_neg c]
  exact ⟨b2i_f (fun z => c z.1), rfl⟩
theorem nmW1 (c1 : ¬ figOk f (p + 1) 0) : 10 * 0 + f p - 48 = numW f p := by
  unfold numW
  rw [if_neg c1, w10]
theorem nmW2 (c1 : figOk f (p + 1) 0) : 10 * (10 * 0 + f p - 48) + f (p + 1) - 48 = numW f p := by
  unfold numW
  rw [if_pos c1, w10, w11]
theorem nmB0 (c : figOk f p 0) (c1 : ¬ figOk f (p + 1) 0) (d : ¬ (lo ≤ 10 * 0 + f p - 48 ∧ 10 * 0 + f p - 48 ≤ hi)) : some (Value.int 0) = some (Value.int (b2i (numOk f p lo hi))) ∧ mk (rm I (p + 1) (10 * 0 + f p - 48)) L t = mk (rm I (numN f p) (numV f p)) L t := by
  rw [nmW1 c1] at d ⊢
  unfold numN numV
  rw [if_pos c, if_pos c, if_neg c1]
  exact ⟨b2i_f (fun z => d z.2), rfl⟩
theorem nmB1 (c : figOk f p 0) (c1 : ¬ figOk f (p + 1) 0) (d : lo ≤ 10 * 0 + f p - 48 ∧ 10 * 0 + f p - 48 ≤ hi) : some (Value.int 1) = some (Value.int (b2i (numOk f p lo hi))) ∧ mk (rm I (p + 1) (10 * 0 + f p - 48)) L t = mk (rm I (numN f p) (numV f p)) L t := by
  rw [nmW1 c1] at d ⊢
  unfold numN numV
  rw [if_pos c, if_pos c, if_neg c1]
  exact ⟨b2i_t ⟨c, d⟩, rfl⟩
theorem nmC0 (c : figOk f p 0) (c1 : figOk f (p + 1) 0) (d : ¬ (lo ≤ 10 * (10 * 0 + f p - 48) + f (p + 1) - 48 ∧ 10 * (10 * 0 + f p - 48) + f (p + 1) - 48 ≤ hi)) : some (Value.int 0) = some (Value.int (b2i (numOk f p lo hi))) ∧ mk (rm I (p + 1 + 1) (10 * (10 * 0 + f p - 48) + f (p + 1) - 48)) L t = mk (rm I (numN f p) (numV f p)) L t := by
  rw [nmW2 c1] at d ⊢
  unfold numN numV
  rw [if_pos c, if_pos c, if_pos c1]
  exact ⟨b2i_f (fun z => d z.2), rfl⟩
theorem nmC1 (c : figOk f p 0) (c1 : figOk f (p + 1) 0) (d : lo ≤ 10 * (10 * 0 + f p - 48) + f (p + 1) - 48 ∧ 10 * (10 * 0 + f p - 48) + f (p + 1) - 48 ≤ hi) : some (Value.int 1) = some (Value.int (b2i (numOk f p lo hi))) ∧ mk (rm I (p + 1 + 1) (10 * (10 * 0 + f p - 48) + f (p + 1) - 48)) L t = mk (rm I (numN f p) (numV f p)) L t := by
  rw [nmW2 c1] at d ⊢
  unfold numN numV
  rw [if_pos c, if_pos c, if_pos c1]
  exact ⟨b2i_t ⟨c, d⟩, rfl⟩
end
set_option maxRecDepth 100000 in
set_option maxHeartbeats 4000000 in
theorem s_X12_number {q m p : Nat} {x : Int32} (h : TqS I q m) (hp : p < 2 ^ 30) {lo hi : Int32} : Ca G mdX12_number [.ref 200, .int (nI q), .int lo, .int hi] (mk (rm I p x) L t) (Rs (.int (b2i (numOk (byF (I 206) q m) p lo hi))) (mk (rm I (numN (byF (I 206) q m) p) (numV (byF (I 206) q m) p)) L t)) := by
  refine Ca.intro [some (.ref 200), some (.int (nI q)), some (.int lo), some (.int hi), none, none] (by decide) (Nat.le_of_ble_eq_true rfl) rfl rfl ?_
  refine ex_iconst (v := 0) dX12_number_0 (by decide) ?_
  refine st_i4 dX12_number_1 (by first | exact rfl | exact trivial) ?_
  refine ex_iconst (v := 0) dX12_number_3 (by decide) ?_
  refine st_i5 dX12_number_4 (by first | exact rfl | exact trivial) ?_
  refine ex_iload dX12_number_6 rfl ?_
  refine ex_iconst (v := 2) dX12_number_8 (by decide) ?_
  refine ex_icmp_ge 67 dX12_number_9 (by decide) (fun h9 => ?_) (fun h9 => ?_)
  · exact absurd h9 (by decide)
  · skip
    refine ex_aload_n dX12_number_12 rfl ?_
    refine ex_iload_n dX12_number_13 rfl ?_
    refine ex_aload_n dX12_number_14 rfl ?_
    refine g_12_15 dX12_number_15 rfl wf_X12_114 (by first | assumption | rfl) ?_
    rw [rm_p]
    refine rx_cV (kd := 12) dX12_number_18 rfl lk_X12_117 rfl (by decide) (by first | assumption | rfl) ⟨⟨rfl, rfl⟩, by decide, by decide⟩ rfl (Nat.le_of_ble_eq_true rfl) rfl (s_X12_byteAt h.1 h.2.1 (by rw [rm_off (by decide)]; exact h.2.2.1) (by omega)) (Rs.k ?_)
    rw [rm_off (by decide)]
    refine ex_bipush (v := 48) dX12_number_21 (by decide) ?_
    refine ex_bipush (v := 57) dX12_number_23 (by decide) ?_
    refine rx_cS dX12_number_25 rfl lk_X12_86 ⟨⟨rfl, rfl⟩, by decide, by decide⟩ rfl (Nat.le_of_ble_eq_true rfl) rfl s_X12_in (Rs.k ?_)
    rw [b2i_fig h]
    refine ex_if_eq 67 dX12_number_28 (by decide) (fun h28 => ?_) (fun h28 => ?_)
    · skip
      refine ex_aload_n dX12_number_67 rfl ?_
      refine ex_iload dX12_number_68 rfl ?_
      refine p_12_16 dX12_number_70 rfl wf_X12_120 (by first | assumption | rfl) ?_
      rw [rm_wx]
      refine ex_iload dX12_number_73 rfl ?_
      refine ex_if_le 92 dX12_number_75 (by decide) (fun h75 => ?_) (fun h75 => ?_)
      · skip
        refine ex_iconst (v := 0) dX12_number_92 (by decide) ?_
        refine ex_iret dX12_number_93 rfl rfl ⟨rfl, Nat.le_refl _⟩ ?_
        first | exact nmC0 (b2i_n0.mp h28) (b2i_n0.mp h28_1) (b2i_0.mp h85) | exact nmC1 (b2i_n0.mp h28) (b2i_n0.mp h28_1) (b2i_n0.mp h85) | exact nmB0 (b2i_n0.mp h28) (b2i_0.mp h28_1) (b2i_0.mp h85) | exact nmB1 (b2i_n0.mp h28) (b2i_0.mp h28_1) (b2i_n0.mp h85) | exact nmA (b2i_0.mp h28)
      · exact absurd h75 (by decide)
    · skip
      refine ex_bipush (v := 10) dX12_number_31 (by decide) ?_
      refine ex_iload dX12_number_33 rfl ?_
      refine ex_imul dX12_number_35 ?_
      refine ex_aload_n dX12_number_36 rfl ?_
      refine ex_iload_n dX12_number_37 rfl ?_
      refine ex_aload_n dX12_number_38 rfl ?_
      refine g_12_15 dX12_number_39 rfl wf_X12_114 (by first | assumption | rfl) ?_
      rw [rm_p]
      refine rx_cV (kd := 12) dX12_number_42 rfl lk_X12_117 rfl (by decide) (by first | assumption | rfl) ⟨⟨rfl, rfl⟩, by decide, by decide⟩ rfl (Nat.le_of_ble_eq_true rfl) rfl (s_X12_byteAt h.1 h.2.1 (by rw [rm_off (by decide)]; exact h.2.2.1) (by omega)) (Rs.k ?_)
      rw [rm_off (by decide)]
      refine ex_iadd dX12_number_45 ?_
      refine ex_bipush (v := 48) dX12_number_46 (by decide) ?_
      refine ex_isub dX12_number_48 ?_
      refine st_i5 dX12_number_49 (by first | exact rfl | exact trivial) ?_
      refine ex_aload_n dX12_number_51 rfl ?_
      refine ex_dup dX12_number_52 rfl ?_
      refine g_12_15 dX12_number_53 rfl wf_X12_114 (by first | assumption | rfl) ?_
      rw [rm_p]
      refine ex_iconst (v := 1) dX12_number_56 (by decide) ?_
      refine ex_iadd dX12_number_57 ?_
      refine p_12_15 dX12_number_58 rfl wf_X12_114 (by first | assumption | rfl) ?_
      rw [nI_1, rm_wp]
      refine inc4 (v := _ + 1) dX12_number_61 (by rfl) (by first | exact rfl | exact trivial) ?_
      refine ex_goto 6 dX12_number_64 (by decide) ?_
      refine ex_iload dX12_number_6 rfl ?_
      refine ex_iconst (v := 2) dX12_number_8 (by decide) ?_
      refine ex_icmp_ge 67 dX12_number_9 (by decide) (fun h9_1 => ?_) (fun h9_1 => ?_)
      · exact absurd h9_1 (by decide)
      · skip
        refine ex_aload_n dX12_number_12 rfl ?_
        refine ex_iload_n dX12_number_13 rfl ?_
        refine ex_aload_n dX12_number_14 rfl ?_
        refine g_12_15 dX12_number_15 rfl wf_X12_114 (by first | assumption | rfl) ?_
        rw [rm_p]
        refine rx_cV (kd := 12) dX12_number_18 rfl lk_X12_117 rfl (by decide) (by first | assumption | rfl) ⟨⟨rfl, rfl⟩, by decide, by decide⟩ rfl (Nat.le_of_ble_eq_true rfl) rfl (s_X12_byteAt h.1 h.2.1 (by rw [rm_off (by decide)]; exact h.2.2.1) (by omega)) (Rs.k ?_)
        rw [rm_off (by decide)]
        refine ex_bipush (v := 48) dX12_number_21 (by decide) ?_
        refine ex_bipush (v := 57) dX12_number_23 (by decide) ?_
        refine rx_cS dX12_number_25 rfl lk_X12_86 ⟨⟨rfl, rfl⟩, by decide, by decide⟩ rfl (Nat.le_of_ble_eq_true rfl) rfl s_X12_in (Rs.k ?_)
        rw [b2i_fig h]
        refine ex_if_eq 67 dX12_number_28 (by decide) (fun h28_1 => ?_) (fun h28_1 => ?_)
        · skip
          refine ex_aload_n dX12_number_67 rfl ?_
          refine ex_iload dX12_number_68 rfl ?_
          refine p_12_16 dX12_number_70 rfl wf_X12_120 (by first | assumption | rfl) ?_
          rw [rm_wx]
          refine ex_iload dX12_number_73 rfl ?_
          refine ex_if_le 92 dX12_number_75 (by decide) (fun h75 => ?_) (fun h75 => ?_)
          · exact absurd h75 (by decide)
          · skip
            refine ex_iload dX12_number_78 rfl ?_
            refine ex_iload_n dX12_number_80 rfl ?_
            refine ex_iload_n dX12_number_81 rfl ?_
            refine rx_cS dX12_number_82 rfl lk_X12_86 ⟨⟨rfl, rfl⟩, by decide, by decide⟩ rfl (Nat.le_of_ble_eq_true rfl) rfl s_X12_in (Rs.k ?_)
            refine ex_if_eq 92 dX12_number_85 (by decide) (fun h85 => ?_) (fun h85 => ?_)
            · skip
              refine ex_iconst (v := 0) dX12_number_92 (by decide) ?_
              refine ex_iret dX12_number_93 rfl rfl ⟨rfl, Nat.le_refl _⟩ ?_
              first | exact nmC0 (b2i_n0.mp h28) (b2i_n0.mp h28_1) (b2i_0.mp h85) | exact nmC1 (b2i_n0.mp h28) (b2i_n0.mp h28_1) (b2i_n0.mp h85) | exact nmB0 (b2i_n0.mp h28) (b2i_0.mp h28_1) (b2i_0.mp h85) | exact nmB1 (b2i_n0.mp h28) (b2i_0.mp h28_1) (b2i_n0.mp h85) | exact nmA (b2i_0.mp h28)
            · skip
              refine ex_iconst (v := 1) dX12_number_88 (by decide) ?_
              refine ex_goto 93 dX12_number_89 (by decide) ?_
              refine ex_iret dX12_number_93 rfl rfl ⟨rfl, Nat.le_refl _⟩ ?_
              first | exact nmC0 (b2i_n0.mp h28) (b2i_n0.mp h28_1) (b2i_0.mp h85) | exact nmC1 (b2i_n0.mp h28) (b2i_n0.mp h28_1) (b2i_n0.mp h85) | exact nmB0 (b2i_n0.mp h28) (b2i_0.mp h28_1) (b2i_0.mp h85) | exact nmB1 (b2i_n0.mp h28) (b2i_0.mp h28_1) (b2i_n0.mp h85) | exact nmA (b2i_0.mp h28)
        · skip
          refine ex_bipush (v := 10) dX12_number_31 (by decide) ?_
          refine ex_iload dX12_number_33 rfl ?_
          refine ex_imul dX12_number_35 ?_
          refine ex_aload_n dX12_number_36 rfl ?_
          refine ex_iload_n dX12_number_37 rfl ?_
          refine ex_aload_n dX12_number_38 rfl ?_
          refine g_12_15 dX12_number_39 rfl wf_X12_114 (by first | assumption | rfl) ?_
          rw [rm_p]
          refine rx_cV (kd := 12) dX12_number_42 rfl lk_X12_117 rfl (by decide) (by first | assumption | rfl) ⟨⟨rfl, rfl⟩, by decide, by decide⟩ rfl (Nat.le_of_ble_eq_true rfl) rfl (s_X12_byteAt h.1 h.2.1 (by rw [rm_off (by decide)]; exact h.2.2.1) (by omega)) (Rs.k ?_)
          rw [rm_off (by decide)]
          refine ex_iadd dX12_number_45 ?_
          refine ex_bipush (v := 48) dX12_number_46 (by decide) ?_
          refine ex_isub dX12_number_48 ?_
          refine st_i5 dX12_number_49 (by first | exact rfl | exact trivial) ?_
          refine ex_aload_n dX12_number_51 rfl ?_
          refine ex_dup dX12_number_52 rfl ?_
          refine g_12_15 dX12_number_53 rfl wf_X12_114 (by first | assumption | rfl) ?_
          rw [rm_p]
          refine ex_iconst (v := 1) dX12_number_56 (by decide) ?_
          refine ex_iadd dX12_number_57 ?_
          refine p_12_15 dX12_number_58 rfl wf_X12_114 (by first | assumption | rfl) ?_
          rw [nI_1, rm_wp]
          refine inc4 (v := _ + 1) dX12_number_61 (by rfl) (by first | exact rfl | exact trivial) ?_
          refine ex_goto 6 dX12_number_64 (by decide) ?_
          refine ex_iload dX12_number_6 rfl ?_
          refine ex_iconst (v := 2) dX12_number_8 (by decide) ?_
          refine ex_icmp_ge 67 dX12_number_9 (by decide) (fun h9_2 => ?_) (fun h9_2 => ?_)
          · skip
            refine ex_aload_n dX12_number_67 rfl ?_
            refine ex_iload dX12_number_68 rfl ?_
            refine p_12_16 dX12_number_70 rfl wf_X12_120 (by first | assumption | rfl) ?_
            rw [rm_wx]
            refine ex_iload dX12_number_73 rfl ?_
            refine ex_if_le 92 dX12_number_75 (by decide) (fun h75 => ?_) (fun h75 => ?_)
            · exact absurd h75 (by decide)
            · skip
              refine ex_iload dX12_number_78 rfl ?_
              refine ex_iload_n dX12_number_80 rfl ?_
              refine ex_iload_n dX12_number_81 rfl ?_
              refine rx_cS dX12_number_82 rfl lk_X12_86 ⟨⟨rfl, rfl⟩, by decide, by decide⟩ rfl (Nat.le_of_ble_eq_true rfl) rfl s_X12_in (Rs.k ?_)
              refine ex_if_eq 92 dX12_number_85 (by decide) (fun h85 => ?_) (fun h85 => ?_)
              · skip
                refine ex_iconst (v := 0) dX12_number_92 (by decide) ?_
                refine ex_iret dX12_number_93 rfl rfl ⟨rfl, Nat.le_refl _⟩ ?_
                first | exact nmC0 (b2i_n0.mp h28) (b2i_n0.mp h28_1) (b2i_0.mp h85) | exact nmC1 (b2i_n0.mp h28) (b2i_n0.mp h28_1) (b2i_n0.mp h85) | exact nmB0 (b2i_n0.mp h28) (b2i_0.mp h28_1) (b2i_0.mp h85) | exact nmB1 (b2i_n0.mp h28) (b2i_0.mp h28_1) (b2i_n0.mp h85) | exact nmA (b2i_0.mp h28)
              · skip
                refine ex_iconst (v := 1) dX12_number_88 (by decide) ?_
                refine ex_goto 93 dX12_number_89 (by decide) ?_
                refine ex_iret dX12_number_93 rfl rfl ⟨rfl, Nat.le_refl _⟩ ?_
                first | exact nmC0 (b2i_n0.mp h28) (b2i_n0.mp h28_1) (b2i_0.mp h85) | exact nmC1 (b2i_n0.mp h28) (b2i_n0.mp h28_1) (b2i_n0.mp h85) | exact nmB0 (b2i_n0.mp h28) (b2i_0.mp h28_1) (b2i_0.mp h85) | exact nmB1 (b2i_n0.mp h28) (b2i_0.mp h28_1) (b2i_n0.mp h85) | exact nmA (b2i_0.mp h28)
          · exact absurd h9_2 (by decide)
end M2
