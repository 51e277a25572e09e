section R51
variable {G : Gp} {I : Im} {L : Nat → Nat → Int64} {t : Nat}
section
variable {R : Nat → Nat → Option Nat} {d : Md} {pc : Nat} {ls : List (Option Value)} {st : List Value} {uc us : Nat} {P : Option Value → Mem → Prop} {n : Nat}
/-- half made: of cell c the first f c references stand -/
def Sf (I0 : Im) (L1 : Nat → Nat → Int64) (R1 : Nat → Nat → Option Nat) (a n : Nat) (f : Nat → Nat) (I : Im) (L : Nat → Nat → Int64) (R : Nat → Nat → Option Nat) : Prop := Zm I L R n ∧ (∀ c, a ≤ c → c < n → I c = J0 c ∧ L c = L0 c ∧ R c = part c (f c)) ∧ ∀ c, c < a → I c = I0 c ∧ L c = L1 c ∧ R c = R1 c
theorem part_all {c : Nat} : part c 999 = R0 c := by
  funext j
  unfold part
  by_cases h : j < 999
  · rw [if_pos h]
  · rw [if_neg h]
    unfold R0
    rw [List.getD_eq_getElem?_getD, List.getElem?_eq_none]
    · rfl
    · have key : ∀ q, q < 223 → (rtab.getD q []).length ≤ 100 := by decide +kernel
      rcases Nat.lt_or_ge c 223 with q | q
      · have := key c q
        omega
      · rw [List.getD_eq_getElem?_getD, List.getElem?_eq_none (Nat.le_trans (by decide +kernel : rtab.length ≤ 223) q)]
        exact Nat.zero_le _
variable {I0 : Im} {L1 : Nat → Nat → Int64} {R1 : Nat → Nat → Option Nat} {a : Nat} {f f' : Nat → Nat}
theorem sf_init {kd N : Nat} (hz : Zm I L R a) (hk : K0 a = (kd, N)) (h1 : kd ≠ 1) (h3 : kd ≠ 3) (hf : f a = 0) : Sf I L R a (a + 1) f I L R := by
  refine ⟨hz.up (by omega), fun c g1 g2 => ?_, fun c _ => ⟨rfl, rfl, rfl⟩⟩
  have : c = a := by omega
  subst this
  obtain ⟨z1, z2, z3⟩ := hz c (Nat.le_refl c)
  rw [hf, part_0]
  exact ⟨z1.trans (J0_n hk h1).symm, z2.trans (L0_n hk h3).symm, z3⟩
theorem sf_put {c j b : Nat} (h : Sf I0 L1 R1 a n f I L R) (h1 : a ≤ c) (h2 : c < n) (hf : f c = j) (hb : R0 c j = some b) (hf1 : f' c = j + 1) (hf2 : ∀ x, x ≠ c → f' x = f x) : Sf I0 L1 R1 a n f' I L (up2 R c j (some b)) := by
  refine ⟨h.1.r h2, fun x g1 g2 => ?_, fun x g => ?_⟩
  · obtain ⟨z1, z2, z3⟩ := h.2.1 x g1 g2
    refine ⟨z1, z2, ?_⟩
    by_cases e : x = c
    · subst e
      rw [hf1]
      exact part_up1 (by rw [z3, hf]) hb
    · rw [up2_off e, z3, hf2 x e]
  · rw [up2_off (by omega)]
    exact h.2.2 x g
theorem sf_prim {kd N : Nat} (h : Sf I0 L1 R1 a n f I L R) (hk : K0 n = (kd, N + 1)) (hp : kd = 13 ∨ kd = 14 ∨ kd = 15) (hf : f n = 999) : Sf I0 L1 R1 a (n + 1) f I L R := by
  refine ⟨h.1.up (by omega), fun x g1 g2 => ?_, h.2.2⟩
  by_cases e : x = n
  · subst e
    obtain ⟨z1, z2, z3⟩ := h.1 x (Nat.le_refl x)
    rw [hf, part_all]
    exact ⟨z1.trans (J0_n hk (by omega)).symm, z2.trans (L0_n hk (by omega)).symm, z3.trans (rz_arr hk hp).symm⟩
  · exact h.2.1 x g1 (by omega)
theorem sf_raw {kd N : Nat} (h : Sf I0 L1 R1 a n f I L R) (hk : K0 n = (kd, N)) (h1 : kd ≠ 1) (h3 : kd ≠ 3) (hf : f n = 0) : Sf I0 L1 R1 a (n + 1) f I L R := by
  refine ⟨h.1.up (by omega), fun x g1 g2 => ?_, h.2.2⟩
  by_cases e : x = n
  · subst e
    obtain ⟨z1, z2, z3⟩ := h.1 x (Nat.le_refl x)
    rw [hf, part_0]
    exact ⟨z1.trans (J0_n hk h1).symm, z2.trans (L0_n hk h3).symm, z3⟩
  · exact h.2.1 x g1 (by omega)
theorem sf_sub {k : Nat} {I' : Im} {L' : Nat → Nat → Int64} {R' : Nat → Nat → Option Nat} (h : Sf I0 L1 R1 a n f I L R) (hN : Nu I L R n k I' L' R') (ha : a ≤ n) (hf : ∀ x, n ≤ x → x < k → f x = 999) : Sf I0 L1 R1 a k f I' L' R' := by
  refine ⟨hN.1, fun x g1 g2 => ?_, fun x g => ?_⟩
  · by_cases e : n ≤ x
    · rw [hf x e g2, part_all]
      exact hN.2.1 x e g2
    · obtain ⟨z1, z2, z3⟩ := hN.2.2 x (by omega)
      obtain ⟨y1, y2, y3⟩ := h.2.1 x g1 (by omega)
      exact ⟨z1.trans y1, z2.trans y2, z3.trans y3⟩
  · obtain ⟨z1, z2, z3⟩ := hN.2.2 x (by omega)
    obtain ⟨y1, y2, y3⟩ := h.2.2 x g
    exact ⟨z1.trans y1, z2.trans y2, z3.trans y3⟩
theorem sf_done (h : Sf I0 L1 R1 a n f I L R) (hf : ∀ c, a ≤ c → c < n → part c (f c) = R0 c) : Nu I0 L1 R1 a n I L R := ⟨h.1, fun c g1 g2 => by rw [← hf c g1 g2]; exact h.2.1 c g1 g2, h.2.2⟩
theorem sf_z {c kd N : Nat} (h : Sf I0 L1 R1 a n f I L R) (h1 : a ≤ c) (h2 : c < n) (hk : K0 c = (kd, N)) (hn : kd ≠ 1) : I c = zI := (h.2.1 c h1 h2).1.trans (J0_n hk hn)
theorem dn {F : Nat → Prop} {m : Nat} (fin : F m) (step : ∀ k, k < m → F (k + 1) → F k) : ∀ k, k ≤ m → F k := by
  have key : ∀ c k, k + c = m → F k := by
    intro c
    induction c with
    | zero =>
      intro k hk
      have : k = m := by omega
      subst this
      exact fin
    | succ c ih =>
      intro k hk
      exact step k (by omega) (ih (k + 1) (by omega))
  intro k hk
  exact key (m - k) k (by omega)
def f1 (a s : Nat) : Nat → Nat := fun c => if c = a then s else 999
def f2 (a s b k : Nat) : Nat → Nat := fun c => if c = a then s else if c = b then k else 999
theorem f1_a {a s : Nat} : f1 a s a = s := if_pos rfl
theorem f1_n {a s c : Nat} (h : c ≠ a) : f1 a s c = 999 := if_neg h
theorem f2_a {a s b k : Nat} : f2 a s b k a = s := if_pos rfl
theorem f2_b {a s b k : Nat} (h : b ≠ a) : f2 a s b k b = k := by
  unfold f2
  rw [if_neg h, if_pos rfl]
theorem f2_n {a s b k c : Nat} (h : c ≠ a) (h2 : c ≠ b) : f2 a s b k c = 999 := by
  unfold f2
  rw [if_neg h, if_neg h2]
set_option maxHeartbeats 4000000 in
theorem c_X9 {a : Nat} (hk : K0 a = (9, 8)) (hz : Zm I L R a) : Ca G mdX9_init [.ref a] (pm I L R (a + 1)) (Iq I L R a (a + 11)) := by
  refine Ca.intro [some (.ref a)] (by decide) (Nat.le_of_ble_eq_true rfl) rfl rfl ?_
  have al := K0_lt hk
  obtain ⟨k1, k3, k6, k7, k8, k9, k10⟩ := lay9k hk
  obtain ⟨b0, b1, b2, b3, b4, b5, b6⟩ := lay9r hk
  have h0 := sf_init (f := f1 a 0) hz hk (by decide) (by decide) f1_a
  refine ex_aload_n dX9_init_0 rfl ?_
  refine ex_oinit dX9_init_1 rfl lk_X9_3 wo_i wo_c ⟨by decide, by decide⟩ (Nat.le_of_ble_eq_true rfl) ?_
  refine ex_aload_n dX9_init_4 rfl ?_
  refine px_new (C := RX0) (T := TX0) (N := 7) (kd := 0) (n := a + 1) tyX0 dX9_init_5 rfl rfl (by decide) inX0 tyX0_ok dv_0 wc_X9_9 wi_X0 wn_X0 ⟨by decide, by decide⟩ h0.1 k1 (by omega) ?_
  refine ex_dup dX9_init_8 rfl ?_
  refine ex_cIN (vs := []) dX9_init_9 rfl lk_X9_11 (show a + 1 < a + 1 + 1 by omega) ⟨⟨by decide, by decide⟩, by decide, by decide⟩ rfl (Nat.le_of_ble_eq_true rfl) rfl (c_X0 k1 h0.1) (Iq.k (fun I_1 L_1 R_1 hn1 => ?_))
  have h1 := sf_sub h0 hn1 (by omega) (fun x g1 g2 => f1_n (by omega))
  refine px_F (C := RX9) (T := TX9) (N := 8) (kd := 9) (j := 0) tyX9 dX9_init_12 rfl rfl rfl inX9 tyX9_ok nmX9 (by decide) (by decide) wf_X9_12 rfl rfl ⟨rfl, rfl⟩ rfl hk (by omega) ?_
  have h2 := sf_put (f' := f1 a 1) h1 (c := a) (j := 0) (b := a + 1) (Nat.le_refl a) (by omega) f1_a b0 f1_a (fun x hx => by rw [f1_n hx, f1_n hx])
  refine ex_aload_n dX9_init_15 rfl ?_
  refine px_new (C := RX8) (T := TX8) (N := 4) (kd := 8) (n := a + 3) tyX8 dX9_init_16 rfl rfl (by decide) inX8 tyX8_ok dv_8 wc_X9_18 wi_X8 wn_X8 ⟨by decide, by decide⟩ h2.1 k3 (by omega) ?_
  refine ex_dup dX9_init_19 rfl ?_
  refine ex_cIN (vs := []) dX9_init_20 rfl lk_X9_20 (show a + 3 < a + 3 + 1 by omega) ⟨⟨by decide, by decide⟩, by decide, by decide⟩ rfl (Nat.le_of_ble_eq_true rfl) rfl (c_X8 k3 h2.1) (Iq.k (fun I_3 L_3 R_3 hn3 => ?_))
  have h3 := sf_sub h2 hn3 (by omega) (fun x g1 g2 => f1_n (by omega))
  refine px_F (C := RX9) (T := TX9) (N := 8) (kd := 9) (j := 1) tyX9 dX9_init_23 rfl rfl rfl inX9 tyX9_ok nmX9 (by decide) (by decide) wf_X9_21 rfl rfl ⟨rfl, rfl⟩ rfl hk (by omega) ?_
  have h4 := sf_put (f' := f1 a 2) h3 (c := a) (j := 1) (b := a + 3) (Nat.le_refl a) (by omega) f1_a b1 f1_a (fun x hx => by rw [f1_n hx, f1_n hx])
  refine ex_aload_n dX9_init_26 rfl ?_
  refine ex_bipush (v := 16) dX9_init_27 (by decide) ?_
  refine px_newp (kd := 14) (t0 := 1) (N := 16) (n := a + 6) dX9_init_29 rfl (by decide) (by decide) (fun _ _ h => h) rfl rfl wa_I (by decide) (by decide) (by decide) ⟨by decide, by decide⟩ h4.1 k6 (by omega) ?_
  have h5 := sf_prim h4 k6 (by decide) (f1_n (by omega))
  refine px_F (C := RX9) (T := TX9) (N := 8) (kd := 9) (j := 2) tyX9 dX9_init_31 rfl rfl rfl inX9 tyX9_ok nmX9 (by decide) (by decide) wf_X9_25 rfl rfl ⟨rfl, rfl⟩ rfl hk (by omega) ?_
  have h6 := sf_put (f' := f1 a 3) h5 (c := a) (j := 2) (b := a + 6) (Nat.le_refl a) (by omega) f1_a b2 f1_a (fun x hx => by rw [f1_n hx, f1_n hx])
  refine ex_aload_n dX9_init_34 rfl ?_
  refine ex_bipush (v := 16) dX9_init_35 (by decide) ?_
  refine px_newp (kd := 14) (t0 := 1) (N := 16) (n := a + 7) dX9_init_37 rfl (by decide) (by decide) (fun _ _ h => h) rfl rfl wa_I (by decide) (by decide) (by decide) ⟨by decide, by decide⟩ h6.1 k7 (by omega) ?_
  have h7 := sf_prim h6 k7 (by decide) (f1_n (by omega))
  refine px_F (C := RX9) (T := TX9) (N := 8) (kd := 9) (j := 3) tyX9 dX9_init_39 rfl rfl rfl inX9 tyX9_ok nmX9 (by decide) (by decide) wf_X9_29 rfl rfl ⟨rfl, rfl⟩ rfl hk (by omega) ?_
  have h8 := sf_put (f' := f1 a 4) h7 (c := a) (j := 3) (b := a + 7) (Nat.le_refl a) (by omega) f1_a b3 f1_a (fun x hx => by rw [f1_n hx, f1_n hx])
  refine ex_aload_n dX9_init_42 rfl ?_
  refine ex_bipush (v := 16) dX9_init_43 (by decide) ?_
  refine px_newp (kd := 14) (t0 := 1) (N := 16) (n := a + 8) dX9_init_45 rfl (by decide) (by decide) (fun _ _ h => h) rfl rfl wa_I (by decide) (by decide) (by decide) ⟨by decide, by decide⟩ h8.1 k8 (by omega) ?_
  have h9 := sf_prim h8 k8 (by decide) (f1_n (by omega))
  refine px_F (C := RX9) (T := TX9) (N := 8) (kd := 9) (j := 4) tyX9 dX9_init_47 rfl rfl rfl inX9 tyX9_ok nmX9 (by decide) (by decide) wf_X9_32 rfl rfl ⟨rfl, rfl⟩ rfl hk (by omega) ?_
  have h10 := sf_put (f' := f1 a 5) h9 (c := a) (j := 4) (b := a + 8) (Nat.le_refl a) (by omega) f1_a b4 f1_a (fun x hx => by rw [f1_n hx, f1_n hx])
  refine ex_aload_n dX9_init_50 rfl ?_
  refine ex_bipush (v := 16) dX9_init_51 (by decide) ?_
  refine px_newp (kd := 14) (t0 := 1) (N := 16) (n := a + 9) dX9_init_53 rfl (by decide) (by decide) (fun _ _ h => h) rfl rfl wa_I (by decide) (by decide) (by decide) ⟨by decide, by decide⟩ h10.1 k9 (by omega) ?_
  have h11 := sf_prim h10 k9 (by decide) (f1_n (by omega))
  refine px_F (C := RX9) (T := TX9) (N := 8) (kd := 9) (j := 5) tyX9 dX9_init_55 rfl rfl rfl inX9 tyX9_ok nmX9 (by decide) (by decide) wf_X9_35 rfl rfl ⟨rfl, rfl⟩ rfl hk (by omega) ?_
  have h12 := sf_put (f' := f1 a 6) h11 (c := a) (j := 5) (b := a + 9) (Nat.le_refl a) (by omega) f1_a b5 f1_a (fun x hx => by rw [f1_n hx, f1_n hx])
  refine ex_aload_n dX9_init_58 rfl ?_
  refine ex_bipush (v := 16) dX9_init_59 (by decide) ?_
  refine px_newp (kd := 14) (t0 := 1) (N := 16) (n := a + 10) dX9_init_61 rfl (by decide) (by decide) (fun _ _ h => h) rfl rfl wa_I (by decide) (by decide) (by decide) ⟨by decide, by decide⟩ h12.1 k10 (by omega) ?_
  have h13 := sf_prim h12 k10 (by decide) (f1_n (by omega))
  refine px_F (C := RX9) (T := TX9) (N := 8) (kd := 9) (j := 6) tyX9 dX9_init_63 rfl rfl rfl inX9 tyX9_ok nmX9 (by decide) (by decide) wf_X9_38 rfl rfl ⟨rfl, rfl⟩ rfl hk (by omega) ?_
  have h14 := sf_put (f' := f1 a 7) h13 (c := a) (j := 6) (b := a + 10) (Nat.le_refl a) (by omega) f1_a b6 f1_a (fun x hx => by rw [f1_n hx, f1_n hx])
  refine ex_aload_n dX9_init_66 rfl ?_
  refine ex_iconst (v := 0) dX9_init_67 (by decide) ?_
  refine px_I (C := RX9) (T := TX9) (N := 8) (kd := 9) (j := 7) tyX9 dX9_init_68 rfl rfl inX9 tyX9_ok nmX9 (by decide) (by decide) wf_X9_41 rfl ⟨rfl, rfl⟩ rfl hk (by omega) ?_
  refine pm_i0 (sf_z h14 (Nat.le_refl a) (by omega) hk (by decide)) ?_
  refine ex_vret dX9_init_71 rfl ⟨rfl, by decide⟩ ?_
  refine ⟨rfl, _, _, _, rfl, sf_done h14 (fun c g1 g2 => ?_)⟩
  by_cases e : c = a
  · subst e
    rw [f1_a]
    exact rz_9 hk
  · rw [f1_n e]
    exact part_all
set_option maxHeartbeats 4000000 in
theorem c_X7 {a : Nat} (hk : K0 a = (7, 4)) (hz : Zm I L R a) : Ca G mdX7_init [.ref a] (pm I L R (a + 1)) (Iq I L R a (a + 8)) := by
  refine Ca.intro [some (.ref a)] (by decide) (Nat.le_of_ble_eq_true rfl) rfl rfl ?_
  have al := K0_lt hk
  obtain ⟨b0, b1, b2, k1, k3, k6⟩ := lay7_d a al hk
  have h0 := sf_init (f := f1 a 0) hz hk (by decide) (by decide) f1_a
  refine ex_aload_n dX7_init_0 rfl ?_
  refine ex_oinit dX7_init_1 rfl lk_X7_3 wo_i wo_c ⟨by decide, by decide⟩ (Nat.le_of_ble_eq_true rfl) ?_
  refine ex_aload_n dX7_init_4 rfl ?_
  refine px_new (C := RX0) (T := TX0) (N := 7) (kd := 0) (n := a + 1) tyX0 dX7_init_5 rfl rfl (by decide) inX0 tyX0_ok dv_0 wc_X7_9 wi_X0 wn_X0 ⟨by decide, by decide⟩ h0.1 k1 (by omega) ?_
  refine ex_dup dX7_init_8 rfl ?_
  refine ex_cIN (vs := []) dX7_init_9 rfl lk_X7_11 (show a + 1 < a + 1 + 1 by omega) ⟨⟨by decide, by decide⟩, by decide, by decide⟩ rfl (Nat.le_of_ble_eq_true rfl) rfl (c_X0 k1 h0.1) (Iq.k (fun I_1 L_1 R_1 hn1 => ?_))
  have h1 := sf_sub h0 hn1 (by omega) (fun x g1 g2 => f1_n (by omega))
  refine px_F (C := RX7) (T := TX7) (N := 4) (kd := 7) (j := 0) tyX7 dX7_init_12 rfl rfl rfl inX7 tyX7_ok nmX7 (by decide) (by decide) wf_X7_12 rfl rfl ⟨rfl, rfl⟩ rfl hk (by omega) ?_
  have h2 := sf_put (f' := f1 a 1) h1 (c := a) (j := 0) (b := a + 1) (Nat.le_refl a) (by omega) f1_a b0 f1_a (fun x hx => by rw [f1_n hx, f1_n hx])
  refine ex_aload_n dX7_init_15 rfl ?_
  refine px_new (C := RX8) (T := TX8) (N := 4) (kd := 8) (n := a + 3) tyX8 dX7_init_16 rfl rfl (by decide) inX8 tyX8_ok dv_8 wc_X7_18 wi_X8 wn_X8 ⟨by decide, by decide⟩ h2.1 k3 (by omega) ?_
  refine ex_dup dX7_init_19 rfl ?_
  refine ex_cIN (vs := []) dX7_init_20 rfl lk_X7_20 (show a + 3 < a + 3 + 1 by omega) ⟨⟨by decide, by decide⟩, by decide, by decide⟩ rfl (Nat.le_of_ble_eq_true rfl) rfl (c_X8 k3 h2.1) (Iq.k (fun I_3 L_3 R_3 hn3 => ?_))
  have h3 := sf_sub h2 hn3 (by omega) (fun x g1 g2 => f1_n (by omega))
  refine px_F (C := RX7) (T := TX7) (N := 4) (kd := 7) (j := 1) tyX7 dX7_init_23 rfl rfl rfl inX7 tyX7_ok nmX7 (by decide) (by decide) wf_X7_21 rfl rfl ⟨rfl, rfl⟩ rfl hk (by omega) ?_
  have h4 := sf_put (f' := f1 a 2) h3 (c := a) (j := 1) (b := a + 3) (Nat.le_refl a) (by omega) f1_a b1 f1_a (fun x hx => by rw [f1_n hx, f1_n hx])
  refine ex_aload_n dX7_init_26 rfl ?_
  refine px_new (C := RX4) (T := TX4) (N := 3) (kd := 4) (n := a + 6) tyX4 dX7_init_27 rfl rfl (by decide) inX4 tyX4_ok dv_4 wc_X7_25 wi_X4 wn_X4 ⟨by decide, by decide⟩ h4.1 k6 (by omega) ?_
  refine ex_dup dX7_init_30 rfl ?_
  refine ex_cIN (vs := []) dX7_init_31 rfl lk_X7_27 (show a + 6 < a + 6 + 1 by omega) ⟨⟨by decide, by decide⟩, by decide, by decide⟩ rfl (Nat.le_of_ble_eq_true rfl) rfl (c_X4 k6 h4.1) (Iq.k (fun I_5 L_5 R_5 hn5 => ?_))
  have h5 := sf_sub h4 hn5 (by omega) (fun x g1 g2 => f1_n (by omega))
  refine px_N (C := RX7) (T := TX7) (N := 4) (kd := 7) (j := 2) tyX7 dX7_init_34 rfl rfl inX7 tyX7_ok nmX7 (by decide) (by decide) wf_X7_28 rfl ⟨rfl, rfl⟩ rfl hk (by omega) ?_
  have h6 := sf_put (f' := f1 a 3) h5 (c := a) (j := 2) (b := a + 6) (Nat.le_refl a) (by omega) f1_a b2 f1_a (fun x hx => by rw [f1_n hx, f1_n hx])
  refine ex_aload_n dX7_init_37 rfl ?_
  refine ex_iconst (v := 0) dX7_init_38 (by decide) ?_
  refine px_I (C := RX7) (T := TX7) (N := 4) (kd := 7) (j := 3) tyX7 dX7_init_39 rfl rfl inX7 tyX7_ok nmX7 (by decide) (by decide) wf_X7_32 rfl ⟨rfl, rfl⟩ rfl hk (by omega) ?_
  refine pm_i0 (sf_z h6 (Nat.le_refl a) (by omega) hk (by decide)) ?_
  refine ex_vret dX7_init_42 rfl ⟨rfl, by decide⟩ ?_
  refine ⟨rfl, _, _, _, rfl, sf_done h6 (fun c g1 g2 => ?_)⟩
  by_cases e : c = a
  · subst e
    rw [f1_a]
    exact rz_7 hk
  · rw [f1_n e]
    exact part_all
def lay5_3_p (a : Nat) : Bool := !((K0 a == (5, 4)) && (K0 (a + 12) == (17, 3))) || ((List.range 3).all (fun i => (K0 (a + 13 + i) == (1, 10)) && (R0 (a + 12) i == some (a + 13 + i))) && rz (a + 12) 3 && decide (a + 13 + 3 ≤ 223))
theorem lay5_3_d : ∀ a, a < 223 → lay5_3_p a = true := by decide +kernel
theorem lay5_3 (a : Nat) (ha : a < 223) (h1 : K0 a = (5, 4)) (h2 : K0 (a + 12) = (17, 3)) : (∀ i, i < 3 → K0 (a + 13 + i) = (1, 10) ∧ R0 (a + 12) i = some (a + 13 + i)) ∧ rz (a + 12) 3 = true ∧ a + 13 + 3 ≤ 223 := by
  have h := lay5_3_d a ha
  unfold lay5_3_p at h
  rw [h1, h2] at h
  simp only [beq_self_eq_true, Bool.and_true, Bool.not_true, Bool.false_or, Bool.and_eq_true, List.all_eq_true, List.mem_range, decide_eq_true_eq] at h
  exact ⟨fun i hi => ⟨eq_of_beq (h.1.1 i hi).1, eq_of_beq (h.1.1 i hi).2⟩, h.1.2, h.2⟩
set_option maxHeartbeats 4000000 in
theorem c_X5_3 {a : Nat} (hk : K0 a = (5, 4)) (hz : Zm I L R a) (h17 : K0 (a + 12) = (17, 3)) : Ca G mdX5_init3 [.ref a, .int 3] (pm I L R (a + 1)) (Iq I L R a (a + 16)) := by
  refine Ca.intro [some (.ref a), some (.int 3), none] (by decide) (Nat.le_of_ble_eq_true rfl) rfl rfl ?_
  have al := K0_lt hk
  have k1 : K0 (a + 1) = (9, 8) := (lay5 hk).2.2
  have b0 : R0 a 0 = some (a + 1) := (lay5 hk).1
  have b1 : R0 a 1 = some (a + 12) := (lay5 hk).2.1
  obtain ⟨q1, q2, q3⟩ := lay5_3 a al hk h17
  have h0 := sf_init (f := f2 a 0 (a + 12) 0) hz hk (by decide) (by decide) f2_a
  refine ex_aload_n dX5_init_0 rfl ?_
  refine ex_oinit dX5_init_1 rfl lk_X5_3 wo_i wo_c ⟨by decide, by decide⟩ (Nat.le_of_ble_eq_true rfl) ?_
  refine ex_aload_n dX5_init_4 rfl ?_
  refine px_new (C := RX9) (T := TX9) (N := 8) (kd := 9) (n := a + 1) tyX9 dX5_init_5 rfl rfl (by decide) inX9 tyX9_ok dv_9 wc_X5_9 wi_X9 wn_X9 ⟨by decide, by decide⟩ h0.1 k1 (by omega) ?_
  refine ex_dup dX5_init_8 rfl ?_
  refine ex_cIN (vs := []) dX5_init_9 rfl lk_X5_11 (show a + 1 < a + 1 + 1 by omega) ⟨⟨by decide, by decide⟩, by decide, by decide⟩ rfl (Nat.le_of_ble_eq_true rfl) rfl (c_X9 k1 h0.1) (Iq.k (fun I_1 L_1 R_1 hn1 => ?_))
  have h1 := sf_sub h0 hn1 (by omega) (fun x g1 g2 => f2_n (by omega) (by omega))
  refine px_F (C := RX5) (T := TX5) (N := 4) (kd := 5) (j := 0) tyX5 dX5_init_12 rfl rfl rfl inX5 tyX5_ok nmX5 (by decide) (by decide) wf_X5_12 rfl rfl ⟨rfl, rfl⟩ rfl hk (by omega) ?_
  have h2 := sf_put (f' := f2 a 1 (a + 12) 0) h1 (c := a) (j := 0) (b := a + 1) (Nat.le_refl a) (by omega) f2_a b0 f2_a (fun x hx => by unfold f2; rw [if_neg hx, if_neg hx])
  refine ex_aload_n dX5_init_15 rfl ?_
  refine ex_iconst (v := 0) dX5_init_16 (by decide) ?_
  refine px_I (C := RX5) (T := TX5) (N := 4) (kd := 5) (j := 2) tyX5 dX5_init_17 rfl rfl inX5 tyX5_ok nmX5 (by decide) (by decide) wf_X5_18 rfl ⟨rfl, rfl⟩ rfl hk (by omega) ?_
  refine pm_i0 (sf_z h2 (Nat.le_refl a) (by omega) hk (by decide)) ?_
  refine ex_aload_n dX5_init_20 rfl ?_
  refine ex_iconst (v := 0) dX5_init_21 (by decide) ?_
  refine px_I (C := RX5) (T := TX5) (N := 4) (kd := 5) (j := 3) tyX5 dX5_init_22 rfl rfl inX5 tyX5_ok nmX5 (by decide) (by decide) wf_X5_22 rfl ⟨rfl, rfl⟩ rfl hk (by omega) ?_
  refine pm_i0 (sf_z h2 (Nat.le_refl a) (by omega) hk (by decide)) ?_
  refine ex_aload_n dX5_init_25 rfl ?_
  refine ex_iconst (v := 1) dX5_init_26 (by decide) ?_
  refine ex_iload_n dX5_init_27 rfl ?_
  refine ex_mmax dX5_init_28 rfl lk_X5_26 wj_max wj_m wj_maxc ⟨by decide, by decide⟩ ⟨by decide, by decide⟩ (Nat.le_of_ble_eq_true rfl) ?_
  refine px_newr (kd := 17) (t0 := 4) (N := 3) (n := a + 12) (C := RX1) dX5_init_31 rfl wc_X5_32 (by decide) (by decide) rfl (by decide) (by decide) (by decide) ⟨by decide, by decide⟩ h2.1 h17 (by omega) ?_
  have h3 := sf_raw h2 h17 (by decide) (by decide) (f2_b (by omega))
  refine px_F (C := RX5) (T := TX5) (N := 4) (kd := 5) (j := 1) tyX5 dX5_init_34 rfl rfl rfl inX5 tyX5_ok nmX5 (by decide) (by decide) wf_X5_34 rfl rfl ⟨rfl, rfl⟩ rfl hk (by omega) ?_
  have h4 := sf_put (f' := f2 a 2 (a + 12) 0) h3 (c := a) (j := 1) (b := a + 12) (Nat.le_refl a) (by omega) f2_a b1 f2_a (fun x hx => by unfold f2; rw [if_neg hx, if_neg hx])
  refine ex_iconst (v := 0) dX5_init_37 (by decide) ?_
  refine st_i2 dX5_init_38 (by first | exact rfl | exact trivial) ?_
  have key := dn (F := fun k => ∀ I' L' R', Sf I L R a (a + 13 + k) (f2 a 2 (a + 12) k) I' L' R' → Ex G mdX5_init3 39 [some (.ref a), some (.int 3), some (.int (nI k))] [] (pm I' L' R' (a + 13 + k)) (12 + k) (126 + 10 * k) (Iq I L R a (a + 16))) (m := 3) ?_ ?_ 0 (Nat.zero_le _)
  · exact key _ _ _ h4
  · intro I' L' R' hS
    have r1 : R' a 1 = some (a + 12) := by
      rw [(hS.2.1 a (Nat.le_refl a) (by omega)).2.2, f2_a]
      unfold part
      rw [if_pos (by decide)]
      exact b1
    refine ex_iload_n dX5_init_39 rfl ?_
    refine ex_aload_n dX5_init_40 rfl ?_
    refine ex_get (C := RX5) (T := TX5) (N := 4) (kd := 5) (j := 1) (v := .ref (a + 12)) dX5_init_41 rfl rfl inX5 (by decide) (by decide) wf_X5_34 hk (show a < a + 13 + 3 by omega) (by unfold aval; rw [if_neg (by decide), if_neg (by decide)]; show (R' a 1).map Value.ref = _; rw [r1]; rfl) ?_
    refine ex_alen (kd := 17) (N := 3) dX5_init_44 h17 (by decide) rfl (show a + 12 < a + 13 + 3 by omega) ?_
    refine ex_icmp_ge 67 dX5_init_45 (by decide) (fun _ => ?_) (fun z => absurd (Int32.le_refl _) z)
    refine ex_vret dX5_init_67 rfl ⟨rfl, by decide⟩ ?_
    refine ⟨rfl, _, _, _, rfl, sf_done hS (fun c g1 g2 => ?_)⟩
    by_cases e : c = a
    · subst e
      rw [f2_a]
      exact rz_5 hk
    · by_cases e2 : c = a + 12
      · subst e2
        rw [f2_b (by omega)]
        exact rz_p q2
      · rw [f2_n e e2]
        exact part_all
  · intro k hk' ih I' L' R' hS
    have r1 : R' a 1 = some (a + 12) := by
      rw [(hS.2.1 a (Nat.le_refl a) (by omega)).2.2, f2_a]
      unfold part
      rw [if_pos (by decide)]
      exact b1
    obtain ⟨kb, rb⟩ := q1 k hk'
    refine ex_iload_n dX5_init_39 rfl ?_
    refine ex_aload_n dX5_init_40 rfl ?_
    refine ex_get (C := RX5) (T := TX5) (N := 4) (kd := 5) (j := 1) (v := .ref (a + 12)) dX5_init_41 rfl rfl inX5 (by decide) (by decide) wf_X5_34 hk (show a < a + 13 + k by omega) (by unfold aval; rw [if_neg (by decide), if_neg (by decide)]; show (R' a 1).map Value.ref = _; rw [r1]; rfl) ?_
    refine ex_alen (kd := 17) (N := 3) dX5_init_44 h17 (by decide) rfl (show a + 12 < a + 13 + k by omega) ?_
    refine ex_icmp_ge 67 dX5_init_45 (by decide) (fun z => absurd z (nI_ge hk' (by decide))) (fun _ => ?_)
    refine ex_aload_n dX5_init_48 rfl ?_
    refine ex_get (C := RX5) (T := TX5) (N := 4) (kd := 5) (j := 1) (v := .ref (a + 12)) dX5_init_49 rfl rfl inX5 (by decide) (by decide) wf_X5_34 hk (show a < a + 13 + k by omega) (by unfold aval; rw [if_neg (by decide), if_neg (by decide)]; show (R' a 1).map Value.ref = _; rw [r1]; rfl) ?_
    refine ex_iload_n dX5_init_52 rfl ?_
    refine px_new (C := RX1) (T := TX1) (N := 10) (kd := 1) (n := a + 13 + k) tyX1 dX5_init_53 rfl rfl (by decide) inX1 tyX1_ok dv_1 wc_X5_32 wi_X1 wn_X1 ⟨show 12 + k + 1 ≤ 15 by omega, show 126 + 10 * k + 10 ≤ 156 by omega⟩ hS.1 kb (by omega) ?_
    refine ex_dup dX5_init_56 rfl ?_
    refine ex_cIN (vs := []) dX5_init_57 rfl lk_X5_38 (show a + 13 + k < a + 13 + k + 1 by omega) ⟨⟨by decide, by decide⟩, show 12 + k + 1 + 0 ≤ 15 by omega, show 126 + 10 * k + 10 + 0 ≤ 156 by omega⟩ rfl (Nat.le_of_ble_eq_true rfl) rfl (c_X1 kb hS.1) (Iq.k (fun I_2 L_2 R_2 hn2 => ?_))
    have g1 := sf_sub hS hn2 (by omega) (fun x g1 g2 => f2_n (by omega) (by omega))
    refine ex_aast (t0 := 4) (ci := 1) (Nb := 10) dX5_init_60 h17 (by decide) rfl (show a + 12 < a + 13 + k + 1 by omega) (vp_in_nI hk' (by decide)) kb (show a + 13 + k < a + 13 + k + 1 by omega) (by decide) rfl ?_
    rw [nI_clamp (show k < 2 ^ 31 by omega)]
    have g2 := sf_put (f' := f2 a 2 (a + 12) (k + 1)) g1 (c := a + 12) (j := k) (b := a + 13 + k) (by omega) (by omega) (f2_b (by omega)) rb (f2_b (by omega)) (fun x hx => by unfold f2; rw [if_neg hx, if_neg hx])
    refine inc2 (v := nI (k + 1)) dX5_init_61 (nI_add k 1) (by first | exact rfl | exact trivial) ?_
    refine ex_goto 39 dX5_init_64 (by decide) ?_
    exact ih _ _ _ g2
def lay5_48_p (a : Nat) : Bool := !((K0 a == (5, 4)) && (K0 (a + 12) == (17, 48))) || ((List.range 48).all (fun i => (K0 (a + 13 + i) == (1, 10)) && (R0 (a + 12) i == some (a + 13 + i))) && rz (a + 12) 48 && decide (a + 13 + 48 ≤ 223))
theorem lay5_48_d : ∀ a, a < 223 → lay5_48_p a = true := by decide +kernel
theorem lay5_48 (a : Nat) (ha : a < 223) (h1 : K0 a = (5, 4)) (h2 : K0 (a + 12) = (17, 48)) : (∀ i, i < 48 → K0 (a + 13 + i) = (1, 10) ∧ R0 (a + 12) i = some (a + 13 + i)) ∧ rz (a + 12) 48 = true ∧ a + 13 + 48 ≤ 223 := by
  have h := lay5_48_d a ha
  unfold lay5_48_p at h
  rw [h1, h2] at h
  simp only [beq_self_eq_true, Bool.and_true, Bool.not_true, Bool.false_or, Bool.and_eq_true, List.all_eq_true, List.mem_range, decide_eq_true_eq] at h
  exact ⟨fun i hi => ⟨eq_of_beq (h.1.1 i hi).1, eq_of_beq (h.1.1 i hi).2⟩, h.1.2, h.2⟩
set_option maxHeartbeats 4000000 in
theorem c_X5_48 {a : Nat} (hk : K0 a = (5, 4)) (hz : Zm I L R a) (h17 : K0 (a + 12) = (17, 48)) : Ca G mdX5_init48 [.ref a, .int 48] (pm I L R (a + 1)) (Iq I L R a (a + 61)) := by
  refine Ca.intro [some (.ref a), some (.int 48), none] (by decide) (Nat.le_of_ble_eq_true rfl) rfl rfl ?_
  have al := K0_lt hk
  have k1 : K0 (a + 1) = (9, 8) := (lay5 hk).2.2
  have b0 : R0 a 0 = some (a + 1) := (lay5 hk).1
  have b1 : R0 a 1 = some (a + 12) := (lay5 hk).2.1
  obtain ⟨q1, q2, q3⟩ := lay5_48 a al hk h17
  have h0 := sf_init (f := f2 a 0 (a + 12) 0) hz hk (by decide) (by decide) f2_a
  refine ex_aload_n dX5_init_0 rfl ?_
  refine ex_oinit dX5_init_1 rfl lk_X5_3 wo_i wo_c ⟨by decide, by decide⟩ (Nat.le_of_ble_eq_true rfl) ?_
  refine ex_aload_n dX5_init_4 rfl ?_
  refine px_new (C := RX9) (T := TX9) (N := 8) (kd := 9) (n := a + 1) tyX9 dX5_init_5 rfl rfl (by decide) inX9 tyX9_ok dv_9 wc_X5_9 wi_X9 wn_X9 ⟨by decide, by decide⟩ h0.1 k1 (by omega) ?_
  refine ex_dup dX5_init_8 rfl ?_
  refine ex_cIN (vs := []) dX5_init_9 rfl lk_X5_11 (show a + 1 < a + 1 + 1 by omega) ⟨⟨by decide, by decide⟩, by decide, by decide⟩ rfl (Nat.le_of_ble_eq_true rfl) rfl (c_X9 k1 h0.1) (Iq.k (fun I_1 L_1 R_1 hn1 => ?_))
  have h1 := sf_sub h0 hn1 (by omega) (fun x g1 g2 => f2_n (by omega) (by omega))
  refine px_F (C := RX5) (T := TX5) (N := 4) (kd := 5) (j := 0) tyX5 dX5_init_12 rfl rfl rfl inX5 tyX5_ok nmX5 (by decide) (by decide) wf_X5_12 rfl rfl ⟨rfl, rfl⟩ rfl hk (by omega) ?_
  have h2 := sf_put (f' := f2 a 1 (a + 12) 0) h1 (c := a) (j := 0) (b := a + 1) (Nat.le_refl a) (by omega) f2_a b0 f2_a (fun x hx => by unfold f2; rw [if_neg hx, if_neg hx])
  refine ex_aload_n dX5_init_15 rfl ?_
  refine ex_iconst (v := 0) dX5_init_16 (by decide) ?_
  refine px_I (C := RX5) (T := TX5) (N := 4) (kd := 5) (j := 2) tyX5 dX5_init_17 rfl rfl inX5 tyX5_ok nmX5 (by decide) (by decide) wf_X5_18 rfl ⟨rfl, rfl⟩ rfl hk (by omega) ?_
  refine pm_i0 (sf_z h2 (Nat.le_refl a) (by omega) hk (by decide)) ?_
  refine ex_aload_n dX5_init_20 rfl ?_
  refine ex_iconst (v := 0) dX5_init_21 (by decide) ?_
  refine px_I (C := RX5) (T := TX5) (N := 4) (kd := 5) (j := 3) tyX5 dX5_init_22 rfl rfl inX5 tyX5_ok nmX5 (by decide) (by decide) wf_X5_22 rfl ⟨rfl, rfl⟩ rfl hk (by omega) ?_
  refine pm_i0 (sf_z h2 (Nat.le_refl a) (by omega) hk (by decide)) ?_
  refine ex_aload_n dX5_init_25 rfl ?_
  refine ex_iconst (v := 1) dX5_init_26 (by decide) ?_
  refine ex_iload_n dX5_init_27 rfl ?_
  refine ex_mmax dX5_init_28 rfl lk_X5_26 wj_max wj_m wj_maxc ⟨by decide, by decide⟩ ⟨by decide, by decide⟩ (Nat.le_of_ble_eq_true rfl) ?_
  refine px_newr (kd := 17) (t0 := 4) (N := 48) (n := a + 12) (C := RX1) dX5_init_31 rfl wc_X5_32 (by decide) (by decide) rfl (by decide) (by decide) (by decide) ⟨by decide, by decide⟩ h2.1 h17 (by omega) ?_
  have h3 := sf_raw h2 h17 (by decide) (by decide) (f2_b (by omega))
  refine px_F (C := RX5) (T := TX5) (N := 4) (kd := 5) (j := 1) tyX5 dX5_init_34 rfl rfl rfl inX5 tyX5_ok nmX5 (by decide) (by decide) wf_X5_34 rfl rfl ⟨rfl, rfl⟩ rfl hk (by omega) ?_
  have h4 := sf_put (f' := f2 a 2 (a + 12) 0) h3 (c := a) (j := 1) (b := a + 12) (Nat.le_refl a) (by omega) f2_a b1 f2_a (fun x hx => by unfold f2; rw [if_neg hx, if_neg hx])
  refine ex_iconst (v := 0) dX5_init_37 (by decide) ?_
  refine st_i2 dX5_init_38 (by first | exact rfl | exact trivial) ?_
  have key := dn (F := fun k => ∀ I' L' R', Sf I L R a (a + 13 + k) (f2 a 2 (a + 12) k) I' L' R' → Ex G mdX5_init48 39 [some (.ref a), some (.int 48), some (.int (nI k))] [] (pm I' L' R' (a + 13 + k)) (12 + k) (171 + 10 * k) (Iq I L R a (a + 61))) (m := 48) ?_ ?_ 0 (Nat.zero_le _)
  · exact key _ _ _ h4
  · intro I' L' R' hS
    have r1 : R' a 1 = some (a + 12) := by
      rw [(hS.2.1 a (Nat.le_refl a) (by omega)).2.2, f2_a]
      unfold part
      rw [if_pos (by decide)]
      exact b1
    refine ex_iload_n dX5_init_39 rfl ?_
    refine ex_aload_n dX5_init_40 rfl ?_
    refine ex_get (C := RX5) (T := TX5) (N := 4) (kd := 5) (j := 1) (v := .ref (a + 12)) dX5_init_41 rfl rfl inX5 (by decide) (by decide) wf_X5_34 hk (show a < a + 13 + 48 by omega) (by unfold aval; rw [if_neg (by decide), if_neg (by decide)]; show (R' a 1).map Value.ref = _; rw [r1]; rfl) ?_
    refine ex_alen (kd := 17) (N := 48) dX5_init_44 h17 (by decide) rfl (show a + 12 < a + 13 + 48 by omega) ?_
    refine ex_icmp_ge 67 dX5_init_45 (by decide) (fun _ => ?_) (fun z => absurd (Int32.le_refl _) z)
    refine ex_vret dX5_init_67 rfl ⟨rfl, by decide⟩ ?_
    refine ⟨rfl, _, _, _, rfl, sf_done hS (fun c g1 g2 => ?_)⟩
    by_cases e : c = a
    · subst e
      rw [f2_a]
      exact rz_5 hk
    · by_cases e2 : c = a + 12
      · subst e2
        rw [f2_b (by omega)]
        exact rz_p q2
      · rw [f2_n e e2]
        exact part_all
  · intro k hk' ih I' L' R' hS
    have r1 : R' a 1 = some (a + 12) := by
      rw [(hS.2.1 a (Nat.le_refl a) (by omega)).2.2, f2_a]
      unfold part
      rw [if_pos (by decide)]
      exact b1
    obtain ⟨kb, rb⟩ := q1 k hk'
    refine ex_iload_n dX5_init_39 rfl ?_
    refine ex_aload_n dX5_init_40 rfl ?_
    refine ex_get (C := RX5) (T := TX5) (N := 4) (kd := 5) (j := 1) (v := .ref (a + 12)) dX5_init_41 rfl rfl inX5 (by decide) (by decide) wf_X5_34 hk (show a < a + 13 + k by omega) (by unfold aval; rw [if_neg (by decide), if_neg (by decide)]; show (R' a 1).map Value.ref = _; rw [r1]; rfl) ?_
    refine ex_alen (kd := 17) (N := 48) dX5_init_44 h17 (by decide) rfl (show a + 12 < a + 13 + k by omega) ?_
    refine ex_icmp_ge 67 dX5_init_45 (by decide) (fun z => absurd z (nI_ge hk' (by decide))) (fun _ => ?_)
    refine ex_aload_n dX5_init_48 rfl ?_
    refine ex_get (C := RX5) (T := TX5) (N := 4) (kd := 5) (j := 1) (v := .ref (a + 12)) dX5_init_49 rfl rfl inX5 (by decide) (by decide) wf_X5_34 hk (show a < a + 13 + k by omega) (by unfold aval; rw [if_neg (by decide), if_neg (by decide)]; show (R' a 1).map Value.ref = _; rw [r1]; rfl) ?_
    refine ex_iload_n dX5_init_52 rfl ?_
    refine px_new (C := RX1) (T := TX1) (N := 10) (kd := 1) (n := a + 13 + k) tyX1 dX5_init_53 rfl rfl (by decide) inX1 tyX1_ok dv_1 wc_X5_32 wi_X1 wn_X1 ⟨show 12 + k + 1 ≤ 60 by omega, show 171 + 10 * k + 10 ≤ 651 by omega⟩ hS.1 kb (by omega) ?_
    refine ex_dup dX5_init_56 rfl ?_
    refine ex_cIN (vs := []) dX5_init_57 rfl lk_X5_38 (show a + 13 + k < a + 13 + k + 1 by omega) ⟨⟨by decide, by decide⟩, show 12 + k + 1 + 0 ≤ 60 by omega, show 171 + 10 * k + 10 + 0 ≤ 651 by omega⟩ rfl (Nat.le_of_ble_eq_true rfl) rfl (c_X1 kb hS.1) (Iq.k (fun I_2 L_2 R_2 hn2 => ?_))
    have g1 := sf_sub hS hn2 (by omega) (fun x g1 g2 => f2_n (by omega) (by omega))
    refine ex_aast (t0 := 4) (ci := 1) (Nb := 10) dX5_init_60 h17 (by decide) rfl (show a + 12 < a + 13 + k + 1 by omega) (vp_in_nI hk' (by decide)) kb (show a + 13 + k < a + 13 + k + 1 by omega) (by decide) rfl ?_
    rw [nI_clamp (show k < 2 ^ 31 by omega)]
    have g2 := sf_put (f' := f2 a 2 (a + 12) (k + 1)) g1 (c := a + 12) (j := k) (b := a + 13 + k) (by omega) (by omega) (f2_b (by omega)) rb (f2_b (by omega)) (fun x hx => by unfold f2; rw [if_neg hx, if_neg hx])
    refine inc2 (v := nI (k + 1)) dX5_init_61 (nI_add k 1) (by first | exact rfl | exact trivial) ?_
    refine ex_goto 39 dX5_init_64 (by decide) ?_
    exact ih _ _ _ g2
end
end R51
