section R52
variable {G : Gp} {I : Im} {L : Nat → Nat → Int64} {t : Nat}
section
variable {R : Nat → Nat → Option Nat} {d : Md} {pc : Nat} {ls : List (Option Value)} {st : List Value} {uc us : Nat} {P : Option Value → Mem → Prop} {n : Nat}
variable {I0 : Im} {L1 : Nat → Nat → Int64} {R1 : Nat → Nat → Option Nat} {a : Nat} {f f' : Nat → Nat}
theorem sf_cong (h : Sf I0 L1 R1 a n f I L R) (hf : ∀ c, a ≤ c → c < n → part c (f' c) = part c (f c)) : Sf I0 L1 R1 a n f' I L R := ⟨h.1, fun c g1 g2 => by rw [hf c g1 g2]; exact h.2.1 c g1 g2, h.2.2⟩
theorem sf_putg {c s j b : Nat} (h : Sf I0 L1 R1 a n f I L R) (h1 : a ≤ c) (h2 : c < n) (hf : f c = s) (hs : s ≤ j) (hg : ∀ i, i < j → s ≤ i → R0 c i = none) (hb : R0 c j = some b) (hf1 : f' c = j + 1) (hf2 : ∀ x, x ≠ c → f' x = f x) : Sf I0 L1 R1 a n f' I L (up2 R c j (some b)) := by
  refine ⟨h.1.r h2, fun x g1 g2 => ?_, fun x g => ?_⟩
  · obtain ⟨z1, z2, z3⟩ := h.2.1 x g1 g2
    refine ⟨z1, z2, ?_⟩
    by_cases e : x = c
    · subst e
      rw [hf1]
      exact part_up (by rw [z3, hf]) hs hb (fun i h3 h4 => hg i h4 h3)
    · rw [up2_off e, z3, hf2 x e]
  · rw [up2_off (by omega)]
    exact h.2.2 x g
def fS (s q k : Nat) : Nat → Nat := fun c => if c = 0 then s else if c ≤ 7 then (if c < q then 999 else if c = q then k else 0) else 999
theorem fS_n {s q k c : Nat} (h : 7 < c) : fS s q k c = 999 := by
  unfold fS
  rw [if_neg (by omega), if_neg (by omega)]
theorem fS_s {s s' q k x : Nat} (hx : x ≠ 0) : fS s' q k x = fS s q k x := by
  unfold fS
  rw [if_neg hx, if_neg hx]
theorem fS_q {q k k' x : Nat} (hx : x ≠ q) : fS 20 q k' x = fS 20 q k x := by
  unfold fS
  rw [if_neg hx, if_neg hx]
theorem fS_k {q k : Nat} (h1 : 1 ≤ q) (h7 : q ≤ 7) : fS 20 q k q = k := by
  unfold fS
  rw [if_neg (by omega), if_pos h7, if_neg (by omega), if_pos rfl]
theorem fS_next {q m : Nat} (h1 : 1 ≤ q) (h7 : q ≤ 7) (hz : rz q m = true) (h : Sf I0 L1 R1 0 n (fS 20 q m) I L R) : Sf I0 L1 R1 0 n (fS 20 (q + 1) 0) I L R := by
  refine sf_cong h (fun c _ _ => ?_)
  by_cases e : c = q
  · subst e
    rw [fS_k h1 h7, rz_p hz]
    unfold fS
    rw [if_neg (by omega), if_pos h7, if_pos (by omega)]
    exact part_all
  · have : fS 20 (q + 1) 0 c = fS 20 q m c := by
      unfold fS
      by_cases c0 : c = 0
      · rw [if_pos c0, if_pos c0]
      rw [if_neg c0, if_neg c0]
      by_cases c7 : c ≤ 7
      · rw [if_pos c7, if_pos c7]
        by_cases cq : c < q
        · rw [if_pos cq, if_pos (by omega)]
        · rw [if_neg cq, if_neg (by omega), if_neg e]
          split <;> rfl
      · rw [if_neg c7, if_neg c7]
    rw [this]
theorem s_r0 {q m j b : Nat} (h : Sf I0 L1 R1 0 n (fS 20 q m) I L R) (hn : 0 < n) (hj : j < 20) (hb : R0 0 j = some b) : R 0 j = some b := by
  rw [(h.2.1 0 (Nat.le_refl 0) hn).2.2]
  show part 0 20 j = some b
  unfold part
  rw [if_pos hj]
  exact hb
theorem li_1 : ∀ k, k < 6 → K0 (104 + 2 * k) = (6, 3) ∧ R0 1 k = some (104 + 2 * k) := by decide +kernel
set_option maxHeartbeats 4000000 in
theorem il_1 (kont : ∀ I' L' R', Sf I0 L1 R1 0 (104 + 2 * 6) (fS 20 2 0) I' L' R' → Ex G mdX11_init 209 [some (.ref 0), some (.int (nI 6))] [] (pm I' L' R' (104 + 2 * 6)) (103 + 2 * 6) (1448 + 63 * 6) P) : ∀ I' L' R', Sf I0 L1 R1 0 (104 + 2 * 0) (fS 20 1 0) I' L' R' → Ex G mdX11_init 184 [some (.ref 0), some (.int (nI 0))] [] (pm I' L' R' (104 + 2 * 0)) (103 + 2 * 0) (1448 + 63 * 0) P := by
  refine dn (F := fun k => ∀ I' L' R', Sf I0 L1 R1 0 (104 + 2 * k) (fS 20 1 k) I' L' R' → Ex G mdX11_init 184 [some (.ref 0), some (.int (nI k))] [] (pm I' L' R' (104 + 2 * k)) (103 + 2 * k) (1448 + 63 * k) P) (m := 6) ?_ ?_ 0 (Nat.zero_le _)
  · intro I' L' R' hS
    refine ex_iload_n dX11_init_184 rfl ?_
    refine ex_bipush (v := 6) dX11_init_185 (by decide) ?_
    refine ex_icmp_ge 209 dX11_init_187 (by decide) (fun _ => ?_) (fun z => absurd (show (6 : Int32) ≤ nI 6 by decide) z)
    exact kont _ _ _ (fS_next (by decide) (by decide) (by decide +kernel) hS)
  · intro k hk ih I' L' R' hS
    have rr := s_r0 hS (by omega) (show 0 < 20 by decide) (show R0 0 0 = some 1 from rfl)
    obtain ⟨kb, rb⟩ := li_1 k hk
    refine ex_iload_n dX11_init_184 rfl ?_
    refine ex_bipush (v := 6) dX11_init_185 (by decide) ?_
    refine ex_icmp_ge 209 dX11_init_187 (by decide) (fun z => absurd z (show ¬ (6 : Int32) ≤ nI k from nI_ge hk (by decide))) (fun _ => ?_)
    refine ex_aload_n dX11_init_190 rfl ?_
    refine ex_get (C := RX11) (T := TX11) (N := 20) (kd := 11) (j := 0) (v := .ref 1) dX11_init_191 rfl rfl inX11 (by decide) (by decide) wf_X11_11 (show K0 0 = (11, 20) from rfl) (show 0 < 104 + 2 * k by omega) (by unfold aval; rw [if_neg (by decide), if_neg (by decide)]; show (R' 0 0).map Value.ref = _; rw [rr]; rfl) ?_
    refine ex_iload_n dX11_init_194 rfl ?_
    refine px_new (C := RX6) (T := TX6) (N := 3) (kd := 6) (n := 104 + 2 * k) tyX6 dX11_init_195 rfl rfl (by decide) inX6 tyX6_ok dv_6 wc_X11_9 wi_X6 wn_X6 ⟨show 103 + 2 * k + 1 ≤ 199 by omega, show 1448 + 63 * k + 3 ≤ 2908 by omega⟩ hS.1 kb (by omega) ?_
    refine ex_dup dX11_init_198 rfl ?_
    refine ex_cIN (vs := []) dX11_init_199 rfl lk_X11_114 (show 104 + 2 * k < 104 + 2 * k + 1 by omega) ⟨⟨by decide, by decide⟩, show 103 + 2 * k + 1 + 1 ≤ 199 by omega, show 1448 + 63 * k + 3 + 60 ≤ 2908 by omega⟩ rfl (Nat.le_of_ble_eq_true rfl) rfl (c_X6 kb hS.1) (Iq.k (fun I_2 L_2 R_2 hn2 => ?_))
    have g1 := sf_sub hS hn2 (Nat.zero_le _) (fun x g1 g2 => fS_n (by omega))
    refine ex_aast (a := 1) (kd := 20) (N := 6) (t0 := 7) (ci := 6) (Nb := 3) dX11_init_202 (show K0 1 = (20, 6) from rfl) (by decide) rfl (show 1 < 104 + 2 * k + 2 by omega) (vp_in_nI hk (by decide)) kb (show 104 + 2 * k < 104 + 2 * k + 2 by omega) (by decide) rfl ?_
    rw [nI_clamp (show k < 2 ^ 31 by omega)]
    have g2 := sf_put (f' := fS 20 1 (k + 1)) g1 (c := 1) (j := k) (b := 104 + 2 * k) (Nat.zero_le _) (by omega) (fS_k (by decide) (by decide)) rb (fS_k (by decide) (by decide)) (fun x hx => fS_q hx)
    refine inc1 (v := nI (k + 1)) dX11_init_203 (nI_add k 1) (by first | exact rfl | exact trivial) ?_
    refine ex_goto 184 dX11_init_206 (by decide) ?_
    have en : 104 + 2 * k + 2 = 104 + 2 * (k + 1) := by omega
    have eu : 103 + 2 * k + 1 + 1 = 103 + 2 * (k + 1) := by omega
    have es : 1448 + 63 * k + 3 + 60 = 1448 + 63 * (k + 1) := by omega
    rw [en] at g2
    have key := ih _ _ _ g2
    rw [← en, ← eu, ← es] at key
    exact key
theorem li_2 : ∀ k, k < 4 → K0 (116 + 2 * k) = (4, 3) ∧ R0 2 k = some (116 + 2 * k) := by decide +kernel
set_option maxHeartbeats 4000000 in
theorem il_2 (kont : ∀ I' L' R', Sf I0 L1 R1 0 (116 + 2 * 4) (fS 20 3 0) I' L' R' → Ex G mdX11_init 235 [some (.ref 0), some (.int (nI 4))] [] (pm I' L' R' (116 + 2 * 4)) (115 + 2 * 4) (1826 + 103 * 4) P) : ∀ I' L' R', Sf I0 L1 R1 0 (116 + 2 * 0) (fS 20 2 0) I' L' R' → Ex G mdX11_init 211 [some (.ref 0), some (.int (nI 0))] [] (pm I' L' R' (116 + 2 * 0)) (115 + 2 * 0) (1826 + 103 * 0) P := by
  refine dn (F := fun k => ∀ I' L' R', Sf I0 L1 R1 0 (116 + 2 * k) (fS 20 2 k) I' L' R' → Ex G mdX11_init 211 [some (.ref 0), some (.int (nI k))] [] (pm I' L' R' (116 + 2 * k)) (115 + 2 * k) (1826 + 103 * k) P) (m := 4) ?_ ?_ 0 (Nat.zero_le _)
  · intro I' L' R' hS
    refine ex_iload_n dX11_init_211 rfl ?_
    refine ex_iconst (v := 4) dX11_init_212 (by decide) ?_
    refine ex_icmp_ge 235 dX11_init_213 (by decide) (fun _ => ?_) (fun z => absurd (show (4 : Int32) ≤ nI 4 by decide) z)
    exact kont _ _ _ (fS_next (by decide) (by decide) (by decide +kernel) hS)
  · intro k hk ih I' L' R' hS
    have rr := s_r0 hS (by omega) (show 1 < 20 by decide) (show R0 0 1 = some 2 from rfl)
    obtain ⟨kb, rb⟩ := li_2 k hk
    refine ex_iload_n dX11_init_211 rfl ?_
    refine ex_iconst (v := 4) dX11_init_212 (by decide) ?_
    refine ex_icmp_ge 235 dX11_init_213 (by decide) (fun z => absurd z (show ¬ (4 : Int32) ≤ nI k from nI_ge hk (by decide))) (fun _ => ?_)
    refine ex_aload_n dX11_init_216 rfl ?_
    refine ex_get (C := RX11) (T := TX11) (N := 20) (kd := 11) (j := 1) (v := .ref 2) dX11_init_217 rfl rfl inX11 (by decide) (by decide) wf_X11_17 (show K0 0 = (11, 20) from rfl) (show 0 < 116 + 2 * k by omega) (by unfold aval; rw [if_neg (by decide), if_neg (by decide)]; show (R' 0 1).map Value.ref = _; rw [rr]; rfl) ?_
    refine ex_iload_n dX11_init_220 rfl ?_
    refine px_new (C := RX4) (T := TX4) (N := 3) (kd := 4) (n := 116 + 2 * k) tyX4 dX11_init_221 rfl rfl (by decide) inX4 tyX4_ok dv_4 wc_X11_15 wi_X4 wn_X4 ⟨show 115 + 2 * k + 1 ≤ 199 by omega, show 1826 + 103 * k + 3 ≤ 2908 by omega⟩ hS.1 kb (by omega) ?_
    refine ex_dup dX11_init_224 rfl ?_
    refine ex_cIN (vs := []) dX11_init_225 rfl lk_X11_115 (show 116 + 2 * k < 116 + 2 * k + 1 by omega) ⟨⟨by decide, by decide⟩, show 115 + 2 * k + 1 + 1 ≤ 199 by omega, show 1826 + 103 * k + 3 + 100 ≤ 2908 by omega⟩ rfl (Nat.le_of_ble_eq_true rfl) rfl (c_X4 kb hS.1) (Iq.k (fun I_2 L_2 R_2 hn2 => ?_))
    have g1 := sf_sub hS hn2 (Nat.zero_le _) (fun x g1 g2 => fS_n (by omega))
    refine ex_aast (a := 2) (kd := 18) (N := 4) (t0 := 5) (ci := 4) (Nb := 3) dX11_init_228 (show K0 2 = (18, 4) from rfl) (by decide) rfl (show 2 < 116 + 2 * k + 2 by omega) (vp_in_nI hk (by decide)) kb (show 116 + 2 * k < 116 + 2 * k + 2 by omega) (by decide) rfl ?_
    rw [nI_clamp (show k < 2 ^ 31 by omega)]
    have g2 := sf_put (f' := fS 20 2 (k + 1)) g1 (c := 2) (j := k) (b := 116 + 2 * k) (Nat.zero_le _) (by omega) (fS_k (by decide) (by decide)) rb (fS_k (by decide) (by decide)) (fun x hx => fS_q hx)
    refine inc1 (v := nI (k + 1)) dX11_init_229 (nI_add k 1) (by first | exact rfl | exact trivial) ?_
    refine ex_goto 211 dX11_init_232 (by decide) ?_
    have en : 116 + 2 * k + 2 = 116 + 2 * (k + 1) := by omega
    have eu : 115 + 2 * k + 1 + 1 = 115 + 2 * (k + 1) := by omega
    have es : 1826 + 103 * k + 3 + 100 = 1826 + 103 * (k + 1) := by omega
    rw [en] at g2
    have key := ih _ _ _ g2
    rw [← en, ← eu, ← es] at key
    exact key
theorem li_3 : ∀ k, k < 4 → K0 (124 + 2 * k) = (0, 7) ∧ R0 3 k = some (124 + 2 * k) := by decide +kernel
set_option maxHeartbeats 4000000 in
theorem il_3 (kont : ∀ I' L' R', Sf I0 L1 R1 0 (124 + 2 * 4) (fS 20 4 0) I' L' R' → Ex G mdX11_init 261 [some (.ref 0), some (.int (nI 4))] [] (pm I' L' R' (124 + 2 * 4)) (123 + 2 * 4) (2238 + 23 * 4) P) : ∀ I' L' R', Sf I0 L1 R1 0 (124 + 2 * 0) (fS 20 3 0) I' L' R' → Ex G mdX11_init 237 [some (.ref 0), some (.int (nI 0))] [] (pm I' L' R' (124 + 2 * 0)) (123 + 2 * 0) (2238 + 23 * 0) P := by
  refine dn (F := fun k => ∀ I' L' R', Sf I0 L1 R1 0 (124 + 2 * k) (fS 20 3 k) I' L' R' → Ex G mdX11_init 237 [some (.ref 0), some (.int (nI k))] [] (pm I' L' R' (124 + 2 * k)) (123 + 2 * k) (2238 + 23 * k) P) (m := 4) ?_ ?_ 0 (Nat.zero_le _)
  · intro I' L' R' hS
    refine ex_iload_n dX11_init_237 rfl ?_
    refine ex_iconst (v := 4) dX11_init_238 (by decide) ?_
    refine ex_icmp_ge 261 dX11_init_239 (by decide) (fun _ => ?_) (fun z => absurd (show (4 : Int32) ≤ nI 4 by decide) z)
    exact kont _ _ _ (fS_next (by decide) (by decide) (by decide +kernel) hS)
  · intro k hk ih I' L' R' hS
    have rr := s_r0 hS (by omega) (show 2 < 20 by decide) (show R0 0 2 = some 3 from rfl)
    obtain ⟨kb, rb⟩ := li_3 k hk
    refine ex_iload_n dX11_init_237 rfl ?_
    refine ex_iconst (v := 4) dX11_init_238 (by decide) ?_
    refine ex_icmp_ge 261 dX11_init_239 (by decide) (fun z => absurd z (show ¬ (4 : Int32) ≤ nI k from nI_ge hk (by decide))) (fun _ => ?_)
    refine ex_aload_n dX11_init_242 rfl ?_
    refine ex_get (C := RX11) (T := TX11) (N := 20) (kd := 11) (j := 2) (v := .ref 3) dX11_init_243 rfl rfl inX11 (by decide) (by decide) wf_X11_23 (show K0 0 = (11, 20) from rfl) (show 0 < 124 + 2 * k by omega) (by unfold aval; rw [if_neg (by decide), if_neg (by decide)]; show (R' 0 2).map Value.ref = _; rw [rr]; rfl) ?_
    refine ex_iload_n dX11_init_246 rfl ?_
    refine px_new (C := RX0) (T := TX0) (N := 7) (kd := 0) (n := 124 + 2 * k) tyX0 dX11_init_247 rfl rfl (by decide) inX0 tyX0_ok dv_0 wc_X11_21 wi_X0 wn_X0 ⟨show 123 + 2 * k + 1 ≤ 199 by omega, show 2238 + 23 * k + 7 ≤ 2908 by omega⟩ hS.1 kb (by omega) ?_
    refine ex_dup dX11_init_250 rfl ?_
    refine ex_cIN (vs := []) dX11_init_251 rfl lk_X11_68 (show 124 + 2 * k < 124 + 2 * k + 1 by omega) ⟨⟨by decide, by decide⟩, show 123 + 2 * k + 1 + 1 ≤ 199 by omega, show 2238 + 23 * k + 7 + 16 ≤ 2908 by omega⟩ rfl (Nat.le_of_ble_eq_true rfl) rfl (c_X0 kb hS.1) (Iq.k (fun I_2 L_2 R_2 hn2 => ?_))
    have g1 := sf_sub hS hn2 (Nat.zero_le _) (fun x g1 g2 => fS_n (by omega))
    refine ex_aast (a := 3) (kd := 16) (N := 4) (t0 := 3) (ci := 0) (Nb := 7) dX11_init_254 (show K0 3 = (16, 4) from rfl) (by decide) rfl (show 3 < 124 + 2 * k + 2 by omega) (vp_in_nI hk (by decide)) kb (show 124 + 2 * k < 124 + 2 * k + 2 by omega) (by decide) rfl ?_
    rw [nI_clamp (show k < 2 ^ 31 by omega)]
    have g2 := sf_put (f' := fS 20 3 (k + 1)) g1 (c := 3) (j := k) (b := 124 + 2 * k) (Nat.zero_le _) (by omega) (fS_k (by decide) (by decide)) rb (fS_k (by decide) (by decide)) (fun x hx => fS_q hx)
    refine inc1 (v := nI (k + 1)) dX11_init_255 (nI_add k 1) (by first | exact rfl | exact trivial) ?_
    refine ex_goto 237 dX11_init_258 (by decide) ?_
    have en : 124 + 2 * k + 2 = 124 + 2 * (k + 1) := by omega
    have eu : 123 + 2 * k + 1 + 1 = 123 + 2 * (k + 1) := by omega
    have es : 2238 + 23 * k + 7 + 16 = 2238 + 23 * (k + 1) := by omega
    rw [en] at g2
    have key := ih _ _ _ g2
    rw [← en, ← eu, ← es] at key
    exact key
theorem li_4 : ∀ k, k < 4 → K0 (132 + 3 * k) = (8, 4) ∧ R0 4 k = some (132 + 3 * k) := by decide +kernel
set_option maxHeartbeats 4000000 in
theorem il_4 (kont : ∀ I' L' R', Sf I0 L1 R1 0 (132 + 3 * 4) (fS 20 5 0) I' L' R' → Ex G mdX11_init 287 [some (.ref 0), some (.int (nI 4))] [] (pm I' L' R' (132 + 3 * 4)) (131 + 3 * 4) (2330 + 12 * 4) P) : ∀ I' L' R', Sf I0 L1 R1 0 (132 + 3 * 0) (fS 20 4 0) I' L' R' → Ex G mdX11_init 263 [some (.ref 0), some (.int (nI 0))] [] (pm I' L' R' (132 + 3 * 0)) (131 + 3 * 0) (2330 + 12 * 0) P := by
  refine dn (F := fun k => ∀ I' L' R', Sf I0 L1 R1 0 (132 + 3 * k) (fS 20 4 k) I' L' R' → Ex G mdX11_init 263 [some (.ref 0), some (.int (nI k))] [] (pm I' L' R' (132 + 3 * k)) (131 + 3 * k) (2330 + 12 * k) P) (m := 4) ?_ ?_ 0 (Nat.zero_le _)
  · intro I' L' R' hS
    refine ex_iload_n dX11_init_263 rfl ?_
    refine ex_iconst (v := 4) dX11_init_264 (by decide) ?_
    refine ex_icmp_ge 287 dX11_init_265 (by decide) (fun _ => ?_) (fun z => absurd (show (4 : Int32) ≤ nI 4 by decide) z)
    exact kont _ _ _ (fS_next (by decide) (by decide) (by decide +kernel) hS)
  · intro k hk ih I' L' R' hS
    have rr := s_r0 hS (by omega) (show 3 < 20 by decide) (show R0 0 3 = some 4 from rfl)
    obtain ⟨kb, rb⟩ := li_4 k hk
    refine ex_iload_n dX11_init_263 rfl ?_
    refine ex_iconst (v := 4) dX11_init_264 (by decide) ?_
    refine ex_icmp_ge 287 dX11_init_265 (by decide) (fun z => absurd z (show ¬ (4 : Int32) ≤ nI k from nI_ge hk (by decide))) (fun _ => ?_)
    refine ex_aload_n dX11_init_268 rfl ?_
    refine ex_get (C := RX11) (T := TX11) (N := 20) (kd := 11) (j := 3) (v := .ref 4) dX11_init_269 rfl rfl inX11 (by decide) (by decide) wf_X11_29 (show K0 0 = (11, 20) from rfl) (show 0 < 132 + 3 * k by omega) (by unfold aval; rw [if_neg (by decide), if_neg (by decide)]; show (R' 0 3).map Value.ref = _; rw [rr]; rfl) ?_
    refine ex_iload_n dX11_init_272 rfl ?_
    refine px_new (C := RX8) (T := TX8) (N := 4) (kd := 8) (n := 132 + 3 * k) tyX8 dX11_init_273 rfl rfl (by decide) inX8 tyX8_ok dv_8 wc_X11_27 wi_X8 wn_X8 ⟨show 131 + 3 * k + 1 ≤ 199 by omega, show 2330 + 12 * k + 4 ≤ 2908 by omega⟩ hS.1 kb (by omega) ?_
    refine ex_dup dX11_init_276 rfl ?_
    refine ex_cIN (vs := []) dX11_init_277 rfl lk_X11_73 (show 132 + 3 * k < 132 + 3 * k + 1 by omega) ⟨⟨by decide, by decide⟩, show 131 + 3 * k + 1 + 2 ≤ 199 by omega, show 2330 + 12 * k + 4 + 8 ≤ 2908 by omega⟩ rfl (Nat.le_of_ble_eq_true rfl) rfl (c_X8 kb hS.1) (Iq.k (fun I_2 L_2 R_2 hn2 => ?_))
    have g1 := sf_sub hS hn2 (Nat.zero_le _) (fun x g1 g2 => fS_n (by omega))
    refine ex_aast (a := 4) (kd := 21) (N := 4) (t0 := 8) (ci := 8) (Nb := 4) dX11_init_280 (show K0 4 = (21, 4) from rfl) (by decide) rfl (show 4 < 132 + 3 * k + 3 by omega) (vp_in_nI hk (by decide)) kb (show 132 + 3 * k < 132 + 3 * k + 3 by omega) (by decide) rfl ?_
    rw [nI_clamp (show k < 2 ^ 31 by omega)]
    have g2 := sf_put (f' := fS 20 4 (k + 1)) g1 (c := 4) (j := k) (b := 132 + 3 * k) (Nat.zero_le _) (by omega) (fS_k (by decide) (by decide)) rb (fS_k (by decide) (by decide)) (fun x hx => fS_q hx)
    refine inc1 (v := nI (k + 1)) dX11_init_281 (nI_add k 1) (by first | exact rfl | exact trivial) ?_
    refine ex_goto 263 dX11_init_284 (by decide) ?_
    have en : 132 + 3 * k + 3 = 132 + 3 * (k + 1) := by omega
    have eu : 131 + 3 * k + 1 + 2 = 131 + 3 * (k + 1) := by omega
    have es : 2330 + 12 * k + 4 + 8 = 2330 + 12 * (k + 1) := by omega
    rw [en] at g2
    have key := ih _ _ _ g2
    rw [← en, ← eu, ← es] at key
    exact key
theorem li_5 : ∀ k, k < 3 → K0 (144 + 1 * k) = (1, 10) ∧ R0 5 k = some (144 + 1 * k) := by decide +kernel
set_option maxHeartbeats 4000000 in
theorem il_5 (kont : ∀ I' L' R', Sf I0 L1 R1 0 (144 + 1 * 3) (fS 20 6 0) I' L' R' → Ex G mdX11_init 313 [some (.ref 0), some (.int (nI 3))] [] (pm I' L' R' (144 + 1 * 3)) (143 + 1 * 3) (2378 + 10 * 3) P) : ∀ I' L' R', Sf I0 L1 R1 0 (144 + 1 * 0) (fS 20 5 0) I' L' R' → Ex G mdX11_init 289 [some (.ref 0), some (.int (nI 0))] [] (pm I' L' R' (144 + 1 * 0)) (143 + 1 * 0) (2378 + 10 * 0) P := by
  refine dn (F := fun k => ∀ I' L' R', Sf I0 L1 R1 0 (144 + 1 * k) (fS 20 5 k) I' L' R' → Ex G mdX11_init 289 [some (.ref 0), some (.int (nI k))] [] (pm I' L' R' (144 + 1 * k)) (143 + 1 * k) (2378 + 10 * k) P) (m := 3) ?_ ?_ 0 (Nat.zero_le _)
  · intro I' L' R' hS
    refine ex_iload_n dX11_init_289 rfl ?_
    refine ex_iconst (v := 3) dX11_init_290 (by decide) ?_
    refine ex_icmp_ge 313 dX11_init_291 (by decide) (fun _ => ?_) (fun z => absurd (show (3 : Int32) ≤ nI 3 by decide) z)
    exact kont _ _ _ (fS_next (by decide) (by decide) (by decide +kernel) hS)
  · intro k hk ih I' L' R' hS
    have rr := s_r0 hS (by omega) (show 4 < 20 by decide) (show R0 0 4 = some 5 from rfl)
    obtain ⟨kb, rb⟩ := li_5 k hk
    refine ex_iload_n dX11_init_289 rfl ?_
    refine ex_iconst (v := 3) dX11_init_290 (by decide) ?_
    refine ex_icmp_ge 313 dX11_init_291 (by decide) (fun z => absurd z (show ¬ (3 : Int32) ≤ nI k from nI_ge hk (by decide))) (fun _ => ?_)
    refine ex_aload_n dX11_init_294 rfl ?_
    refine ex_get (C := RX11) (T := TX11) (N := 20) (kd := 11) (j := 4) (v := .ref 5) dX11_init_295 rfl rfl inX11 (by decide) (by decide) wf_X11_35 (show K0 0 = (11, 20) from rfl) (show 0 < 144 + 1 * k by omega) (by unfold aval; rw [if_neg (by decide), if_neg (by decide)]; show (R' 0 4).map Value.ref = _; rw [rr]; rfl) ?_
    refine ex_iload_n dX11_init_298 rfl ?_
    refine px_new (C := RX1) (T := TX1) (N := 10) (kd := 1) (n := 144 + 1 * k) tyX1 dX11_init_299 rfl rfl (by decide) inX1 tyX1_ok dv_1 wc_X11_33 wi_X1 wn_X1 ⟨show 143 + 1 * k + 1 ≤ 199 by omega, show 2378 + 10 * k + 10 ≤ 2908 by omega⟩ hS.1 kb (by omega) ?_
    refine ex_dup dX11_init_302 rfl ?_
    refine ex_cIN (vs := []) dX11_init_303 rfl lk_X11_78 (show 144 + 1 * k < 144 + 1 * k + 1 by omega) ⟨⟨by decide, by decide⟩, show 143 + 1 * k + 1 + 0 ≤ 199 by omega, show 2378 + 10 * k + 10 + 0 ≤ 2908 by omega⟩ rfl (Nat.le_of_ble_eq_true rfl) rfl (c_X1 kb hS.1) (Iq.k (fun I_2 L_2 R_2 hn2 => ?_))
    have g1 := sf_sub hS hn2 (Nat.zero_le _) (fun x g1 g2 => fS_n (by omega))
    refine ex_aast (a := 5) (kd := 17) (N := 3) (t0 := 4) (ci := 1) (Nb := 10) dX11_init_306 (show K0 5 = (17, 3) from rfl) (by decide) rfl (show 5 < 144 + 1 * k + 1 by omega) (vp_in_nI hk (by decide)) kb (show 144 + 1 * k < 144 + 1 * k + 1 by omega) (by decide) rfl ?_
    rw [nI_clamp (show k < 2 ^ 31 by omega)]
    have g2 := sf_put (f' := fS 20 5 (k + 1)) g1 (c := 5) (j := k) (b := 144 + 1 * k) (Nat.zero_le _) (by omega) (fS_k (by decide) (by decide)) rb (fS_k (by decide) (by decide)) (fun x hx => fS_q hx)
    refine inc1 (v := nI (k + 1)) dX11_init_307 (nI_add k 1) (by first | exact rfl | exact trivial) ?_
    refine ex_goto 289 dX11_init_310 (by decide) ?_
    have en : 144 + 1 * k + 1 = 144 + 1 * (k + 1) := by omega
    have eu : 143 + 1 * k + 1 + 0 = 143 + 1 * (k + 1) := by omega
    have es : 2378 + 10 * k + 10 + 0 = 2378 + 10 * (k + 1) := by omega
    rw [en] at g2
    have key := ih _ _ _ g2
    rw [← en, ← eu, ← es] at key
    exact key
theorem li_6 : ∀ k, k < 5 → K0 (147 + 1 * k) = (10, 4) ∧ R0 6 k = some (147 + 1 * k) := by decide +kernel
set_option maxHeartbeats 4000000 in
theorem il_6 (kont : ∀ I' L' R', Sf I0 L1 R1 0 (147 + 1 * 5) (fS 20 7 0) I' L' R' → Ex G mdX11_init 339 [some (.ref 0), some (.int (nI 5))] [] (pm I' L' R' (147 + 1 * 5)) (146 + 1 * 5) (2408 + 4 * 5) P) : ∀ I' L' R', Sf I0 L1 R1 0 (147 + 1 * 0) (fS 20 6 0) I' L' R' → Ex G mdX11_init 315 [some (.ref 0), some (.int (nI 0))] [] (pm I' L' R' (147 + 1 * 0)) (146 + 1 * 0) (2408 + 4 * 0) P := by
  refine dn (F := fun k => ∀ I' L' R', Sf I0 L1 R1 0 (147 + 1 * k) (fS 20 6 k) I' L' R' → Ex G mdX11_init 315 [some (.ref 0), some (.int (nI k))] [] (pm I' L' R' (147 + 1 * k)) (146 + 1 * k) (2408 + 4 * k) P) (m := 5) ?_ ?_ 0 (Nat.zero_le _)
  · intro I' L' R' hS
    refine ex_iload_n dX11_init_315 rfl ?_
    refine ex_iconst (v := 5) dX11_init_316 (by decide) ?_
    refine ex_icmp_ge 339 dX11_init_317 (by decide) (fun _ => ?_) (fun z => absurd (show (5 : Int32) ≤ nI 5 by decide) z)
    exact kont _ _ _ (fS_next (by decide) (by decide) (by decide +kernel) hS)
  · intro k hk ih I' L' R' hS
    have rr := s_r0 hS (by omega) (show 5 < 20 by decide) (show R0 0 5 = some 6 from rfl)
    obtain ⟨kb, rb⟩ := li_6 k hk
    refine ex_iload_n dX11_init_315 rfl ?_
    refine ex_iconst (v := 5) dX11_init_316 (by decide) ?_
    refine ex_icmp_ge 339 dX11_init_317 (by decide) (fun z => absurd z (show ¬ (5 : Int32) ≤ nI k from nI_ge hk (by decide))) (fun _ => ?_)
    refine ex_aload_n dX11_init_320 rfl ?_
    refine ex_get (C := RX11) (T := TX11) (N := 20) (kd := 11) (j := 5) (v := .ref 6) dX11_init_321 rfl rfl inX11 (by decide) (by decide) wf_X11_41 (show K0 0 = (11, 20) from rfl) (show 0 < 147 + 1 * k by omega) (by unfold aval; rw [if_neg (by decide), if_neg (by decide)]; show (R' 0 5).map Value.ref = _; rw [rr]; rfl) ?_
    refine ex_iload_n dX11_init_324 rfl ?_
    refine px_new (C := RX10) (T := TX10) (N := 4) (kd := 10) (n := 147 + 1 * k) tyX10 dX11_init_325 rfl rfl (by decide) inX10 tyX10_ok dv_10 wc_X11_39 wi_X10 wn_X10 ⟨show 146 + 1 * k + 1 ≤ 199 by omega, show 2408 + 4 * k + 4 ≤ 2908 by omega⟩ hS.1 kb (by omega) ?_
    refine ex_dup dX11_init_328 rfl ?_
    refine ex_cIN (vs := []) dX11_init_329 rfl lk_X11_116 (show 147 + 1 * k < 147 + 1 * k + 1 by omega) ⟨⟨by decide, by decide⟩, show 146 + 1 * k + 1 + 0 ≤ 199 by omega, show 2408 + 4 * k + 4 + 0 ≤ 2908 by omega⟩ rfl (Nat.le_of_ble_eq_true rfl) rfl (c_X10 kb hS.1) (Iq.k (fun I_2 L_2 R_2 hn2 => ?_))
    have g1 := sf_sub hS hn2 (Nat.zero_le _) (fun x g1 g2 => fS_n (by omega))
    refine ex_aast (a := 6) (kd := 22) (N := 5) (t0 := 9) (ci := 10) (Nb := 4) dX11_init_332 (show K0 6 = (22, 5) from rfl) (by decide) rfl (show 6 < 147 + 1 * k + 1 by omega) (vp_in_nI hk (by decide)) kb (show 147 + 1 * k < 147 + 1 * k + 1 by omega) (by decide) rfl ?_
    rw [nI_clamp (show k < 2 ^ 31 by omega)]
    have g2 := sf_put (f' := fS 20 6 (k + 1)) g1 (c := 6) (j := k) (b := 147 + 1 * k) (Nat.zero_le _) (by omega) (fS_k (by decide) (by decide)) rb (fS_k (by decide) (by decide)) (fun x hx => fS_q hx)
    refine inc1 (v := nI (k + 1)) dX11_init_333 (nI_add k 1) (by first | exact rfl | exact trivial) ?_
    refine ex_goto 315 dX11_init_336 (by decide) ?_
    have en : 147 + 1 * k + 1 = 147 + 1 * (k + 1) := by omega
    have eu : 146 + 1 * k + 1 + 0 = 146 + 1 * (k + 1) := by omega
    have es : 2408 + 4 * k + 4 + 0 = 2408 + 4 * (k + 1) := by omega
    rw [en] at g2
    have key := ih _ _ _ g2
    rw [← en, ← eu, ← es] at key
    exact key
theorem li_7 : ∀ k, k < 3 → K0 (152 + 16 * k) = (5, 4) ∧ R0 7 k = some (152 + 16 * k) ∧ K0 (152 + 16 * k + 12) = (17, 3) := by decide +kernel
set_option maxHeartbeats 4000000 in
theorem il_7 (kont : ∀ I' L' R', Sf I0 L1 R1 0 (152 + 16 * 3) (fS 20 8 0) I' L' R' → Ex G mdX11_init 366 [some (.ref 0), some (.int (nI 3))] [] (pm I' L' R' (152 + 16 * 3)) (151 + 16 * 3) (2428 + 160 * 3) P) : ∀ I' L' R', Sf I0 L1 R1 0 (152 + 16 * 0) (fS 20 7 0) I' L' R' → Ex G mdX11_init 341 [some (.ref 0), some (.int (nI 0))] [] (pm I' L' R' (152 + 16 * 0)) (151 + 16 * 0) (2428 + 160 * 0) P := by
  refine dn (F := fun k => ∀ I' L' R', Sf I0 L1 R1 0 (152 + 16 * k) (fS 20 7 k) I' L' R' → Ex G mdX11_init 341 [some (.ref 0), some (.int (nI k))] [] (pm I' L' R' (152 + 16 * k)) (151 + 16 * k) (2428 + 160 * k) P) (m := 3) ?_ ?_ 0 (Nat.zero_le _)
  · intro I' L' R' hS
    refine ex_iload_n dX11_init_341 rfl ?_
    refine ex_iconst (v := 3) dX11_init_342 (by decide) ?_
    refine ex_icmp_ge 366 dX11_init_343 (by decide) (fun _ => ?_) (fun z => absurd (show (3 : Int32) ≤ nI 3 by decide) z)
    exact kont _ _ _ (fS_next (by decide) (by decide) (by decide +kernel) hS)
  · intro k hk ih I' L' R' hS
    have rr := s_r0 hS (by omega) (show 6 < 20 by decide) (show R0 0 6 = some 7 from rfl)
    obtain ⟨kb, rb, kx⟩ := li_7 k hk
    refine ex_iload_n dX11_init_341 rfl ?_
    refine ex_iconst (v := 3) dX11_init_342 (by decide) ?_
    refine ex_icmp_ge 366 dX11_init_343 (by decide) (fun z => absurd z (show ¬ (3 : Int32) ≤ nI k from nI_ge hk (by decide))) (fun _ => ?_)
    refine ex_aload_n dX11_init_346 rfl ?_
    refine ex_get (C := RX11) (T := TX11) (N := 20) (kd := 11) (j := 6) (v := .ref 7) dX11_init_347 rfl rfl inX11 (by decide) (by decide) wf_X11_47 (show K0 0 = (11, 20) from rfl) (show 0 < 152 + 16 * k by omega) (by unfold aval; rw [if_neg (by decide), if_neg (by decide)]; show (R' 0 6).map Value.ref = _; rw [rr]; rfl) ?_
    refine ex_iload_n dX11_init_350 rfl ?_
    refine px_new (C := RX5) (T := TX5) (N := 4) (kd := 5) (n := 152 + 16 * k) tyX5 dX11_init_351 rfl rfl (by decide) inX5 tyX5_ok dv_5 wc_X11_45 wi_X5 wn_X5 ⟨show 151 + 16 * k + 1 ≤ 199 by omega, show 2428 + 160 * k + 4 ≤ 2908 by omega⟩ hS.1 kb (by omega) ?_
    refine ex_dup dX11_init_354 rfl ?_
    refine ex_iconst (v := 3) dX11_init_355 (by decide) ?_
    refine ex_cI (vs := [.int 3]) dX11_init_356 rfl lk_X11_51_3 (show 152 + 16 * k < 152 + 16 * k + 1 by omega) ⟨⟨by decide, by decide⟩, show 151 + 16 * k + 1 + 15 ≤ 199 by omega, show 2428 + 160 * k + 4 + 156 ≤ 2908 by omega⟩ rfl (Nat.le_of_ble_eq_true rfl) rfl (c_X5_3 kb hS.1 kx) (Iq.k (fun I_2 L_2 R_2 hn2 => ?_))
    have g1 := sf_sub hS hn2 (Nat.zero_le _) (fun x g1 g2 => fS_n (by omega))
    refine ex_aast (a := 7) (kd := 19) (N := 3) (t0 := 6) (ci := 5) (Nb := 4) dX11_init_359 (show K0 7 = (19, 3) from rfl) (by decide) rfl (show 7 < 152 + 16 * k + 16 by omega) (vp_in_nI hk (by decide)) kb (show 152 + 16 * k < 152 + 16 * k + 16 by omega) (by decide) rfl ?_
    rw [nI_clamp (show k < 2 ^ 31 by omega)]
    have g2 := sf_put (f' := fS 20 7 (k + 1)) g1 (c := 7) (j := k) (b := 152 + 16 * k) (Nat.zero_le _) (by omega) (fS_k (by decide) (by decide)) rb (fS_k (by decide) (by decide)) (fun x hx => fS_q hx)
    refine inc1 (v := nI (k + 1)) dX11_init_360 (nI_add k 1) (by first | exact rfl | exact trivial) ?_
    refine ex_goto 341 dX11_init_363 (by decide) ?_
    have en : 152 + 16 * k + 16 = 152 + 16 * (k + 1) := by omega
    have eu : 151 + 16 * k + 1 + 15 = 151 + 16 * (k + 1) := by omega
    have es : 2428 + 160 * k + 4 + 156 = 2428 + 160 * (k + 1) := by omega
    rw [en] at g2
    have key := ih _ _ _ g2
    rw [← en, ← eu, ← es] at key
    exact key
set_option maxHeartbeats 4000000 in
theorem c_X11 (hz : Zm I L R 0) : Ca G mdX11_init [.ref 0] (pm I L R 1) (Iq I L R 0 200) := by
  refine Ca.intro [some (.ref 0), none] (by decide) (Nat.le_of_ble_eq_true rfl) rfl rfl ?_
  have hk : K0 0 = (11, 20) := rfl
  have h0 : Sf I L R 0 1 (fS 0 0 0) I L R := sf_init hz hk (by decide) (by decide) rfl
  refine ex_aload_n dX11_init_0 rfl ?_
  refine ex_oinit dX11_init_1 rfl lk_X11_1 wo_i wo_c ⟨by decide, by decide⟩ (Nat.le_of_ble_eq_true rfl) ?_
  refine ex_aload_n dX11_init_4 rfl ?_
  refine ex_bipush (v := 6) dX11_init_5 (by decide) ?_
  refine px_newr (kd := 20) (t0 := 7) (N := 6) (n := 1) (C := RX6) dX11_init_7 rfl wc_X11_9 (by decide) (by decide) rfl (by decide) (by decide) (by decide) ⟨by decide, by decide⟩ h0.1 rfl (by decide) ?_
  have h1 : Sf I L R 0 2 (fS 0 0 0) _ _ _ := sf_raw h0 (show K0 1 = (20, 6) from rfl) (by decide) (by decide) rfl
  refine px_F (C := RX11) (T := TX11) (N := 20) (kd := 11) (j := 0) tyX11 dX11_init_10 rfl rfl rfl inX11 tyX11_ok nmX11 (by decide) (by decide) wf_X11_11 rfl rfl ⟨rfl, rfl⟩ rfl hk (by decide) ?_
  have h2 : Sf I L R 0 2 (fS 1 0 0) _ _ _ := sf_put h1 (c := 0) (j := 0) (b := 1) (Nat.le_refl 0) (by decide) rfl rfl rfl (fun x hx => fS_s hx)
  refine ex_aload_n dX11_init_13 rfl ?_
  refine ex_iconst (v := 4) dX11_init_14 (by decide) ?_
  refine px_newr (kd := 18) (t0 := 5) (N := 4) (n := 2) (C := RX4) dX11_init_15 rfl wc_X11_15 (by decide) (by decide) rfl (by decide) (by decide) (by decide) ⟨by decide, by decide⟩ h2.1 rfl (by decide) ?_
  have h3 : Sf I L R 0 3 (fS 1 0 0) _ _ _ := sf_raw h2 (show K0 2 = (18, 4) from rfl) (by decide) (by decide) rfl
  refine px_F (C := RX11) (T := TX11) (N := 20) (kd := 11) (j := 1) tyX11 dX11_init_18 rfl rfl rfl inX11 tyX11_ok nmX11 (by decide) (by decide) wf_X11_17 rfl rfl ⟨rfl, rfl⟩ rfl hk (by decide) ?_
  have h4 : Sf I L R 0 3 (fS 2 0 0) _ _ _ := sf_put h3 (c := 0) (j := 1) (b := 2) (Nat.le_refl 0) (by decide) rfl rfl rfl (fun x hx => fS_s hx)
  refine ex_aload_n dX11_init_21 rfl ?_
  refine ex_iconst (v := 4) dX11_init_22 (by decide) ?_
  refine px_newr (kd := 16) (t0 := 3) (N := 4) (n := 3) (C := RX0) dX11_init_23 rfl wc_X11_21 (by decide) (by decide) rfl (by decide) (by decide) (by decide) ⟨by decide, by decide⟩ h4.1 rfl (by decide) ?_
  have h5 : Sf I L R 0 4 (fS 2 0 0) _ _ _ := sf_raw h4 (show K0 3 = (16, 4) from rfl) (by decide) (by decide) rfl
  refine px_F (C := RX11) (T := TX11) (N := 20) (kd := 11) (j := 2) tyX11 dX11_init_26 rfl rfl rfl inX11 tyX11_ok nmX11 (by decide) (by decide) wf_X11_23 rfl rfl ⟨rfl, rfl⟩ rfl hk (by decide) ?_
  have h6 : Sf I L R 0 4 (fS 3 0 0) _ _ _ := sf_put h5 (c := 0) (j := 2) (b := 3) (Nat.le_refl 0) (by decide) rfl rfl rfl (fun x hx => fS_s hx)
  refine ex_aload_n dX11_init_29 rfl ?_
  refine ex_iconst (v := 4) dX11_init_30 (by decide) ?_
  refine px_newr (kd := 21) (t0 := 8) (N := 4) (n := 4) (C := RX8) dX11_init_31 rfl wc_X11_27 (by decide) (by decide) rfl (by decide) (by decide) (by decide) ⟨by decide, by decide⟩ h6.1 rfl (by decide) ?_
  have h7 : Sf I L R 0 5 (fS 3 0 0) _ _ _ := sf_raw h6 (show K0 4 = (21, 4) from rfl) (by decide) (by decide) rfl
  refine px_F (C := RX11) (T := TX11) (N := 20) (kd := 11) (j := 3) tyX11 dX11_init_34 rfl rfl rfl inX11 tyX11_ok nmX11 (by decide) (by decide) wf_X11_29 rfl rfl ⟨rfl, rfl⟩ rfl hk (by decide) ?_
  have h8 : Sf I L R 0 5 (fS 4 0 0) _ _ _ := sf_put h7 (c := 0) (j := 3) (b := 4) (Nat.le_refl 0) (by decide) rfl rfl rfl (fun x hx => fS_s hx)
  refine ex_aload_n dX11_init_37 rfl ?_
  refine ex_iconst (v := 3) dX11_init_38 (by decide) ?_
  refine px_newr (kd := 17) (t0 := 4) (N := 3) (n := 5) (C := RX1) dX11_init_39 rfl wc_X11_33 (by decide) (by decide) rfl (by decide) (by decide) (by decide) ⟨by decide, by decide⟩ h8.1 rfl (by decide) ?_
  have h9 : Sf I L R 0 6 (fS 4 0 0) _ _ _ := sf_raw h8 (show K0 5 = (17, 3) from rfl) (by decide) (by decide) rfl
  refine px_F (C := RX11) (T := TX11) (N := 20) (kd := 11) (j := 4) tyX11 dX11_init_42 rfl rfl rfl inX11 tyX11_ok nmX11 (by decide) (by decide) wf_X11_35 rfl rfl ⟨rfl, rfl⟩ rfl hk (by decide) ?_
  have h10 : Sf I L R 0 6 (fS 5 0 0) _ _ _ := sf_put h9 (c := 0) (j := 4) (b := 5) (Nat.le_refl 0) (by decide) rfl rfl rfl (fun x hx => fS_s hx)
  refine ex_aload_n dX11_init_45 rfl ?_
  refine ex_iconst (v := 5) dX11_init_46 (by decide) ?_
  refine px_newr (kd := 22) (t0 := 9) (N := 5) (n := 6) (C := RX10) dX11_init_47 rfl wc_X11_39 (by decide) (by decide) rfl (by decide) (by decide) (by decide) ⟨by decide, by decide⟩ h10.1 rfl (by decide) ?_
  have h11 : Sf I L R 0 7 (fS 5 0 0) _ _ _ := sf_raw h10 (show K0 6 = (22, 5) from rfl) (by decide) (by decide) rfl
  refine px_F (C := RX11) (T := TX11) (N := 20) (kd := 11) (j := 5) tyX11 dX11_init_50 rfl rfl rfl inX11 tyX11_ok nmX11 (by decide) (by decide) wf_X11_41 rfl rfl ⟨rfl, rfl⟩ rfl hk (by decide) ?_
  have h12 : Sf I L R 0 7 (fS 6 0 0) _ _ _ := sf_put h11 (c := 0) (j := 5) (b := 6) (Nat.le_refl 0) (by decide) rfl rfl rfl (fun x hx => fS_s hx)
  refine ex_aload_n dX11_init_53 rfl ?_
  refine ex_iconst (v := 3) dX11_init_54 (by decide) ?_
  refine px_newr (kd := 19) (t0 := 6) (N := 3) (n := 7) (C := RX5) dX11_init_55 rfl wc_X11_45 (by decide) (by decide) rfl (by decide) (by decide) (by decide) ⟨by decide, by decide⟩ h12.1 rfl (by decide) ?_
  have h13 : Sf I L R 0 8 (fS 6 0 0) _ _ _ := sf_raw h12 (show K0 7 = (19, 3) from rfl) (by decide) (by decide) rfl
  refine px_F (C := RX11) (T := TX11) (N := 20) (kd := 11) (j := 6) tyX11 dX11_init_58 rfl rfl rfl inX11 tyX11_ok nmX11 (by decide) (by decide) wf_X11_47 rfl rfl ⟨rfl, rfl⟩ rfl hk (by decide) ?_
  have h14 : Sf I L R 0 8 (fS 7 0 0) _ _ _ := sf_put h13 (c := 0) (j := 6) (b := 7) (Nat.le_refl 0) (by decide) rfl rfl rfl (fun x hx => fS_s hx)
  refine ex_aload_n dX11_init_61 rfl ?_
  refine px_new (C := RX5) (T := TX5) (N := 4) (kd := 5) (n := 8) tyX5 dX11_init_62 rfl rfl (by decide) inX5 tyX5_ok dv_5 wc_X11_45 wi_X5 wn_X5 ⟨by decide, by decide⟩ h14.1 rfl (by decide) ?_
  refine ex_dup dX11_init_65 rfl ?_
  refine ex_iconst (v := 3) dX11_init_66 (by decide) ?_
  refine ex_cI (vs := [.int 3]) dX11_init_67 rfl lk_X11_51_3 (show 8 < 8 + 1 by decide) ⟨⟨by decide, by decide⟩, by decide, by decide⟩ rfl (Nat.le_of_ble_eq_true rfl) rfl (c_X5_3 (show K0 8 = (5, 4) from rfl) h14.1 rfl) (Iq.k (fun I_15 L_15 R_15 hn15 => ?_))
  have h15 : Sf I L R 0 24 (fS 7 0 0) I_15 L_15 R_15 := sf_sub h14 hn15 (Nat.zero_le _) (fun x g1 g2 => fS_n (by omega))
  refine px_F (C := RX11) (T := TX11) (N := 20) (kd := 11) (j := 7) tyX11 dX11_init_70 rfl rfl rfl inX11 tyX11_ok nmX11 (by decide) (by decide) wf_X11_54 rfl rfl ⟨rfl, rfl⟩ rfl hk (by decide) ?_
  have h16 : Sf I L R 0 24 (fS 8 0 0) _ _ _ := sf_put h15 (c := 0) (j := 7) (b := 8) (Nat.le_refl 0) (by decide) rfl rfl rfl (fun x hx => fS_s hx)
  refine ex_aload_n dX11_init_73 rfl ?_
  refine px_new (C := RX5) (T := TX5) (N := 4) (kd := 5) (n := 24) tyX5 dX11_init_74 rfl rfl (by decide) inX5 tyX5_ok dv_5 wc_X11_45 wi_X5 wn_X5 ⟨by decide, by decide⟩ h16.1 rfl (by decide) ?_
  refine ex_dup dX11_init_77 rfl ?_
  refine ex_bipush (v := 48) dX11_init_78 (by decide) ?_
  refine ex_cI (vs := [.int 48]) dX11_init_80 rfl lk_X11_51_48 (show 24 < 24 + 1 by decide) ⟨⟨by decide, by decide⟩, by decide, by decide⟩ rfl (Nat.le_of_ble_eq_true rfl) rfl (c_X5_48 (show K0 24 = (5, 4) from rfl) h16.1 rfl) (Iq.k (fun I_17 L_17 R_17 hn17 => ?_))
  have h17 : Sf I L R 0 85 (fS 8 0 0) I_17 L_17 R_17 := sf_sub h16 hn17 (Nat.zero_le _) (fun x g1 g2 => fS_n (by omega))
  refine px_F (C := RX11) (T := TX11) (N := 20) (kd := 11) (j := 8) tyX11 dX11_init_83 rfl rfl rfl inX11 tyX11_ok nmX11 (by decide) (by decide) wf_X11_58 rfl rfl ⟨rfl, rfl⟩ rfl hk (by decide) ?_
  have h18 : Sf I L R 0 85 (fS 9 0 0) _ _ _ := sf_put h17 (c := 0) (j := 8) (b := 24) (Nat.le_refl 0) (by decide) rfl rfl rfl (fun x hx => fS_s hx)
  refine ex_aload_n dX11_init_86 rfl ?_
  refine px_new (C := RX7) (T := TX7) (N := 4) (kd := 7) (n := 85) tyX7 dX11_init_87 rfl rfl (by decide) inX7 tyX7_ok dv_7 wc_X11_61 wi_X7 wn_X7 ⟨by decide, by decide⟩ h18.1 rfl (by decide) ?_
  refine ex_dup dX11_init_90 rfl ?_
  refine ex_cIN (vs := []) dX11_init_91 rfl lk_X11_63 (show 85 < 85 + 1 by decide) ⟨⟨by decide, by decide⟩, by decide, by decide⟩ rfl (Nat.le_of_ble_eq_true rfl) rfl (c_X7 (show K0 85 = (7, 4) from rfl) h18.1) (Iq.k (fun I_19 L_19 R_19 hn19 => ?_))
  have h19 : Sf I L R 0 93 (fS 9 0 0) I_19 L_19 R_19 := sf_sub h18 hn19 (Nat.zero_le _) (fun x g1 g2 => fS_n (by omega))
  refine px_F (C := RX11) (T := TX11) (N := 20) (kd := 11) (j := 9) tyX11 dX11_init_94 rfl rfl rfl inX11 tyX11_ok nmX11 (by decide) (by decide) wf_X11_64 rfl rfl ⟨rfl, rfl⟩ rfl hk (by decide) ?_
  have h20 : Sf I L R 0 93 (fS 10 0 0) _ _ _ := sf_put h19 (c := 0) (j := 9) (b := 85) (Nat.le_refl 0) (by decide) rfl rfl rfl (fun x hx => fS_s hx)
  refine ex_aload_n dX11_init_97 rfl ?_
  refine px_new (C := RX0) (T := TX0) (N := 7) (kd := 0) (n := 93) tyX0 dX11_init_98 rfl rfl (by decide) inX0 tyX0_ok dv_0 wc_X11_21 wi_X0 wn_X0 ⟨by decide, by decide⟩ h20.1 rfl (by decide) ?_
  refine ex_dup dX11_init_101 rfl ?_
  refine ex_cIN (vs := []) dX11_init_102 rfl lk_X11_68 (show 93 < 93 + 1 by decide) ⟨⟨by decide, by decide⟩, by decide, by decide⟩ rfl (Nat.le_of_ble_eq_true rfl) rfl (c_X0 (show K0 93 = (0, 7) from rfl) h20.1) (Iq.k (fun I_21 L_21 R_21 hn21 => ?_))
  have h21 : Sf I L R 0 95 (fS 10 0 0) I_21 L_21 R_21 := sf_sub h20 hn21 (Nat.zero_le _) (fun x g1 g2 => fS_n (by omega))
  refine px_F (C := RX11) (T := TX11) (N := 20) (kd := 11) (j := 10) tyX11 dX11_init_105 rfl rfl rfl inX11 tyX11_ok nmX11 (by decide) (by decide) wf_X11_69 rfl rfl ⟨rfl, rfl⟩ rfl hk (by decide) ?_
  have h22 : Sf I L R 0 95 (fS 11 0 0) _ _ _ := sf_put h21 (c := 0) (j := 10) (b := 93) (Nat.le_refl 0) (by decide) rfl rfl rfl (fun x hx => fS_s hx)
  refine ex_aload_n dX11_init_108 rfl ?_
  refine px_new (C := RX8) (T := TX8) (N := 4) (kd := 8) (n := 95) tyX8 dX11_init_109 rfl rfl (by decide) inX8 tyX8_ok dv_8 wc_X11_27 wi_X8 wn_X8 ⟨by decide, by decide⟩ h22.1 rfl (by decide) ?_
  refine ex_dup dX11_init_112 rfl ?_
  refine ex_cIN (vs := []) dX11_init_113 rfl lk_X11_73 (show 95 < 95 + 1 by decide) ⟨⟨by decide, by decide⟩, by decide, by decide⟩ rfl (Nat.le_of_ble_eq_true rfl) rfl (c_X8 (show K0 95 = (8, 4) from rfl) h22.1) (Iq.k (fun I_23 L_23 R_23 hn23 => ?_))
  have h23 : Sf I L R 0 98 (fS 11 0 0) I_23 L_23 R_23 := sf_sub h22 hn23 (Nat.zero_le _) (fun x g1 g2 => fS_n (by omega))
  refine px_F (C := RX11) (T := TX11) (N := 20) (kd := 11) (j := 11) tyX11 dX11_init_116 rfl rfl rfl inX11 tyX11_ok nmX11 (by decide) (by decide) wf_X11_74 rfl rfl ⟨rfl, rfl⟩ rfl hk (by decide) ?_
  have h24 : Sf I L R 0 98 (fS 12 0 0) _ _ _ := sf_put h23 (c := 0) (j := 11) (b := 95) (Nat.le_refl 0) (by decide) rfl rfl rfl (fun x hx => fS_s hx)
  refine ex_aload_n dX11_init_119 rfl ?_
  refine px_new (C := RX1) (T := TX1) (N := 10) (kd := 1) (n := 98) tyX1 dX11_init_120 rfl rfl (by decide) inX1 tyX1_ok dv_1 wc_X11_33 wi_X1 wn_X1 ⟨by decide, by decide⟩ h24.1 rfl (by decide) ?_
  refine ex_dup dX11_init_123 rfl ?_
  refine ex_cIN (vs := []) dX11_init_124 rfl lk_X11_78 (show 98 < 98 + 1 by decide) ⟨⟨by decide, by decide⟩, by decide, by decide⟩ rfl (Nat.le_of_ble_eq_true rfl) rfl (c_X1 (show K0 98 = (1, 10) from rfl) h24.1) (Iq.k (fun I_25 L_25 R_25 hn25 => ?_))
  have h25 : Sf I L R 0 99 (fS 12 0 0) I_25 L_25 R_25 := sf_sub h24 hn25 (Nat.zero_le _) (fun x g1 g2 => fS_n (by omega))
  refine px_F (C := RX11) (T := TX11) (N := 20) (kd := 11) (j := 12) tyX11 dX11_init_127 rfl rfl rfl inX11 tyX11_ok nmX11 (by decide) (by decide) wf_X11_79 rfl rfl ⟨rfl, rfl⟩ rfl hk (by decide) ?_
  have h26 : Sf I L R 0 99 (fS 13 0 0) _ _ _ := sf_put h25 (c := 0) (j := 12) (b := 98) (Nat.le_refl 0) (by decide) rfl rfl rfl (fun x hx => fS_s hx)
  refine ex_aload_n dX11_init_130 rfl ?_
  refine px_new (C := RX2) (T := TX2) (N := 6) (kd := 2) (n := 99) tyX2 dX11_init_131 rfl rfl (by decide) inX2 tyX2_ok dv_2 wc_X11_83 wi_X2 wn_X2 ⟨by decide, by decide⟩ h26.1 rfl (by decide) ?_
  refine ex_dup dX11_init_134 rfl ?_
  refine ex_cIN (vs := []) dX11_init_135 rfl lk_X11_85 (show 99 < 99 + 1 by decide) ⟨⟨by decide, by decide⟩, by decide, by decide⟩ rfl (Nat.le_of_ble_eq_true rfl) rfl (c_X2 (show K0 99 = (2, 6) from rfl) h26.1) (Iq.k (fun I_27 L_27 R_27 hn27 => ?_))
  have h27 : Sf I L R 0 101 (fS 13 0 0) I_27 L_27 R_27 := sf_sub h26 hn27 (Nat.zero_le _) (fun x g1 g2 => fS_n (by omega))
  refine px_F (C := RX11) (T := TX11) (N := 20) (kd := 11) (j := 13) tyX11 dX11_init_138 rfl rfl rfl inX11 tyX11_ok nmX11 (by decide) (by decide) wf_X11_86 rfl rfl ⟨rfl, rfl⟩ rfl hk (by decide) ?_
  have h28 : Sf I L R 0 101 (fS 14 0 0) _ _ _ := sf_put h27 (c := 0) (j := 13) (b := 99) (Nat.le_refl 0) (by decide) rfl rfl rfl (fun x hx => fS_s hx)
  refine ex_aload_n dX11_init_141 rfl ?_
  refine ex_iconst (v := 3) dX11_init_142 (by decide) ?_
  refine px_newp (kd := 14) (t0 := 1) (N := 3) (n := 101) dX11_init_143 rfl (by decide) (by decide) (fun _ _ h => h) rfl rfl wa_I (by decide) (by decide) (by decide) ⟨by decide, by decide⟩ h28.1 rfl (by decide) ?_
  have h29 : Sf I L R 0 102 (fS 14 0 0) _ _ _ := sf_prim h28 (show K0 101 = (14, 3) from rfl) (by decide) (fS_n (by decide))
  refine px_F (C := RX11) (T := TX11) (N := 20) (kd := 11) (j := 14) tyX11 dX11_init_145 rfl rfl rfl inX11 tyX11_ok nmX11 (by decide) (by decide) wf_X11_90 rfl rfl ⟨rfl, rfl⟩ rfl hk (by decide) ?_
  have h30 : Sf I L R 0 102 (fS 15 0 0) _ _ _ := sf_put h29 (c := 0) (j := 14) (b := 101) (Nat.le_refl 0) (by decide) rfl rfl rfl (fun x hx => fS_s hx)
  refine ex_aload_n dX11_init_148 rfl ?_
  refine ex_bipush (v := 6) dX11_init_149 (by decide) ?_
  refine px_newp (kd := 14) (t0 := 1) (N := 6) (n := 102) dX11_init_151 rfl (by decide) (by decide) (fun _ _ h => h) rfl rfl wa_I (by decide) (by decide) (by decide) ⟨by decide, by decide⟩ h30.1 rfl (by decide) ?_
  have h31 : Sf I L R 0 103 (fS 15 0 0) _ _ _ := sf_prim h30 (show K0 102 = (14, 6) from rfl) (by decide) (fS_n (by decide))
  refine px_F (C := RX11) (T := TX11) (N := 20) (kd := 11) (j := 15) tyX11 dX11_init_153 rfl rfl rfl inX11 tyX11_ok nmX11 (by decide) (by decide) wf_X11_94 rfl rfl ⟨rfl, rfl⟩ rfl hk (by decide) ?_
  have h32 : Sf I L R 0 103 (fS 16 0 0) _ _ _ := sf_put h31 (c := 0) (j := 15) (b := 102) (Nat.le_refl 0) (by decide) rfl rfl rfl (fun x hx => fS_s hx)
  refine ex_aload_n dX11_init_156 rfl ?_
  refine ex_iconst (v := 0) dX11_init_157 (by decide) ?_
  refine px_I (C := RX11) (T := TX11) (N := 20) (kd := 11) (j := 16) tyX11 dX11_init_158 rfl rfl inX11 tyX11_ok nmX11 (by decide) (by decide) wf_X11_97 rfl ⟨rfl, rfl⟩ rfl hk (by decide) ?_
  refine pm_i0 (sf_z h32 (Nat.le_refl 0) (by decide) hk (by decide)) ?_
  refine ex_aload_n dX11_init_161 rfl ?_
  refine ex_iconst (v := 0) dX11_init_162 (by decide) ?_
  refine px_I (C := RX11) (T := TX11) (N := 20) (kd := 11) (j := 17) tyX11 dX11_init_163 rfl rfl inX11 tyX11_ok nmX11 (by decide) (by decide) wf_X11_101 rfl ⟨rfl, rfl⟩ rfl hk (by decide) ?_
  refine pm_i0 (sf_z h32 (Nat.le_refl 0) (by decide) hk (by decide)) ?_
  refine ex_aload_n dX11_init_166 rfl ?_
  refine ex_iconst (v := 0) dX11_init_167 (by decide) ?_
  refine px_I (C := RX11) (T := TX11) (N := 20) (kd := 11) (j := 18) tyX11 dX11_init_168 rfl rfl inX11 tyX11_ok nmX11 (by decide) (by decide) wf_X11_104 rfl ⟨rfl, rfl⟩ rfl hk (by decide) ?_
  refine pm_i0 (sf_z h32 (Nat.le_refl 0) (by decide) hk (by decide)) ?_
  refine ex_aload_n dX11_init_171 rfl ?_
  refine px_new (C := RX3) (T := TX3) (N := 2) (kd := 3) (n := 103) tyX3 dX11_init_172 rfl rfl (by decide) inX3 tyX3_ok dv_3 wc_X11_107 wi_X3 wn_X3 ⟨by decide, by decide⟩ h32.1 rfl (by decide) ?_
  refine ex_dup dX11_init_175 rfl ?_
  refine ex_cIN (vs := []) dX11_init_176 rfl lk_X11_109 (show 103 < 103 + 1 by decide) ⟨⟨by decide, by decide⟩, by decide, by decide⟩ rfl (Nat.le_of_ble_eq_true rfl) rfl (c_X3 (show K0 103 = (3, 2) from rfl) h32.1) (Iq.k (fun I_33 L_33 R_33 hn33 => ?_))
  have h33 : Sf I L R 0 104 (fS 16 0 0) I_33 L_33 R_33 := sf_sub h32 hn33 (Nat.zero_le _) (fun x g1 g2 => fS_n (by omega))
  refine px_F (C := RX11) (T := TX11) (N := 20) (kd := 11) (j := 19) tyX11 dX11_init_179 rfl rfl rfl inX11 tyX11_ok nmX11 (by decide) (by decide) wf_X11_110 rfl rfl ⟨rfl, rfl⟩ rfl hk (by decide) ?_
  have h34 : Sf I L R 0 104 (fS 20 0 0) _ _ _ := sf_putg h33 (c := 0) (s := 16) (j := 19) (b := 103) (Nat.le_refl 0) (by decide) rfl (by decide) (by decide +kernel) rfl rfl (fun x hx => fS_s hx)
  have hq : Sf I L R 0 104 (fS 20 1 0) _ _ _ := sf_cong h34 (fun c _ _ => by
    have : fS 20 1 0 c = fS 20 0 0 c := by
      unfold fS
      by_cases c0 : c = 0
      · rw [if_pos c0, if_pos c0]
      rw [if_neg c0, if_neg c0, if_neg (show ¬ c < 1 by omega), if_neg (show ¬ c < 0 by omega), if_neg c0]
      split
      · split <;> rfl
      · rfl
    rw [this])
  refine ex_iconst (v := 0) dX11_init_182 (by decide) ?_
  refine st_i1 dX11_init_183 (by first | exact rfl | exact trivial) ?_
  refine il_1 (I0 := I) (L1 := L) (R1 := R) (fun J1 K1 S1 hS1 => ?_) _ _ _ hq
  refine ex_iconst (v := 0) dX11_init_209 (by decide) ?_
  refine st_i1 dX11_init_210 (by first | exact rfl | exact trivial) ?_
  refine il_2 (I0 := I) (L1 := L) (R1 := R) (fun J2 K2 S2 hS2 => ?_) _ _ _ hS1
  refine ex_iconst (v := 0) dX11_init_235 (by decide) ?_
  refine st_i1 dX11_init_236 (by first | exact rfl | exact trivial) ?_
  refine il_3 (I0 := I) (L1 := L) (R1 := R) (fun J3 K3 S3 hS3 => ?_) _ _ _ hS2
  refine ex_iconst (v := 0) dX11_init_261 (by decide) ?_
  refine st_i1 dX11_init_262 (by first | exact rfl | exact trivial) ?_
  refine il_4 (I0 := I) (L1 := L) (R1 := R) (fun J4 K4 S4 hS4 => ?_) _ _ _ hS3
  refine ex_iconst (v := 0) dX11_init_287 (by decide) ?_
  refine st_i1 dX11_init_288 (by first | exact rfl | exact trivial) ?_
  refine il_5 (I0 := I) (L1 := L) (R1 := R) (fun J5 K5 S5 hS5 => ?_) _ _ _ hS4
  refine ex_iconst (v := 0) dX11_init_313 (by decide) ?_
  refine st_i1 dX11_init_314 (by first | exact rfl | exact trivial) ?_
  refine il_6 (I0 := I) (L1 := L) (R1 := R) (fun J6 K6 S6 hS6 => ?_) _ _ _ hS5
  refine ex_iconst (v := 0) dX11_init_339 (by decide) ?_
  refine st_i1 dX11_init_340 (by first | exact rfl | exact trivial) ?_
  refine il_7 (I0 := I) (L1 := L) (R1 := R) (fun J7 K7 S7 hS7 => ?_) _ _ _ hS6
  refine ex_vret dX11_init_366 rfl ⟨rfl, by decide⟩ ?_
  refine ⟨rfl, _, _, _, rfl, sf_done hS7 (fun c g1 g2 => ?_)⟩
  by_cases c0 : c = 0
  · subst c0
    exact rz_p (by decide +kernel)
  · have : fS 20 (7 + 1) 0 c = 999 := by
      unfold fS
      rw [if_neg c0]
      by_cases c7 : c ≤ 7
      · rw [if_pos c7, if_pos (by omega)]
      · rw [if_neg c7]
    rw [this]
    exact part_all
end
end R52
