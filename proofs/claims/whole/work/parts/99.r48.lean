section R48
variable {G : Gp} {I : Im} {L : Nat → Nat → Int64} {t : Nat}
section
variable {d1 d2 : Md} {args : List Value}
theorem tw_mk {v : Int32} {I1 : Im} {t1 : Nat} {P2 : Option Value → Mem → Prop} (h1 : Ca G d1 (.ref 0 :: args) (mk I L t) (Rs (.int v) (mk I1 L t1))) (h2 : Ca G d2 (.ref 200 :: args) (mk I1 L t1) P2) (hp : ∀ r M, P2 r M → InvP (.int v) r M) : TwI G d1 d2 args I L t := ⟨v, I1, L, t1, h1, h2.weak hp⟩
/-- the texts of both -/
def tS (I : Im) (q : Nat) : Nat → Int32 := sgF (I (116 + 2 * q + 1)) (I (116 + 2 * q) 1).toNatClampNeg
theorem tx_ag {I1 : Im} {q : Nat} (h : RelP I I) (hq : q < 4) (ht : ¬ I (116 + 2 * q) 2 = 0) (e5 : I1 205 = I 205) (e6 : I1 206 = I 206) : Ag (tS I q) (byF (I1 206) q (I1 205 q).toNatClampNeg) ∧ (I1 205 q).toNatClampNeg = (I (116 + 2 * q) 1).toNatClampNeg ∧ (I (116 + 2 * q) 1).toNatClampNeg ≤ 100 ∧ (∀ p, (I (116 + 2 * q) 1).toNatClampNeg ≤ p → tS I q p = 1000) ∧ ¬ I1 205 q < 0 := by
  obtain ⟨m, hm, em⟩ := (h.txt q hq).sz
  rcases (h.txt q hq).th with ⟨e1, e2⟩ | ⟨e1, e2, e3⟩
  · exact absurd e1 ht
  have ec : (I (116 + 2 * q) 1).toNatClampNeg = m := by rw [em, nI_clamp (by omega)]
  unfold tS
  rw [e5, e6, e2, ec]
  rw [ec] at e3
  refine ⟨fun p => ?_, rfl, hm, fun p hp => ?_, ?_⟩
  · unfold sgF byF
    by_cases c : p < m
    · rw [if_pos c, if_pos c]
      exact Or.inl (e3 p c)
    · rw [if_neg c, if_neg c]
      exact Or.inr ⟨rfl, rfl⟩
  · unfold sgF
    rw [if_neg (by omega)]
  · rw [em]
    exact Int32.not_lt.mpr (nI_pos' (by omega))
theorem rd_har {I1 : Im} {q : Nat} (h : RelP I I) (hq : q < 4) (ht : ¬ I (116 + 2 * q) 2 = 0) (e5 : I1 205 = I 205) (e6 : I1 206 = I 206) : (readH I (116 + 2 * q) (I (116 + 2 * q) 1).toNatClampNeg).1 = (mHar I1 q).1 ∧ ((mHar I1 q).1 = -9 → ∃ n, HR (readH I (116 + 2 * q) (I (116 + 2 * q) 1).toNatClampNeg).2.2 (mHar I1 q).2.2 n) ∧ (∀ e, e ≠ 86 → e ≠ 87 → (readH I (116 + 2 * q) (I (116 + 2 * q) 1).toNatClampNeg).2.2 e = I e) ∧ (∀ e, e ≠ 200 → e ≠ 212 → (mHar I1 q).2.2 e = I1 e) ∧ ∀ j, j ≠ 15 → (mHar I1 q).2.2 200 j = I1 200 j := by
  obtain ⟨a1, a2, a3, a4, -⟩ := tx_ag h hq ht e5 e6
  have r1 : readH I (116 + 2 * q) (I (116 + 2 * q) 1).toNatClampNeg = hd0 (tS I q) (I (116 + 2 * q) 1).toNatClampNeg (skipN (tS I q) 100 0) (baNew I 86) := rfl
  have q0 : ∀ p, p < 21 → flw (up2 I1 200 15 0) 212 0 21 rhG 212 p = rhG p := fun p hp => by
    have := flw_in (I := up2 I1 200 15 0) (c := 212) (o := 0) (k := 21) (j := p) (g := rhG) hp
    rw [Nat.zero_add] at this
    exact this
  have hm : mHar I1 q = mhF (byF (I1 206) q (I1 205 q).toNatClampNeg) (I (116 + 2 * q) 1).toNatClampNeg 100 0 (flw (up2 I1 200 15 0) 212 0 21 rhG) := by
    unfold mHar
    rw [a2]
  obtain ⟨k1, k2, k3, k4⟩ := hd_sim (D := I) a1 a3 (fun p hp z => absurd ((a4 p hp).symm.trans z) (by decide)) (fun p hp z => absurd ((a4 p hp).symm.trans z) (by decide)) (E := flw (up2 I1 200 15 0) 212 0 21 rhG) (by rw [q0 0 (by decide)]; rfl) (fun p _ hp => q0 p hp) 100 0 (Nat.zero_le _) (by omega)
  rw [r1, hm]
  refine ⟨k1, k2, k3, fun e g1 g2 => ?_, fun j hj => ?_⟩
  · rw [k4 e g2, flw_off g2, up2_off g1]
  · rw [k4 200 (by decide), flw_off (by decide), u2_j hj]
theorem rd_sea {I1 : Im} {q : Nat} (h : RelP I I) (hq : q < 4) (ht : ¬ I (116 + 2 * q) 2 = 0) (e5 : I1 205 = I 205) (e6 : I1 206 = I 206) : (readS I (116 + 2 * q) (I (116 + 2 * q) 1).toNatClampNeg).1 = (mSea I1 q).1 ∧ (∃ c, SR (readS I (116 + 2 * q) (I (116 + 2 * q) 1).toNatClampNeg).2.2 (mSea I1 q).2.2.2 c) ∧ (∀ e, e ≠ 88 → e ≠ 89 → e ≠ 90 → (readS I (116 + 2 * q) (I (116 + 2 * q) 1).toNatClampNeg).2.2 e = I e) ∧ (∀ e, e ≠ 200 → e ≠ 213 → (mSea I1 q).2.2.2 e = I1 e) ∧ ∀ j, j ≠ 15 → j ≠ 17 → (mSea I1 q).2.2.2 200 j = I1 200 j := by
  obtain ⟨a1, a2, a3, a4, -⟩ := tx_ag h hq ht e5 e6
  have r1 : readS I (116 + 2 * q) (I (116 + 2 * q) 1).toNatClampNeg = rdS (tS I q) (I (116 + 2 * q) 1).toNatClampNeg 100 (skipN (tS I q) 100 0) 0 (swNew I 88) := rfl
  have hm : mSea I1 q = msF (byF (I1 206) q (I1 205 q).toNatClampNeg) (I (116 + 2 * q) 1).toNatClampNeg 100 0 0 (up2 (up2 I1 200 15 0) 200 17 0) := by
    unfold mSea
    rw [a2]
  have s0 : SR (swNew I 88) (up2 (up2 I1 200 15 0) 200 17 0) 0 := by
    refine ⟨⟨by decide, ?_, fun i hi => absurd hi (Nat.not_lt_zero i)⟩, fun i hi => absurd hi (Nat.not_lt_zero i), u2_s, ?_⟩
    · unfold swNew
      exact u2_s
    · unfold swNew
      rw [u2_j (by decide), u2_s]
  obtain ⟨k1, k2, k3, k4, k5⟩ := rs_sim a1 a3 (fun p hp z => absurd ((a4 p hp).symm.trans z) (by decide)) 100 100 0 0 (swNew I 88) (up2 (up2 I1 200 15 0) 200 17 0) (by omega) (by omega) s0
  rw [r1, hm]
  refine ⟨k1, k2, fun e g1 g2 g3 => ?_, fun e g1 g2 => ?_, fun j h1 h2 => ?_⟩
  · rw [k3 e g1 g2 g3]
    unfold swNew
    rw [up2_off g1, up2_off g1]
  · rw [k4 e g1 g2, up2_off g1, up2_off g1]
  · rw [k5 j h2, u2_j h2, u2_j h1]
/-- what only the readers' cells change -/
theorem inv_rd {I1 E : Im} {t1 : Nat} (hI : Inv I L t) (h1 : ∀ e, e < 85 ∨ 90 < e → I1 e = I e) (h2 : ∀ e, e ≠ 200 → e ≠ 212 → e ≠ 213 → E e = I1 e) (h3 : ∀ j, j ≠ 15 → j ≠ 16 → j ≠ 17 → E 200 j = I1 200 j) (ht : t1 < 200) : Inv E L t1 := by
  have a : RelP I1 I := Rel_of hI.1 ⟨fun e he => h1 e (by omega), by rw [h1 0 (by omega)]⟩ FrM.refl.ke (FndR.fr hI.1.fnd (h1 0 (by omega)) (h1 102 (by omega)) rfl rfl rfl)
  have b : RelP I1 I1 := a.cM (fun k hk => h1 k (by omega))
  have c : RelP I1 E := Rel_of b FrC.refl.ke ⟨fun e he => h2 e (by omega) (by omega) (by omega), fun j hj => by rw [h2 217 (by decide) (by decide) (by decide)], h3 37 (by decide) (by decide) (by decide)⟩ (FndR.fr b.fnd rfl rfl (h3 0 (by decide) (by decide) (by decide)) (h2 201 (by decide) (by decide) (by decide)) (h3 2 (by decide) (by decide) (by decide)))
  exact ⟨c.cC (fun k hk => h2 k (by omega) (by omega) (by omega)), hI.2.1, ht⟩
theorem tw_bad {v : Int32} (hI : Inv I L t) (h1 : Ca G d1 (.ref 0 :: args) (mk I L t) (Rs (.int v) (mk I L t))) (h2 : Ca G d2 (.ref 200 :: args) (mk I L t) (Rs (.int v) (mk I L t))) : TwI G d1 d2 args I L t := tw_mk h1 h2 (fun r M hM => by
  obtain ⟨rfl, rfl⟩ := hM
  exact ⟨rfl, _, _, _, rfl, hI⟩)
theorem tw_no (hI : Inv I L t) (h1 : Ca G d1 (.ref 0 :: args) (mk I L t) (Rs (.int (f_X11_refuse I 1).1) (mk (f_X11_refuse I 1).2 L t))) (h2 : RelP I (f_X11_refuse I 1).2 → Ca G d2 (.ref 200 :: args) (mk (f_X11_refuse I 1).2 L t) (Rs (.int (-3)) (mk (meI (f_X11_refuse I 1).2 1) L t))) : TwI G d1 d2 args I L t := by
  have hr : RelP I (f_X11_refuse I 1).2 := hI.1.cM (sm_1 hI.1).2.2.1
  obtain ⟨k1, k2, -, k4⟩ := sm_1 hr
  refine tw_mk h1 (h2 hr) (fun r M hM => ?_)
  obtain ⟨rfl, rfl⟩ := hM
  exact ⟨by rw [show (f_X11_refuse I 1).1 = -3 from k1], _, _, _, rfl, k2.cC k4, hI.2.1, hI.2.2⟩
theorem no_205 {q : Nat} (h : RelP I I) (hq : q < 4) (ht : I (116 + 2 * q) 2 = 0) : I 205 q < 0 := by
  rcases (h.txt q hq).th with ⟨e1, e2⟩ | ⟨e1, e2, e3⟩
  · rw [e2]
    decide
  · rw [e1] at ht
    exact absurd ht (by decide)
theorem rf_205 {e : Nat} (he : 200 ≤ e) : (f_X11_refuse I 1).2 e = I e := FrC.refuse.1 e (by omega)
theorem T_fault {x z : Int32} (hI : Inv I L t) : TwI G mdX11_fault mdX12_fault [.int x, .int z] I L t := by
  have h := hI.1
  have s1 := s_X11_fault (G := G) (I := I) (L := L) (t := t) (x := x) (z := z) h.hTxt
  by_cases c1 : b2i (0 ≤ x ∧ x ≤ 3) = 0
  · rw [show f_X11_fault I t x z = (-1, I, t) by unfold f_X11_fault; rw [if_pos c1]] at s1
    exact tw_bad hI s1 (s_X12_faultB h.hTz h.bts c1)
  obtain ⟨qx, vx⟩ := cl_lt (N := 4) (by decide) c1
  by_cases c2 : I (116 + 2 * x.toNatClampNeg) 2 = 0
  · rw [show f_X11_fault I t x z = ((f_X11_refuse I 1).1, (f_X11_refuse I 1).2, t) by unfold f_X11_fault; rw [if_neg c1, if_pos c2]] at s1
    exact tw_no hI s1 (fun hr => s_X12_faultN hr.hTz hr.bts c1 (by rw [rf_205 (by decide)]; exact no_205 h qx c2))
  by_cases c3 : z = 0
  · rw [show f_X11_fault I t x z = ((readH I (116 + 2 * x.toNatClampNeg) (I (116 + 2 * x.toNatClampNeg) 1).toNatClampNeg).1, rdM (readH I (116 + 2 * x.toNatClampNeg) (I (116 + 2 * x.toNatClampNeg) 1).toNatClampNeg).2.2 (readH I (116 + 2 * x.toNatClampNeg) (I (116 + 2 * x.toNatClampNeg) 1).toNatClampNeg).2.1, 116 + 2 * x.toNatClampNeg) by unfold f_X11_fault; rw [if_neg c1, if_neg c2, if_pos c3]] at s1
    have o : ∀ e, e < 85 ∨ 90 < e → rdM (readH I (116 + 2 * x.toNatClampNeg) (I (116 + 2 * x.toNatClampNeg) 1).toNatClampNeg).2.2 (readH I (116 + 2 * x.toNatClampNeg) (I (116 + 2 * x.toNatClampNeg) 1).toNatClampNeg).2.1 e = I e := fun e he => by
      rw [rdM_off (by omega), (rd_har h qx c2 rfl rfl).2.2.1 e (by omega) (by omega)]
    obtain ⟨k1, -, -, k4, k5⟩ := rd_har (I1 := rdM (readH I (116 + 2 * x.toNatClampNeg) (I (116 + 2 * x.toNatClampNeg) 1).toNatClampNeg).2.2 (readH I (116 + 2 * x.toNatClampNeg) (I (116 + 2 * x.toNatClampNeg) 1).toNatClampNeg).2.1) h qx c2 (o 205 (by omega)) (o 206 (by omega))
    have hr := h.cM (E := rdM (readH I (116 + 2 * x.toNatClampNeg) (I (116 + 2 * x.toNatClampNeg) 1).toNatClampNeg).2.2 (readH I (116 + 2 * x.toNatClampNeg) (I (116 + 2 * x.toNatClampNeg) 1).toNatClampNeg).2.1) (fun k hk => o k (by omega))
    refine tw_mk s1 (s_X12_faultH hr.hTz hr.bts c1 (tx_ag h qx c2 (o 205 (by omega)) (o 206 (by omega))).2.2.2.2 c3) (fun r M hM => ?_)
    obtain ⟨rfl, y, rfl⟩ := hM
    refine ⟨by rw [k1], _, _, _, rfl, inv_rd hI o (fun e g1 g2 g3 => ?_) (fun j g1 g2 g3 => ?_) (show 116 + 2 * x.toNatClampNeg < 200 by omega)⟩
    · rw [rm_off g1, k4 e g1 g2]
    · rw [rm_o g1 g2, k5 j g1]
  · rw [show f_X11_fault I t x z = ((readS I (116 + 2 * x.toNatClampNeg) (I (116 + 2 * x.toNatClampNeg) 1).toNatClampNeg).1, rdM (readS I (116 + 2 * x.toNatClampNeg) (I (116 + 2 * x.toNatClampNeg) 1).toNatClampNeg).2.2 (readS I (116 + 2 * x.toNatClampNeg) (I (116 + 2 * x.toNatClampNeg) 1).toNatClampNeg).2.1, 116 + 2 * x.toNatClampNeg) by unfold f_X11_fault; rw [if_neg c1, if_neg c2, if_neg c3]] at s1
    have o : ∀ e, e < 85 ∨ 90 < e → rdM (readS I (116 + 2 * x.toNatClampNeg) (I (116 + 2 * x.toNatClampNeg) 1).toNatClampNeg).2.2 (readS I (116 + 2 * x.toNatClampNeg) (I (116 + 2 * x.toNatClampNeg) 1).toNatClampNeg).2.1 e = I e := fun e he => by
      rw [rdM_off (by omega), (rd_sea h qx c2 rfl rfl).2.2.1 e (by omega) (by omega) (by omega)]
    obtain ⟨k1, -, -, k4, k5⟩ := rd_sea (I1 := rdM (readS I (116 + 2 * x.toNatClampNeg) (I (116 + 2 * x.toNatClampNeg) 1).toNatClampNeg).2.2 (readS I (116 + 2 * x.toNatClampNeg) (I (116 + 2 * x.toNatClampNeg) 1).toNatClampNeg).2.1) h qx c2 (o 205 (by omega)) (o 206 (by omega))
    have hr := h.cM (E := rdM (readS I (116 + 2 * x.toNatClampNeg) (I (116 + 2 * x.toNatClampNeg) 1).toNatClampNeg).2.2 (readS I (116 + 2 * x.toNatClampNeg) (I (116 + 2 * x.toNatClampNeg) 1).toNatClampNeg).2.1) (fun k hk => o k (by omega))
    refine tw_mk s1 (s_X12_faultS hr.hTz hr.bts c1 (tx_ag h qx c2 (o 205 (by omega)) (o 206 (by omega))).2.2.2.2 c3) (fun r M hM => ?_)
    obtain ⟨rfl, y, rfl⟩ := hM
    refine ⟨by rw [k1], _, _, _, rfl, inv_rd hI o (fun e g1 g2 g3 => ?_) (fun j g1 g2 g3 => ?_) (show 116 + 2 * x.toNatClampNeg < 200 by omega)⟩
    · rw [rm_off g1, k4 e g1 g3]
    · rw [rm_o g1 g2, k5 j g1 g3]
theorem ba_tk {D : Im} {a : Nat} (ha : a ≠ 86) (h1 : a + 1 ≠ 86) (h2 : a ≠ 87) : (∀ e, e ≠ a → e ≠ a + 1 → baTake D a 86 e = D e) ∧ (∀ j, 1 ≤ j → j ≤ 6 → baTake D a 86 a j = D 86 j) ∧ ∀ j, j < 16 → baTake D a 86 (a + 1) j = D 87 j := by
  refine ⟨fun e g1 g2 => ?_, fun j g1 g2 => ?_, fun j hj => ?_⟩
  · unfold baTake
    rw [cpR_off g2]
    unfold tk1
    rw [up2_off g1, up2_off g1, up2_off g1, up2_off g1, up2_off g1, up2_off g1]
  · unfold baTake
    rw [cpR_off (by omega)]
    unfold tk1
    rcases (by omega : j = 1 ∨ j = 2 ∨ j = 3 ∨ j = 4 ∨ j = 5 ∨ j = 6) with rfl | rfl | rfl | rfl | rfl | rfl
    all_goals simp [up2, Ne.symm ha]
  · unfold baTake cpR
    rw [if_pos rfl]
    have o : ∀ e, e ≠ a → tk1 (tk1 (tk1 (tk1 (tk1 (tk1 D a 86 1) a 86 2) a 86 3) a 86 4) a 86 5) a 86 6 e = D e := fun e he => by
      unfold tk1
      rw [up2_off he, up2_off he, up2_off he, up2_off he, up2_off he, up2_off he]
    rw [o 87 (Ne.symm h2), o (a + 1) (by omega)]
    unfold va_cpy
    rw [if_pos (by omega)]
    congr 1
    omega
theorem T_harbour {k x : Int32} (hI : Inv I L t) : TwI G mdX11_harbour mdX12_harbour [.int k, .int x] I L t := by
  have h := hI.1
  have s1 := s_X11_harbour (G := G) (I := I) (L := L) (t := t) (k := k) (x := x) h.hTxt
  by_cases c0 : b2i (0 ≤ k ∧ k ≤ 3) = 0
  · rw [show f_X11_harbour I t k x = (-1, I, t) by unfold f_X11_harbour; rw [if_pos c0]] at s1
    exact tw_bad hI s1 (s_X12_harbourB h.hTz h.bts (Or.inl c0))
  by_cases c1 : b2i (0 ≤ x ∧ x ≤ 3) = 0
  · rw [show f_X11_harbour I t k x = (-1, I, t) by unfold f_X11_harbour; rw [if_neg c0, if_pos c1]] at s1
    exact tw_bad hI s1 (s_X12_harbourB h.hTz h.bts (Or.inr c1))
  obtain ⟨qk, vk⟩ := cl_lt (N := 4) (by decide) c0
  obtain ⟨qx, vx⟩ := cl_lt (N := 4) (by decide) c1
  by_cases c2 : I (116 + 2 * x.toNatClampNeg) 2 = 0
  · rw [show f_X11_harbour I t k x = ((f_X11_refuse I 1).1, (f_X11_refuse I 1).2, t) by unfold f_X11_harbour; rw [if_neg c0, if_neg c1, if_pos c2]] at s1
    exact tw_no hI s1 (fun hr => s_X12_harbourN hr.hTz hr.bts c0 c1 (by rw [rf_205 (by decide)]; exact no_205 h qx c2))
  have o : ∀ e, e < 85 ∨ 90 < e → rdM (readH I (116 + 2 * x.toNatClampNeg) (I (116 + 2 * x.toNatClampNeg) 1).toNatClampNeg).2.2 (readH I (116 + 2 * x.toNatClampNeg) (I (116 + 2 * x.toNatClampNeg) 1).toNatClampNeg).2.1 e = I e := fun e he => by
    rw [rdM_off (by omega), (rd_har h qx c2 rfl rfl).2.2.1 e (by omega) (by omega)]
  by_cases c3 : (readH I (116 + 2 * x.toNatClampNeg) (I (116 + 2 * x.toNatClampNeg) 1).toNatClampNeg).1 = -9
  · rw [show f_X11_harbour I t k x = (baTake (rdM (readH I (116 + 2 * x.toNatClampNeg) (I (116 + 2 * x.toNatClampNeg) 1).toNatClampNeg).2.2 (readH I (116 + 2 * x.toNatClampNeg) (I (116 + 2 * x.toNatClampNeg) 1).toNatClampNeg).2.1) (124 + 2 * k.toNatClampNeg) 86 (124 + 2 * k.toNatClampNeg) 2, baTake (rdM (readH I (116 + 2 * x.toNatClampNeg) (I (116 + 2 * x.toNatClampNeg) 1).toNatClampNeg).2.2 (readH I (116 + 2 * x.toNatClampNeg) (I (116 + 2 * x.toNatClampNeg) 1).toNatClampNeg).2.1) (124 + 2 * k.toNatClampNeg) 86, 116 + 2 * x.toNatClampNeg) by unfold f_X11_harbour; rw [if_neg c0, if_neg c1, if_neg c2]; dsimp only; rw [if_pos c3]] at s1
    have rdh := fun I1 e5 e6 => rd_har (I1 := I1) h qx c2 e5 e6
    have r86 : ∀ e, e = 86 ∨ e = 87 → rdM (readH I (116 + 2 * x.toNatClampNeg) (I (116 + 2 * x.toNatClampNeg) 1).toNatClampNeg).2.2 (readH I (116 + 2 * x.toNatClampNeg) (I (116 + 2 * x.toNatClampNeg) 1).toNatClampNeg).2.1 e = (readH I (116 + 2 * x.toNatClampNeg) (I (116 + 2 * x.toNatClampNeg) 1).toNatClampNeg).2.2 e := fun e he => rdM_off (by omega)
    generalize rdM (readH I (116 + 2 * x.toNatClampNeg) (I (116 + 2 * x.toNatClampNeg) 1).toNatClampNeg).2.2 (readH I (116 + 2 * x.toNatClampNeg) (I (116 + 2 * x.toNatClampNeg) 1).toNatClampNeg).2.1 = J at s1 o r86
    obtain ⟨b1, b2, b3⟩ := ba_tk (D := J) (a := 124 + 2 * k.toNatClampNeg) (by omega) (by omega) (by omega)
    have o2 : ∀ e, e < 85 ∨ 90 < e → e ≠ 124 + 2 * k.toNatClampNeg → e ≠ 124 + 2 * k.toNatClampNeg + 1 → baTake J (124 + 2 * k.toNatClampNeg) 86 e = I e := fun e g1 g2 g3 => by rw [b1 e g2 g3, o e g1]
    have hr := h.cM (E := baTake J (124 + 2 * k.toNatClampNeg) 86) (fun e he => o2 e (by omega) (by omega) (by omega))
    obtain ⟨k1, k2, -, k4, k5⟩ := rdh (baTake J (124 + 2 * k.toNatClampNeg) 86) (o2 205 (by omega) (by omega) (by omega)) (o2 206 (by omega) (by omega) (by omega))
    have m9 := k1.symm.trans c3
    obtain ⟨n, ⟨mo, hb⟩, hX, h11⟩ := k2 m9
    refine tw_mk s1 (s_X12_harbourK hr.hTz hr.bts c0 c1 (tx_ag h qx c2 (o2 205 (by omega) (by omega) (by omega)) (o2 206 (by omega) (by omega) (by omega))).2.2.2.2 m9) (fun r M hM => ?_)
    obtain ⟨rfl, y, rfl⟩ := hM
    generalize mHar (baTake J (124 + 2 * k.toNatClampNeg) 86) x.toNatClampNeg = mh at hb hX k4 k5
    generalize readH I (116 + 2 * x.toNatClampNeg) (I (116 + 2 * x.toNatClampNeg) 1).toNatClampNeg = rh at hb h11 r86
    generalize k.toNatClampNeg = q at qk b1 b2 b3 o2 hr k4 k5
    have e86 : J 86 = rh.2.2 86 := r86 86 (Or.inl rfl)
    have e87 : J 87 = rh.2.2 87 := r86 87 (Or.inr rfl)
    have hW : ∀ e, e ≠ 200 → e ≠ 207 → e ≠ 208 → e ≠ 212 → harW q (rm mh.2.2 mh.2.1 y) e = baTake J (124 + 2 * q) 86 e := fun e g1 g2 g3 g4 => by
      unfold harW
      rw [up2_off g2, flw_off g3, rm_off g1, k4 e g1 g4]
    have hW0 : ∀ j, j ≠ 15 → j ≠ 16 → harW q (rm mh.2.2 mh.2.1 y) 200 j = baTake J (124 + 2 * q) 86 200 j := fun j g1 g2 => by
      unfold harW
      rw [up2_off (by decide), flw_off (by decide), rm_o g1 g2, k5 j g1]
    have w7 : ∀ j, harW q (rm mh.2.2 mh.2.1 y) 207 j = if j = q then 1 else I 207 j := fun j => by
      unfold harW
      by_cases ej : j = q
      · subst ej
        rw [u2_s, if_pos rfl]
      · rw [u2_j ej, flw_off (by decide), rm_off (by decide), k4 207 (by decide) (by decide), o2 207 (by omega) (by omega) (by omega), if_neg ej]
    have w8i : ∀ i, i < 21 → harW q (rm mh.2.2 mh.2.1 y) 208 (21 * q + i) = mh.2.2 212 i := fun i hi => by
      unfold harW
      rw [up2_off (by decide), flw_in hi, rm_off (by decide)]
    have w8o : ∀ i, i < 21 * q ∨ 21 * q + 21 ≤ i → harW q (rm mh.2.2 mh.2.1 y) 208 i = I 208 i := fun i hi => by
      unfold harW
      rw [up2_off (by decide), flw_out hi, rm_off (by decide), k4 208 (by decide) (by decide), o2 208 (by omega) (by omega) (by omega)]
    refine ⟨?_, _, _, _, rfl, RelP.cC (C := baTake J (124 + 2 * q) 86) (Rel_har (q := q) qk h (fun e g1 g2 => ?_) ?_ (fun e he => ?_) (fun j hj => ?_) ?_ ?_ ?_ ?_ ?_) (fun e he => ?_), hI.2.1, show 116 + 2 * x.toNatClampNeg < 200 by omega⟩
    · rw [b2 2 (by decide) (by decide), e86, hb.ce, hb.h0]
    · exact o2 e (by omega) (by omega) (by omega)
    · rw [o2 0 (by omega) (by omega) (by omega)]
    · rw [hW e (by omega) (by omega) (by omega) (by omega)]
      exact o2 e (by omega) (by omega) (by omega)
    · rw [hW 217 (by decide) (by decide) (by decide) (by decide), o2 217 (by omega) (by omega) (by omega)]
    · rw [hW0 37 (by decide) (by decide), o2 200 (by omega) (by omega) (by omega)]
    · intro j hj ej
      rw [w7 j, if_neg ej]
    · intro j i hj ej hi
      exact w8o _ (by omega)
    · have n3 := hb.n3
      have n16 := hb.n16
      refine HarR.mk ?_ ?_ ⟨n, n16, by rw [b2 2 (by decide) (by decide), e86]; exact hb.ce⟩ ⟨n, n16, by have := w8i 0 (by decide); rw [Nat.add_zero] at this; rw [this]; exact hb.h0⟩ (fun _ => ⟨⟨n, mo, ?_⟩, ?_⟩)
      · rw [w7 q, if_pos rfl]
        exact Or.inr rfl
      · rw [w7 q, if_pos rfl, b2 1 (by decide) (by decide), e86, h11]
      · refine ⟨n3, n16, hb.mm, ?_, ?_, ?_, ?_, ?_, fun j hj => ?_, ?_, ?_⟩
        · rw [b2 2 (by decide) (by decide), e86]; exact hb.ce
        · rw [b2 3 (by decide) (by decide), e86]; exact hb.mu
        · dsimp only; rw [b2 4 (by decide) (by decide), e86, w8i 2 (by decide)]; exact hb.wi
        · dsimp only; rw [b2 5 (by decide) (by decide), e86, w8i 3 (by decide)]; exact hb.ru
        · dsimp only; rw [b2 6 (by decide) (by decide), e86, w8i 4 (by decide)]; exact hb.wa
        · dsimp only; rw [b3 j (by omega), e87, w8i (5 + j) (by omega)]; exact hb.de j hj
        · dsimp only; rw [w8i 0 (by decide)]; exact hb.h0
        · dsimp only; rw [w8i 1 (by decide)]; exact hb.h1
      · exact HaX_of hX (fun p hp => w8i p hp)
    · refine FndR.fr h.fnd (o2 0 (by omega) (by omega) (by omega)) (o2 102 (by omega) (by omega) (by omega)) ?_ ?_ ?_
      · rw [hW0 0 (by decide) (by decide), o2 200 (by omega) (by omega) (by omega)]
      · rw [hW 201 (by decide) (by decide) (by decide) (by decide), o2 201 (by omega) (by omega) (by omega)]
      · rw [hW0 2 (by decide) (by decide), o2 200 (by omega) (by omega) (by omega)]
    · exact hW e (by omega) (by omega) (by omega) (by omega)
  · rw [show f_X11_harbour I t k x = (-4, rdM (readH I (116 + 2 * x.toNatClampNeg) (I (116 + 2 * x.toNatClampNeg) 1).toNatClampNeg).2.2 (readH I (116 + 2 * x.toNatClampNeg) (I (116 + 2 * x.toNatClampNeg) 1).toNatClampNeg).2.1, 116 + 2 * x.toNatClampNeg) by unfold f_X11_harbour; rw [if_neg c0, if_neg c1, if_neg c2]; dsimp only; rw [if_neg c3]] at s1
    obtain ⟨k1, -, -, k4, k5⟩ := rd_har (I1 := rdM (readH I (116 + 2 * x.toNatClampNeg) (I (116 + 2 * x.toNatClampNeg) 1).toNatClampNeg).2.2 (readH I (116 + 2 * x.toNatClampNeg) (I (116 + 2 * x.toNatClampNeg) 1).toNatClampNeg).2.1) h qx c2 (o 205 (by omega)) (o 206 (by omega))
    have hr := h.cM (E := rdM (readH I (116 + 2 * x.toNatClampNeg) (I (116 + 2 * x.toNatClampNeg) 1).toNatClampNeg).2.2 (readH I (116 + 2 * x.toNatClampNeg) (I (116 + 2 * x.toNatClampNeg) 1).toNatClampNeg).2.1) (fun k hk => o k (by omega))
    refine tw_mk s1 (s_X12_harbourF hr.hTz hr.bts c0 c1 (tx_ag h qx c2 (o 205 (by omega)) (o 206 (by omega))).2.2.2.2 (by rw [← k1]; exact c3)) (fun r M hM => ?_)
    obtain ⟨rfl, y, rfl⟩ := hM
    refine ⟨rfl, _, _, _, rfl, inv_rd hI o (fun e g1 g2 g3 => ?_) (fun j g1 g2 g3 => ?_) (show 116 + 2 * x.toNatClampNeg < 200 by omega)⟩
    · rw [rm_off g1, k4 e g1 g2]
    · rw [rm_o g1 g2, k5 j g1]
end
end R48
