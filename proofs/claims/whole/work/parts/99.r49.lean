section R49
variable {G : Gp} {I : Im} {L : Nat → Nat → Int64} {t : Nat}
section
variable {d1 d2 : Md} {args : List Value}
theorem sw_tk {D : Im} {a : Nat} (ha : a < 88 ∨ 90 < a) (ha2 : a + 2 < 88 ∨ 90 < a) : (∀ e, e ≠ a → e ≠ a + 1 → e ≠ a + 2 → swTake D a 88 e = D e) ∧ (swTake D a 88 a 2 = D 88 2 ∧ swTake D a 88 a 3 = D 88 3) ∧ ∀ j, j < 4 → swTake D a 88 (a + 1) j = D 89 j ∧ swTake D a 88 (a + 2) j = D 90 j := by
  have o : ∀ e, e ≠ a → tk1 (tk1 D a 88 2) a 88 3 e = D e := fun e he => by
    unfold tk1
    rw [up2_off he, up2_off he]
  refine ⟨fun e g1 g2 g3 => ?_, ?_, fun j hj => ?_⟩
  · unfold swTake
    rw [cpR_off g3, cpR_off g2, o e g1]
  · unfold swTake
    rw [cpR_off (by omega), cpR_off (by omega)]
    unfold tk1
    refine ⟨?_, ?_⟩
    · rw [u2_j (by decide), u2_s]
    · rw [u2_s, up2_off (by omega)]
  · unfold swTake
    refine ⟨?_, ?_⟩
    · rw [cpR_off (by omega)]
      unfold cpR
      rw [if_pos rfl, o 89 (by omega), o (a + 1) (by omega)]
      unfold va_cpy
      rw [if_pos (by omega)]
      congr 1
      omega
    · have e90 : cpR (tk1 (tk1 D a 88 2) a 88 3) (88 + 1) (a + 1) 0 0 4 90 = D 90 := by
        rw [cpR_off (by omega), o 90 (by omega)]
      generalize hX : cpR (tk1 (tk1 D a 88 2) a 88 3) (88 + 1) (a + 1) 0 0 4 = X at e90
      unfold cpR
      rw [if_pos rfl]
      unfold va_cpy
      rw [if_pos (by omega), show (88 + 2 : Nat) = 90 from rfl, e90]
      congr 1
      omega
theorem T_sea {k x : Int32} (hI : Inv I L t) : TwI G mdX11_sea mdX12_sea [.int k, .int x] I L t := by
  have h := hI.1
  have s1 := s_X11_sea (G := G) (I := I) (L := L) (t := t) (k := k) (x := x) h.hTxt
  by_cases c0 : b2i (0 ≤ k ∧ k ≤ 3) = 0
  · rw [show f_X11_sea I t k x = (-1, I, t) by unfold f_X11_sea; rw [if_pos c0]] at s1
    exact tw_bad hI s1 (s_X12_seaB h.hTz h.bts (Or.inl c0))
  by_cases c1 : b2i (0 ≤ x ∧ x ≤ 3) = 0
  · rw [show f_X11_sea I t k x = (-1, I, t) by unfold f_X11_sea; rw [if_neg c0, if_pos c1]] at s1
    exact tw_bad hI s1 (s_X12_seaB h.hTz h.bts (Or.inr c1))
  obtain ⟨qk, vk⟩ := cl_lt (N := 4) (by decide) c0
  obtain ⟨qx, vx⟩ := cl_lt (N := 4) (by decide) c1
  by_cases c2 : I (116 + 2 * x.toNatClampNeg) 2 = 0
  · rw [show f_X11_sea I t k x = ((f_X11_refuse I 1).1, (f_X11_refuse I 1).2, t) by unfold f_X11_sea; rw [if_neg c0, if_neg c1, if_pos c2]] at s1
    exact tw_no hI s1 (fun hr => s_X12_seaN hr.hTz hr.bts c0 c1 (by rw [rf_205 (by decide)]; exact no_205 h qx c2))
  have o : ∀ e, e < 85 ∨ 90 < e → (rdM (readS I (116 + 2 * x.toNatClampNeg) (I (116 + 2 * x.toNatClampNeg) 1).toNatClampNeg).2.2 (readS I (116 + 2 * x.toNatClampNeg) (I (116 + 2 * x.toNatClampNeg) 1).toNatClampNeg).2.1) e = I e := fun e he => by
    rw [rdM_off (by omega), (rd_sea h qx c2 rfl rfl).2.2.1 e (by omega) (by omega) (by omega)]
  by_cases c3 : (readS I (116 + 2 * x.toNatClampNeg) (I (116 + 2 * x.toNatClampNeg) 1).toNatClampNeg).1 = -9
  · rw [show f_X11_sea I t k x = (swTake ((rdM (readS I (116 + 2 * x.toNatClampNeg) (I (116 + 2 * x.toNatClampNeg) 1).toNatClampNeg).2.2 (readS I (116 + 2 * x.toNatClampNeg) (I (116 + 2 * x.toNatClampNeg) 1).toNatClampNeg).2.1)) (132 + 3 * k.toNatClampNeg) 88 (132 + 3 * k.toNatClampNeg) 3, swTake ((rdM (readS I (116 + 2 * x.toNatClampNeg) (I (116 + 2 * x.toNatClampNeg) 1).toNatClampNeg).2.2 (readS I (116 + 2 * x.toNatClampNeg) (I (116 + 2 * x.toNatClampNeg) 1).toNatClampNeg).2.1)) (132 + 3 * k.toNatClampNeg) 88, 116 + 2 * x.toNatClampNeg) by unfold f_X11_sea; rw [if_neg c0, if_neg c1, if_neg c2]; dsimp only; rw [if_pos c3]] at s1
    have rdh := fun I1 e5 e6 => rd_sea (I1 := I1) h qx c2 e5 e6
    have r88 : ∀ e, e = 88 ∨ e = 89 ∨ e = 90 → (rdM (readS I (116 + 2 * x.toNatClampNeg) (I (116 + 2 * x.toNatClampNeg) 1).toNatClampNeg).2.2 (readS I (116 + 2 * x.toNatClampNeg) (I (116 + 2 * x.toNatClampNeg) 1).toNatClampNeg).2.1) e = (readS I (116 + 2 * x.toNatClampNeg) (I (116 + 2 * x.toNatClampNeg) 1).toNatClampNeg).2.2 e := fun e he => rdM_off (by omega)
    generalize (rdM (readS I (116 + 2 * x.toNatClampNeg) (I (116 + 2 * x.toNatClampNeg) 1).toNatClampNeg).2.2 (readS I (116 + 2 * x.toNatClampNeg) (I (116 + 2 * x.toNatClampNeg) 1).toNatClampNeg).2.1) = J at s1 o r88
    obtain ⟨b1, ⟨b2, b2'⟩, b3⟩ := sw_tk (D := J) (a := 132 + 3 * k.toNatClampNeg) (by omega) (by omega)
    have o2 : ∀ e, e < 85 ∨ 90 < e → e ≠ 132 + 3 * k.toNatClampNeg → e ≠ 132 + 3 * k.toNatClampNeg + 1 → e ≠ 132 + 3 * k.toNatClampNeg + 2 → swTake J (132 + 3 * k.toNatClampNeg) 88 e = I e := fun e g1 g2 g3 g4 => by rw [b1 e g2 g3 g4, o e g1]
    have hr := h.cM (E := swTake J (132 + 3 * k.toNatClampNeg) 88) (fun e he => o2 e (by omega) (by omega) (by omega) (by omega))
    obtain ⟨k1, ⟨c, hs, hX, h17, h82⟩, -, k4, k5⟩ := rdh (swTake J (132 + 3 * k.toNatClampNeg) 88) (o2 205 (by omega) (by omega) (by omega) (by omega)) (o2 206 (by omega) (by omega) (by omega) (by omega))
    have m9 := k1.symm.trans c3
    refine tw_mk s1 (s_X12_seaK hr.hTz hr.bts c0 c1 (tx_ag h qx c2 (o2 205 (by omega) (by omega) (by omega) (by omega)) (o2 206 (by omega) (by omega) (by omega) (by omega))).2.2.2.2 m9) (fun r M hM => ?_)
    obtain ⟨rfl, y, rfl⟩ := hM
    generalize mSea (swTake J (132 + 3 * k.toNatClampNeg) 88) x.toNatClampNeg = mh at hs hX h17 k4 k5
    generalize readS I (116 + 2 * x.toNatClampNeg) (I (116 + 2 * x.toNatClampNeg) 1).toNatClampNeg = rh at hs h82 r88
    generalize k.toNatClampNeg = q at qk b1 b2 b2' b3 o2 hr k4 k5
    have c4 := hs.c4
    have e88 : J 88 = rh.2.2 88 := r88 88 (by omega)
    have e89 : J 89 = rh.2.2 89 := r88 89 (by omega)
    have e90 : J 90 = rh.2.2 90 := r88 90 (by omega)
    have hW : ∀ e, e ≠ 200 → e ≠ 209 → e ≠ 210 → e ≠ 211 → e ≠ 213 → seaW q (rm mh.2.2.2 mh.2.1 y) e = swTake J (132 + 3 * q) 88 e := fun e g1 g2 g3 g4 g5 => by
      unfold seaW
      rw [up2_off g2, up2_off g3, flw_off g4, rm_off g1, k4 e g1 g5]
    have hW0 : ∀ j, j ≠ 15 → j ≠ 16 → j ≠ 17 → seaW q (rm mh.2.2.2 mh.2.1 y) 200 j = swTake J (132 + 3 * q) 88 200 j := fun j g1 g2 g3 => by
      unfold seaW
      rw [up2_off (by decide), up2_off (by decide), flw_off (by decide), rm_o g1 g2, k5 j g1 g3]
    have w9 : ∀ j, seaW q (rm mh.2.2.2 mh.2.1 y) 209 j = if j = q then 1 else I 209 j := fun j => by
      unfold seaW
      by_cases ej : j = q
      · subst ej
        rw [u2_s, if_pos rfl]
      · rw [u2_j ej, up2_off (by decide), flw_off (by decide), rm_off (by decide), k4 209 (by decide) (by decide), o2 209 (by omega) (by omega) (by omega) (by omega), if_neg ej]
    have w0 : ∀ j, seaW q (rm mh.2.2.2 mh.2.1 y) 210 j = if j = q then nI c else I 210 j := fun j => by
      unfold seaW
      by_cases ej : j = q
      · subst ej
        rw [up2_off (by decide), u2_s, if_pos rfl, rm_o (by decide) (by decide)]
        exact h17
      · rw [up2_off (by decide), u2_j ej, flw_off (by decide), rm_off (by decide), k4 210 (by decide) (by decide), o2 210 (by omega) (by omega) (by omega) (by omega), if_neg ej]
    have w1i : ∀ i, i < 8 → seaW q (rm mh.2.2.2 mh.2.1 y) 211 (8 * q + i) = mh.2.2.2 213 i := fun i hi => by
      unfold seaW
      rw [up2_off (by decide), up2_off (by decide), flw_in hi, rm_off (by decide)]
    have w1o : ∀ i, i < 8 * q ∨ 8 * q + 8 ≤ i → seaW q (rm mh.2.2.2 mh.2.1 y) 211 i = I 211 i := fun i hi => by
      unfold seaW
      rw [up2_off (by decide), up2_off (by decide), flw_out hi, rm_off (by decide), k4 211 (by decide) (by decide), o2 211 (by omega) (by omega) (by omega) (by omega)]
    have hs' : SeR (swTake J (132 + 3 * q) 88) (132 + 3 * q) (fun i => seaW q (rm mh.2.2.2 mh.2.1 y) 211 (8 * q + i)) c := by
      refine ⟨c4, by rw [b2', e88]; exact hs.ct, fun i hi => ?_⟩
      dsimp only
      rw [(b3 i (by omega)).1, (b3 i (by omega)).2, e89, e90, w1i (2 * i) (by omega), w1i (2 * i + 1) (by omega)]
      exact hs.be i hi
    refine ⟨?_, _, _, _, rfl, RelP.cC (C := swTake J (132 + 3 * q) 88) (Rel_sea (q := q) qk h (fun e g1 g2 => ?_) ?_ (fun e he => ?_) (fun j hj => ?_) ?_ ?_ ?_ ?_ ?_ ?_) (fun e he => ?_), hI.2.1, show 116 + 2 * x.toNatClampNeg < 200 by omega⟩
    · rw [b2', e88, hs.ct, h17]
    · exact o2 e (by omega) (by omega) (by omega) (by omega)
    · rw [o2 0 (by omega) (by omega) (by omega) (by omega)]
    · rw [hW e (by omega) (by omega) (by omega) (by omega) (by omega)]
      exact o2 e (by omega) (by omega) (by omega) (by omega)
    · rw [hW 217 (by decide) (by decide) (by decide) (by decide) (by decide), o2 217 (by omega) (by omega) (by omega) (by omega)]
    · rw [hW0 37 (by decide) (by decide) (by decide), o2 200 (by omega) (by omega) (by omega) (by omega)]
    · intro j hj ej
      rw [w9 j, if_neg ej]
    · intro j hj ej
      rw [w0 j, if_neg ej]
    · intro j i hj ej hi
      exact w1o _ (by omega)
    · refine SeaR.mk ?_ ?_ ⟨c, c4, hs'.ct⟩ ⟨c, c4, by rw [w0 q, if_pos rfl], fun i hi => ?_⟩ (fun _ => ⟨c, hs', by rw [w0 q, if_pos rfl], ?_⟩)
      · rw [w9 q, if_pos rfl]
        exact Or.inr rfl
      · rw [w9 q, if_pos rfl, b2, e88, h82]
      · rw [w1i (2 * i) (by omega)]
        exact fun z => (hs.be i hi).2.2 (by rw [z]; exact Int32.le_refl 0)
      · exact SeX_of hX c4 (fun i hi => w1i i hi)
    · refine FndR.fr h.fnd (o2 0 (by omega) (by omega) (by omega) (by omega)) (o2 102 (by omega) (by omega) (by omega) (by omega)) ?_ ?_ ?_
      · rw [hW0 0 (by decide) (by decide) (by decide), o2 200 (by omega) (by omega) (by omega) (by omega)]
      · rw [hW 201 (by decide) (by decide) (by decide) (by decide) (by decide), o2 201 (by omega) (by omega) (by omega) (by omega)]
      · rw [hW0 2 (by decide) (by decide) (by decide), o2 200 (by omega) (by omega) (by omega) (by omega)]
    · exact hW e (by omega) (by omega) (by omega) (by omega) (by omega)
  · rw [show f_X11_sea I t k x = (-4, (rdM (readS I (116 + 2 * x.toNatClampNeg) (I (116 + 2 * x.toNatClampNeg) 1).toNatClampNeg).2.2 (readS I (116 + 2 * x.toNatClampNeg) (I (116 + 2 * x.toNatClampNeg) 1).toNatClampNeg).2.1), 116 + 2 * x.toNatClampNeg) by unfold f_X11_sea; rw [if_neg c0, if_neg c1, if_neg c2]; dsimp only; rw [if_neg c3]] at s1
    obtain ⟨k1, -, -, k4, k5⟩ := rd_sea (I1 := (rdM (readS I (116 + 2 * x.toNatClampNeg) (I (116 + 2 * x.toNatClampNeg) 1).toNatClampNeg).2.2 (readS I (116 + 2 * x.toNatClampNeg) (I (116 + 2 * x.toNatClampNeg) 1).toNatClampNeg).2.1)) h qx c2 (o 205 (by omega)) (o 206 (by omega))
    have hr := h.cM (E := (rdM (readS I (116 + 2 * x.toNatClampNeg) (I (116 + 2 * x.toNatClampNeg) 1).toNatClampNeg).2.2 (readS I (116 + 2 * x.toNatClampNeg) (I (116 + 2 * x.toNatClampNeg) 1).toNatClampNeg).2.1)) (fun k hk => o k (by omega))
    refine tw_mk s1 (s_X12_seaF hr.hTz hr.bts c0 c1 (tx_ag h qx c2 (o 205 (by omega)) (o 206 (by omega))).2.2.2.2 (by rw [← k1]; exact c3)) (fun r M hM => ?_)
    obtain ⟨rfl, y, rfl⟩ := hM
    refine ⟨rfl, _, _, _, rfl, inv_rd hI o (fun e g1 g2 g3 => ?_) (fun j g1 g2 g3 => ?_) (show 116 + 2 * x.toNatClampNeg < 200 by omega)⟩
    · rw [rm_off g1, k4 e g1 g3]
    · rw [rm_o g1 g2, k5 j g1 g3]
end
end R49
