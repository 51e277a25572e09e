section R55
variable {G : Gp} {I : Im} {L : Nat → Nat → Int64} {t : Nat}
section
theorem k_row : ∀ q, q < 6 → (K0 (104 + 2 * q)).1 ≠ 1 := by decide +kernel
theorem k_txt : ∀ q, q < 4 → (K0 (116 + 2 * q)).1 ≠ 1 := by decide +kernel
theorem k_har : ∀ q, q < 4 → (K0 (124 + 2 * q)).1 ≠ 1 := by decide +kernel
theorem k_sea : ∀ q, q < 4 → (K0 (132 + 3 * q)).1 ≠ 1 := by decide +kernel
theorem k_shp : ∀ q, q < 3 → (K0 (144 + q)).1 = 1 := by decide +kernel
theorem k_kep : ∀ q, q < 3 → (K0 (152 + 16 * q)).1 ≠ 1 := by decide +kernel
/-- both stand alike when they are made -/
theorem st_rel {I' : Im} (h : ∀ c, c < 223 → I' c = J0 c) : RelP (fill (fill I' 202 6 (-1)) 205 4 (-1)) (fill (fill I' 202 6 (-1)) 205 4 (-1)) := by
  have zf : ∀ c j, c < 223 → (K0 c).1 ≠ 1 → c ≠ 202 → c ≠ 205 → fill (fill I' 202 6 (-1)) 205 4 (-1) c j = 0 := fun c j g1 g2 g3 g4 => by
    rw [fill_off g4, fill_off g3, h c g1]
    unfold J0
    rw [if_neg g2]
    rfl
  have s2 : ∀ q, q < 6 → fill (fill I' 202 6 (-1)) 205 4 (-1) 202 q = -1 := fun q hq => by
    rw [fill_off (by decide), fill_at hq]
  have s5 : ∀ q, q < 4 → fill (fill I' 202 6 (-1)) 205 4 (-1) 205 q = -1 := fun q hq => fill_at hq
  have zm : ∀ c j, 206 ≤ c → c < 223 → fill (fill I' 202 6 (-1)) 205 4 (-1) c j = 0 := fun c j g1 g2 => zf c j g2 (by
    have : ∀ c, c < 223 → 206 ≤ c → (K0 c).1 ≠ 1 := by decide +kernel
    exact this c g2 g1) (by omega) (by omega)
  have z200 : ∀ j, fill (fill I' 202 6 (-1)) 205 4 (-1) 200 j = 0 := fun j => zf 200 j (by decide) (by decide) (by decide) (by decide)
  have z201 : ∀ j, fill (fill I' 202 6 (-1)) 205 4 (-1) 201 j = 0 := fun j => zf 201 j (by decide) (by decide) (by decide) (by decide)
  have nn : ∀ f, f < 4 → fill (fill I' 202 6 (-1)) 205 4 (-1) 216 f = 0 := fun f _ => zm 216 f (by decide) (by decide)
  refine RelP.mk (fun q hq => ?_) (fun q hq => ?_) (fun q hq => ?_) (fun q hq => ?_) (fun q hq => ?_) ?_ ?_ (fun q hq => ?_) ?_ ?_ ?_
  · refine RowR.mk ⟨0, by decide, zf _ 1 (by omega) (k_row q hq) (by omega) (by omega)⟩ (Or.inl ⟨zf _ 2 (by omega) (k_row q hq) (by omega) (by omega), s2 q hq⟩)
  · refine TxtR.mk ⟨0, by decide, zf _ 1 (by omega) (k_txt q hq) (by omega) (by omega)⟩ (Or.inl ⟨zf _ 2 (by omega) (k_txt q hq) (by omega) (by omega), s5 q hq⟩)
  · refine HarR.mk (Or.inl (zm 207 q (by decide) (by decide))) ?_ ⟨0, by decide, zf _ 2 (by omega) (k_har q hq) (by omega) (by omega)⟩ ⟨0, by decide, zm 208 _ (by decide) (by decide)⟩ (fun z => absurd (zm 207 q (by decide) (by decide)) z)
    rw [zm 207 q (by decide) (by decide)]
    exact zf _ 1 (by omega) (k_har q hq) (by omega) (by omega)
  · refine SeaR.mk (Or.inl (zm 209 q (by decide) (by decide))) ?_ ⟨0, by decide, zf _ 3 (by omega) (k_sea q hq) (by omega) (by omega)⟩ ⟨0, by decide, zm 210 _ (by decide) (by decide), fun i hi => absurd hi (Nat.not_lt_zero i)⟩ (fun z => absurd (zm 209 q (by decide) (by decide)) z)
    rw [zm 209 q (by decide) (by decide)]
    exact zf _ 2 (by omega) (k_sea q hq) (by omega) (by omega)
  · refine ShpR.mk (Or.inl (zm 214 q (by decide) (by decide))) ?_ (fun z => absurd (zm 214 q (by decide) (by decide)) z)
    rw [zm 214 q (by decide) (by decide), fill_off (by omega), fill_off (by omega), h _ (by omega)]
    unfold J0
    rw [if_pos (k_shp q hq)]
    rfl
  · refine WrkR.mk ⟨0, by decide, z200 37⟩ ?_ (fun q hq => ?_) (fun q hq => ?_)
    · rw [z200 37]
      exact zf 0 16 (by decide) (by decide) (by decide) (by decide)
    · rw [zm 222 _ (by decide) (by decide)]
      unfold vp_in
      decide
    · rw [z200 37] at hq
      exact absurd hq (Nat.not_lt_zero q)
  · refine NigR.mk (Or.inl (nn 0 (by decide))) ?_ (fun z => absurd (nn 0 (by decide)) z)
    rw [nn 0 (by decide)]
    exact zf 8 3 (by decide) (by decide) (by decide) (by decide)
  · refine NigR.mk (Or.inl (nn (1 + q) (by omega))) ?_ (fun z => absurd (nn (1 + q) (by omega)) z)
    rw [nn (1 + q) (by omega)]
    exact zf _ 3 (by omega) (k_kep q hq) (by omega) (by omega)
  · refine FndR.mk ?_ (fun f hf => ?_) ?_
    · rw [z200 0]
      exact zf 0 17 (by decide) (by decide) (by decide) (by decide)
    · rw [z201 f]
      exact zf 102 f (by decide) (by decide) (by decide) (by decide)
    · rw [z200 2]
      exact zf 0 18 (by decide) (by decide) (by decide) (by decide)
  · exact ⟨Or.inl (zf 95 2 (by decide) (by decide) (by decide) (by decide)), zf 95 3 (by decide) (by decide) (by decide) (by decide)⟩
  · intro j hj
    rw [zm 206 j (by decide) (by decide)]
    decide
theorem R0_hi {c : Nat} (h : 223 ≤ c) : R0 c = zR := by
  funext j
  unfold R0
  rw [List.getD_eq_getElem?_getD (l := rtab), List.getElem?_eq_none (Nat.le_trans (by decide +kernel : rtab.length ≤ 223) h)]
  rfl
set_option maxHeartbeats 4000000 in
theorem law_start (hN : gN G ≤ 3584) : Ex G mdL2 0 [some (.ref 999999), none, none, none] [] (pm (fun _ => zI) (fun _ => zL) (fun _ => zR) 0) 0 0 (fun r _ => r = some (.int 1)) := by
  have hz : Zm (fun _ => zI) (fun _ => zL) (fun _ => zR) 0 := fun c _ => ⟨rfl, rfl, rfl⟩
  refine px_new (C := RX11) (T := TX11) (N := 20) (kd := 11) (n := 0) tyX11 dL_law_0 rfl rfl (by decide) inX11 tyX11_ok dv_11 wc_L_7 wi_X11 wn_X11 ⟨by decide, by decide⟩ hz rfl (by decide) ?_
  refine ex_dup dL_law_3 rfl ?_
  refine ex_cI (vs := []) dL_law_4 rfl lk_L_9 (show 0 < 0 + 1 by decide) ⟨⟨by decide, by decide⟩, by decide, by decide⟩ rfl (Nat.le_of_ble_eq_true rfl) rfl (c_X11 hz) (Iq.k (fun I1 L1 R1 h1 => ?_))
  refine st_a1 dL_law_7 (by first | exact rfl | exact trivial) ?_
  refine px_new (C := RX12) (T := TX12) (N := 40) (kd := 12) (n := 200) tyX12 dL_law_8 rfl rfl (by decide) inX12 tyX12_ok dv_12 wc_L_10 wi_X12 wn_X12 ⟨by decide, by decide⟩ h1.1 rfl (by decide) ?_
  refine ex_dup dL_law_11 rfl ?_
  refine ex_cI (vs := []) dL_law_12 rfl lk_L_12 (show 200 < 200 + 1 by decide) ⟨⟨by decide, by decide⟩, by decide, by decide⟩ rfl (Nat.le_of_ble_eq_true rfl) rfl (c_X12 h1.1) ?_
  rintro r M1 ⟨rfl, I2, L2, R2, rfl, h2⟩
  refine st_a2 dL_law_15 (by first | exact rfl | exact trivial) ?_
  refine ex_iconst (v := 0) dL_law_16 (by decide) ?_
  refine st_i3 dL_law_17 (by first | exact rfl | exact trivial) ?_
  have hA : ∀ c, c < 223 → I2 c = J0 c ∧ L2 c = L0 c ∧ R2 c = R0 c := fun c hc => by
    by_cases g : c < 200
    · obtain ⟨a1, a2, a3⟩ := h2.2.2 c g
      obtain ⟨b1, b2, b3⟩ := h1.2.1 c (Nat.zero_le c) g
      exact ⟨a1.trans b1, a2.trans b2, a3.trans b3⟩
    · exact h2.2.1 c (by omega) hc
  have eR : R2 = Rt 91 := by
    funext c j
    have e : R2 c = R0 c := by
      by_cases g : c < 223
      · exact (hA c g).2.2
      · rw [R0_hi (by omega)]
        exact (h2.1 c (by omega)).2.2
    rw [e]
    unfold Rt
    by_cases q : c = 85 ∧ j = 2
    · rw [if_pos q, q.1, q.2]
      rfl
    · rw [if_neg q]
  subst eR
  have fl : FrL (up2 L2 200 4 1) := by
    unfold FrL
    rw [up2_off (by decide), (hA 103 (by decide)).2.1, v2_j (by decide), u2_s, (hA 200 (by decide)).2.1]
    exact ⟨rfl, rfl⟩
  exact law_loop hN 0 (Nat.zero_le _) _ _ _ ⟨st_rel (fun c hc => (hA c hc).1), fl, by decide⟩
end
end R55
