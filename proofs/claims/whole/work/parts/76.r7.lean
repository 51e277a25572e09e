section R7
variable {G : Gp} {I : Im} {L : Nat → Nat → Int64} {t : Nat}
theorem Rel_row {C M D E : Im} {q : Nat} (hq : q < 6) (h : RelP C M) (hC : ∀ e, ((8 ≤ e ∧ e ≤ 23) ∨ e = 95 ∨ (104 ≤ e ∧ e < 200)) → (e < 104 + 2 * q ∨ 104 + 2 * q + 1 < e) → D e = C e) (hC2 : D 0 16 = C 0 16) (hM : ∀ e, e = 205 ∨ e = 206 ∨ e = 207 ∨ e = 208 ∨ e = 209 ∨ e = 210 ∨ e = 211 ∨ e = 214 ∨ e = 215 ∨ e = 216 ∨ e = 222 → E e = M e) (hM2 : ∀ j, j < 500 → E 217 j = M 217 j) (hM3 : E 200 37 = M 200 37) (m202 : ∀ k, k < 6 → k ≠ q → E 202 k = M 202 k) (m203 : ∀ k i, k < 6 → k ≠ q → i < 60 → E 203 (60 * k + i) = M 203 (60 * k + i)) (hX : RowR D E q) (hF : FndR D E) : RelP D E := by
  refine RelP.mk ?_ ?_ ?_ ?_ ?_ ?_ ?_ ?_ hF ?_ ?_
  · intro k hk
    by_cases ek : k = q
    · subst ek
      exact hX
    · exact RowR_of (h.row k hk) (hC _ (by omega) (by omega)) (hC _ (by omega) (by omega)) (m202 k hk ek) (fun i hi => m203 k i hk ek hi)
  · intro k hk
    exact TxtR_of (h.txt k hk) (hC _ (by omega) (by omega)) (hC _ (by omega) (by omega)) (by rw [hM 205 (by omega)]) (fun i hi => by rw [hM 206 (by omega)])
  · intro k hk
    exact HarR_of (h.har k hk) (hC _ (by omega) (by omega)) (hC _ (by omega) (by omega)) (by rw [hM 207 (by omega)]) (fun i hi => by rw [hM 208 (by omega)])
  · intro k hk
    exact SeaR_of (h.sea k hk) (hC _ (by omega) (by omega)) (hC _ (by omega) (by omega)) (hC _ (by omega) (by omega)) (by rw [hM 209 (by omega)]) (by rw [hM 210 (by omega)]) (fun i hi => by rw [hM 211 (by omega)])
  · intro k hk
    exact ShpR_of (h.shp k hk) (hC _ (by omega) (by omega)) (by rw [hM 214 (by omega)]) (fun i hi => by rw [hM 215 (by omega)])
  · exact WrkR_of h.wrk hC2 (fun k hk => hC _ (by omega) (by omega)) hM3 (hM 222 (by omega))
  · exact NigR_of h.nig (fun e h1 h2 => hC e (by omega) (by omega)) (by rw [hM 216 (by omega)]) (fun p hp => hM2 _ (by omega))
  · intro k hk
    exact NigR_of (h.kep k hk) (fun e h1 h2 => hC e (by omega) (by omega)) (by rw [hM 216 (by omega)]) (fun p hp => hM2 _ (by omega))
  · unfold CalmS
    rw [hC 95 (by omega) (by omega)]
    exact h.cal
  · unfold BtS
    rw [hM 206 (by omega)]
    exact h.bts
theorem Rel_txt {C M D E : Im} {q : Nat} (hq : q < 4) (h : RelP C M) (hC : ∀ e, ((8 ≤ e ∧ e ≤ 23) ∨ e = 95 ∨ (104 ≤ e ∧ e < 200)) → (e < 116 + 2 * q ∨ 116 + 2 * q + 1 < e) → D e = C e) (hC2 : D 0 16 = C 0 16) (hM : ∀ e, e = 202 ∨ e = 203 ∨ e = 207 ∨ e = 208 ∨ e = 209 ∨ e = 210 ∨ e = 211 ∨ e = 214 ∨ e = 215 ∨ e = 216 ∨ e = 222 → E e = M e) (hM2 : ∀ j, j < 500 → E 217 j = M 217 j) (hM3 : E 200 37 = M 200 37) (m205 : ∀ k, k < 4 → k ≠ q → E 205 k = M 205 k) (m206 : ∀ k i, k < 4 → k ≠ q → i < 100 → E 206 (100 * k + i) = M 206 (100 * k + i)) (hX : TxtR D E q) (hF : FndR D E) (hB : BtS E) : RelP D E := by
  refine RelP.mk ?_ ?_ ?_ ?_ ?_ ?_ ?_ ?_ hF ?_ ?_
  · intro k hk
    exact RowR_of (h.row k hk) (hC _ (by omega) (by omega)) (hC _ (by omega) (by omega)) (by rw [hM 202 (by omega)]) (fun i hi => by rw [hM 203 (by omega)])
  · intro k hk
    by_cases ek : k = q
    · subst ek
      exact hX
    · exact TxtR_of (h.txt k hk) (hC _ (by omega) (by omega)) (hC _ (by omega) (by omega)) (m205 k hk ek) (fun i hi => m206 k i hk ek hi)
  · intro k hk
    exact HarR_of (h.har k hk) (hC _ (by omega) (by omega)) (hC _ (by omega) (by omega)) (by rw [hM 207 (by omega)]) (fun i hi => by rw [hM 208 (by omega)])
  · intro k hk
    exact SeaR_of (h.sea k hk) (hC _ (by omega) (by omega)) (hC _ (by omega) (by omega)) (hC _ (by omega) (by omega)) (by rw [hM 209 (by omega)]) (by rw [hM 210 (by omega)]) (fun i hi => by rw [hM 211 (by omega)])
  · intro k hk
    exact ShpR_of (h.shp k hk) (hC _ (by omega) (by omega)) (by rw [hM 214 (by omega)]) (fun i hi => by rw [hM 215 (by omega)])
  · exact WrkR_of h.wrk hC2 (fun k hk => hC _ (by omega) (by omega)) hM3 (hM 222 (by omega))
  · exact NigR_of h.nig (fun e h1 h2 => hC e (by omega) (by omega)) (by rw [hM 216 (by omega)]) (fun p hp => hM2 _ (by omega))
  · intro k hk
    exact NigR_of (h.kep k hk) (fun e h1 h2 => hC e (by omega) (by omega)) (by rw [hM 216 (by omega)]) (fun p hp => hM2 _ (by omega))
  · unfold CalmS
    rw [hC 95 (by omega) (by omega)]
    exact h.cal
  · exact hB
theorem Rel_har {C M D E : Im} {q : Nat} (hq : q < 4) (h : RelP C M) (hC : ∀ e, ((8 ≤ e ∧ e ≤ 23) ∨ e = 95 ∨ (104 ≤ e ∧ e < 200)) → (e < 124 + 2 * q ∨ 124 + 2 * q + 1 < e) → D e = C e) (hC2 : D 0 16 = C 0 16) (hM : ∀ e, e = 202 ∨ e = 203 ∨ e = 205 ∨ e = 206 ∨ e = 209 ∨ e = 210 ∨ e = 211 ∨ e = 214 ∨ e = 215 ∨ e = 216 ∨ e = 222 → E e = M e) (hM2 : ∀ j, j < 500 → E 217 j = M 217 j) (hM3 : E 200 37 = M 200 37) (m207 : ∀ k, k < 4 → k ≠ q → E 207 k = M 207 k) (m208 : ∀ k i, k < 4 → k ≠ q → i < 21 → E 208 (21 * k + i) = M 208 (21 * k + i)) (hX : HarR D E q) (hF : FndR D E) : RelP D E := by
  refine RelP.mk ?_ ?_ ?_ ?_ ?_ ?_ ?_ ?_ hF ?_ ?_
  · intro k hk
    exact RowR_of (h.row k hk) (hC _ (by omega) (by omega)) (hC _ (by omega) (by omega)) (by rw [hM 202 (by omega)]) (fun i hi => by rw [hM 203 (by omega)])
  · intro k hk
    exact TxtR_of (h.txt k hk) (hC _ (by omega) (by omega)) (hC _ (by omega) (by omega)) (by rw [hM 205 (by omega)]) (fun i hi => by rw [hM 206 (by omega)])
  · intro k hk
    by_cases ek : k = q
    · subst ek
      exact hX
    · exact HarR_of (h.har k hk) (hC _ (by omega) (by omega)) (hC _ (by omega) (by omega)) (m207 k hk ek) (fun i hi => m208 k i hk ek hi)
  · intro k hk
    exact SeaR_of (h.sea k hk) (hC _ (by omega) (by omega)) (hC _ (by omega) (by omega)) (hC _ (by omega) (by omega)) (by rw [hM 209 (by omega)]) (by rw [hM 210 (by omega)]) (fun i hi => by rw [hM 211 (by omega)])
  · intro k hk
    exact ShpR_of (h.shp k hk) (hC _ (by omega) (by omega)) (by rw [hM 214 (by omega)]) (fun i hi => by rw [hM 215 (by omega)])
  · exact WrkR_of h.wrk hC2 (fun k hk => hC _ (by omega) (by omega)) hM3 (hM 222 (by omega))
  · exact NigR_of h.nig (fun e h1 h2 => hC e (by omega) (by omega)) (by rw [hM 216 (by omega)]) (fun p hp => hM2 _ (by omega))
  · intro k hk
    exact NigR_of (h.kep k hk) (fun e h1 h2 => hC e (by omega) (by omega)) (by rw [hM 216 (by omega)]) (fun p hp => hM2 _ (by omega))
  · unfold CalmS
    rw [hC 95 (by omega) (by omega)]
    exact h.cal
  · unfold BtS
    rw [hM 206 (by omega)]
    exact h.bts
theorem Rel_sea {C M D E : Im} {q : Nat} (hq : q < 4) (h : RelP C M) (hC : ∀ e, ((8 ≤ e ∧ e ≤ 23) ∨ e = 95 ∨ (104 ≤ e ∧ e < 200)) → (e < 132 + 3 * q ∨ 132 + 3 * q + 2 < e) → D e = C e) (hC2 : D 0 16 = C 0 16) (hM : ∀ e, e = 202 ∨ e = 203 ∨ e = 205 ∨ e = 206 ∨ e = 207 ∨ e = 208 ∨ e = 214 ∨ e = 215 ∨ e = 216 ∨ e = 222 → E e = M e) (hM2 : ∀ j, j < 500 → E 217 j = M 217 j) (hM3 : E 200 37 = M 200 37) (m209 : ∀ k, k < 4 → k ≠ q → E 209 k = M 209 k) (m210 : ∀ k, k < 4 → k ≠ q → E 210 k = M 210 k) (m211 : ∀ k i, k < 4 → k ≠ q → i < 8 → E 211 (8 * k + i) = M 211 (8 * k + i)) (hX : SeaR D E q) (hF : FndR D E) : RelP D E := by
  refine RelP.mk ?_ ?_ ?_ ?_ ?_ ?_ ?_ ?_ hF ?_ ?_
  · intro k hk
    exact RowR_of (h.row k hk) (hC _ (by omega) (by omega)) (hC _ (by omega) (by omega)) (by rw [hM 202 (by omega)]) (fun i hi => by rw [hM 203 (by omega)])
  · intro k hk
    exact TxtR_of (h.txt k hk) (hC _ (by omega) (by omega)) (hC _ (by omega) (by omega)) (by rw [hM 205 (by omega)]) (fun i hi => by rw [hM 206 (by omega)])
  · intro k hk
    exact HarR_of (h.har k hk) (hC _ (by omega) (by omega)) (hC _ (by omega) (by omega)) (by rw [hM 207 (by omega)]) (fun i hi => by rw [hM 208 (by omega)])
  · intro k hk
    by_cases ek : k = q
    · subst ek
      exact hX
    · exact SeaR_of (h.sea k hk) (hC _ (by omega) (by omega)) (hC _ (by omega) (by omega)) (hC _ (by omega) (by omega)) (m209 k hk ek) (m210 k hk ek) (fun i hi => m211 k i hk ek hi)
  · intro k hk
    exact ShpR_of (h.shp k hk) (hC _ (by omega) (by omega)) (by rw [hM 214 (by omega)]) (fun i hi => by rw [hM 215 (by omega)])
  · exact WrkR_of h.wrk hC2 (fun k hk => hC _ (by omega) (by omega)) hM3 (hM 222 (by omega))
  · exact NigR_of h.nig (fun e h1 h2 => hC e (by omega) (by omega)) (by rw [hM 216 (by omega)]) (fun p hp => hM2 _ (by omega))
  · intro k hk
    exact NigR_of (h.kep k hk) (fun e h1 h2 => hC e (by omega) (by omega)) (by rw [hM 216 (by omega)]) (fun p hp => hM2 _ (by omega))
  · unfold CalmS
    rw [hC 95 (by omega) (by omega)]
    exact h.cal
  · unfold BtS
    rw [hM 206 (by omega)]
    exact h.bts
theorem Rel_shp {C M D E : Im} {q : Nat} (hq : q < 3) (h : RelP C M) (hC : ∀ e, ((8 ≤ e ∧ e ≤ 23) ∨ e = 95 ∨ (104 ≤ e ∧ e < 200)) → (e < 144 + q ∨ 144 + q < e) → D e = C e) (hC2 : D 0 16 = C 0 16) (hM : ∀ e, e = 202 ∨ e = 203 ∨ e = 205 ∨ e = 206 ∨ e = 207 ∨ e = 208 ∨ e = 209 ∨ e = 210 ∨ e = 211 ∨ e = 216 ∨ e = 222 → E e = M e) (hM2 : ∀ j, j < 500 → E 217 j = M 217 j) (hM3 : E 200 37 = M 200 37) (m214 : ∀ k, k < 3 → k ≠ q → E 214 k = M 214 k) (m215 : ∀ k i, k < 3 → k ≠ q → i < 5 → E 215 (5 * k + i) = M 215 (5 * k + i)) (hX : ShpR D E q) (hF : FndR D E) : RelP D E := by
  refine RelP.mk ?_ ?_ ?_ ?_ ?_ ?_ ?_ ?_ hF ?_ ?_
  · intro k hk
    exact RowR_of (h.row k hk) (hC _ (by omega) (by omega)) (hC _ (by omega) (by omega)) (by rw [hM 202 (by omega)]) (fun i hi => by rw [hM 203 (by omega)])
  · intro k hk
    exact TxtR_of (h.txt k hk) (hC _ (by omega) (by omega)) (hC _ (by omega) (by omega)) (by rw [hM 205 (by omega)]) (fun i hi => by rw [hM 206 (by omega)])
  · intro k hk
    exact HarR_of (h.har k hk) (hC _ (by omega) (by omega)) (hC _ (by omega) (by omega)) (by rw [hM 207 (by omega)]) (fun i hi => by rw [hM 208 (by omega)])
  · intro k hk
    exact SeaR_of (h.sea k hk) (hC _ (by omega) (by omega)) (hC _ (by omega) (by omega)) (hC _ (by omega) (by omega)) (by rw [hM 209 (by omega)]) (by rw [hM 210 (by omega)]) (fun i hi => by rw [hM 211 (by omega)])
  · intro k hk
    by_cases ek : k = q
    · subst ek
      exact hX
    · exact ShpR_of (h.shp k hk) (hC _ (by omega) (by omega)) (m214 k hk ek) (fun i hi => m215 k i hk ek hi)
  · exact WrkR_of h.wrk hC2 (fun k hk => hC _ (by omega) (by omega)) hM3 (hM 222 (by omega))
  · exact NigR_of h.nig (fun e h1 h2 => hC e (by omega) (by omega)) (by rw [hM 216 (by omega)]) (fun p hp => hM2 _ (by omega))
  · intro k hk
    exact NigR_of (h.kep k hk) (fun e h1 h2 => hC e (by omega) (by omega)) (by rw [hM 216 (by omega)]) (fun p hp => hM2 _ (by omega))
  · unfold CalmS
    rw [hC 95 (by omega) (by omega)]
    exact h.cal
  · unfold BtS
    rw [hM 206 (by omega)]
    exact h.bts
section
variable {C M D E : Im}
theorem sm_mk {a : Int32} (hR : RelP D E) (h1 : ∀ e, 200 ≤ e → D e = C e) (h2 : ∀ e, e < 200 → E e = M e) : Same C M (a, D) (a, E) := ⟨rfl, hR, h1, h2⟩
theorem fnd_0 (h : FndR C M) (e0 : D 0 = C 0) (e1 : D 102 = C 102) (e3 : E 200 = M 200) (e4 : E 201 = M 201) : FndR D E := FndR_of h (by rw [e0]) e1 (by rw [e0]) (by rw [e3]) e4 (by rw [e3])
theorem fill_at {X : Im} {c k j : Nat} {v : Int32} (h : j < k) : fill X c k v c j = v := by simp [fill, h]
theorem nu_s {a n : Nat} : nuNew C a n a 1 = nI n ∧ nuNew C a n a 2 = 1 := by
  unfold nuNew
  rw [fill_off (by omega), fill_off (by omega), u2_j (by decide), u2_s, u2_s]
  exact ⟨rfl, rfl⟩
theorem nu_p {a n j : Nat} (h : j < n) : nuNew C a n (a + 1) j = 0 := by
  unfold nuNew
  exact fill_at h
theorem K_row {r n : Int32} (h : RelP C M) : Same C M (f_X11_row C r n) (f_X12_row M r n) := by
  unfold f_X11_row f_X12_row
  by_cases c1 : b2i (0 ≤ r ∧ r ≤ 5) = 0
  · rw [if_pos c1, if_pos c1]
    exact sm_v h
  rw [if_neg c1, if_neg c1]
  obtain ⟨qr, vr⟩ := cl_lt (N := 6) (by decide) c1
  by_cases c2 : n ≤ 60
  · rw [if_pos c2, if_pos c2]
    by_cases c3 : 0 ≤ n
    · rw [if_pos c3, if_pos c3]
      generalize r.toNatClampNeg = q at qr
      obtain ⟨m, hm, rfl⟩ := nI_of2 (M := 60) (n := 60) (by decide) (Int32.not_lt.mpr c3) c2
      rw [nI_clamp (by omega)]
      have f1 : ∀ e, e ≠ 104 + 2 * q → e ≠ 104 + 2 * q + 1 → nuNew C (104 + 2 * q) m e = C e := fun e h1 h2 => nuN_off h1 h2
      have f2 : ∀ e, e ≠ 202 → e ≠ 203 → flw (up2 M 202 q (nI m)) 203 (60 * q) 60 (fun _ => 0) e = M e := fun e h1 h2 => by rw [flw_off h2, up2_off h1]
      show Same C M (nI m, nuNew C (104 + 2 * q) m) (nI m, flw (up2 M 202 q (nI m)) 203 (60 * q) 60 (fun _ => 0))
      refine sm_mk (Rel_row (q := q) qr h (fun e h1 h2 => f1 e (by omega) (by omega)) (by rw [f1 0 (by omega) (by omega)]) (fun e he => f2 e (by omega) (by omega)) (fun j hj => by rw [f2 217 (by decide) (by decide)]) (by rw [f2 200 (by decide) (by decide)]) ?_ ?_ ?_ ?_) (fun e he => f1 e (by omega) (by omega)) (fun e he => f2 e (by omega) (by omega))
      · intro k hk ek
        rw [flw_off (by decide), u2_j ek]
      · intro k i hk ek hi
        rw [flw_out (by omega), up2_off (by decide)]
      · refine RowR.mk ⟨m, hm, nu_s.1⟩ (Or.inr ⟨nu_s.2, ?_, ?_⟩)
        · rw [flw_off (by decide), u2_s, nu_s.1]
        · rw [nu_s.1, nI_clamp (by omega)]
          intro i hi
          rw [nu_p hi, flw_in (by omega)]
      · exact fnd_0 h.fnd (f1 0 (by omega) (by omega)) (f1 102 (by omega) (by omega)) (f2 200 (by decide) (by decide)) (f2 201 (by decide) (by decide))
    · rw [if_neg c3, if_neg c3]
      exact sm_5 h
  · rw [if_neg c2, if_neg c2]
    exact sm_v h
theorem K_tear {r : Int32} (h : RelP C M) : Same C M (f_X11_tear C r) (f_X12_tear M r) := by
  unfold f_X11_tear f_X12_tear
  by_cases c1 : b2i (0 ≤ r ∧ r ≤ 5) = 0
  · rw [if_pos c1, if_pos c1]
    exact sm_v h
  rw [if_neg c1, if_neg c1]
  obtain ⟨qr, vr⟩ := cl_lt (N := 6) (by decide) c1
  have rr := h.row _ qr
  by_cases c2 : C (104 + 2 * r.toNatClampNeg) 2 = 0
  · rw [if_pos c2, if_neg (row_0 rr c2).1]
    exact sm_1 h
  obtain ⟨t1, t2, ⟨m, hm, em⟩, t3, -, t4⟩ := row_1 rr c2
  rw [if_neg c2, if_pos t3]
  generalize r.toNatClampNeg = q at qr rr c2 t1 t2 em t3 t4
  show Same C M (1, up2 C (104 + 2 * q) 2 0) (1, up2 M 202 q (-1))
  refine sm_mk (Rel_row (q := q) qr h (fun e h1 h2 => up2_off (by omega)) (by rw [up2_off (by omega)]) (fun e he => up2_off (by omega)) (fun j hj => by rw [up2_off (by decide)]) (by rw [up2_off (by decide)]) ?_ ?_ ?_ ?_) (fun e he => up2_off (by omega)) (fun e he => up2_off (by omega))
  · intro k hk ek
    rw [u2_j ek]
  · intro k i hk ek hi
    rw [up2_off (by decide)]
  · exact RowR.mk ⟨m, hm, by rw [u2_j (by decide)]; exact em⟩ (Or.inl ⟨u2_s, u2_s⟩)
  · exact fnd_0 h.fnd (up2_off (by omega)) (up2_off (by omega)) (up2_off (by decide)) (up2_off (by decide))
theorem K_lay {r i v : Int32} (h : RelP C M) : Same C M (f_X11_lay C r i v) (f_X12_lay M r i v) := by
  unfold f_X11_lay f_X12_lay
  by_cases c1 : b2i (0 ≤ r ∧ r ≤ 5) = 0
  · rw [if_pos c1, if_pos c1]
    exact sm_v h
  rw [if_neg c1, if_neg c1]
  obtain ⟨qr, vr⟩ := cl_lt (N := 6) (by decide) c1
  have rr := h.row _ qr
  by_cases c2 : C (104 + 2 * r.toNatClampNeg) 2 = 0
  · rw [if_pos c2, if_neg (row_0 rr c2).1]
    exact sm_1 h
  obtain ⟨t1, t2, ⟨m, hm, em⟩, t3, -, t4⟩ := row_1 rr c2
  rw [if_neg c2, if_pos t3]
  have eq := in_lt (i := i) (by omega) em t2
  by_cases c3 : b2i (0 ≤ i ∧ i < C (104 + 2 * r.toNatClampNeg) 1) = 0
  · rw [if_pos c3, if_pos (eq.mp c3)]
    exact sm_2 h
  rw [if_neg c3, if_neg (fun z => c3 (eq.mpr z))]
  obtain ⟨v1, v2, v3⟩ := row_v rfl vr hm em t4 c3
  rw [← v1, v2]
  have vi := in_b em hm (by decide) c3
  have i60 := (vpn vi).1
  generalize r.toNatClampNeg = q at qr rr c2 t1 t2 em t3 t4 v3
  generalize i.toNatClampNeg = j at v3 i60
  have f1 : ∀ e, e ≠ 0 → e ≠ 104 + 2 * q + 1 → up2 (up2 C 0 18 (C (104 + 2 * q + 1) j)) (104 + 2 * q + 1) j v e = C e := fun e h1 h2 => by rw [up2_off h2, up2_off h1]
  have f2 : ∀ e, e ≠ 200 → e ≠ 203 → up2 (up2 M 203 (60 * q + j) v) 200 2 (C (104 + 2 * q + 1) j) e = M e := fun e h1 h2 => by rw [up2_off h1, up2_off h2]
  show Same C M (1, up2 (up2 C 0 18 (C (104 + 2 * q + 1) j)) (104 + 2 * q + 1) j v) (1, up2 (up2 M 203 (60 * q + j) v) 200 2 (C (104 + 2 * q + 1) j))
  refine sm_mk (Rel_row (q := q) qr h (fun e h1 h2 => f1 e (by omega) (by omega)) (by rw [up2_off (by omega), u2_j (by decide)]) (fun e he => f2 e (by omega) (by omega)) (fun j hj => by rw [f2 217 (by decide) (by decide)]) (by rw [u2_j (by decide), up2_off (by decide)]) ?_ ?_ ?_ ?_) (fun e he => f1 e (by omega) (by omega)) (fun e he => f2 e (by omega) (by omega))
  · intro k hk ek
    rw [f2 202 (by decide) (by decide)]
  · intro k i hk ek hi
    rw [up2_off (by decide), u2_j (by omega)]
  · refine RowR.mk ⟨m, hm, by rw [f1 _ (by omega) (by omega)]; exact em⟩ (Or.inr ⟨by rw [f1 _ (by omega) (by omega)]; exact t1, by rw [f1 _ (by omega) (by omega), f2 202 (by decide) (by decide)]; exact t2, ?_⟩)
    rw [f1 (104 + 2 * q) (by omega) (by omega)]
    intro k hk
    by_cases ek : k = j
    · subst ek
      rw [u2_s, up2_off (by decide), u2_s]
    · rw [u2_j ek, up2_off (by omega), up2_off (by decide), u2_j (by omega)]
      exact t4 k hk
  · refine FndR.mk ?_ ?_ ?_
    · rw [up2_off (by omega), u2_j (by decide), u2_j (by decide), up2_off (by decide)]
      exact h.fnd.la
    · rw [f1 102 (by decide) (by omega), f2 201 (by decide) (by decide)]
      exact h.fnd.co
    · rw [up2_off (by omega), u2_s, u2_s]
end
end R7
