section R8
variable {G : Gp} {I : Im} {L : Nat → Nat → Int64} {t : Nat}
section
variable {C M D E : Im}
theorem le_s {a n : Nat} : leNew C a n a 1 = nI n ∧ leNew C a n a 2 = 1 := by
  unfold leNew
  rw [fill_off (by omega), fill_off (by omega), u2_j (by decide), u2_s, u2_s]
  exact ⟨rfl, rfl⟩
theorem le_p {a n j : Nat} (h : j < n) : leNew C a n (a + 1) j = 32 := by
  unfold leNew
  exact fill_at h
theorem le_off {a n e : Nat} (h : e ≠ a) (h1 : e ≠ a + 1) : leNew C a n e = C e := by
  funext j
  unfold leNew
  rw [fill_off h1, up2_off h, up2_off h]
theorem b32 : (32 : Int32).toInt8.toInt32 = 32 := by decide
theorem K_text {r n : Int32} (h : RelP C M) : Same C M (f_X11_text C r n) (f_X12_text M r n) := by
  unfold f_X11_text f_X12_text
  by_cases c1 : b2i (0 ≤ r ∧ r ≤ 3) = 0
  · rw [if_pos c1, if_pos c1]
    exact sm_v h
  rw [if_neg c1, if_neg c1]
  obtain ⟨qr, vr⟩ := cl_lt (N := 4) (by decide) c1
  by_cases c2 : n ≤ 100
  · rw [if_pos c2, if_pos c2]
    by_cases c3 : 0 ≤ n
    · rw [if_pos c3, if_pos c3, b32]
      generalize r.toNatClampNeg = q at qr
      obtain ⟨m, hm, rfl⟩ := nI_of2 (M := 100) (n := 100) (by decide) (Int32.not_lt.mpr c3) c2
      rw [nI_clamp (by omega)]
      have f1 : ∀ e, e ≠ 116 + 2 * q → e ≠ 116 + 2 * q + 1 → leNew C (116 + 2 * q) m e = C e := fun e h1 h2 => le_off h1 h2
      have f2 : ∀ e, e ≠ 205 → e ≠ 206 → flw (up2 M 205 q (nI m)) 206 (100 * q) 100 (fun _ => 32) e = M e := fun e h1 h2 => by rw [flw_off h2, up2_off h1]
      show Same C M (nI m, leNew C (116 + 2 * q) m) (nI m, flw (up2 M 205 q (nI m)) 206 (100 * q) 100 (fun _ => 32))
      refine sm_mk (Rel_txt (q := q) qr h (fun e h1 h2 => f1 e (by omega) (by omega)) (by rw [f1 0 (by omega) (by omega)]) (fun e he => f2 e (by omega) (by omega)) (fun j hj => by rw [f2 217 (by decide) (by decide)]) (by rw [f2 200 (by decide) (by decide)]) ?_ ?_ ?_ ?_ ?_) (fun e he => f1 e (by omega) (by omega)) (fun e he => f2 e (by omega) (by omega))
      · intro k hk ek
        rw [flw_off (by decide), u2_j ek]
      · intro k i hk ek hi
        rw [flw_out (by omega), up2_off (by decide)]
      · refine TxtR.mk ⟨m, hm, le_s.1⟩ (Or.inr ⟨le_s.2, ?_, ?_⟩)
        · rw [flw_off (by decide), u2_s, le_s.1]
        · rw [le_s.1, nI_clamp (by omega)]
          intro i hi
          rw [le_p hi, flw_in (by omega)]
      · exact fnd_0 h.fnd (f1 0 (by omega) (by omega)) (f1 102 (by omega) (by omega)) (f2 200 (by decide) (by decide)) (f2 201 (by decide) (by decide))
      · intro j hj
        by_cases c : 100 * q ≤ j ∧ j < 100 * q + 100
        · rw [show j = 100 * q + (j - 100 * q) by omega, flw_in (by omega)]
          decide
        · rw [flw_out (by omega), up2_off (by decide)]
          exact h.bts j hj
    · rw [if_neg c3, if_neg c3]
      exact sm_5 h
  · rw [if_neg c2, if_neg c2]
    exact sm_v h
theorem txt_0 {q : Nat} (r : TxtR C M q) (h : C (116 + 2 * q) 2 = 0) : ¬ 0 ≤ M 205 q ∧ M 205 q < 0 := by
  rcases r.th with z | z
  · rw [z.2]
    decide
  · rw [z.1] at h
    exact absurd h (by decide)
theorem txt_1 {q : Nat} (r : TxtR C M q) (h : ¬ C (116 + 2 * q) 2 = 0) : C (116 + 2 * q) 2 = 1 ∧ M 205 q = C (116 + 2 * q) 1 ∧ (∃ m, m ≤ 100 ∧ C (116 + 2 * q) 1 = nI m) ∧ 0 ≤ M 205 q ∧ ¬ M 205 q < 0 ∧ ∀ i, i < (C (116 + 2 * q) 1).toNatClampNeg → C (116 + 2 * q + 1) i = M 206 (100 * q + i) := by
  rcases r.th with z | z
  · exact absurd z.1 h
  · obtain ⟨m, hm, e⟩ := r.sz
    have h0 : 0 ≤ M 205 q := by rw [z.2.1, e]; exact nI_pos' (by omega)
    exact ⟨z.1, z.2.1, r.sz, h0, Int32.not_lt.mpr h0, z.2.2⟩
theorem by_r {v : Int32} : -128 ≤ v.toInt8.toInt32 ∧ v.toInt8.toInt32 ≤ 127 := by
  rw [Int32.le_iff_toInt_le, Int32.le_iff_toInt_le, Int8.toInt_toInt32, (by decide : (-128 : Int32).toInt = -128), (by decide : (127 : Int32).toInt = 127)]
  have h1 := Int8.le_toInt v.toInt8
  have h2 := Int8.toInt_le v.toInt8
  constructor
  · exact h1
  · exact h2
theorem K_put {r i v : Int32} (h : RelP C M) : Same C M (f_X11_put C r i v) (f_X12_put M r i v) := by
  unfold f_X11_put f_X12_put
  by_cases c1 : b2i (0 ≤ r ∧ r ≤ 3) = 0
  · rw [if_pos c1, if_pos c1]
    exact sm_v h
  rw [if_neg c1, if_neg c1]
  obtain ⟨qr, vr⟩ := cl_lt (N := 4) (by decide) c1
  have rr := h.txt _ qr
  by_cases c2 : C (116 + 2 * r.toNatClampNeg) 2 = 0
  · rw [if_pos c2, if_neg (txt_0 rr c2).1]
    exact sm_1 h
  obtain ⟨t1, t2, ⟨m, hm, em⟩, t3, -, t4⟩ := txt_1 rr c2
  rw [if_neg c2, if_pos t3]
  have eq := in_lt (i := i) (by omega) em t2
  by_cases c3 : b2i (0 ≤ i ∧ i < C (116 + 2 * r.toNatClampNeg) 1) = 0
  · rw [if_pos c3, if_pos (eq.mp c3)]
    exact sm_2 h
  rw [if_neg c3, if_neg (fun z => c3 (eq.mpr z))]
  have vi := in_b em hm (by decide) c3
  have i100 := (vpn vi).1
  have v3 : i.toNatClampNeg < m := by
    have h1 := b2i_n0.mp c3
    rw [em, (vpn vi).2] at h1
    exact (nI_ltI (by omega) (by omega)).mp h1.2
  rw [(ixm (c := 100) (C := 100) (R := 4) rfl vr vi (by decide)).2]
  have ev := t4 i.toNatClampNeg (by rw [em, nI_clamp (by omega)]; exact v3)
  generalize r.toNatClampNeg = q at qr rr c2 t1 t2 em t3 t4 ev
  generalize i.toNatClampNeg = j at v3 i100 ev
  rw [← ev, Int32.add_comm]
  show Same C M (1000 + C (116 + 2 * q + 1) j, up2 C (116 + 2 * q + 1) j v.toInt8.toInt32.toInt8.toInt32) (1000 + C (116 + 2 * q + 1) j, up2 M 206 (100 * q + j) v.toInt8.toInt32.toInt8.toInt32)
  refine sm_mk (Rel_txt (q := q) qr h (fun e h1 h2 => up2_off (by omega)) (by rw [up2_off (by omega)]) (fun e he => up2_off (by omega)) (fun j hj => by rw [up2_off (by decide)]) (by rw [up2_off (by decide)]) ?_ ?_ ?_ ?_ ?_) (fun e he => up2_off (by omega)) (fun e he => up2_off (by omega))
  · intro k hk ek
    rw [up2_off (by decide)]
  · intro k i hk ek hi
    rw [u2_j (by omega)]
  · refine TxtR.mk ⟨m, hm, by rw [up2_off (by omega)]; exact em⟩ (Or.inr ⟨by rw [up2_off (by omega)]; exact t1, by rw [up2_off (show (205 : Nat) ≠ 206 by decide), up2_off (show 116 + 2 * q ≠ 116 + 2 * q + 1 by omega)]; exact t2, ?_⟩)
    rw [up2_off (show 116 + 2 * q ≠ 116 + 2 * q + 1 by omega)]
    intro k hk
    by_cases ek : k = j
    · subst ek
      rw [u2_s, u2_s]
    · rw [u2_j ek, u2_j (by omega)]
      exact t4 k hk
  · exact fnd_0 h.fnd (up2_off (by omega)) (up2_off (by omega)) (up2_off (by decide)) (up2_off (by decide))
  · intro k hk
    by_cases ek : k = 100 * q + j
    · rw [ek, u2_s]
      exact by_r
    · rw [u2_j ek]
      exact h.bts k hk
theorem K_leave {s : Int32} (h : RelP C M) : Same C M (f_X11_leave C s) (f_X12_leave M s) := by
  unfold f_X11_leave f_X12_leave
  by_cases c1 : b2i (0 ≤ s ∧ s ≤ 2) = 0
  · rw [if_pos c1, if_pos c1]
    exact sm_v h
  rw [if_neg c1, if_neg c1]
  obtain ⟨qs, vs⟩ := cl_lt (N := 3) (by decide) c1
  have rr := h.shp _ qs
  rw [rr.e]
  by_cases c2 : M 214 s.toNatClampNeg = 0
  · rw [if_pos c2, if_pos c2]
    exact sm_v h
  rw [if_neg c2, if_neg c2]
  generalize s.toNatClampNeg = q at qs rr c2
  show Same C M (1, up2 C (144 + q) 0 0) (1, up2 M 214 q 0)
  refine sm_mk (Rel_shp (q := q) qs h (fun e h1 h2 => up2_off (by omega)) (by rw [up2_off (by omega)]) (fun e he => up2_off (by omega)) (fun j hj => by rw [up2_off (by decide)]) (by rw [up2_off (by decide)]) ?_ ?_ ?_ ?_) (fun e he => up2_off (by omega)) (fun e he => up2_off (by omega))
  · intro k hk ek
    rw [u2_j ek]
  · intro k i hk ek hi
    rw [up2_off (by decide)]
  · exact ShpR.mk (Or.inl u2_s) (by rw [u2_s, u2_s]) (fun z => absurd u2_s z)
  · exact fnd_0 h.fnd (up2_off (by omega)) (up2_off (by omega)) (up2_off (by decide)) (up2_off (by decide))
theorem rng_n {x lo hi : Int32} {a b : Nat} (hlo : lo = nI a) (hhi : hi = nI b) (hb : b < 2 ^ 31) (ha : a ≤ b) (h : ¬ b2i (lo ≤ x ∧ x ≤ hi) = 0) : ∃ k, a ≤ k ∧ k ≤ b ∧ x = nI k := by
  have h1 := b2i_n0.mp h
  subst hlo hhi
  obtain ⟨j, hj, rfl⟩ := nI_of (Int32.not_lt.mpr (Int32.le_trans (nI_pos' (by omega)) h1.1))
  exact ⟨j, (nI_leI (by omega) hj).mp h1.1, (nI_leI hj hb).mp h1.2, rfl⟩
theorem bo_b {a : Nat} {c w g l p : Int32} : boBuild C a c w g l p a 0 = 1 ∧ boBuild C a c w g l p a 1 = c ∧ boBuild C a c w g l p a 2 = w ∧ boBuild C a c w g l p a 3 = g ∧ boBuild C a c w g l p a 4 = l ∧ boBuild C a c w g l p a 5 = p := by
  unfold boBuild
  simp [u2_b]
theorem bo_o {a e : Nat} {c w g l p : Int32} (h : e ≠ a) : boBuild C a c w g l p e = C e := by
  unfold boBuild
  rw [up2_off h, up2_off h, up2_off h, up2_off h, up2_off h, up2_off h]
def shI (M : Im) (q : Nat) (c w g l p : Int32) : Im := up2 (up2 (up2 (up2 (up2 (up2 M 215 (5 * q) c) 215 (5 * q + 1) w) 215 (5 * q + 2) g) 215 (5 * q + 3) l) 215 (5 * q + 4) p) 214 q 1
theorem sh_o {q e : Nat} {c w g l p : Int32} (h : e ≠ 214) (h2 : e ≠ 215) : shI M q c w g l p e = M e := by
  unfold shI
  rw [up2_off h, up2_off h2, up2_off h2, up2_off h2, up2_off h2, up2_off h2]
theorem sh_v {q : Nat} {c w g l p : Int32} : shI M q c w g l p 215 (5 * q) = c ∧ shI M q c w g l p 215 (5 * q + 1) = w ∧ shI M q c w g l p 215 (5 * q + 2) = g ∧ shI M q c w g l p 215 (5 * q + 3) = l ∧ shI M q c w g l p 215 (5 * q + 4) = p := by
  unfold shI
  rw [up2_off (by decide)]
  simp [u2_b]
theorem K_ship {s c w g l p : Int32} (h : RelP C M) : Same C M (f_X11_ship C s c w g l p) (f_X12_ship M s c w g l p) := by
  unfold f_X11_ship f_X12_ship
  by_cases c1 : b2i (0 ≤ s ∧ s ≤ 2) = 0
  · rw [if_pos c1, if_pos c1]
    exact sm_v h
  rw [if_neg c1, if_neg c1]
  by_cases c2 : b2i (0 ≤ c ∧ c ≤ 15) = 0
  · rw [if_pos c2, if_pos c2]
    exact sm_v h
  rw [if_neg c2, if_neg c2]
  by_cases c3 : b2i (1 ≤ w ∧ w ≤ 9) = 0
  · rw [if_pos c3, if_pos c3]
    exact sm_v h
  rw [if_neg c3, if_neg c3]
  by_cases c4 : b2i (1 ≤ g ∧ g ≤ 9) = 0
  · rw [if_pos c4, if_pos c4]
    exact sm_v h
  rw [if_neg c4, if_neg c4]
  by_cases c5 : b2i (0 ≤ l ∧ l ≤ 30) = 0
  · rw [if_pos c5, if_pos c5]
    exact sm_v h
  rw [if_neg c5, if_neg c5]
  by_cases c6 : b2i (1 ≤ p ∧ p ≤ 9999) = 0
  · rw [if_pos c6, if_pos c6]
    exact sm_v h
  rw [if_neg c6, if_neg c6]
  obtain ⟨qs, vs⟩ := cl_lt (N := 3) (by decide) c1
  obtain ⟨k2, -, b2, e2⟩ := rng_n (a := 0) (b := 15) rfl rfl (by decide) (by decide) c2
  obtain ⟨k3, a3, b3, e3⟩ := rng_n (a := 1) (b := 9) rfl rfl (by decide) (by decide) c3
  obtain ⟨k4, a4, b4, e4⟩ := rng_n (a := 1) (b := 9) rfl rfl (by decide) (by decide) c4
  obtain ⟨k5, -, b5, e5⟩ := rng_n (a := 0) (b := 30) rfl rfl (by decide) (by decide) c5
  obtain ⟨k6, a6, b6, e6⟩ := rng_n (a := 1) (b := 9999) rfl rfl (by decide) (by decide) c6
  have ix : ∀ j, j < 5 → (5 * s + nI j).toNatClampNeg = 5 * s.toNatClampNeg + j := fun j hj => by
    rw [(ixm (c := 5) (C := 5) (R := 3) rfl vs (i := nI j) (vp_in_nI hj (by decide)) (by decide)).2, nI_clamp (by omega)]
  rw [(ixz (c := 5) (C := 5) (R := 3) rfl (by decide) vs (by decide)).2, show (5 * s + 1).toNatClampNeg = 5 * s.toNatClampNeg + 1 from ix 1 (by decide), show (5 * s + 2).toNatClampNeg = 5 * s.toNatClampNeg + 2 from ix 2 (by decide), show (5 * s + 3).toNatClampNeg = 5 * s.toNatClampNeg + 3 from ix 3 (by decide), show (5 * s + 4).toNatClampNeg = 5 * s.toNatClampNeg + 4 from ix 4 (by decide)]
  generalize s.toNatClampNeg = q at qs
  show Same C M (1, boBuild C (144 + q) c w g l p) (1, shI M q c w g l p)
  refine sm_mk (Rel_shp (q := q) qs h (fun e h1 h2 => bo_o (by omega)) (by rw [bo_o (by omega)]) (fun e he => sh_o (by omega) (by omega)) (fun j hj => by rw [sh_o (by decide) (by decide)]) (by rw [sh_o (by decide) (by decide)]) ?_ ?_ ?_ ?_) (fun e he => bo_o (by omega)) (fun e he => sh_o (by omega) (by omega))
  · intro k hk ek
    unfold shI
    rw [u2_j ek, up2_off (by decide), up2_off (by decide), up2_off (by decide), up2_off (by decide), up2_off (by decide)]
  · intro k i hk ek hi
    unfold shI
    rw [up2_off (by decide), u2_j (by omega), u2_j (by omega), u2_j (by omega), u2_j (by omega), u2_j (by omega)]
  · obtain ⟨v0, v1, v2, v3, v4⟩ := sh_v (M := M) (q := q) (c := c) (w := w) (g := g) (l := l) (p := p)
    obtain ⟨w0, w1, w2, w3, w4, w5⟩ := bo_b (C := C) (a := 144 + q) (c := c) (w := w) (g := g) (l := l) (p := p)
    have z1 : shI M q c w g l p 214 q = 1 := u2_s
    refine ShpR.mk (Or.inr z1) (by rw [z1, w0]) (fun _ => ⟨?_, ⟨k2, by omega, by rw [v0]; exact e2⟩, ⟨k3, a3, b3, by rw [v1]; exact e3⟩, ⟨k4, a4, b4, by rw [v2]; exact e4⟩, ⟨k5, b5, by rw [v3]; exact e5⟩, ⟨k6, a6, b6, by rw [v4]; exact e6⟩⟩)
    intro j hj
    rcases (by omega : j = 0 ∨ j = 1 ∨ j = 2 ∨ j = 3 ∨ j = 4) with rfl | rfl | rfl | rfl | rfl
    · exact w1.trans v0.symm
    · exact w2.trans v1.symm
    · exact w3.trans v2.symm
    · exact w4.trans v3.symm
    · exact w5.trans v4.symm
  · exact fnd_0 h.fnd (bo_o (by omega)) (bo_o (by omega)) (sh_o (by decide) (by decide)) (sh_o (by decide) (by decide))
end
end R8
