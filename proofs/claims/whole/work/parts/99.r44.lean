section R44
variable {G : Gp} {I : Im} {L : Nat → Nat → Int64} {t : Nat}
section
variable {C M D E : Im}
theorem dgN_c {f g : Nat → Int64 → Int64} {h : Int64} : ∀ k, (∀ i, i < k → ∀ x, f i x = g i x) → dgN f h k = dgN g h k := by
  intro k
  induction k with
  | zero =>
    intro _
    rw [dgN_0, dgN_0]
  | succ k ih =>
    intro e
    rw [dgN_s, dgN_s, ih (fun i hi => e i (by omega)), e k (by omega)]
theorem mixL_c {f g : Nat → Int32} {h : Int64} : ∀ k, (∀ i, i < k → f i = g i) → mixL f h k = mixL g h k := by
  intro k
  induction k with
  | zero => intro _; rfl
  | succ k ih =>
    intro e
    show 31 * mixL f h k + (f k).toInt64 = 31 * mixL g h k + (g k).toInt64
    rw [ih (fun i hi => e i (by omega)), e k (by omega)]
theorem mixP_c {f g f' g' : Nat → Int32} {h : Int64} : ∀ k, (∀ i, i < k → f i = f' i ∧ g i = g' i) → mixP f g h k = mixP f' g' h k := by
  intro k
  induction k with
  | zero => intro _; rfl
  | succ k ih =>
    intro e
    show 31 * (31 * mixP f g h k + (f k).toInt64) + (g k).toInt64 = 31 * (31 * mixP f' g' h k + (f' k).toInt64) + (g' k).toInt64
    rw [ih (fun i hi => e i (by omega)), (e k (by omega)).1, (e k (by omega)).2]
theorem mixP_L {f g s : Nat → Int32} {h : Int64} : ∀ k, (∀ i, i < k → f i = s (2 * i) ∧ g i = s (2 * i + 1)) → mixP f g h k = mixL s h (2 * k) := by
  intro k
  induction k with
  | zero => intro _; rfl
  | succ k ih =>
    intro e
    show 31 * (31 * mixP f g h k + (f k).toInt64) + (g k).toInt64 = 31 * (31 * mixL s h (2 * k) + (s (2 * k)).toInt64) + (s (2 * k + 1)).toInt64
    rw [ih (fun i hi => e i (by omega)), (e k (by omega)).1, (e k (by omega)).2]
theorem dig_har {q : Nat} {x : Int64} (h : RelP C M) (hq : q < 4) : baMix C (124 + 2 * q) (C (124 + 2 * q) 2).toNatClampNeg x = hbX M q x := by
  unfold baMix hbX
  rw [(h.har q hq).e]
  by_cases c : M 207 q = 0
  · rw [if_pos c, if_pos c]
  rw [if_neg c, if_neg c]
  obtain ⟨⟨n, mo, hb⟩, -⟩ := (h.har q hq).th c
  have h0 : M 208 (21 * q) = nI n := hb.h0
  have n16 := hb.n16
  have hce := hb.ce
  rw [hce, h0, nI_clamp (by omega)]
  refine mixL_c (5 + n) (fun j hj => ?_)
  unfold facF
  by_cases j5 : j < 5
  · rcases (by omega : j = 0 ∨ j = 1 ∨ j = 2 ∨ j = 3 ∨ j = 4) with rfl | rfl | rfl | rfl | rfl
    · rw [if_pos rfl]
      exact hce.trans h0.symm
    · rw [if_neg (by decide), if_pos rfl]
      exact hb.mu.trans hb.h1.symm
    · rw [if_neg (by decide), if_neg (by decide), if_pos rfl]
      exact hb.wi
    · rw [if_neg (by decide), if_neg (by decide), if_neg (by decide), if_pos rfl]
      exact hb.ru
    · rw [if_neg (by decide), if_neg (by decide), if_neg (by decide), if_neg (by decide), if_pos rfl]
      exact hb.wa
  · rw [if_neg (by omega), if_neg (by omega), if_neg (by omega), if_neg (by omega), if_neg (by omega), if_pos (show hasC C (124 + 2 * q) (nI (j - 5)) from ⟨nI_pos' (by omega), by rw [hce]; exact nI_lt (by omega) (by omega), nI_lt (b := 16) (by omega) (by decide)⟩), hb.de _ (by omega), show 5 + (j - 5) = j by omega]
theorem dig_sea {q : Nat} {x : Int64} (h : RelP C M) (hq : q < 4) : swMix C (132 + 3 * q) (C (132 + 3 * q) 3).toNatClampNeg x = seX M q x := by
  unfold swMix seX
  rw [(h.sea q hq).e]
  by_cases c : M 209 q = 0
  · rw [if_pos c, if_pos c]
  rw [if_neg c, if_neg c]
  obtain ⟨n, hs, em, -⟩ := (h.sea q hq).th c
  have c4 := hs.c4
  rw [hs.ct, em, nI_clamp (by omega)]
  exact mixP_L n (fun i hi => ⟨(hs.be i hi).1, (hs.be i hi).2.1⟩)
theorem dig_shp {q : Nat} {x : Int64} (h : RelP C M) (hq : q < 3) : boMix C (144 + q) x = shX M q x := by
  unfold boMix shX
  rw [(h.shp q hq).e]
  by_cases c : M 214 q = 0
  · rw [if_pos c, if_pos c]
  rw [if_neg c, if_neg c]
  obtain ⟨x0, -⟩ := (h.shp q hq).th c
  have e0 : C (144 + q) 1 = M 215 (5 * q + 0) := x0 0 (by decide)
  have e1 : C (144 + q) 2 = M 215 (5 * q + 1) := x0 1 (by decide)
  have e2 : C (144 + q) 3 = M 215 (5 * q + 2) := x0 2 (by decide)
  have e3 : C (144 + q) 4 = M 215 (5 * q + 3) := x0 3 (by decide)
  have e4 : C (144 + q) 5 = M 215 (5 * q + 4) := x0 4 (by decide)
  rw [e0, e1, e2, e3, e4]
  rfl
theorem dig_wrk {x : Int64} (h : RelP C M) : ∀ k, k ≤ (M 200 37).toNatClampNeg → dgN (fun q h => woMix C (147 + q) h) x k = mixL (M 222) x (4 * k) := by
  intro k
  induction k with
  | zero =>
    intro _
    rw [dgN_0]
    rfl
  | succ k ih =>
    intro hk
    obtain ⟨x0, -⟩ := h.wrk.wk k (by omega)
    have e0 : C (147 + k) 0 = M 222 (4 * k + 0) := x0 0 (by decide)
    have e1 : C (147 + k) 1 = M 222 (4 * k + 1) := x0 1 (by decide)
    have e2 : C (147 + k) 2 = M 222 (4 * k + 2) := x0 2 (by decide)
    have e3 : C (147 + k) 3 = M 222 (4 * k + 3) := x0 3 (by decide)
    rw [dgN_s, ih (by omega)]
    unfold woMix
    rw [e0, e1, e2, e3]
    rfl
theorem dig_nig {x : Int64} (h : RelP C M) : niMx C x = ntX M x := by
  unfold niMx ntX
  have e3 : C 8 3 = M 216 0 := h.nig.e
  rw [e3]
  by_cases c : M 216 0 = 0
  · rw [if_pos c, if_pos c]
  rw [if_neg c, if_neg c]
  obtain ⟨⟨n, mo, cc, hN⟩, -, -, hB, -⟩ := h.nig.th c
  obtain ⟨h1, h2, h3, h4, h5⟩ := hN
  have n16 := h2.1.2
  have n3 := h2.1.1
  have e10 : C 10 2 = nI n := h3
  have e0 : M 217 0 = nI n := h2.2.1
  rw [e10, e0, nI_clamp (by omega)]
  unfold niMix
  rw [e3, if_neg c]
  have em : ∀ y, mixB C 8 y 3 = dgN (nsX (rdw M 0)) y 3 := fun y => by
    have one : ∀ s, s < 3 → ∀ y, boMixR C (8 + 13 + s) y = nsX (rdw M 0) s y := fun s hs y => by
      unfold boMixR nsX
      rcases hB n h3 n16 s hs with ⟨z1, z2⟩ | ⟨z1, z2⟩
      · rw [if_pos z1, if_neg (by rw [z2]; decide)]
      · rw [if_neg (by rw [z1]; decide), if_pos z2.2.1]
        have b := z2.1
        have e6 : C (8 + 13 + s) 6 = rdw M 0 (95 + 10 * s + 6 + 0) := b 6 (by decide) (by decide)
        have e7 : C (8 + 13 + s) 7 = rdw M 0 (95 + 10 * s + 6 + 1) := b 7 (by decide) (by decide)
        have e8 : C (8 + 13 + s) 8 = rdw M 0 (95 + 10 * s + 6 + 2) := b 8 (by decide) (by decide)
        have e9 : C (8 + 13 + s) 9 = rdw M 0 (95 + 10 * s + 6 + 3) := b 9 (by decide) (by decide)
        rw [e6, e7, e8, e9]
        rfl
    rw [dgN_s, dgN_s, dgN_s, dgN_0, ← one 0 (by decide), ← one 1 (by decide), ← one 2 (by decide)]
    rfl
  rw [em]
  have ep : mixP (C (8 + 7)) (C (8 + 8)) x n = mixP (fun k => M 217 (31 + k)) (fFr (rdw M 0) n) x n := mixP_c n (fun i hi => by
    have a1 : C (8 + 7) i = rdw M 0 (31 + i) := h1.he i hi
    refine ⟨by rw [a1]; unfold rdw; rw [Nat.zero_add], ?_⟩
    unfold fFr
    by_cases l : i + 1 < n
    · rw [if_pos l]
      exact h1.fl i l
    · rw [if_neg l, show i = n - 1 by omega]
      exact h1.fz)
  rw [ep]
theorem dig_row {q : Nat} {x : Int64} (h : RelP C M) (hq : q < 6) : rowMix C (104 + 2 * q) (C (104 + 2 * q) 1).toNatClampNeg x = roX M q x := by
  unfold rowMix roX
  obtain ⟨m, hm, em⟩ := (h.row q hq).sz
  rcases (h.row q hq).th with ⟨e1, e2⟩ | ⟨e1, e2, e3⟩
  · rw [if_pos e1, e2]
    rfl
  · rw [em, nI_clamp (by omega)] at e3
    rw [if_neg (by rw [e1]; decide), e2, em, nI_clamp (by omega)]
    exact mixL_c m e3
theorem dig_txt {q : Nat} {x : Int64} (h : RelP C M) (hq : q < 4) : rowMix C (116 + 2 * q) (C (116 + 2 * q) 1).toNatClampNeg x = teX M q x := by
  unfold rowMix teX
  obtain ⟨m, hm, em⟩ := (h.txt q hq).sz
  rcases (h.txt q hq).th with ⟨e1, e2⟩ | ⟨e1, e2, e3⟩
  · rw [if_pos e1, e2]
    rfl
  · rw [em, nI_clamp (by omega)] at e3
    rw [if_neg (by rw [e1]; decide), e2, em, nI_clamp (by omega)]
    refine mixL_c m (fun i hi => ?_)
    unfold byF
    rw [if_pos hi]
    exact e3 i hi
theorem dig_eq (h : RelP C M) : f_X11_digest C = f_digest M := by
  unfold f_X11_digest f_digest bkX
  have e1 : ∀ x, dgN (fun q h => 31 * h + (f_X11_count C (nI q)).toInt64) x 8 = dgN (coX M) x 8 := fun x => dgN_c 8 (fun i hi y => by
    unfold coX
    rw [cnt_eq h (vp_in_nI hi (by decide))])
  rw [e1, dgN_c (g := hbX M) 4 (fun i hi y => dig_har h hi), dgN_c (g := seX M) 4 (fun i hi y => dig_sea h hi), dgN_c (g := shX M) 3 (fun i hi y => dig_shp h hi), h.wrk.e, dig_wrk h _ (Nat.le_refl _), dig_nig h, dgN_c (g := roX M) 6 (fun i hi y => dig_row h hi), dgN_c (g := teX M) 4 (fun i hi y => dig_txt h hi)]
end
end R44
