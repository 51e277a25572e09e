section R1
variable {G : Gp} {I : Im} {L : Nat → Nat → Int64} {t : Nat}
abbrev isW (N : Nat → Int32) (j : Nat) : Prop := N 4 >>> (nI j &&& 31) &&& 1 = 1
def opM (N : Nat → Int32) (j : Nat) : Int32 := if isW N j then 0 else if N (5 + j) < N (5 + j + 1) then N (5 + j) else N (5 + j + 1)
def WR (C : Im) (w : Nat) (N : Nat → Int32) (n mo c : Nat) : Prop := (C (w + 1) 4 = N 2) ∧ (C (w + 1) 5 = N 3) ∧ (C (w + 1) 3 = nI mo) ∧ (∀ j, j + 1 < n → C (w + 8) j = opM N j) ∧ (∀ j, j + 1 < n → isW N j → C (w + 7) j = 0) ∧ (∀ i, i < c → C (w + 4) i = N (22 + 2 * i) ∧ C (w + 5) i = N (23 + 2 * i) ∧ ¬ N (22 + 2 * i) ≤ 0) ∧ (C w 7 = N 30) ∧ (∀ j, j < n → C (w + 6) j = N (31 + j)) ∧ (∀ j, j + 1 < n → C (w + 7) j = N (47 + j)) ∧ (C (w + 7) (n - 1) = 0) ∧ (∀ j, j < n → C (w + 9) j = N (79 + j)) ∧ (∀ j, j < n → C (w + 10) j = N (63 + j))
theorem WR.wi {C : Im} {w : Nat} {N : Nat → Int32} {n mo c : Nat} (h : WR C w N n mo c) : C (w + 1) 4 = N 2 := h.1
theorem WR.ru {C : Im} {w : Nat} {N : Nat → Int32} {n mo c : Nat} (h : WR C w N n mo c) : C (w + 1) 5 = N 3 := h.2.1
theorem WR.mou {C : Im} {w : Nat} {N : Nat → Int32} {n mo c : Nat} (h : WR C w N n mo c) : C (w + 1) 3 = nI mo := h.2.2.1
theorem WR.op {C : Im} {w : Nat} {N : Nat → Int32} {n mo c : Nat} (h : WR C w N n mo c) : ∀ j, j + 1 < n → C (w + 8) j = opM N j := h.2.2.2.1
theorem WR.wa {C : Im} {w : Nat} {N : Nat → Int32} {n mo c : Nat} (h : WR C w N n mo c) : ∀ j, j + 1 < n → isW N j → C (w + 7) j = 0 := h.2.2.2.2.1
theorem WR.se {C : Im} {w : Nat} {N : Nat → Int32} {n mo c : Nat} (h : WR C w N n mo c) : ∀ i, i < c → C (w + 4) i = N (22 + 2 * i) ∧ C (w + 5) i = N (23 + 2 * i) ∧ ¬ N (22 + 2 * i) ≤ 0 := h.2.2.2.2.2.1
theorem WR.sec {C : Im} {w : Nat} {N : Nat → Int32} {n mo c : Nat} (h : WR C w N n mo c) : C w 7 = N 30 := h.2.2.2.2.2.2.1
theorem WR.he {C : Im} {w : Nat} {N : Nat → Int32} {n mo c : Nat} (h : WR C w N n mo c) : ∀ j, j < n → C (w + 6) j = N (31 + j) := h.2.2.2.2.2.2.2.1
theorem WR.fl {C : Im} {w : Nat} {N : Nat → Int32} {n mo c : Nat} (h : WR C w N n mo c) : ∀ j, j + 1 < n → C (w + 7) j = N (47 + j) := h.2.2.2.2.2.2.2.2.1
theorem WR.fz {C : Im} {w : Nat} {N : Nat → Int32} {n mo c : Nat} (h : WR C w N n mo c) : C (w + 7) (n - 1) = 0 := h.2.2.2.2.2.2.2.2.2.1
theorem WR.hi {C : Im} {w : Nat} {N : Nat → Int32} {n mo c : Nat} (h : WR C w N n mo c) : ∀ j, j < n → C (w + 9) j = N (79 + j) := h.2.2.2.2.2.2.2.2.2.2.1
theorem WR.lo {C : Im} {w : Nat} {N : Nat → Int32} {n mo c : Nat} (h : WR C w N n mo c) : ∀ j, j < n → C (w + 10) j = N (63 + j) := h.2.2.2.2.2.2.2.2.2.2.2
theorem WR.mk {C : Im} {w : Nat} {N : Nat → Int32} {n mo c : Nat} (wi : C (w + 1) 4 = N 2) (ru : C (w + 1) 5 = N 3) (mou : C (w + 1) 3 = nI mo) (op : ∀ j, j + 1 < n → C (w + 8) j = opM N j) (wa : ∀ j, j + 1 < n → isW N j → C (w + 7) j = 0) (se : ∀ i, i < c → C (w + 4) i = N (22 + 2 * i) ∧ C (w + 5) i = N (23 + 2 * i) ∧ ¬ N (22 + 2 * i) ≤ 0) (sec : C w 7 = N 30) (he : ∀ j, j < n → C (w + 6) j = N (31 + j)) (fl : ∀ j, j + 1 < n → C (w + 7) j = N (47 + j)) (fz : C (w + 7) (n - 1) = 0) (hi : ∀ j, j < n → C (w + 9) j = N (79 + j)) (lo : ∀ j, j < n → C (w + 10) j = N (63 + j)) : WR C w N n mo c := ⟨wi, ru, mou, op, wa, se, sec, he, fl, fz, hi, lo⟩
section
variable {C : Im} {w : Nat} {N : Nat → Int32} {n mo c : Nat}
theorem WR_of {D : Im} {M : Nat → Int32} (h : WR C w N n mo c) (e1 : D (w + 1) = C (w + 1)) (e4 : D (w + 4) = C (w + 4)) (e5 : D (w + 5) = C (w + 5)) (e0 : D w 7 = C w 7) (e6 : D (w + 6) = C (w + 6)) (e7 : D (w + 7) = C (w + 7)) (e8 : D (w + 8) = C (w + 8)) (e9 : D (w + 9) = C (w + 9)) (e10 : D (w + 10) = C (w + 10)) (hN : ∀ p, p < 95 → M p = N p) (hn : n ≤ 16) (hc : c ≤ 4) : WR D w M n mo c := by
  refine WR.mk ?_ ?_ ?_ ?_ ?_ ?_ ?_ ?_ ?_ ?_ ?_ ?_
  · rw [e1, hN 2 (by decide)]
    exact h.wi
  · rw [e1, hN 3 (by decide)]
    exact h.ru
  · rw [e1]
    exact h.mou
  · intro j hj
    rw [e8]
    unfold opM isW
    rw [hN 4 (by decide), hN (5 + j) (by omega), hN (5 + j + 1) (by omega)]
    exact h.op j hj
  · intro j hj hw
    rw [e7]
    unfold isW at hw
    rw [hN 4 (by decide)] at hw
    exact h.wa j hj hw
  · intro i hi
    rw [e4, e5, hN (22 + 2 * i) (by omega), hN (23 + 2 * i) (by omega)]
    exact h.se i hi
  · rw [e0, hN 30 (by decide)]
    exact h.sec
  · intro j hj
    rw [e6, hN (31 + j) (by omega)]
    exact h.he j hj
  · intro j hj
    rw [e7, hN (47 + j) (by omega)]
    exact h.fl j hj
  · rw [e7]
    exact h.fz
  · intro j hj
    rw [e9, hN (79 + j) (by omega)]
    exact h.hi j hj
  · intro j hj
    rw [e10, hN (63 + j) (by omega)]
    exact h.lo j hj
theorem lesser_c {a b : Int32} : (if a < b then a else b) = (if b < a then b else a) := by
  by_cases h : a < b
  · rw [if_pos h, if_neg (Int32.not_lt.mpr (Int32.le_of_lt h))]
  · rw [if_neg h]
    by_cases h2 : b < a
    · rw [if_pos h2]
    · rw [if_neg h2]
      exact Int32.le_antisymm (Int32.not_lt.mp h) (Int32.not_lt.mp h2)
theorem fl_eq (h : WR C w N n mo c) {j : Nat} (hj : j + 1 < n) : strG C w j = flV N j := by
  unfold strG flowV flV flE
  rw [h.he j (by omega), h.he (j + 1) (by omega), h.op j hj, h.ru]
  unfold opM
  by_cases hw : isW N j
  · rw [if_pos hw, h.wa j hj hw, if_neg (by rw [b2i_1 hw]; decide), Int32.mul_zero]
    have z16 : (0 : Int32) / 16 = 0 := by decide
    have z64 : (0 : Int32) / 64 = 0 := by decide
    rw [z16, Int32.add_zero, Int32.zero_mul, z64, Int32.sub_self]
  · rw [if_neg hw, h.fl j hj, if_pos (b2i_0.mpr hw)]
    rfl
theorem s1_fl {j : Nat} (hj : j + 1 < n) : s1N N n (47 + j) = flV N j := wnd_in (by omega)
theorem s1_o {p : Nat} (h : p < 47 ∨ 47 + (n - 1) ≤ p) : s1N N n p = N p := wnd_out h
theorem st_fl (h : WR C w N n mo c) {j : Nat} (hj : j + 1 < n) : waStream C w n (w + 7) j = flV N j := by
  unfold waStream
  rw [fillg_lt (by omega), fl_eq h hj]
theorem st_fz (h : WR C w N n mo c) : waStream C w n (w + 7) (n - 1) = 0 := by
  unfold waStream
  rw [fillg_ge (Nat.le_refl _), h.fz]
theorem st_off {e : Nat} (h : e ≠ w + 7) : waStream C w n e = C e := by
  funext j
  exact fillg_off h
theorem pu_eq (h : WR C w N n mo c) (hc : c ≤ 4) {s : Int32} : ∀ k, k ≤ c → pusF (waStream C w n) (w + 3) s k = puN (s1N N n) s k := by
  intro k
  induction k with
  | zero => intro _; rfl
  | succ k ih =>
    intro hk
    obtain ⟨e1, e2, e3⟩ := h.se k (by omega)
    have g1 : waStream C w n (w + 3 + 1) k = N (22 + 2 * k) := by
      rw [st_off (by omega)]
      exact e1
    have g2 : waStream C w n (w + 3 + 2) k = N (23 + 2 * k) := by
      rw [st_off (by omega)]
      exact e2
    rw [pusF_s (by rw [g1]; exact e3), ih (by omega), g1, g2]
    show _ = puN (s1N N n) s k + pm1 s (s1N N n (22 + 2 * k)) (s1N N n (23 + 2 * k))
    rw [s1_o (by omega), s1_o (by omega)]
    rfl
/-- a cell's height after the second -/
def hX (N : Nat → Int32) (n : Nat) (j : Nat) : Int32 := N (31 + j) + (if j = 0 then 0 else flV N (j - 1)) - (if j + 1 < n then flV N j else 0)
def hY (N : Nat → Int32) (n mo c : Nat) (j : Nat) : Int32 := if j = mo then hX N n j + (puN (s1N N n) (N 30) c - hX N n j) * N 2 / 16 else hX N n j
theorem ht_1 {j : Nat} (hj : j < n) (hn : n ≤ 16) : htV (s1N N n) n j = hX N n j := by
  unfold htV hX fTo fFr
  rw [s1_o (by omega)]
  by_cases c0 : j = 0
  · rw [if_pos c0, if_pos c0]
    by_cases c1 : j + 1 < n
    · rw [if_pos c1, if_pos c1, s1_fl c1]
    · rw [if_neg c1, if_neg c1]
  · rw [if_neg c0, if_neg c0, s1_fl (by omega)]
    by_cases c1 : j + 1 < n
    · rw [if_pos c1, if_pos c1, s1_fl c1]
    · rw [if_neg c1, if_neg c1]
theorem s2_h {j : Nat} (hj : j < n) (hm : mo < n) (hn : n ≤ 16) : s2N N n mo c (31 + j) = hY N n mo c j := by
  unfold s2N htN hY
  by_cases e : j = mo
  · subst e
    rw [upn_s, if_pos rfl, wnd_in hj, ht_1 hj hn, s1_o (by omega)]
  · rw [upn_n (by omega), if_neg e, wnd_in hj, ht_1 hj hn]
theorem s3_w {p : Nat} (h : p < 95) : s3N N n mo c p = s2N N n mo c p := rdN_off 3 (fun i hi => by omega)
theorem s2_f {j : Nat} (hj : j + 1 < n) (hm : mo < n) (hn : n ≤ 16) : s2N N n mo c (47 + j) = flV N j := by
  unfold s2N htN
  rw [upn_n (by omega), wnd_out (by omega), s1_fl hj]
theorem sec_h {j : Nat} (hj : j < n) (hm : mo < n) (hn : n ≤ 16) : secN N n mo c (31 + j) = hY N n mo c j := by
  unfold secN
  rw [upn_n (by omega), rgN_o (by omega) (by omega), s3_w (by omega), s2_h hj hm hn]
theorem sec_f {j : Nat} (hj : j + 1 < n) (hm : mo < n) (hn : n ≤ 16) : secN N n mo c (47 + j) = flV N j := by
  unfold secN
  rw [upn_n (by omega), rgN_o (by omega) (by omega), s3_w (by omega), s2_f hj hm hn]
theorem sec_lo {j : Nat} (hj : j < n) (hm : mo < n) (hn : n ≤ 16) : secN N n mo c (63 + j) = if N 30 = 0 then hY N n mo c j else if N (63 + j) < hY N n mo c j then N (63 + j) else hY N n mo c j := by
  unfold secN rgN
  rw [upn_n (by omega), wnd_out (by omega), wnd_in hj]
  unfold gLo
  rw [s3_w (by omega), s2_h hj hm hn, s3_w (by omega), s2N_o hn hm (by omega)]
theorem sec_hi {j : Nat} (hj : j < n) (hm : mo < n) (hn : n ≤ 16) : secN N n mo c (79 + j) = if N 30 = 0 then hY N n mo c j else if hY N n mo c j < N (79 + j) then N (79 + j) else hY N n mo c j := by
  unfold secN rgN
  rw [upn_n (by omega), wnd_in hj]
  unfold gHi
  rw [s3_w (by omega), s2_h hj hm hn, s3_w (by omega), s2N_o hn hm (by omega)]
theorem wp_7 : waPass C w n c w 7 = C w 7 + 1 := by
  unfold waPass
  rw [u2_s, riI_off (by omega) (by omega) (by omega), st_off (by omega)]
theorem wp_f {j : Nat} : waPass C w n c (w + 7) j = waStream C w n (w + 7) j := by
  unfold waPass
  rw [up2_off (by omega), riI_off (by omega) (by omega) (by omega)]
theorem wp_h {j : Nat} (hj : j < n) : waPass C w n c (w + 6) j = riH (waStream C w n) w (pusF (waStream C w n) (w + 3) (waStream C w n w 7) c) j := by
  unfold waPass riI
  rw [up2_off (by omega), if_pos hj, if_pos rfl]
theorem wp_x {j : Nat} (hj : j < n) : waPass C w n c (w + 9) j = riX (waStream C w n) w (pusF (waStream C w n) (w + 3) (waStream C w n w 7) c) j := by
  unfold waPass riI
  rw [up2_off (by omega), if_pos hj, if_neg (by omega), if_pos rfl]
theorem wp_n {j : Nat} (hj : j < n) : waPass C w n c (w + 10) j = riN (waStream C w n) w (pusF (waStream C w n) (w + 3) (waStream C w n w 7) c) j := by
  unfold waPass riI
  rw [up2_off (by omega), if_pos hj, if_neg (by omega), if_neg (by omega), if_pos rfl]
theorem ri_eq (h : WR C w N n mo c) (hc : c ≤ 4) {j : Nat} (hj : j < n) (hm : mo < n) (hn : n ≤ 16) : riH (waStream C w n) w (pusF (waStream C w n) (w + 3) (waStream C w n w 7) c) j = hY N n mo c j := by
  have e7 : waStream C w n w 7 = N 30 := by rw [st_off (by omega)]; exact h.sec
  have ex : waStream C w n (w + 6) j + riC (waStream C w n) w j - waStream C w n (w + 7) j = hX N n j := by
    unfold hX riC
    rw [st_off (by omega), h.he j hj]
    by_cases c1 : j + 1 < n
    · rw [if_pos c1, st_fl h c1]
      by_cases c0 : j = 0
      · rw [if_pos c0, if_pos c0]
      · rw [if_neg c0, if_neg c0, st_fl h (by omega)]
    · rw [if_neg c1, show j = n - 1 by omega, st_fz h]
      by_cases c0 : n - 1 = 0
      · rw [if_pos c0, if_pos c0]
      · rw [if_neg c0, if_neg c0, st_fl h (by omega)]
  unfold riH hY
  rw [ex, e7, pu_eq h hc c (Nat.le_refl c), st_off (by omega), h.mou, h.wi]
  by_cases e : j = mo
  · rw [if_pos (by rw [e]), if_pos e]
  · rw [if_neg (fun z => e ((nI_eq (by omega) (by omega)).mp z)), if_neg e]
theorem mx_x {a b : Int32} {s : Int32} : (if s = 0 ∨ a < b then b else a) = (if s = 0 then b else if b < a then a else b) := by
  by_cases h0 : s = 0
  · rw [if_pos (Or.inl h0), if_pos h0]
  · rw [if_neg h0]
    by_cases h : a < b
    · rw [if_pos (Or.inr h), if_neg (Int32.not_lt.mpr (Int32.le_of_lt h))]
    · rw [if_neg (fun z => z.elim h0 h)]
      by_cases h2 : b < a
      · rw [if_pos h2]
      · rw [if_neg h2]
        exact Int32.le_antisymm (Int32.not_lt.mp h2) (Int32.not_lt.mp h)
theorem mn_x {a b : Int32} {s : Int32} : (if s = 0 ∨ b < a then b else a) = (if s = 0 then b else if a < b then a else b) := by
  by_cases h0 : s = 0
  · rw [if_pos (Or.inl h0), if_pos h0]
  · rw [if_neg h0]
    by_cases h : b < a
    · rw [if_pos (Or.inr h), if_neg (Int32.not_lt.mpr (Int32.le_of_lt h))]
    · rw [if_neg (fun z => z.elim h0 h)]
      by_cases h2 : a < b
      · rw [if_pos h2]
      · rw [if_neg h2]
        exact Int32.le_antisymm (Int32.not_lt.mp h) (Int32.not_lt.mp h2)
theorem WR_s (h : WR C w N n mo c) (hw : WfN N n mo c) : WR (waPass C w n c) w (secN N n mo c) n mo c := by
  have hn := hw.1.2
  have hn3 := hw.1.1
  have hm := hw.2.2.1.1
  have hc := hw.2.2.2.1.1
  have e7 : waStream C w n w 7 = N 30 := by rw [st_off (by omega)]; exact h.sec
  have o1 : waPass C w n c (w + 1) = C (w + 1) := waPass_off (by omega) (by omega) (by omega) (by omega) (by omega)
  refine WR.mk ?_ ?_ ?_ ?_ ?_ ?_ ?_ ?_ ?_ ?_ ?_ ?_
  · rw [o1, secN_c hn hm (by decide)]; exact h.wi
  · rw [o1, secN_c hn hm (by decide)]; exact h.ru
  · rw [o1]; exact h.mou
  · intro j hj
    rw [waPass_off (by omega) (by omega) (by omega) (by omega) (by omega)]
    unfold opM isW
    rw [secN_c hn hm (by decide), secN_c hn hm (by omega), secN_c hn hm (by omega)]
    exact h.op j hj
  · intro j hj hW
    unfold isW at hW
    rw [secN_c hn hm (by decide)] at hW
    rw [wp_f, st_fl h hj]
    exact if_neg (by rw [b2i_1 hW]; decide)
  · intro i hi
    rw [waPass_off (by omega) (by omega) (by omega) (by omega) (by omega), waPass_off (by omega) (by omega) (by omega) (by omega) (by omega), secN_c hn hm (by omega), secN_c hn hm (by omega)]
    exact h.se i hi
  · rw [wp_7, h.sec]
    exact upn_s.symm
  · intro j hj
    rw [wp_h hj, ri_eq h hc hj hm hn, sec_h hj hm hn]
  · intro j hj
    rw [wp_f, st_fl h hj, sec_f hj hm hn]
  · rw [wp_f]
    exact st_fz h
  · intro j hj
    rw [wp_x hj, sec_hi hj hm hn]
    unfold riX
    rw [ri_eq h hc hj hm hn, e7, st_off (by omega), h.hi j hj]
    exact mx_x
  · intro j hj
    rw [wp_n hj, sec_lo hj hm hn]
    unfold riN
    rw [ri_eq h hc hj hm hn, e7, st_off (by omega), h.lo j hj]
    exact mn_x
end
end R1
