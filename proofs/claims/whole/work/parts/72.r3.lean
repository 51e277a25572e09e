section R3
variable {G : Gp} {I : Im} {L : Nat → Nat → Int64} {t : Nat}
def BaR (C : Im) (b : Nat) (H : Nat → Int32) (n mo : Nat) : Prop := (3 ≤ n) ∧ (n ≤ 16) ∧ (mo < n) ∧ (C b 2 = nI n) ∧ (C b 3 = nI mo) ∧ (C b 4 = H 2) ∧ (C b 5 = H 3) ∧ (C b 6 = H 4) ∧ (∀ j, j < n → C (b + 1) j = H (5 + j)) ∧ (H 0 = nI n) ∧ (H 1 = nI mo)
theorem BaR.n3 {C : Im} {b : Nat} {H : Nat → Int32} {n mo : Nat} (h : BaR C b H n mo) : 3 ≤ n := h.1
theorem BaR.n16 {C : Im} {b : Nat} {H : Nat → Int32} {n mo : Nat} (h : BaR C b H n mo) : n ≤ 16 := h.2.1
theorem BaR.mm {C : Im} {b : Nat} {H : Nat → Int32} {n mo : Nat} (h : BaR C b H n mo) : mo < n := h.2.2.1
theorem BaR.ce {C : Im} {b : Nat} {H : Nat → Int32} {n mo : Nat} (h : BaR C b H n mo) : C b 2 = nI n := h.2.2.2.1
theorem BaR.mu {C : Im} {b : Nat} {H : Nat → Int32} {n mo : Nat} (h : BaR C b H n mo) : C b 3 = nI mo := h.2.2.2.2.1
theorem BaR.wi {C : Im} {b : Nat} {H : Nat → Int32} {n mo : Nat} (h : BaR C b H n mo) : C b 4 = H 2 := h.2.2.2.2.2.1
theorem BaR.ru {C : Im} {b : Nat} {H : Nat → Int32} {n mo : Nat} (h : BaR C b H n mo) : C b 5 = H 3 := h.2.2.2.2.2.2.1
theorem BaR.wa {C : Im} {b : Nat} {H : Nat → Int32} {n mo : Nat} (h : BaR C b H n mo) : C b 6 = H 4 := h.2.2.2.2.2.2.2.1
theorem BaR.de {C : Im} {b : Nat} {H : Nat → Int32} {n mo : Nat} (h : BaR C b H n mo) : ∀ j, j < n → C (b + 1) j = H (5 + j) := h.2.2.2.2.2.2.2.2.1
theorem BaR.h0 {C : Im} {b : Nat} {H : Nat → Int32} {n mo : Nat} (h : BaR C b H n mo) : H 0 = nI n := h.2.2.2.2.2.2.2.2.2.1
theorem BaR.h1 {C : Im} {b : Nat} {H : Nat → Int32} {n mo : Nat} (h : BaR C b H n mo) : H 1 = nI mo := h.2.2.2.2.2.2.2.2.2.2
theorem BaR.mk {C : Im} {b : Nat} {H : Nat → Int32} {n mo : Nat} (n3 : 3 ≤ n) (n16 : n ≤ 16) (mm : mo < n) (ce : C b 2 = nI n) (mu : C b 3 = nI mo) (wi : C b 4 = H 2) (ru : C b 5 = H 3) (wa : C b 6 = H 4) (de : ∀ j, j < n → C (b + 1) j = H (5 + j)) (h0 : H 0 = nI n) (h1 : H 1 = nI mo) : BaR C b H n mo := ⟨n3, n16, mm, ce, mu, wi, ru, wa, de, h0, h1⟩
def SeR (C : Im) (s : Nat) (S : Nat → Int32) (c : Nat) : Prop := (c ≤ 4) ∧ (C s 3 = nI c) ∧ (∀ i, i < c → C (s + 1) i = S (2 * i) ∧ C (s + 2) i = S (2 * i + 1) ∧ ¬ S (2 * i) ≤ 0)
theorem SeR.c4 {C : Im} {s : Nat} {S : Nat → Int32} {c : Nat} (h : SeR C s S c) : c ≤ 4 := h.1
theorem SeR.ct {C : Im} {s : Nat} {S : Nat → Int32} {c : Nat} (h : SeR C s S c) : C s 3 = nI c := h.2.1
theorem SeR.be {C : Im} {s : Nat} {S : Nat → Int32} {c : Nat} (h : SeR C s S c) : ∀ i, i < c → C (s + 1) i = S (2 * i) ∧ C (s + 2) i = S (2 * i + 1) ∧ ¬ S (2 * i) ≤ 0 := h.2.2
theorem SeR.mk {C : Im} {s : Nat} {S : Nat → Int32} {c : Nat} (c4 : c ≤ 4) (ct : C s 3 = nI c) (be : ∀ i, i < c → C (s + 1) i = S (2 * i) ∧ C (s + 2) i = S (2 * i + 1) ∧ ¬ S (2 * i) ≤ 0) : SeR C s S c := ⟨c4, ct, be⟩
theorem cp_in {J : Im} {a0 a n j : Nat} (h : j < n) : cpR J a0 a 0 0 n a j = J a0 j := by simp [cpR, va_cpy, h]
section
variable {C : Im} {w b s : Nat}
theorem wb_dep (hb : w + 10 < b) {j : Nat} (hj : j < 16) : waBegin C w b s (w + 2) j = C (b + 1) j := by
  unfold waBegin
  rw [beI_off (by omega) (by omega) (by omega) (by omega) (by omega)]
  unfold be0
  rw [up2_off (by omega), swTake_off (by omega) (by omega) (by omega)]
  unfold baTake
  rw [cp_in hj, tk1_off (by omega), tk1_off (by omega), tk1_off (by omega), tk1_off (by omega), tk1_off (by omega), tk1_off (by omega)]
theorem wb_be (hs : w + 10 < s) {i : Nat} (hi : i < 4) : waBegin C w b s (w + 4) i = C (s + 1) i ∧ waBegin C w b s (w + 5) i = C (s + 2) i := by
  unfold waBegin
  rw [beI_off (by omega) (by omega) (by omega) (by omega) (by omega), beI_off (by omega) (by omega) (by omega) (by omega) (by omega)]
  unfold be0
  rw [up2_off (by omega), up2_off (by omega)]
  unfold swTake
  constructor
  · rw [cpR_off (by omega), cp_in hi, tk1_off (by omega), tk1_off (by omega), baTake_off (by omega) (by omega)]
  · rw [cp_in hi, cpR_off (by omega), tk1_off (by omega), tk1_off (by omega), baTake_off (by omega) (by omega)]
theorem wb_z {e j : Nat} (he : e = w + 6 ∨ e = w + 7 ∨ e = w + 9 ∨ e = w + 10) (hj : j < 16) : waBegin C w b s e j = 0 := by
  unfold waBegin beI
  rw [if_pos hj, if_pos he]
theorem wb_7 : waBegin C w b s w 7 = 0 := by
  unfold waBegin
  rw [beI_off (by omega) (by omega) (by omega) (by omega) (by omega)]
  unfold be0
  rw [u2_s]
theorem wb_o {j : Nat} (hj : j < 16) : waBegin C w b s (w + 8) j = opn (be0 C w b s) (w + 1) j := by
  unfold waBegin beI
  rw [if_pos hj, if_neg (by omega), if_pos rfl]
theorem be_eq {e : Nat} (h6 : e ≠ w + 6) (h7 : e ≠ w + 7) (h8 : e ≠ w + 8) (h9 : e ≠ w + 9) (h10 : e ≠ w + 10) : be0 C w b s e = waBegin C w b s e := by
  unfold waBegin
  exact (beI_off h6 h7 h8 h9 h10).symm
theorem WR_b {H S M : Nat → Int32} {n mo c : Nat} (hb : BaR C b H n mo) (hs : SeR C s S c) (hwb : w + 10 < b) (hws : w + 10 < s) (mH : ∀ p, p < 21 → M p = H p) (mS : ∀ i, i < 2 * c → M (22 + i) = S i) (mz : ∀ p, 30 ≤ p → p < 95 → M p = 0) : WR (waBegin C w b s) w M n mo c := by
  have n3 := hb.n3
  have n16 := hb.n16
  have c4 := hs.c4
  have bas : ∀ j, 2 ≤ j → j ≤ 6 → waBegin C w b s (w + 1) j = C b j := waBegin_bas (by omega) (by omega) (by omega) (by omega)
  refine WR.mk ?_ ?_ ?_ ?_ ?_ ?_ ?_ ?_ ?_ ?_ ?_ ?_
  · rw [bas 4 (by decide) (by decide), mH 2 (by decide)]
    exact hb.wi
  · rw [bas 5 (by decide) (by decide), mH 3 (by decide)]
    exact hb.ru
  · rw [bas 3 (by decide) (by decide)]
    exact hb.mu
  · intro j hj
    rw [wb_o (by omega)]
    have hW : hasW (be0 C w b s) (w + 1) (nI j) := by
      show 0 ≤ nI j ∧ nI j < be0 C w b s (w + 1) 2 - 1 ∧ nI j < 15
      rw [be_eq (by omega) (by omega) (by omega) (by omega) (by omega), bas 2 (by decide) (by decide), hb.ce]
      obtain ⟨k, rfl⟩ : ∃ k, n = k + 1 := ⟨n - 1, by omega⟩
      rw [nI_pred]
      exact ⟨nI_pos' (by omega), nI_lt (by omega) (by omega), nI_lt (b := 15) (by omega) (by decide)⟩
    have e6 : be0 C w b s (w + 1) 6 = H 4 := by
      rw [be_eq (by omega) (by omega) (by omega) (by omega) (by omega), bas 6 (by decide) (by decide)]
      exact hb.wa
    have ed : ∀ k, k < n → be0 C w b s (w + 1 + 1) k = H (5 + k) := by
      intro k hk
      rw [be_eq (by omega) (by omega) (by omega) (by omega) (by omega)]
      exact (wb_dep hwb (by omega)).trans (hb.de k hk)
    unfold opM isW
    rw [mH 4 (by decide), mH (5 + j) (by omega), mH (5 + j + 1) (by omega)]
    unfold opn
    by_cases hw : H 4 >>> (nI j &&& 31) &&& 1 = 1
    · rw [if_neg (fun z => z.2 (by rw [e6]; exact hw)), if_pos hw]
    · rw [if_pos ⟨hW, by rw [e6]; exact hw⟩, if_neg hw, ed j (by omega), ed (j + 1) (by omega)]
      exact lesser_c
  · intro j hj _
    exact wb_z (by omega) (by omega)
  · intro i hi
    obtain ⟨e1, e2, e3⟩ := hs.be i hi
    obtain ⟨g1, g2⟩ := wb_be (C := C) (w := w) (b := b) (s := s) hws (i := i) (by omega)
    rw [g1, g2, mS (2 * i) (by omega), show 23 + 2 * i = 22 + (2 * i + 1) by omega, mS (2 * i + 1) (by omega)]
    exact ⟨e1, e2, e3⟩
  · rw [wb_7, mz 30 (by decide) (by decide)]
  · intro j hj
    rw [wb_z (by omega) (by omega), mz (31 + j) (by omega) (by omega)]
  · intro j hj
    rw [wb_z (by omega) (by omega), mz (47 + j) (by omega) (by omega)]
  · exact wb_z (by omega) (by omega)
  · intro j hj
    rw [wb_z (by omega) (by omega), mz (79 + j) (by omega) (by omega)]
  · intro j hj
    rw [wb_z (by omega) (by omega), mz (63 + j) (by omega) (by omega)]
end
/-- a night of the component against a row of the model -/
def NR (C : Im) (a m : Nat) (N : Nat → Int32) (n mo c : Nat) : Prop := WR C (a + 1) N n mo c ∧ WfN N n mo c ∧ C (a + 2) 2 = nI n ∧ C (a + 4) 3 = nI c ∧ C a 2 = nI m
theorem NR_s {C : Im} {a m : Nat} {N : Nat → Int32} {n mo c : Nat} (h : NR C a m N n mo c) : NR (niStep C a n c m) a m (secN N n mo c) n mo c := by
  obtain ⟨h1, h2, h3, h4, h5⟩ := h
  have hn := h2.1.2
  have o : ∀ e, (∀ i, i < m → e ≠ a + 13 + i) → niStep C a n c m e = waPass C (a + 1) n c e := fun e he => by
    unfold niStep
    exact ridesI_off m he
  have p : ∀ e, e ≠ a + 1 → e ≠ a + 7 → e ≠ a + 8 → e ≠ a + 10 → e ≠ a + 11 → waPass C (a + 1) n c e = C e := fun e g0 g6 g7 g9 g10 => waPass_off (by omega) (by omega) (by omega) (by omega) (by omega)
  refine ⟨?_, WfN_s h2, ?_, ?_, ?_⟩
  · exact WR_of (WR_s h1 h2) (o _ (fun i hi => by omega)) (o _ (fun i hi => by omega)) (o _ (fun i hi => by omega)) (by rw [o (a + 1) (fun i hi => by omega)]) (o _ (fun i hi => by omega)) (o _ (fun i hi => by omega)) (o _ (fun i hi => by omega)) (o _ (fun i hi => by omega)) (o _ (fun i hi => by omega)) (fun p hp => rfl) hn h2.2.2.2.1.1
  · rw [o _ (fun i hi => by omega), p _ (by omega) (by omega) (by omega) (by omega) (by omega)]
    exact h3
  · rw [o _ (fun i hi => by omega), p _ (by omega) (by omega) (by omega) (by omega) (by omega)]
    exact h4
  · rw [o _ (fun i hi => by omega), p _ (by omega) (by omega) (by omega) (by omega) (by omega)]
    exact h5
theorem NR_i {C : Im} {a m : Nat} {N : Nat → Int32} {n mo c : Nat} (h : NR C a m N n mo c) : ∀ k, NR (niPass C a n c m k) a m (secI N n mo c k) n mo c := by
  intro k
  induction k with
  | zero => rw [secI_0]; exact h
  | succ k ih => rw [secI_s]; exact NR_s ih
theorem BoK_i {C : Im} {a q m s : Nat} {N : Nat → Int32} {n mo c : Nat} (h : NR C a m N n mo c) (hb : BoK C (a + 13 + q) N s n) (hqm : q < m) (hs : s < 3) : ∀ k, BoK (niPass C a n c m k) (a + 13 + q) (secI N n mo c k) s n := by
  intro k
  induction k with
  | zero => rw [secI_0]; exact hb
  | succ k ih =>
    rw [secI_s]
    have hk := NR_i h k
    exact BoK_s hk.1 hk.2.1 hk.2.2.1 ih hqm hs
end R3
