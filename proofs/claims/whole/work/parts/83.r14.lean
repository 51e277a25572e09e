section R14
variable {G : Gp} {I : Im} {L : Nat → Nat → Int64} {t : Nat}
section
variable {C M D E : Im}
def niX (C : Im) (b s : Nat) : Im := niBegin (nmN (up2 C 8 2 0) 3) 8 b s
theorem nx_off {b s e : Nat} (h : e < 8 ∨ 23 < e) : niX C b s e = C e := by
  unfold niX niBegin
  rw [waBegin_off (by omega), up2_off (by omega), nmN_off (by omega) (by omega) 3 (by decide), up2_off (by omega)]
theorem nx_b {b s i j : Nat} (hi : i < 3) (hj : j ≤ 9) : niX C b s (21 + i) j = boN C i j := by
  unfold niX niBegin
  rw [waBegin_off (by omega), up2_off (by omega), nm_at hj 3 (by decide) hi]
  unfold boN
  rw [up2_off (by omega)]
theorem nx_w {b s e : Nat} (h9 : 9 ≤ e) (h19 : e ≤ 19) : niX C b s e = waBegin (up2 (nmN (up2 C 8 2 0) 3) 8 3 1) 9 b s e := rfl
theorem nx_8 {b s : Nat} : niX C b s 8 2 = nI 3 ∧ niX C b s 8 3 = 1 := by
  unfold niX niBegin
  rw [waBegin_off (by omega), u2_j (by decide), u2_s]
  exact ⟨nmN_m u80 3, rfl⟩
theorem nw_r {q z p : Nat} (h : p < 125) : rdw (niW M q z) 0 p = nhN M (wkM M q z) 3 p := by
  unfold rdw niW
  rw [up2_off (by decide), nw_in h]
theorem NigR_new {q z : Nat} (h : RelP C M) (hq : q < 4) (hz : z < 4) (h7 : ¬ M 207 q = 0) (h9 : ¬ M 209 z = 0) (hs : ∀ s, s < 3 → ¬ M 214 s = 0 → M 215 (5 * s) < M 208 (21 * q)) : NigR (niX C (124 + 2 * q) (132 + 3 * z)) (niW M q z) 8 0 0 := by
  obtain ⟨⟨n, mo, hb⟩, hx⟩ := (h.har q hq).th h7
  obtain ⟨c, hc, em, -⟩ := (h.sea z hz).th h9
  have n16 := hb.n16
  have n3 := hb.n3
  have mm := hb.mm
  have c4 := hc.c4
  have e0 : M 208 (21 * q) = nI n := hb.h0
  have fo : ∀ e, 24 ≤ e → up2 (nmN (up2 C 8 2 0) 3) 8 3 1 e = C e := fun e he => by rw [up2_off (by omega), nmN_off (by omega) (by omega) 3 (by decide), up2_off (by omega)]
  have hb' : BaR (up2 (nmN (up2 C 8 2 0) 3) 8 3 1) (124 + 2 * q) (fun p => M 208 (21 * q + p)) n mo := BaR_of hb (fo _ (by omega)) (fo _ (by omega))
  have hc' : SeR (up2 (nmN (up2 C 8 2 0) 3) 8 3 1) (132 + 3 * z) (fun i => M 211 (8 * z + i)) c := SeR_of hc (fo _ (by omega)) (fo _ (by omega)) (fo _ (by omega))
  have nlo : ∀ p, p < 95 → rdw (niW M q z) 0 p = wkM M q z p := fun p hp => by rw [nw_r (by omega), nhN_o hp]
  have hW : WR (niX C (124 + 2 * q) (132 + 3 * z)) 9 (rdw (niW M q z) 0) n mo c := WR_b (w := 9) hb' hc' (by omega) (by omega) (fun p hp => by rw [nlo p (by omega), wkM_h hp]) (fun i hi => by rw [nlo _ (by omega), wkM_s (by omega)]) (fun p h1 h2 => by rw [nlo p h2, wkM_z h1])
  have rid : ∀ s j, s < 3 → j < 10 → rdw (niW M q z) 0 (95 + 10 * s + j) = if M 214 s = 0 then 0 else if j = 0 then 1 else if j ≤ 5 then M 215 (5 * s + (j - 1)) else if j = 9 then -9 else 0 := fun s j h1 h2 => by rw [nw_r (by omega), nh_r h1 h2, wkM_z (by omega)]
  have z16 : niW M q z 216 0 = 1 := u2_s
  have bas : ∀ j, 2 ≤ j → j ≤ 6 → niX C (124 + 2 * q) (132 + 3 * z) 10 j = C (124 + 2 * q) j := fun j g1 g2 => (waBegin_bas (a := 9) (by omega) (by omega) (by omega) (by omega) j g1 g2).trans (by rw [fo _ (by omega)])
  refine NigR.mk (Or.inr z16) (by rw [z16]; exact nx_8.2) (fun _ => ⟨⟨n, mo, c, hW, ?_, ?_, ?_, nx_8.1⟩, ?_, ?_, ?_, ?_⟩)
  · refine ⟨⟨n3, n16⟩, ?_, ⟨mm, ?_⟩, ⟨c4, ?_, fun i hi => ?_⟩, fun s hs3 h1 => ?_⟩
    · rw [nlo 0 (by decide), wkM_h (by decide)]
      exact hb.h0
    · rw [nlo 1 (by decide), wkM_h (by decide)]
      exact hb.h1
    · rw [nlo 21 (by decide), wkM_21]
      exact em
    · rw [nlo _ (by omega), wkM_s (by omega)]
      intro zz
      exact (hc.be i hi).2.2 (by rw [zz]; decide)
    · have r0 := rid s 0 hs3 (by decide)
      rw [Nat.add_zero, h1] at r0
      by_cases cs : M 214 s = 0
      · rw [if_pos cs] at r0
        exact absurd r0 (by decide)
      · obtain ⟨-, ⟨k, hk, ek⟩, ⟨w, w1, w9, ew⟩, -⟩ := (h.shp s hs3).th cs
        have r1 : rdw (niW M q z) 0 (95 + 10 * s + 1) = M 215 (5 * s) := by
          rw [rid s 1 hs3 (by decide), if_neg cs, if_neg (by decide), if_pos (by decide)]
          rfl
        have r2 : rdw (niW M q z) 0 (95 + 10 * s + 2) = M 215 (5 * s + 1) := by
          rw [rid s 2 hs3 (by decide), if_neg cs, if_neg (by decide), if_pos (by decide)]
        rw [r1, r2]
        refine ⟨⟨k, hk, ek⟩, ?_⟩
        rw [ew, show (4 : Int32) * nI w = nI (4 * w) from pk_mul 4 w]
        exact nI_ne0 (by omega) (by omega)
  · show niX C (124 + 2 * q) (132 + 3 * z) 10 2 = nI n
    rw [bas 2 (by decide) (by decide)]
    exact hb.ce
  · show niX C (124 + 2 * q) (132 + 3 * z) 12 3 = nI c
    exact (waBegin_sw (a := 9) (by omega) (by omega) (by omega)).trans (by rw [fo _ (by omega)]; exact hc.ct)
  · show niX C (124 + 2 * q) (132 + 3 * z) 10 1 = 0 ∨ niX C (124 + 2 * q) (132 + 3 * z) 10 1 = 1
    have e1 : niX C (124 + 2 * q) (132 + 3 * z) 10 1 = C (124 + 2 * q) 1 := by
      rw [nx_w (by decide) (by decide)]
      unfold waBegin
      rw [beI_off (by omega) (by omega) (by omega) (by omega) (by omega)]
      unfold be0
      rw [up2_off (by omega), swTake_off (by omega) (by omega) (by omega)]
      exact (ba_t (a := 10) (by omega) (by decide) (by decide)).trans (by rw [fo _ (by omega)])
    rw [e1, (h.har q hq).e]
    exact (h.har q hq).z
  · show niX C (124 + 2 * q) (132 + 3 * z) 12 2 = 0 ∨ niX C (124 + 2 * q) (132 + 3 * z) 12 2 = 1
    have e1 : niX C (124 + 2 * q) (132 + 3 * z) 12 2 = C (132 + 3 * z) 2 := by
      rw [nx_w (by decide) (by decide)]
      unfold waBegin
      rw [beI_off (by omega) (by omega) (by omega) (by omega) (by omega)]
      unfold be0
      rw [up2_off (by omega)]
      exact (sw_t (a := 12) (by omega) (Or.inl rfl)).trans (by rw [baTake_off (by omega) (by omega), fo _ (by omega)])
    rw [e1, (h.sea z hz).e]
    exact (h.sea z hz).z
  · show ∀ n', niX C (124 + 2 * q) (132 + 3 * z) 10 2 = nI n' → _
    rw [bas 2 (by decide) (by decide), hb.ce]
    intro n' hn' hn16 s hs3
    have en : n = n' := (nI_eq (by omega) (by omega)).mp hn'
    subst en
    have r0 := rid s 0 hs3 (by decide)
    rw [Nat.add_zero] at r0
    have b0 : niX C (124 + 2 * q) (132 + 3 * z) (8 + 13 + s) 0 = M 214 s := by
      rw [show 8 + 13 + s = 21 + s by omega, nx_b hs3 (by decide)]
      exact (h.shp s hs3).e
    by_cases cs : M 214 s = 0
    · rw [if_pos cs] at r0
      exact Or.inl ⟨by rw [b0]; exact cs, r0⟩
    · rw [if_neg cs, if_pos rfl] at r0
      obtain ⟨x0, ⟨k, hk, ek⟩, x2, -⟩ := (h.shp s hs3).th cs
      refine Or.inr ⟨by rw [b0]; exact (h.shp s hs3).z.resolve_left cs, ?_, r0, by rw [b0]; exact cs, ?_, ?_⟩
      · intro j h1 h9
        rw [show 8 + 13 + s = 21 + s by omega, nx_b hs3 h9, rid s j hs3 (by omega), if_neg cs, if_neg (by omega)]
        unfold boN
        by_cases c5 : j ≤ 5
        · rw [if_neg (by omega), if_neg (by omega), if_pos c5]
          have := x0 (j - 1) (by omega)
          rw [show 1 + (j - 1) = j by omega] at this
          exact this
        · rw [if_neg c5]
          by_cases c9 : j = 9
          · rw [if_neg (by omega), if_pos c9, if_pos c9]
          · rw [if_pos (by omega), if_neg c9]
      · refine ⟨k, ?_, ?_⟩
        · have := hs s hs3 cs
          rw [ek, e0] at this
          exact (nI_ltI (by omega) (by omega)).mp this
        · rw [rid s 1 hs3 (by decide), if_neg cs, if_neg (by decide), if_pos (by decide)]
          exact ek
      · rw [rid s 2 hs3 (by decide), if_neg cs, if_neg (by decide), if_pos (by decide)]
        exact x2
  · exact HaX_of hx (fun p hp => by rw [nlo p (by omega), wkM_h hp])
theorem K_night {k z : Int32} (h : RelP C M) : Same C M (f_X11_night C k z) (f_X12_night M k z) := by
  unfold f_X11_night f_X12_night
  by_cases c1 : b2i (0 ≤ k ∧ k ≤ 3) = 0
  · rw [if_pos c1, if_pos (Or.inl c1)]
    exact sm_v h
  by_cases c2 : b2i (0 ≤ z ∧ z ≤ 3) = 0
  · rw [if_neg c1, if_pos c2, if_pos (Or.inr c2)]
    exact sm_v h
  rw [if_neg c1, if_neg c2, if_neg (show ¬ (b2i (0 ≤ k ∧ k ≤ 3) = 0 ∨ b2i (0 ≤ z ∧ z ≤ 3) = 0) from fun q => q.elim c1 c2)]
  obtain ⟨qk, vk⟩ := cl_lt (N := 4) (by decide) c1
  obtain ⟨qz, vz⟩ := cl_lt (N := 4) (by decide) c2
  rw [(h.har _ qk).e, (h.sea _ qz).e]
  by_cases c3 : M 207 k.toNatClampNeg = 0
  · rw [if_pos c3, if_pos (Or.inl c3)]
    exact sm_1 h
  by_cases c4 : M 209 z.toNatClampNeg = 0
  · rw [if_neg c3, if_pos c4, if_pos (Or.inr c4)]
    exact sm_1 h
  rw [if_neg c3, if_neg c4, if_neg (show ¬ (M 207 k.toNatClampNeg = 0 ∨ M 209 z.toNatClampNeg = 0) from fun q => q.elim c3 c4)]
  generalize k.toNatClampNeg = q at qk c3
  generalize z.toNatClampNeg = r at qz c4
  obtain ⟨⟨n, mo, hb⟩, -⟩ := (h.har q qk).th c3
  have n16 := hb.n16
  have e0 : M 208 (21 * q) = nI n := hb.h0
  have nb : ∀ s, s < 3 → ((¬ C (144 + s) 0 = 0 ∧ b2i (0 ≤ C (144 + s) 1 ∧ C (144 + s) 1 < C (124 + 2 * q) 2 ∧ C (144 + s) 1 < 16) = 0) ↔ nbad M (M 208 (21 * q)) s) := by
    intro s hs
    show _ ↔ (¬ M 214 s = 0 ∧ ¬ M 215 (5 * s) < M 208 (21 * q))
    rw [(h.shp s hs).e]
    refine and_congr_right (fun cs => ?_)
    obtain ⟨x0, ⟨j, hj, ej⟩, -⟩ := (h.shp s hs).th cs
    have e1 : C (144 + s) 1 = M 215 (5 * s) := x0 0 (by decide)
    rw [e1, hb.ce, e0, ej, b2i_0]
    constructor
    · intro hn hlt
      exact hn ⟨nI_pos' (by omega), hlt, nI_lt (b := 16) hj (by decide)⟩
    · intro hn hh
      exact hn hh.2.1
  have hT := nig_tree (a0 := C 144 0 = 0) (a1 := C 145 0 = 0) (a2 := C 146 0 = 0) (b0 := b2i (0 ≤ C 144 1 ∧ C 144 1 < C (124 + 2 * q) 2 ∧ C 144 1 < 16) = 0) (b1 := b2i (0 ≤ C 145 1 ∧ C 145 1 < C (124 + 2 * q) 2 ∧ C 145 1 < 16) = 0) (b2 := b2i (0 ≤ C 146 1 ∧ C 146 1 < C (124 + 2 * q) 2 ∧ C 146 1 < 16) = 0) (x := ((-4 : Int32), C)) (y := (niX C (124 + 2 * q) (132 + 3 * r) (124 + 2 * q) 2, niX C (124 + 2 * q) (132 + 3 * r)))
  suffices hS : Same C M (if (¬ C 144 0 = 0 ∧ b2i (0 ≤ C 144 1 ∧ C 144 1 < C (124 + 2 * q) 2 ∧ C 144 1 < 16) = 0) ∨ (¬ C 145 0 = 0 ∧ b2i (0 ≤ C 145 1 ∧ C 145 1 < C (124 + 2 * q) 2 ∧ C 145 1 < 16) = 0) ∨ (¬ C 146 0 = 0 ∧ b2i (0 ≤ C 146 1 ∧ C 146 1 < C (124 + 2 * q) 2 ∧ C 146 1 < 16) = 0) then ((-4 : Int32), C) else (niX C (124 + 2 * q) (132 + 3 * r) (124 + 2 * q) 2, niX C (124 + 2 * q) (132 + 3 * r))) (if nbad M (M 208 (21 * q)) 0 ∨ nbad M (M 208 (21 * q)) 1 ∨ nbad M (M 208 (21 * q)) 2 then (-4, M) else (M 208 (21 * q), niW M q r)) by
    rw [← hT] at hS
    exact hS
  by_cases c5 : nbad M (M 208 (21 * q)) 0 ∨ nbad M (M 208 (21 * q)) 1 ∨ nbad M (M 208 (21 * q)) 2
  · rw [if_pos c5, if_pos (c5.imp (nb 0 (by decide)).mpr (fun y => y.imp (nb 1 (by decide)).mpr (nb 2 (by decide)).mpr))]
    exact sm_v h
  · rw [if_neg c5, if_neg (fun y => c5 (y.imp (nb 0 (by decide)).mp (fun y => y.imp (nb 1 (by decide)).mp (nb 2 (by decide)).mp)))]
    have hX := NigR_new h qk qz c3 c4 (fun s hs cs => by
      refine Decidable.byContradiction (fun hl => c5 ?_)
      rcases (by omega : s = 0 ∨ s = 1 ∨ s = 2) with rfl | rfl | rfl
      · exact Or.inl ⟨cs, hl⟩
      · exact Or.inr (Or.inl ⟨cs, hl⟩)
      · exact Or.inr (Or.inr ⟨cs, hl⟩))
    have f2 : ∀ e, e ≠ 200 → e ≠ 216 → e ≠ 217 → niW M q r e = M e := fun e h1 h2 h3 => by
      unfold niW
      rw [up2_off h2, nw_off h3, lk_off h1]
    have f4 : ∀ j, j ≠ 24 → niW M q r 200 j = M 200 j := fun j hj => by
      unfold niW lkI
      rw [up2_off (by decide), nw_off (by decide), u2_j hj]
    refine sm_mk2 ?_ (Rel_nig h (fun e he => nx_off (by omega)) (by rw [nx_off (by omega)]) (fun e he => f2 e (by omega) (by omega) (by omega)) (fun s hs => ?_) (fun j h1 h2 => ?_) (f4 37 (by decide)) hX ?_) (fun e he => nx_off (by omega)) (fun e he => f2 e (by omega) (by omega) (by omega))
    · rw [nx_off (by omega), e0]
      exact hb.ce
    · unfold niW
      rw [u2_j (by omega), nw_off (by decide), lk_off (by decide)]
    · unfold niW
      rw [up2_off (by decide)]
      exact (flw_out (by omega)).trans (by rw [lk_off (by decide)])
    · exact FndR_of h.fnd (by rw [nx_off (by omega)]) (nx_off (by omega)) (by rw [nx_off (by omega)]) (f4 0 (by decide)) (f2 201 (by decide) (by decide) (by decide)) (f4 2 (by decide))
end
end R14
