section R5
variable {G : Gp} {I : Im} {L : Nat → Nat → Int64} {t : Nat}
section
variable {C M D E : Im}
theorem RelP.hHar (h : RelP C M) : HarS C := by
  intro q hq
  have r := h.har q hq
  refine ⟨by rw [r.e]; exact r.z, fun hz => ?_⟩
  rw [r.e] at hz
  obtain ⟨⟨n, mo, hb⟩, -⟩ := r.th hz
  exact ⟨n, hb.n3, hb.n16, hb.ce⟩
theorem RelP.hHarC (h : RelP C M) : HarC C := fun q hq => (h.har q hq).cn
theorem RelP.hHarM (h : RelP C M) : HarM C := by
  intro q hq hz
  have r := h.har q hq
  rw [r.e] at hz
  obtain ⟨⟨n, mo, hb⟩, -⟩ := r.th hz
  have n16 := hb.n16
  have mm := hb.mm
  rw [hb.mu, hb.ce]
  exact b2i_n0.mpr ⟨nI_pos' (by omega), nI_lt mm (by omega), nI_lt (b := 16) (by omega) (by decide)⟩
theorem RelP.hSea (h : RelP C M) : SeaS C := fun q hq => ⟨by rw [(h.sea q hq).e]; exact (h.sea q hq).z, (h.sea q hq).cc⟩
theorem RelP.hShp (h : RelP C M) : ShpS C := fun q hq => by rw [(h.shp q hq).e]; exact (h.shp q hq).z
theorem RelP.hRow (h : RelP C M) : RowS C := fun q hq => (h.row q hq).sz
theorem RelP.hTxt (h : RelP C M) : TxtS C := fun q hq => (h.txt q hq).sz
theorem RelP.hWrk (h : RelP C M) : WrkS C := by
  unfold WrkS
  rw [h.wrk.e]
  exact h.wrk.m5
theorem NigR.hN {a B f : Nat} (r : NigR C M a B f) : NW C a := by
  refine ⟨by rw [r.e]; exact r.z, fun hz => ?_⟩
  rw [r.e] at hz
  obtain ⟨⟨n, mo, c, h1, h2, h3, h4, h5⟩, x1, x2, x3, -⟩ := r.th hz
  refine ⟨h5, ⟨n, h2.1.1, h2.1.2, h3⟩, ⟨c, h2.2.2.2.1.1, h4⟩, x1, x2, fun i hi => ?_⟩
  exact (x3 n h3 h2.1.2 i hi).elim (fun z => Or.inl z.1) (fun z => Or.inr z.1)
theorem RelP.hSz (h : RelP C M) : SzS M := by
  intro q hq
  have r := h.row q hq
  rcases r.th with z | z
  · exact Or.inl z.2
  · rw [z.2.1]
    exact Or.inr r.sz
theorem RelP.hTz (h : RelP C M) : TzS M := by
  intro q hq
  have r := h.txt q hq
  rcases r.th with z | z
  · exact Or.inl z.2
  · rw [z.2.1]
    exact Or.inr r.sz
theorem RelP.hSb (h : RelP C M) : SbS M := fun q hq => (h.sea q hq).mc
theorem RelP.hSm (h : RelP C M) : SmS M := SbS_m h.hSb
theorem RelP.hHm (h : RelP C M) : HmS M := by
  intro q hq hz
  obtain ⟨⟨n, mo, hb⟩, -⟩ := (h.har q hq).th hz
  have e0 := hb.h0
  exact ⟨n, mo, hb.n3, hb.n16, hb.mm, e0, hb.h1⟩
theorem RelP.hHn (h : RelP C M) : HnS M := fun q hq => (h.har q hq).mn
theorem RelP.hSp (h : RelP C M) : SpS M := by
  intro q hq hz
  obtain ⟨-, x1, ⟨w, w1, w9, ew⟩, -⟩ := (h.shp q hq).th hz
  refine ⟨x1, ?_⟩
  rw [ew, show (4 : Int32) * nI w = nI (4 * w) from pk_mul 4 w]
  exact nI_ne0 (by omega) (by omega)
theorem RelP.hWm (h : RelP C M) : WmS M := h.wrk.m5
theorem RelP.hWj (h : RelP C M) : WjS M := h.wrk.wj
theorem NigR.hW {a B f : Nat} (r : NigR C M a B f) (hz : ¬ M 216 f = 0) : WfS M B := by
  obtain ⟨⟨n, mo, c, h1, h2, -⟩, -⟩ := r.th hz
  have hc := h2.2.2.2.1.1
  have hn := h2.1.2
  have hm := h2.2.2.1.1
  unfold WfS
  have e0 : M 217 B = nI n := h2.2.1
  have e1 : M 217 (B + 1) = nI mo := h2.2.2.1.2
  have e2 : M 217 (B + 21) = nI c := h2.2.2.2.1.2.1
  rw [e0, e1, e2, nI_clamp (by omega), nI_clamp (by omega), nI_clamp (by omega)]
  exact h2
/-- the frames -/
def FrC (D C : Im) : Prop := (∀ e, (8 ≤ e ∧ e ≤ 23) ∨ e = 95 ∨ 104 ≤ e → D e = C e) ∧ D 0 16 = C 0 16
def FrM (E M : Im) : Prop := (∀ e, e < 200 ∨ e = 202 ∨ e = 203 ∨ (205 ≤ e ∧ e ≤ 211) ∨ (214 ≤ e ∧ e ≤ 216) ∨ e = 222 → E e = M e) ∧ (∀ j, j < 500 → E 217 j = M 217 j) ∧ E 200 37 = M 200 37
theorem FrC.refl : FrC C C := ⟨fun _ _ => rfl, rfl⟩
theorem FrM.refl : FrM M M := ⟨fun _ _ => rfl, fun _ _ => rfl, rfl⟩
theorem FrC.trans {K : Im} (h : FrC D C) (k : FrC K D) : FrC K C := ⟨fun e he => (k.1 e he).trans (h.1 e he), k.2.trans h.2⟩
theorem FrM.trans {K : Im} (h : FrM E M) (k : FrM K E) : FrM K M := ⟨fun e he => (k.1 e he).trans (h.1 e he), fun j hj => (k.2.1 j hj).trans (h.2.1 j hj), k.2.2.trans h.2.2⟩
theorem FrC.ke (h : FrC D C) : KeC D C := ⟨fun e he => h.1 e (by omega), h.2⟩
theorem FrM.ke (h : FrM E M) : KeM E M := ⟨fun e he => h.1 e (by omega), h.2.1, h.2.2⟩
theorem FrC.up {e j : Nat} {v : Int32} (h : (1 ≤ e ∧ e ≤ 7) ∨ (24 ≤ e ∧ e ≤ 94) ∨ (96 ≤ e ∧ e ≤ 103)) : FrC (up2 C e j v) C := ⟨fun k hk => up2_off (by omega), by rw [up2_off (by omega)]⟩
theorem FrC.u0 {j : Nat} {v : Int32} (h : j ≠ 16) : FrC (up2 C 0 j v) C := ⟨fun k hk => up2_off (by omega), u2_j (by omega)⟩
theorem FrM.u0 {j : Nat} {v : Int32} (h : j ≠ 37) : FrM (up2 M 200 j v) M := ⟨fun k hk => up2_off (by omega), fun j hj => by rw [up2_off (by decide)], u2_j (by omega)⟩
theorem FrM.up {e j : Nat} {v : Int32} (h : e = 201 ∨ e = 204 ∨ (212 ≤ e ∧ e ≤ 213) ∨ (218 ≤ e ∧ e ≤ 221)) : FrM (up2 M e j v) M := ⟨fun k hk => up2_off (by omega), fun j hj => by rw [up2_off (by omega)], by rw [up2_off (by omega)]⟩
theorem FrM.me {f : Int32} : FrM (meI M f) M := FrM.trans (FrM.u0 (by decide)) (FrM.up (Or.inl rfl))
theorem FrM.lk {x : Int32} : FrM (lkI M x) M := FrM.u0 (by decide)
theorem FrM.n5 {N : Nat → Int32} : FrM (nw M 500 N) M := ⟨fun k hk => nw_off (by omega), fun j hj => by unfold nw; exact flw_out (by omega), by rw [nw_off (by decide)]⟩
theorem FrC.refuse {f : Int32} : FrC (f_X11_refuse C f).2 C := by
  unfold f_X11_refuse
  dsimp only
  split
  · exact FrC.u0 (by decide)
  · exact FrC.trans (FrC.u0 (by decide)) (FrC.up (by omega))
theorem FrC.tell {v a : Int32} : FrC (f_X11_tell C v a).2 C := FrC.u0 (by decide)
theorem fnd_tell {v a : Int32} (h : ∀ f, f < 6 → C 102 f = M 201 f) (h0 : C 0 17 = M 200 0) : FndR (f_X11_tell C v a).2 (up2 M 200 2 v) := by
  unfold f_X11_tell
  refine FndR.mk ?_ ?_ ?_
  · dsimp only
    rw [u2_j (by decide), u2_j (by decide)]
    exact h0
  · dsimp only
    rw [up2_off (by decide), up2_off (by decide)]
    exact h
  · dsimp only
    rw [u2_s, u2_s]
theorem fnd_me {k : Nat} (h : FndR C M) (h1 : 1 ≤ k) (h5 : k ≤ 5) : FndR (f_X11_refuse C (nI k)).2 (meI M (nI k)) := by
  unfold f_X11_refuse meI
  dsimp only
  rw [if_neg (b2i_n0.mpr ⟨nI_le (a := 1) h1 (by omega), nI_le (b := 5) h5 (by decide)⟩), nI_clamp (by omega)]
  refine FndR.mk ?_ ?_ ?_
  · dsimp only
    rw [up2_off (show (0 : Nat) ≠ 102 by decide), u2_s, up2_off (show (200 : Nat) ≠ 201 by decide), u2_s]
  · intro f hf
    dsimp only
    by_cases e : f = k
    · subst e
      rw [u2_s, u2_s, up2_off (show (102 : Nat) ≠ 0 by decide), up2_off (show (201 : Nat) ≠ 200 by decide), h.co f hf]
    · rw [u2_j e, u2_j e, up2_off (show (102 : Nat) ≠ 0 by decide), up2_off (show (201 : Nat) ≠ 200 by decide), h.co f hf]
  · dsimp only
    rw [up2_off (show (0 : Nat) ≠ 102 by decide), up2_off (show (200 : Nat) ≠ 201 by decide), u2_j (show (18 : Nat) ≠ 17 by decide), u2_j (show (2 : Nat) ≠ 0 by decide)]
    exact h.to
theorem rel_me {k : Nat} (h : RelP C M) (h1 : 1 ≤ k) (h5 : k ≤ 5) : RelP (f_X11_refuse C (nI k)).2 (meI M (nI k)) := Rel_of h FrC.refuse.ke FrM.me.ke (fnd_me h.fnd h1 h5)
theorem FndR.fr (h : FndR C M) (e0 : D 0 = C 0) (e1 : D 102 = C 102) (e3 : E 200 0 = M 200 0) (e4 : E 201 = M 201) (e5 : E 200 2 = M 200 2) : FndR D E := FndR_of h (by rw [e0]) e1 (by rw [e0]) e3 e4 e5
/-- a call that tells: on trial cells only, then told -/
theorem rel_tell {v a : Int32} (h : RelP C M) (hC : FrC D C) (hM : FrM E M) (e0 : D 0 17 = C 0 17) (e1 : D 102 = C 102) (e3 : E 200 0 = M 200 0) (e4 : E 201 = M 201) : RelP (f_X11_tell D v a).2 (up2 E 200 2 v) := Rel_of h (FrC.trans hC FrC.tell).ke (FrM.trans hM (FrM.u0 (by decide))).ke (fnd_tell (by rw [e1, e4]; exact h.fnd.co) (by rw [e0, e3]; exact h.fnd.la))
/-- the two sides of one memory -/
theorem RelP.cM (h : RelP C M) (e : ∀ k, 200 ≤ k → E k = M k) : RelP C E := Rel_of h FrC.refl.ke ⟨fun k hk => e k (by omega), fun j hj => by rw [e 217 (by decide)], by rw [e 200 (by decide)]⟩ (FndR_of h.fnd rfl rfl rfl (by rw [e 200 (by decide)]) (e 201 (by decide)) (by rw [e 200 (by decide)]))
theorem RelP.cC (h : RelP C M) (e : ∀ k, k < 200 → D k = C k) : RelP D M := Rel_of h ⟨fun k hk => e k (by omega), by rw [e 0 (by decide)]⟩ FrM.refl.ke (FndR_of h.fnd (by rw [e 0 (by decide)]) (e 102 (by decide)) (by rw [e 0 (by decide)]) rfl rfl rfl)
def FrL (L : Nat → Nat → Int64) : Prop := L 103 0 = L 200 3 ∧ L 103 1 = L 200 4
def Inv (I : Im) (L : Nat → Nat → Int64) (t : Nat) : Prop := RelP I I ∧ FrL L ∧ t < 200
def InvP (a : Value) : Option Value → Mem → Prop := fun r M => r = some a ∧ ∃ I L t, M = mk I L t ∧ Inv I L t
/-- a call of both -/
def Twin (G : Gp) (d1 d2 : Md) (args : List Value) (I : Im) (L : Nat → Nat → Int64) (t : Nat) : Prop := ∃ a I1 L1 t1, Ca G d1 (.ref 0 :: args) (mk I L t) (Rs a (mk I1 L1 t1)) ∧ Ca G d2 (.ref 200 :: args) (mk I1 L1 t1) (InvP a)
theorem twin {G : Gp} {d1 d2 : Md} {args : List Value} {I : Im} {L : Nat → Nat → Int64} {t : Nat} {f1 f2 : Im → Int32 × Im} (hI : Inv I L t) (h1 : Ca G d1 (.ref 0 :: args) (mk I L t) (Rs (.int (f1 I).1) (mk (f1 I).2 L t))) (c1 : ∀ e, 200 ≤ e → (f1 I).2 e = I e) (h2 : RelP I (f1 I).2 → Ca G d2 (.ref 200 :: args) (mk (f1 I).2 L t) (Rs (.int (f2 (f1 I).2).1) (mk (f2 (f1 I).2).2 L t))) (c2 : ∀ e, e < 200 → (f2 (f1 I).2).2 e = (f1 I).2 e) (k : ∀ M, RelP I M → (f1 I).1 = (f2 M).1 ∧ RelP (f1 I).2 (f2 M).2) : Twin G d1 d2 args I L t := by
  have hr : RelP I (f1 I).2 := hI.1.cM c1
  obtain ⟨k1, k2⟩ := k _ hr
  refine ⟨_, _, _, _, h1, (h2 hr).weak ?_⟩
  intro r M hM
  obtain ⟨rfl, rfl⟩ := hM
  exact ⟨by rw [k1], _, _, _, rfl, k2.cC c2, hI.2.1, hI.2.2⟩
end
end R5
