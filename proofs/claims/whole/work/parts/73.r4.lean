section R4
variable {G : Gp} {I : Im} {L : Nat → Nat → Int64} {t : Nat}
def RowR (C M : Im) (q : Nat) : Prop := (∃ m, m ≤ 60 ∧ C (104 + 2 * q) 1 = nI m) ∧ ((C (104 + 2 * q) 2 = 0 ∧ M 202 q = -1) ∨ (C (104 + 2 * q) 2 = 1 ∧ M 202 q = C (104 + 2 * q) 1 ∧ ∀ i, i < (C (104 + 2 * q) 1).toNatClampNeg → C (104 + 2 * q + 1) i = M 203 (60 * q + i)))
theorem RowR.sz {C M : Im} {q : Nat} (h : RowR C M q) : ∃ m, m ≤ 60 ∧ C (104 + 2 * q) 1 = nI m := h.1
theorem RowR.th {C M : Im} {q : Nat} (h : RowR C M q) : (C (104 + 2 * q) 2 = 0 ∧ M 202 q = -1) ∨ (C (104 + 2 * q) 2 = 1 ∧ M 202 q = C (104 + 2 * q) 1 ∧ ∀ i, i < (C (104 + 2 * q) 1).toNatClampNeg → C (104 + 2 * q + 1) i = M 203 (60 * q + i)) := h.2
theorem RowR.mk {C M : Im} {q : Nat} (sz : ∃ m, m ≤ 60 ∧ C (104 + 2 * q) 1 = nI m) (th : (C (104 + 2 * q) 2 = 0 ∧ M 202 q = -1) ∨ (C (104 + 2 * q) 2 = 1 ∧ M 202 q = C (104 + 2 * q) 1 ∧ ∀ i, i < (C (104 + 2 * q) 1).toNatClampNeg → C (104 + 2 * q + 1) i = M 203 (60 * q + i))) : RowR C M q := ⟨sz, th⟩
def TxtR (C M : Im) (q : Nat) : Prop := (∃ m, m ≤ 100 ∧ C (116 + 2 * q) 1 = nI m) ∧ ((C (116 + 2 * q) 2 = 0 ∧ M 205 q = -1) ∨ (C (116 + 2 * q) 2 = 1 ∧ M 205 q = C (116 + 2 * q) 1 ∧ ∀ i, i < (C (116 + 2 * q) 1).toNatClampNeg → C (116 + 2 * q + 1) i = M 206 (100 * q + i)))
theorem TxtR.sz {C M : Im} {q : Nat} (h : TxtR C M q) : ∃ m, m ≤ 100 ∧ C (116 + 2 * q) 1 = nI m := h.1
theorem TxtR.th {C M : Im} {q : Nat} (h : TxtR C M q) : (C (116 + 2 * q) 2 = 0 ∧ M 205 q = -1) ∨ (C (116 + 2 * q) 2 = 1 ∧ M 205 q = C (116 + 2 * q) 1 ∧ ∀ i, i < (C (116 + 2 * q) 1).toNatClampNeg → C (116 + 2 * q + 1) i = M 206 (100 * q + i)) := h.2
theorem TxtR.mk {C M : Im} {q : Nat} (sz : ∃ m, m ≤ 100 ∧ C (116 + 2 * q) 1 = nI m) (th : (C (116 + 2 * q) 2 = 0 ∧ M 205 q = -1) ∨ (C (116 + 2 * q) 2 = 1 ∧ M 205 q = C (116 + 2 * q) 1 ∧ ∀ i, i < (C (116 + 2 * q) 1).toNatClampNeg → C (116 + 2 * q + 1) i = M 206 (100 * q + i))) : TxtR C M q := ⟨sz, th⟩
def HaX (H : Nat → Int32) : Prop := (∃ g, g ≤ 9 ∧ H 2 = nI g) ∧ (∃ r, r ≤ 9 ∧ H 3 = nI r) ∧ ∀ j, j < 16 → ∃ d, 1 ≤ d ∧ d ≤ 9 ∧ H (5 + j) = nI d
def SeX (S : Nat → Int32) (c : Nat) : Prop := ∀ i, i < c → (∃ p, 2 ≤ p ∧ p ≤ 60 ∧ S (2 * i) = nI p) ∧ ∃ a, a ≤ 99 ∧ S (2 * i + 1) = nI a
def HarR (C M : Im) (q : Nat) : Prop := (M 207 q = 0 ∨ M 207 q = 1) ∧ (C (124 + 2 * q) 1 = M 207 q) ∧ (∃ n, n ≤ 16 ∧ C (124 + 2 * q) 2 = nI n) ∧ (∃ n, n ≤ 16 ∧ M 208 (21 * q) = nI n) ∧ (¬ M 207 q = 0 → (∃ n mo, BaR C (124 + 2 * q) (fun p => M 208 (21 * q + p)) n mo) ∧ HaX (fun p => M 208 (21 * q + p)))
theorem HarR.z {C M : Im} {q : Nat} (h : HarR C M q) : M 207 q = 0 ∨ M 207 q = 1 := h.1
theorem HarR.e {C M : Im} {q : Nat} (h : HarR C M q) : C (124 + 2 * q) 1 = M 207 q := h.2.1
theorem HarR.cn {C M : Im} {q : Nat} (h : HarR C M q) : ∃ n, n ≤ 16 ∧ C (124 + 2 * q) 2 = nI n := h.2.2.1
theorem HarR.mn {C M : Im} {q : Nat} (h : HarR C M q) : ∃ n, n ≤ 16 ∧ M 208 (21 * q) = nI n := h.2.2.2.1
theorem HarR.th {C M : Im} {q : Nat} (h : HarR C M q) : ¬ M 207 q = 0 → (∃ n mo, BaR C (124 + 2 * q) (fun p => M 208 (21 * q + p)) n mo) ∧ HaX (fun p => M 208 (21 * q + p)) := h.2.2.2.2
theorem HarR.mk {C M : Im} {q : Nat} (z : M 207 q = 0 ∨ M 207 q = 1) (e : C (124 + 2 * q) 1 = M 207 q) (cn : ∃ n, n ≤ 16 ∧ C (124 + 2 * q) 2 = nI n) (mn : ∃ n, n ≤ 16 ∧ M 208 (21 * q) = nI n) (th : ¬ M 207 q = 0 → (∃ n mo, BaR C (124 + 2 * q) (fun p => M 208 (21 * q + p)) n mo) ∧ HaX (fun p => M 208 (21 * q + p))) : HarR C M q := ⟨z, e, cn, mn, th⟩
def SeaR (C M : Im) (q : Nat) : Prop := (M 209 q = 0 ∨ M 209 q = 1) ∧ (C (132 + 3 * q) 2 = M 209 q) ∧ (∃ c, c ≤ 4 ∧ C (132 + 3 * q) 3 = nI c) ∧ (∃ m, m ≤ 4 ∧ M 210 q = nI m ∧ ∀ i, i < m → ¬ M 211 (8 * q + 2 * i) = 0) ∧ (¬ M 209 q = 0 → ∃ c, SeR C (132 + 3 * q) (fun i => M 211 (8 * q + i)) c ∧ M 210 q = nI c ∧ SeX (fun i => M 211 (8 * q + i)) c)
theorem SeaR.z {C M : Im} {q : Nat} (h : SeaR C M q) : M 209 q = 0 ∨ M 209 q = 1 := h.1
theorem SeaR.e {C M : Im} {q : Nat} (h : SeaR C M q) : C (132 + 3 * q) 2 = M 209 q := h.2.1
theorem SeaR.cc {C M : Im} {q : Nat} (h : SeaR C M q) : ∃ c, c ≤ 4 ∧ C (132 + 3 * q) 3 = nI c := h.2.2.1
theorem SeaR.mc {C M : Im} {q : Nat} (h : SeaR C M q) : ∃ m, m ≤ 4 ∧ M 210 q = nI m ∧ ∀ i, i < m → ¬ M 211 (8 * q + 2 * i) = 0 := h.2.2.2.1
theorem SeaR.th {C M : Im} {q : Nat} (h : SeaR C M q) : ¬ M 209 q = 0 → ∃ c, SeR C (132 + 3 * q) (fun i => M 211 (8 * q + i)) c ∧ M 210 q = nI c ∧ SeX (fun i => M 211 (8 * q + i)) c := h.2.2.2.2
theorem SeaR.mk {C M : Im} {q : Nat} (z : M 209 q = 0 ∨ M 209 q = 1) (e : C (132 + 3 * q) 2 = M 209 q) (cc : ∃ c, c ≤ 4 ∧ C (132 + 3 * q) 3 = nI c) (mc : ∃ m, m ≤ 4 ∧ M 210 q = nI m ∧ ∀ i, i < m → ¬ M 211 (8 * q + 2 * i) = 0) (th : ¬ M 209 q = 0 → ∃ c, SeR C (132 + 3 * q) (fun i => M 211 (8 * q + i)) c ∧ M 210 q = nI c ∧ SeX (fun i => M 211 (8 * q + i)) c) : SeaR C M q := ⟨z, e, cc, mc, th⟩
def ShpR (C M : Im) (q : Nat) : Prop := (M 214 q = 0 ∨ M 214 q = 1) ∧ (C (144 + q) 0 = M 214 q) ∧ (¬ M 214 q = 0 → (∀ j, j < 5 → C (144 + q) (1 + j) = M 215 (5 * q + j)) ∧ (∃ k, k < 16 ∧ M 215 (5 * q) = nI k) ∧ (∃ w, 1 ≤ w ∧ w ≤ 9 ∧ M 215 (5 * q + 1) = nI w) ∧ (∃ g, 1 ≤ g ∧ g ≤ 9 ∧ M 215 (5 * q + 2) = nI g) ∧ (∃ l, l ≤ 30 ∧ M 215 (5 * q + 3) = nI l) ∧ ∃ p, 1 ≤ p ∧ p ≤ 9999 ∧ M 215 (5 * q + 4) = nI p)
theorem ShpR.z {C M : Im} {q : Nat} (h : ShpR C M q) : M 214 q = 0 ∨ M 214 q = 1 := h.1
theorem ShpR.e {C M : Im} {q : Nat} (h : ShpR C M q) : C (144 + q) 0 = M 214 q := h.2.1
theorem ShpR.th {C M : Im} {q : Nat} (h : ShpR C M q) : ¬ M 214 q = 0 → (∀ j, j < 5 → C (144 + q) (1 + j) = M 215 (5 * q + j)) ∧ (∃ k, k < 16 ∧ M 215 (5 * q) = nI k) ∧ (∃ w, 1 ≤ w ∧ w ≤ 9 ∧ M 215 (5 * q + 1) = nI w) ∧ (∃ g, 1 ≤ g ∧ g ≤ 9 ∧ M 215 (5 * q + 2) = nI g) ∧ (∃ l, l ≤ 30 ∧ M 215 (5 * q + 3) = nI l) ∧ ∃ p, 1 ≤ p ∧ p ≤ 9999 ∧ M 215 (5 * q + 4) = nI p := h.2.2
theorem ShpR.mk {C M : Im} {q : Nat} (z : M 214 q = 0 ∨ M 214 q = 1) (e : C (144 + q) 0 = M 214 q) (th : ¬ M 214 q = 0 → (∀ j, j < 5 → C (144 + q) (1 + j) = M 215 (5 * q + j)) ∧ (∃ k, k < 16 ∧ M 215 (5 * q) = nI k) ∧ (∃ w, 1 ≤ w ∧ w ≤ 9 ∧ M 215 (5 * q + 1) = nI w) ∧ (∃ g, 1 ≤ g ∧ g ≤ 9 ∧ M 215 (5 * q + 2) = nI g) ∧ (∃ l, l ≤ 30 ∧ M 215 (5 * q + 3) = nI l) ∧ ∃ p, 1 ≤ p ∧ p ≤ 9999 ∧ M 215 (5 * q + 4) = nI p) : ShpR C M q := ⟨z, e, th⟩
def WrkR (C M : Im) : Prop := (∃ m, m ≤ 5 ∧ M 200 37 = nI m) ∧ (C 0 16 = M 200 37) ∧ (∀ q, q < 5 → vp_in (M 222 (4 * q + 1)) 16) ∧ (∀ q, q < (M 200 37).toNatClampNeg → (∀ j, j < 4 → C (147 + q) j = M 222 (4 * q + j)) ∧ (∃ d, d ≤ 5 ∧ M 222 (4 * q) = nI d) ∧ (∃ v, v ≤ 9 ∧ M 222 (4 * q + 2) = nI v) ∧ ∃ v, v ≤ 99 ∧ M 222 (4 * q + 3) = nI v)
theorem WrkR.m5 {C M : Im} (h : WrkR C M) : ∃ m, m ≤ 5 ∧ M 200 37 = nI m := h.1
theorem WrkR.e {C M : Im} (h : WrkR C M) : C 0 16 = M 200 37 := h.2.1
theorem WrkR.wj {C M : Im} (h : WrkR C M) : ∀ q, q < 5 → vp_in (M 222 (4 * q + 1)) 16 := h.2.2.1
theorem WrkR.wk {C M : Im} (h : WrkR C M) : ∀ q, q < (M 200 37).toNatClampNeg → (∀ j, j < 4 → C (147 + q) j = M 222 (4 * q + j)) ∧ (∃ d, d ≤ 5 ∧ M 222 (4 * q) = nI d) ∧ (∃ v, v ≤ 9 ∧ M 222 (4 * q + 2) = nI v) ∧ ∃ v, v ≤ 99 ∧ M 222 (4 * q + 3) = nI v := h.2.2.2
theorem WrkR.mk {C M : Im} (m5 : ∃ m, m ≤ 5 ∧ M 200 37 = nI m) (e : C 0 16 = M 200 37) (wj : ∀ q, q < 5 → vp_in (M 222 (4 * q + 1)) 16) (wk : ∀ q, q < (M 200 37).toNatClampNeg → (∀ j, j < 4 → C (147 + q) j = M 222 (4 * q + j)) ∧ (∃ d, d ≤ 5 ∧ M 222 (4 * q) = nI d) ∧ (∃ v, v ≤ 9 ∧ M 222 (4 * q + 2) = nI v) ∧ ∃ v, v ≤ 99 ∧ M 222 (4 * q + 3) = nI v) : WrkR C M := ⟨m5, e, wj, wk⟩
def NigR (C M : Im) (a B f : Nat) : Prop := (M 216 f = 0 ∨ M 216 f = 1) ∧ (C a 3 = M 216 f) ∧ (¬ M 216 f = 0 → (∃ n mo c, NR C a 3 (rdw M B) n mo c) ∧ (C (a + 2) 1 = 0 ∨ C (a + 2) 1 = 1) ∧ (C (a + 4) 2 = 0 ∨ C (a + 4) 2 = 1) ∧ (∀ n, C (a + 2) 2 = nI n → n ≤ 16 → ∀ s, s < 3 → (C (a + 13 + s) 0 = 0 ∧ rdw M B (95 + 10 * s) = 0) ∨ (C (a + 13 + s) 0 = 1 ∧ BoK C (a + 13 + s) (rdw M B) s n)) ∧ HaX (rdw M B))
theorem NigR.z {C M : Im} {a B f : Nat} (h : NigR C M a B f) : M 216 f = 0 ∨ M 216 f = 1 := h.1
theorem NigR.e {C M : Im} {a B f : Nat} (h : NigR C M a B f) : C a 3 = M 216 f := h.2.1
theorem NigR.th {C M : Im} {a B f : Nat} (h : NigR C M a B f) : ¬ M 216 f = 0 → (∃ n mo c, NR C a 3 (rdw M B) n mo c) ∧ (C (a + 2) 1 = 0 ∨ C (a + 2) 1 = 1) ∧ (C (a + 4) 2 = 0 ∨ C (a + 4) 2 = 1) ∧ (∀ n, C (a + 2) 2 = nI n → n ≤ 16 → ∀ s, s < 3 → (C (a + 13 + s) 0 = 0 ∧ rdw M B (95 + 10 * s) = 0) ∨ (C (a + 13 + s) 0 = 1 ∧ BoK C (a + 13 + s) (rdw M B) s n)) ∧ HaX (rdw M B) := h.2.2
theorem NigR.mk {C M : Im} {a B f : Nat} (z : M 216 f = 0 ∨ M 216 f = 1) (e : C a 3 = M 216 f) (th : ¬ M 216 f = 0 → (∃ n mo c, NR C a 3 (rdw M B) n mo c) ∧ (C (a + 2) 1 = 0 ∨ C (a + 2) 1 = 1) ∧ (C (a + 4) 2 = 0 ∨ C (a + 4) 2 = 1) ∧ (∀ n, C (a + 2) 2 = nI n → n ≤ 16 → ∀ s, s < 3 → (C (a + 13 + s) 0 = 0 ∧ rdw M B (95 + 10 * s) = 0) ∨ (C (a + 13 + s) 0 = 1 ∧ BoK C (a + 13 + s) (rdw M B) s n)) ∧ HaX (rdw M B)) : NigR C M a B f := ⟨z, e, th⟩
def FndR (C M : Im) : Prop := (C 0 17 = M 200 0) ∧ (∀ f, f < 6 → C 102 f = M 201 f) ∧ (C 0 18 = M 200 2)
theorem FndR.la {C M : Im} (h : FndR C M) : C 0 17 = M 200 0 := h.1
theorem FndR.co {C M : Im} (h : FndR C M) : ∀ f, f < 6 → C 102 f = M 201 f := h.2.1
theorem FndR.to {C M : Im} (h : FndR C M) : C 0 18 = M 200 2 := h.2.2
theorem FndR.mk {C M : Im} (la : C 0 17 = M 200 0) (co : ∀ f, f < 6 → C 102 f = M 201 f) (to : C 0 18 = M 200 2) : FndR C M := ⟨la, co, to⟩
def RelP (C M : Im) : Prop := (∀ q, q < 6 → RowR C M q) ∧ (∀ q, q < 4 → TxtR C M q) ∧ (∀ q, q < 4 → HarR C M q) ∧ (∀ q, q < 4 → SeaR C M q) ∧ (∀ q, q < 3 → ShpR C M q) ∧ (WrkR C M) ∧ (NigR C M 8 0 0) ∧ (∀ q, q < 3 → NigR C M (152 + 16 * q) (125 * (1 + q)) (1 + q)) ∧ (FndR C M) ∧ (CalmS C) ∧ (BtS M)
theorem RelP.row {C M : Im} (h : RelP C M) : ∀ q, q < 6 → RowR C M q := h.1
theorem RelP.txt {C M : Im} (h : RelP C M) : ∀ q, q < 4 → TxtR C M q := h.2.1
theorem RelP.har {C M : Im} (h : RelP C M) : ∀ q, q < 4 → HarR C M q := h.2.2.1
theorem RelP.sea {C M : Im} (h : RelP C M) : ∀ q, q < 4 → SeaR C M q := h.2.2.2.1
theorem RelP.shp {C M : Im} (h : RelP C M) : ∀ q, q < 3 → ShpR C M q := h.2.2.2.2.1
theorem RelP.wrk {C M : Im} (h : RelP C M) : WrkR C M := h.2.2.2.2.2.1
theorem RelP.nig {C M : Im} (h : RelP C M) : NigR C M 8 0 0 := h.2.2.2.2.2.2.1
theorem RelP.kep {C M : Im} (h : RelP C M) : ∀ q, q < 3 → NigR C M (152 + 16 * q) (125 * (1 + q)) (1 + q) := h.2.2.2.2.2.2.2.1
theorem RelP.fnd {C M : Im} (h : RelP C M) : FndR C M := h.2.2.2.2.2.2.2.2.1
theorem RelP.cal {C M : Im} (h : RelP C M) : CalmS C := h.2.2.2.2.2.2.2.2.2.1
theorem RelP.bts {C M : Im} (h : RelP C M) : BtS M := h.2.2.2.2.2.2.2.2.2.2
theorem RelP.mk {C M : Im} (row : ∀ q, q < 6 → RowR C M q) (txt : ∀ q, q < 4 → TxtR C M q) (har : ∀ q, q < 4 → HarR C M q) (sea : ∀ q, q < 4 → SeaR C M q) (shp : ∀ q, q < 3 → ShpR C M q) (wrk : WrkR C M) (nig : NigR C M 8 0 0) (kep : ∀ q, q < 3 → NigR C M (152 + 16 * q) (125 * (1 + q)) (1 + q)) (fnd : FndR C M) (cal : CalmS C) (bts : BtS M) : RelP C M := ⟨row, txt, har, sea, shp, wrk, nig, kep, fnd, cal, bts⟩
section
variable {C M D E : Im}
theorem HaX_of {H K : Nat → Int32} (h : HaX H) (e : ∀ p, p < 21 → K p = H p) : HaX K := by
  unfold HaX at h ⊢
  rw [e 2 (by decide), e 3 (by decide)]
  exact ⟨h.1, h.2.1, fun j hj => by rw [e (5 + j) (by omega)]; exact h.2.2 j hj⟩
theorem SeX_of {S T : Nat → Int32} {c : Nat} (h : SeX S c) (h4 : c ≤ 4) (e : ∀ i, i < 8 → T i = S i) : SeX T c := by
  intro i hi
  rw [e (2 * i) (by omega), e (2 * i + 1) (by omega)]
  exact h i hi
theorem RowR_of {q : Nat} (h : RowR C M q) (e0 : D (104 + 2 * q) = C (104 + 2 * q)) (e1 : D (104 + 2 * q + 1) = C (104 + 2 * q + 1)) (e2 : E 202 q = M 202 q) (e3 : ∀ i, i < 60 → E 203 (60 * q + i) = M 203 (60 * q + i)) : RowR D E q := by
  unfold RowR
  rw [e0, e1, e2]
  refine ⟨h.sz, h.th.imp id (fun z => ⟨z.1, z.2.1, fun i hi => ?_⟩)⟩
  obtain ⟨m, hm, em⟩ := h.sz
  rw [em, nI_clamp (by omega)] at hi
  rw [e3 i (by omega)]
  exact z.2.2 i (by rw [em, nI_clamp (by omega)]; exact hi)
theorem TxtR_of {q : Nat} (h : TxtR C M q) (e0 : D (116 + 2 * q) = C (116 + 2 * q)) (e1 : D (116 + 2 * q + 1) = C (116 + 2 * q + 1)) (e2 : E 205 q = M 205 q) (e3 : ∀ i, i < 100 → E 206 (100 * q + i) = M 206 (100 * q + i)) : TxtR D E q := by
  unfold TxtR
  rw [e0, e1, e2]
  refine ⟨h.sz, h.th.imp id (fun z => ⟨z.1, z.2.1, fun i hi => ?_⟩)⟩
  obtain ⟨m, hm, em⟩ := h.sz
  rw [em, nI_clamp (by omega)] at hi
  rw [e3 i (by omega)]
  exact z.2.2 i (by rw [em, nI_clamp (by omega)]; exact hi)
theorem BaR_of {b n mo : Nat} {H : Nat → Int32} (h : BaR C b H n mo) (e0 : D b = C b) (e1 : D (b + 1) = C (b + 1)) : BaR D b H n mo := by
  unfold BaR
  rw [e0, e1]
  exact h
theorem SeR_of {s c : Nat} {S : Nat → Int32} (h : SeR C s S c) (e0 : D s = C s) (e1 : D (s + 1) = C (s + 1)) (e2 : D (s + 2) = C (s + 2)) : SeR D s S c := by
  unfold SeR
  rw [e0, e1, e2]
  exact h
theorem HarR_of {q : Nat} (h : HarR C M q) (e0 : D (124 + 2 * q) = C (124 + 2 * q)) (e1 : D (124 + 2 * q + 1) = C (124 + 2 * q + 1)) (e2 : E 207 q = M 207 q) (e3 : ∀ i, i < 21 → E 208 (21 * q + i) = M 208 (21 * q + i)) : HarR D E q := by
  have e30 := e3 0 (by decide)
  rw [Nat.add_zero] at e30
  refine HarR.mk (by rw [e2]; exact h.z) (by rw [e0, e2]; exact h.e) (by rw [e0]; exact h.cn) (by rw [e30]; exact h.mn) ?_
  intro hz
  rw [e2] at hz
  obtain ⟨⟨n, mo, hb⟩, hx⟩ := h.th hz
  have n16 := hb.n16
  refine ⟨⟨n, mo, BaR.mk hb.n3 hb.n16 hb.mm (by rw [e0]; exact hb.ce) (by rw [e0]; exact hb.mu) (by rw [e0, e3 2 (by decide)]; exact hb.wi) (by rw [e0, e3 3 (by decide)]; exact hb.ru) (by rw [e0, e3 4 (by decide)]; exact hb.wa) (fun j hj => by rw [e1, e3 (5 + j) (by omega)]; exact hb.de j hj) (by rw [e3 0 (by decide)]; exact hb.h0) (by rw [e3 1 (by decide)]; exact hb.h1)⟩, HaX_of hx (fun p hp => e3 p hp)⟩
theorem SeaR_of {q : Nat} (h : SeaR C M q) (e0 : D (132 + 3 * q) = C (132 + 3 * q)) (e1 : D (132 + 3 * q + 1) = C (132 + 3 * q + 1)) (e2 : D (132 + 3 * q + 2) = C (132 + 3 * q + 2)) (e3 : E 209 q = M 209 q) (e4 : E 210 q = M 210 q) (e5 : ∀ i, i < 8 → E 211 (8 * q + i) = M 211 (8 * q + i)) : SeaR D E q := by
  refine SeaR.mk (by rw [e3]; exact h.z) (by rw [e0, e3]; exact h.e) (by rw [e0]; exact h.cc) ?_ ?_
  · obtain ⟨m, h4, em, hb⟩ := h.mc
    refine ⟨m, h4, by rw [e4]; exact em, fun i hi => ?_⟩
    rw [e5 (2 * i) (by omega)]
    exact hb i hi
  · intro hz
    rw [e3] at hz
    obtain ⟨c, hs, em, hx⟩ := h.th hz
    have c4 := hs.c4
    refine ⟨c, SeR.mk c4 (by rw [e0]; exact hs.ct) (fun i hi => ?_), by rw [e4]; exact em, SeX_of hx c4 (fun i hi => e5 i hi)⟩
    · rw [e1, e2, e5 (2 * i) (by omega), e5 (2 * i + 1) (by omega)]
      exact hs.be i hi
theorem ShpR_of {q : Nat} (h : ShpR C M q) (e0 : D (144 + q) = C (144 + q)) (e2 : E 214 q = M 214 q) (e3 : ∀ i, i < 5 → E 215 (5 * q + i) = M 215 (5 * q + i)) : ShpR D E q := by
  refine ShpR.mk (by rw [e2]; exact h.z) (by rw [e0, e2]; exact h.e) ?_
  intro hz
  rw [e2] at hz
  obtain ⟨x0, x1, x2, x3, x4, x5⟩ := h.th hz
  have e30 := e3 0 (by decide)
  rw [Nat.add_zero] at e30
  rw [e0, e30, e3 1 (by decide), e3 2 (by decide), e3 3 (by decide), e3 4 (by decide)]
  exact ⟨fun j hj => by rw [e3 j hj]; exact x0 j hj, x1, x2, x3, x4, x5⟩
theorem WrkR_of (h : WrkR C M) (e0 : D 0 16 = C 0 16) (e1 : ∀ q, q < 5 → D (147 + q) = C (147 + q)) (e2 : E 200 37 = M 200 37) (e3 : E 222 = M 222) : WrkR D E := by
  refine WrkR.mk (by rw [e2]; exact h.m5) (by rw [e0, e2]; exact h.e) (by rw [e3]; exact h.wj) ?_
  rw [e2, e3]
  intro q hq
  obtain ⟨m, h5, em⟩ := h.m5
  have hq2 := hq
  rw [em, nI_clamp (by omega)] at hq2
  rw [e1 q (by omega)]
  exact h.wk q hq
theorem FndR_of (h : FndR C M) (e0 : D 0 17 = C 0 17) (e1 : D 102 = C 102) (e2 : D 0 18 = C 0 18) (e3 : E 200 0 = M 200 0) (e4 : E 201 = M 201) (e5 : E 200 2 = M 200 2) : FndR D E := FndR.mk (by rw [e0, e3]; exact h.la) (by rw [e1, e4]; exact h.co) (by rw [e2, e5]; exact h.to)
theorem WfN_95 {N P : Nat → Int32} {n mo c : Nat} (h : WfN N n mo c) (e : ∀ p, p < 125 → P p = N p) : WfN P n mo c := WfN_of (fun p hp => e p (by omega)) (fun i j hi hj => e _ (by omega)) h
theorem BoK_of {b s n : Nat} {N P : Nat → Int32} (h : BoK C b N s n) (hs : s < 3) (e0 : D b = C b) (e : ∀ p, p < 125 → P p = N p) : BoK D b P s n := by
  unfold BoK BoR at h ⊢
  rw [e0, e (95 + 10 * s) (by omega), e (95 + 10 * s + 1) (by omega), e (95 + 10 * s + 2) (by omega)]
  exact ⟨fun j h1 h9 => by rw [e (95 + 10 * s + j) (by omega)]; exact h.1 j h1 h9, h.2⟩
theorem NR_of {a m n mo c : Nat} {N P : Nat → Int32} (h : NR C a m N n mo c) (e0 : ∀ e, a ≤ e → e ≤ a + 11 → D e = C e) (e : ∀ p, p < 125 → P p = N p) : NR D a m P n mo c := by
  obtain ⟨h1, h2, h3, h4, h5⟩ := h
  have hn := h2.1.2
  refine ⟨WR_of h1 (e0 _ (by omega) (by omega)) (e0 _ (by omega) (by omega)) (e0 _ (by omega) (by omega)) (by rw [e0 _ (by omega) (by omega)]) (e0 _ (by omega) (by omega)) (e0 _ (by omega) (by omega)) (e0 _ (by omega) (by omega)) (e0 _ (by omega) (by omega)) (e0 _ (by omega) (by omega)) (fun p hp => e p (by omega)) hn h2.2.2.2.1.1, WfN_95 h2 e, by rw [e0 _ (by omega) (by omega)]; exact h3, by rw [e0 _ (by omega) (by omega)]; exact h4, by rw [e0 _ (by omega) (by omega)]; exact h5⟩
theorem NigR_of {a B f : Nat} (h : NigR C M a B f) (e0 : ∀ e, a ≤ e → e ≤ a + 15 → D e = C e) (e1 : E 216 f = M 216 f) (e2 : ∀ p, p < 125 → E 217 (B + p) = M 217 (B + p)) : NigR D E a B f := by
  refine NigR.mk (by rw [e1]; exact h.z) (by rw [e0 a (by omega) (by omega), e1]; exact h.e) ?_
  intro hz
  rw [e1] at hz
  obtain ⟨⟨n, mo, c, hN⟩, x1, x2, x3, x4⟩ := h.th hz
  have er : ∀ p, p < 125 → rdw E B p = rdw M B p := e2
  refine ⟨⟨n, mo, c, NR_of hN (fun e h1 h2 => e0 e h1 (by omega)) er⟩, by rw [e0 _ (by omega) (by omega)]; exact x1, by rw [e0 _ (by omega) (by omega)]; exact x2, ?_, HaX_of x4 (fun p hp => er p (by omega))⟩
  rw [e0 (a + 2) (by omega) (by omega)]
  intro n hn n16 s hs
  rw [e0 (a + 13 + s) (by omega) (by omega), er (95 + 10 * s) (by omega)]
  exact (x3 n hn n16 s hs).imp id (fun z => ⟨z.1, BoK_of z.2 hs (e0 _ (by omega) (by omega)) er⟩)
/-- what a call that changes no book leaves alone -/
def KeC (D C : Im) : Prop := (∀ e, (8 ≤ e ∧ e ≤ 23) ∨ e = 95 ∨ (104 ≤ e ∧ e < 200) → D e = C e) ∧ D 0 16 = C 0 16
def KeM (E M : Im) : Prop := (∀ e, e = 202 ∨ e = 203 ∨ (205 ≤ e ∧ e ≤ 211) ∨ (214 ≤ e ∧ e ≤ 216) ∨ e = 222 → E e = M e) ∧ (∀ j, j < 500 → E 217 j = M 217 j) ∧ E 200 37 = M 200 37
theorem Rel_of (h : RelP C M) (hC : KeC D C) (hM : KeM E M) (hF : FndR D E) : RelP D E := by
  obtain ⟨hC, hC2⟩ := hC
  obtain ⟨hM, hM2, hM3⟩ := hM
  refine RelP.mk ?_ ?_ ?_ ?_ ?_ ?_ ?_ ?_ hF ?_ ?_
  · intro q hq
    exact RowR_of (h.row q hq) (hC _ (by omega)) (hC _ (by omega)) (by rw [hM 202 (by omega)]) (fun i hi => by rw [hM 203 (by omega)])
  · intro q hq
    exact TxtR_of (h.txt q hq) (hC _ (by omega)) (hC _ (by omega)) (by rw [hM 205 (by omega)]) (fun i hi => by rw [hM 206 (by omega)])
  · intro q hq
    exact HarR_of (h.har q hq) (hC _ (by omega)) (hC _ (by omega)) (by rw [hM 207 (by omega)]) (fun i hi => by rw [hM 208 (by omega)])
  · intro q hq
    exact SeaR_of (h.sea q hq) (hC _ (by omega)) (hC _ (by omega)) (hC _ (by omega)) (by rw [hM 209 (by omega)]) (by rw [hM 210 (by omega)]) (fun i hi => by rw [hM 211 (by omega)])
  · intro q hq
    exact ShpR_of (h.shp q hq) (hC _ (by omega)) (by rw [hM 214 (by omega)]) (fun i hi => by rw [hM 215 (by omega)])
  · exact WrkR_of h.wrk hC2 (fun q hq => hC _ (by omega)) hM3 (hM 222 (by omega))
  · exact NigR_of h.nig (fun e h1 h2 => hC e (by omega)) (by rw [hM 216 (by omega)]) (fun p hp => hM2 _ (by omega))
  · intro q hq
    exact NigR_of (h.kep q hq) (fun e h1 h2 => hC e (by omega)) (by rw [hM 216 (by omega)]) (fun p hp => hM2 _ (by omega))
  · unfold CalmS
    rw [hC 95 (by omega)]
    exact h.cal
  · unfold BtS
    rw [hM 206 (by omega)]
    exact h.bts
end
end R4
