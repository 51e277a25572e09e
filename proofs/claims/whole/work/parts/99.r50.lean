section R50
variable {G : Gp} {I : Im} {L : Nat → Nat → Int64} {t : Nat}
section
variable {R : Nat → Nat → Option Nat} {d : Md} {pc : Nat} {ls : List (Option Value)} {st : List Value} {uc us : Nat} {P : Option Value → Mem → Prop} {n : Nat}
/-- the memory while it is made -/
def pm (I : Im) (L : Nat → Nat → Int64) (R : Nat → Nat → Option Nat) (n : Nat) : Mem := (I, L, R, K0, n)
def zI : Nat → Int32 := fun _ => 0
def zL : Nat → Int64 := fun _ => 0
def zR : Nat → Option Nat := fun _ => none
def Zm (I : Im) (L : Nat → Nat → Int64) (R : Nat → Nat → Option Nat) (n : Nat) : Prop := ∀ c, n ≤ c → I c = zI ∧ L c = zL ∧ R c = zR
theorem Zm.up {I : Im} {L : Nat → Nat → Int64} {R : Nat → Nat → Option Nat} {n k : Nat} (h : Zm I L R n) (hk : n ≤ k) : Zm I L R k := fun c hc => h c (Nat.le_trans hk hc)
theorem Zm.r {a j : Nat} {v : Option Nat} (h : Zm I L R n) (ha : a < n) : Zm I L (up2 R a j v) n := fun c hc => ⟨(h c hc).1, (h c hc).2.1, by rw [up2_off (by omega)]; exact (h c hc).2.2⟩
theorem Zm.i {a j : Nat} {v : Int32} (h : Zm I L R n) (ha : a < n) : Zm (up2 I a j v) L R n := fun c hc => ⟨by rw [up2_off (by omega)]; exact (h c hc).1, (h c hc).2⟩
theorem Zm.l {a j : Nat} {v : Int64} (h : Zm I L R n) (ha : a < n) : Zm I (up2 L a j v) R n := fun c hc => ⟨(h c hc).1, by rw [up2_off (by omega)]; exact (h c hc).2.1, (h c hc).2.2⟩
theorem newM_pm {kd N : Nat} (hz : Zm I L R n) (hk : K0 n = (kd, N)) : newM (pm I L R n) kd N = pm I L R (n + 1) := by
  obtain ⟨h1, h2, h3⟩ := hz n (Nat.le_refl n)
  have e1 : (fun a j => if a = n then 0 else I a j) = I := by
    funext a j
    by_cases c : a = n
    · subst c
      rw [if_pos rfl, h1]
      rfl
    · rw [if_neg c]
  have e2 : (fun a j => if a = n then 0 else L a j) = L := by
    funext a j
    by_cases c : a = n
    · subst c
      rw [if_pos rfl, h2]
      rfl
    · rw [if_neg c]
  have e3 : (fun a j => if a = n then none else R a j) = R := by
    funext a j
    by_cases c : a = n
    · subst c
      rw [if_pos rfl, h3]
      rfl
    · rw [if_neg c]
  have e4 : (fun a => if a = n then (kd, N) else K0 a) = K0 := by
    funext a
    by_cases c : a = n
    · subst c
      rw [if_pos rfl, hk]
    · rw [if_neg c]
  show ((fun a j => if a = n then 0 else I a j), (fun a j => if a = n then 0 else L a j), (fun a j => if a = n then none else R a j), (fun a => if a = n then (kd, N) else K0 a), n + 1) = (I, L, R, K0, n + 1)
  rw [e1, e2, e3, e4]
theorem px_new {C : String} {T : u_T} {N kd idx : Nat} {own : String} (ty0 : Nat → FieldType) (h : decode d.2.1 pc = .ok (.new idx, 3)) (ho : d.1.cls = own) (hc : vwCl[kd]? = some (C, T, N)) (h13 : kd < 13) (hin : ∀ w ∈ u_ws C T N, w ∈ lw_gd) (hty : ∀ k, k < N → parseFieldDescriptor (T k).2.2.1 = some (ty0 k)) (hdv : ∀ j, j < N → defaultValue (ty0 j) = dval kd j) (h1 : Cond.classLink own idx C ∈ lw_gd) (h2 : Cond.instantiable C N ∈ lw_gd) (h3 : Cond.initialized C ∈ lw_gd) (hb : uc + 1 ≤ d.2.2.2.2.cells ∧ us + N ≤ d.2.2.2.2.slots) (hz : Zm I L R n) (hk : K0 n = (kd, N)) (hm : n < 999999) (k : Ex G d (pc + 3) ls (.ref n :: st) (pm I L R (n + 1)) (uc + 1) (us + N) P) : Ex G d pc ls st (pm I L R n) uc us P := ex_new ty0 h ho hc h13 hin hty hdv h1 h2 h3 hb hm (by rw [newM_pm hz hk]; exact k)
theorem px_newp {kd t0 : Nat} {atype : ArrayType} {ty : FieldType} {v : Int32} {N : Nat} (h : decode d.2.1 pc = .ok (.newarray atype, 2)) (hty : newarray.typeOf atype = ty) (h13 : ¬ kd < 13) (h16 : kd < 16) (hra : ∀ (U : State) (cA : ClassId), va_RA U cA ty → U.vm.findClass ("[" ++ ty.toString) = some cA) (ht : (tys G)[t0]? = some (gY G kd, ty)) (hdf : defaultValue ty = .int 0) (hw : Cond.arrayClass ty ∈ lw_gd) (hn0 : ¬ v < 0) (hN : v.toNatClampNeg = N) (hby : N * componentBytes ty ≤ 536870912) (hb : uc + 1 ≤ d.2.2.2.2.cells ∧ us + N ≤ d.2.2.2.2.slots) (hz : Zm I L R n) (hk : K0 n = (kd, N)) (hm : n < 999999) (k : Ex G d (pc + 2) ls (.ref n :: st) (pm I L R (n + 1)) (uc + 1) (us + N) P) : Ex G d pc ls (.int v :: st) (pm I L R n) uc us P := ex_newp h hty h13 h16 hra ht hdf hw hn0 hN hby hb hm (by rw [newM_pm hz hk]; exact k)
theorem px_newr {kd t0 idx : Nat} {own C : String} {v : Int32} {N : Nat} (h : decode d.2.1 pc = .ok (.anewarray idx, 3)) (ho : d.1.cls = own) (hcl : Cond.classLink own idx C ∈ lw_gd) (hC : C ∈ aoc) (h16 : ¬ kd < 16) (ht : (tys G)[t0]? = some (gY G kd, .object C)) (hn0 : ¬ v < 0) (hN : v.toNatClampNeg = N) (hby : N * 4 ≤ 536870912) (hb : uc + 1 ≤ d.2.2.2.2.cells ∧ us + N ≤ d.2.2.2.2.slots) (hz : Zm I L R n) (hk : K0 n = (kd, N)) (hm : n < 999999) (k : Ex G d (pc + 3) ls (.ref n :: st) (pm I L R (n + 1)) (uc + 1) (us + N) P) : Ex G d pc ls (.int v :: st) (pm I L R n) uc us P := ex_newr h ho hcl hC h16 ht hn0 hN hby hb hm (by rw [newM_pm hz hk]; exact k)
theorem px_F {C : String} {T : u_T} {N kd j idx a b : Nat} {own : String} (ty0 : Nat → FieldType) (h : decode d.2.1 pc = .ok (.putfield idx, 3)) (ho : d.1.cls = own) (hini : d.1.name = "<init>") (hc : vwCl[kd]? = some (C, T, N)) (hin : ∀ w ∈ u_ws C T N, w ∈ lw_gd) (hty : ∀ k, k < N → parseFieldDescriptor (T k).2.2.1 = some (ty0 k)) (hnm : ∀ a, a < N → ∀ b, b < N → a ≠ b → (T a).2.1 ≠ (T b).2.1) (hj : j < N) (h13 : kd < 13) (hlink : Cond.fieldLink own idx (T j).1 (T j).2.1 (T j).2.2.1 ∈ lw_gd) (hfin : (T j).2.2.2 = true) (hdecl : (T j).1 = own) (hnf : narrow (ty0 j) (cv G (.ref b)) = cv G (.ref b) ∧ fits (ty0 j) (cv G (.ref b)) = true) (hv : tyc kd j = 2) (hk : K0 a = (kd, N)) (ha : a < n) (k : Ex G d (pc + 3) ls st (pm I L (up2 R a j (some b)) n) uc us P) : Ex G d pc ls (.ref b :: .ref a :: st) (pm I L R n) uc us P := ex_putF (v := .ref b) ty0 h ho hini hc hin hty hnm hj h13 hlink hfin hdecl hnf hv hk ha k
theorem px_N {C : String} {T : u_T} {N kd j idx a b : Nat} {own : String} (ty0 : Nat → FieldType) (h : decode d.2.1 pc = .ok (.putfield idx, 3)) (ho : d.1.cls = own) (hc : vwCl[kd]? = some (C, T, N)) (hin : ∀ w ∈ u_ws C T N, w ∈ lw_gd) (hty : ∀ k, k < N → parseFieldDescriptor (T k).2.2.1 = some (ty0 k)) (hnm : ∀ a, a < N → ∀ b, b < N → a ≠ b → (T a).2.1 ≠ (T b).2.1) (hj : j < N) (h13 : kd < 13) (hlink : Cond.fieldLink own idx (T j).1 (T j).2.1 (T j).2.2.1 ∈ lw_gd) (hfin : (T j).2.2.2 = false) (hnf : narrow (ty0 j) (cv G (.ref b)) = cv G (.ref b) ∧ fits (ty0 j) (cv G (.ref b)) = true) (hv : tyc kd j = 2) (hk : K0 a = (kd, N)) (ha : a < n) (k : Ex G d (pc + 3) ls st (pm I L (up2 R a j (some b)) n) uc us P) : Ex G d pc ls (.ref b :: .ref a :: st) (pm I L R n) uc us P := ex_put (v := .ref b) ty0 h ho hc hin hty hnm hj h13 hlink hfin hnf hv hk ha k
theorem px_I {C : String} {T : u_T} {N kd j idx a : Nat} {own : String} {x : Int32} (ty0 : Nat → FieldType) (h : decode d.2.1 pc = .ok (.putfield idx, 3)) (ho : d.1.cls = own) (hc : vwCl[kd]? = some (C, T, N)) (hin : ∀ w ∈ u_ws C T N, w ∈ lw_gd) (hty : ∀ k, k < N → parseFieldDescriptor (T k).2.2.1 = some (ty0 k)) (hnm : ∀ a, a < N → ∀ b, b < N → a ≠ b → (T a).2.1 ≠ (T b).2.1) (hj : j < N) (h13 : kd < 13) (hlink : Cond.fieldLink own idx (T j).1 (T j).2.1 (T j).2.2.1 ∈ lw_gd) (hfin : (T j).2.2.2 = false) (hnf : narrow (ty0 j) (.int x) = .int x ∧ fits (ty0 j) (.int x) = true) (hv : tyc kd j = 0) (hk : K0 a = (kd, N)) (ha : a < n) (k : Ex G d (pc + 3) ls st (pm (up2 I a j x) L R n) uc us P) : Ex G d pc ls (.int x :: .ref a :: st) (pm I L R n) uc us P := ex_put (v := .int x) ty0 h ho hc hin hty hnm hj h13 hlink hfin hnf hv hk ha k
theorem px_L {C : String} {T : u_T} {N kd j idx a : Nat} {own : String} {x : Int64} (ty0 : Nat → FieldType) (h : decode d.2.1 pc = .ok (.putfield idx, 3)) (ho : d.1.cls = own) (hc : vwCl[kd]? = some (C, T, N)) (hin : ∀ w ∈ u_ws C T N, w ∈ lw_gd) (hty : ∀ k, k < N → parseFieldDescriptor (T k).2.2.1 = some (ty0 k)) (hnm : ∀ a, a < N → ∀ b, b < N → a ≠ b → (T a).2.1 ≠ (T b).2.1) (hj : j < N) (h13 : kd < 13) (hlink : Cond.fieldLink own idx (T j).1 (T j).2.1 (T j).2.2.1 ∈ lw_gd) (hfin : (T j).2.2.2 = false) (hnf : narrow (ty0 j) (.long x) = .long x ∧ fits (ty0 j) (.long x) = true) (hv : tyc kd j = 1) (hk : K0 a = (kd, N)) (ha : a < n) (k : Ex G d (pc + 3) ls st (pm I (up2 L a j x) R n) uc us P) : Ex G d pc ls (.long x :: .ref a :: st) (pm I L R n) uc us P := ex_put (v := .long x) ty0 h ho hc hin hty hnm hj h13 hlink hfin hnf hv hk ha k
theorem v2_j {α : Type} {f : Nat → Nat → α} {a j j' : Nat} {v : α} (h : j' ≠ j) : up2 f a j v a j' = f a j' := by
  unfold up2
  rw [if_neg (fun z => h z.2)]
/-- writing what stands there -/
theorem up2_id2 {α : Type} {F : Nat → Nat → α} {a j : Nat} {v : α} (h : F a j = v) : up2 F a j v = F := by
  funext c i
  unfold up2
  by_cases e : c = a ∧ i = j
  · rw [if_pos e, e.1, e.2, h]
  · rw [if_neg e]
theorem pm_i0 {a j : Nat} (h : I a = zI) (k : Ex G d pc ls st (pm I L R n) uc us P) : Ex G d pc ls st (pm (up2 I a j 0) L R n) uc us P := by
  rw [up2_id2 (show I a j = 0 by rw [h]; rfl)]
  exact k
/-- how the cells stand when they are made -/
def bj : Nat → Int32 := fun j => if j = 2 ∨ j = 3 ∨ j = 5 then 1 else if j = 9 then -9 else 0
def J0 (c : Nat) : Nat → Int32 := if (K0 c).1 = 1 then bj else zI
def fj : Nat → Int64 := fun j => if j = 1 then 1 else 0
def L0 (c : Nat) : Nat → Int64 := if (K0 c).1 = 3 then fj else zL
def part (c s : Nat) : Nat → Option Nat := fun j => if j < s then R0 c j else none
theorem part_0 {c : Nat} : part c 0 = zR := by
  funext j
  unfold part zR
  rw [if_neg (Nat.not_lt_zero j)]
theorem part_up {a j b s : Nat} (h : R a = part a s) (hs : s ≤ j) (hb : R0 a j = some b) (hn : ∀ i, s ≤ i → i < j → R0 a i = none) : up2 R a j (some b) a = part a (j + 1) := by
  funext i
  unfold part
  by_cases e : i = j
  · subst e
    rw [u2_s, if_pos (by omega), hb]
  · rw [v2_j e, h]
    unfold part
    by_cases c : i < s
    · rw [if_pos c, if_pos (by omega)]
    · rw [if_neg c]
      by_cases c2 : i < j + 1
      · rw [if_pos c2, hn i (by omega) (by omega)]
      · rw [if_neg c2]
theorem part_up1 {a j b : Nat} (h : R a = part a j) (hb : R0 a j = some b) : up2 R a j (some b) a = part a (j + 1) := part_up h (Nat.le_refl j) hb (fun i h1 h2 => absurd h1 (by omega))
def rz (a s : Nat) : Bool := ((rtab.getD a []).drop s).all (fun x => x.isNone)
theorem rz_p {a s : Nat} (h : rz a s = true) : part a s = R0 a := by
  funext j
  unfold part
  by_cases c : j < s
  · rw [if_pos c]
  · rw [if_neg c]
    unfold R0
    rw [List.getD_eq_getElem?_getD]
    cases e : (rtab.getD a [])[j]? with
    | none => rfl
    | some x =>
      have m : x ∈ (rtab.getD a []).drop s := by
        rw [List.mem_iff_getElem?]
        refine ⟨j - s, ?_⟩
        rw [List.getElem?_drop, show s + (j - s) = j by omega]
        exact e
      have := List.all_eq_true.mp h x m
      cases x with
      | none => rfl
      | some y => exact absurd this Bool.false_ne_true
/-- behind a constructor of the object in cell a -/
def Nu (I : Im) (L : Nat → Nat → Int64) (R : Nat → Nat → Option Nat) (a k : Nat) (I' : Im) (L' : Nat → Nat → Int64) (R' : Nat → Nat → Option Nat) : Prop := Zm I' L' R' k ∧ (∀ c, a ≤ c → c < k → I' c = J0 c ∧ L' c = L0 c ∧ R' c = R0 c) ∧ ∀ c, c < a → I' c = I c ∧ L' c = L c ∧ R' c = R c
def Iq (I : Im) (L : Nat → Nat → Int64) (R : Nat → Nat → Option Nat) (a k : Nat) : Option Value → Mem → Prop := fun r M' => r = none ∧ ∃ I' L' R', M' = pm I' L' R' k ∧ Nu I L R a k I' L' R'
theorem Iq.k {a k : Nat} (kk : ∀ I' L' R', Nu I L R a k I' L' R' → Ex G d pc ls st (pm I' L' R' k) uc us P) : ∀ r M1, Iq I L R a k r M1 → Ex G d pc ls (r.toList ++ st) M1 uc us P := by
  rintro _ _ ⟨rfl, I', L', R', rfl, h⟩
  exact kk I' L' R' h
theorem rz_0_d : ∀ a, a < 223 → K0 a = (0, 7) → rz a 1 = true := by decide +kernel
theorem rz_0 {a : Nat} (h : K0 a = (0, 7)) : part a 1 = R0 a := rz_p (rz_0_d a (K0_lt h) h)
theorem rz_8_d : ∀ a, a < 223 → K0 a = (8, 4) → rz a 2 = true := by decide +kernel
theorem rz_8 {a : Nat} (h : K0 a = (8, 4)) : part a 2 = R0 a := rz_p (rz_8_d a (K0_lt h) h)
theorem rz_4_d : ∀ a, a < 223 → K0 a = (4, 3) → rz a 1 = true := by decide +kernel
theorem rz_4 {a : Nat} (h : K0 a = (4, 3)) : part a 1 = R0 a := rz_p (rz_4_d a (K0_lt h) h)
theorem rz_6_d : ∀ a, a < 223 → K0 a = (6, 3) → rz a 1 = true := by decide +kernel
theorem rz_6 {a : Nat} (h : K0 a = (6, 3)) : part a 1 = R0 a := rz_p (rz_6_d a (K0_lt h) h)
theorem rz_2_d : ∀ a, a < 223 → K0 a = (2, 6) → rz a 1 = true := by decide +kernel
theorem rz_2 {a : Nat} (h : K0 a = (2, 6)) : part a 1 = R0 a := rz_p (rz_2_d a (K0_lt h) h)
theorem rz_1_d : ∀ a, a < 223 → K0 a = (1, 10) → rz a 0 = true := by decide +kernel
theorem rz_1 {a : Nat} (h : K0 a = (1, 10)) : part a 0 = R0 a := rz_p (rz_1_d a (K0_lt h) h)
theorem rz_3_d : ∀ a, a < 223 → K0 a = (3, 2) → rz a 0 = true := by decide +kernel
theorem rz_3 {a : Nat} (h : K0 a = (3, 2)) : part a 0 = R0 a := rz_p (rz_3_d a (K0_lt h) h)
theorem rz_10_d : ∀ a, a < 223 → K0 a = (10, 4) → rz a 0 = true := by decide +kernel
theorem rz_10 {a : Nat} (h : K0 a = (10, 4)) : part a 0 = R0 a := rz_p (rz_10_d a (K0_lt h) h)
theorem rz_9_d : ∀ a, a < 223 → K0 a = (9, 8) → rz a 7 = true := by decide +kernel
theorem rz_9 {a : Nat} (h : K0 a = (9, 8)) : part a 7 = R0 a := rz_p (rz_9_d a (K0_lt h) h)
theorem rz_5_d : ∀ a, a < 223 → K0 a = (5, 4) → rz a 2 = true := by decide +kernel
theorem rz_5 {a : Nat} (h : K0 a = (5, 4)) : part a 2 = R0 a := rz_p (rz_5_d a (K0_lt h) h)
theorem rz_7_d : ∀ a, a < 223 → K0 a = (7, 4) → rz a 3 = true := by decide +kernel
theorem rz_7 {a : Nat} (h : K0 a = (7, 4)) : part a 3 = R0 a := rz_p (rz_7_d a (K0_lt h) h)
theorem rz_arr_d : ∀ a, a < 223 → ((K0 a).1 = 13 ∨ (K0 a).1 = 14 ∨ (K0 a).1 = 15) → rz a 0 = true := by decide +kernel
theorem rz_arr {a kd N : Nat} (h : K0 a = (kd, N + 1)) (hk : kd = 13 ∨ kd = 14 ∨ kd = 15) : R0 a = zR := by
  rw [← rz_p (rz_arr_d a (K0_lt h) (by rw [h]; exact hk)), part_0]
theorem J0_n {c kd N : Nat} (h : K0 c = (kd, N)) (hk : kd ≠ 1) : J0 c = zI := by
  unfold J0
  rw [h, if_neg hk]
theorem L0_n {c kd N : Nat} (h : K0 c = (kd, N)) (hk : kd ≠ 3) : L0 c = zL := by
  unfold L0
  rw [h, if_neg hk]
theorem lay2_d : ∀ a, a < 223 → K0 a = (2, 6) → R0 a 0 = some (a + 1) ∧ K0 (a + 1) = (14, 400) := by decide +kernel
theorem lay7_d : ∀ a, a < 223 → K0 a = (7, 4) → R0 a 0 = some (a + 1) ∧ R0 a 1 = some (a + 3) ∧ R0 a 2 = some (a + 6) ∧ K0 (a + 1) = (0, 7) ∧ K0 (a + 3) = (8, 4) ∧ K0 (a + 6) = (4, 3) := by decide +kernel
theorem dv_0 : ∀ j, j < 7 → defaultValue (tyX0 j) = dval 0 j := by decide +kernel
theorem dv_1 : ∀ j, j < 10 → defaultValue (tyX1 j) = dval 1 j := by decide +kernel
theorem dv_2 : ∀ j, j < 6 → defaultValue (tyX2 j) = dval 2 j := by decide +kernel
theorem dv_3 : ∀ j, j < 2 → defaultValue (tyX3 j) = dval 3 j := by decide +kernel
theorem dv_4 : ∀ j, j < 3 → defaultValue (tyX4 j) = dval 4 j := by decide +kernel
theorem dv_5 : ∀ j, j < 4 → defaultValue (tyX5 j) = dval 5 j := by decide +kernel
theorem dv_6 : ∀ j, j < 3 → defaultValue (tyX6 j) = dval 6 j := by decide +kernel
theorem dv_7 : ∀ j, j < 4 → defaultValue (tyX7 j) = dval 7 j := by decide +kernel
theorem dv_8 : ∀ j, j < 4 → defaultValue (tyX8 j) = dval 8 j := by decide +kernel
theorem dv_9 : ∀ j, j < 8 → defaultValue (tyX9 j) = dval 9 j := by decide +kernel
theorem dv_10 : ∀ j, j < 4 → defaultValue (tyX10 j) = dval 10 j := by decide +kernel
theorem dv_11 : ∀ j, j < 20 → defaultValue (tyX11 j) = dval 11 j := by decide +kernel
theorem dv_12 : ∀ j, j < 40 → defaultValue (tyX12 j) = dval 12 j := by decide +kernel
set_option maxHeartbeats 4000000 in
theorem c_X0 {a : Nat} (hk : K0 a = (0, 7)) (hz : Zm I L R a) : Ca G mdX0_init [.ref a] (pm I L R (a + 1)) (Iq I L R a (a + 2)) := by
  refine Ca.intro [some (.ref a)] (by decide) (Nat.le_of_ble_eq_true rfl) rfl rfl ?_
  have al := K0_lt hk
  obtain ⟨i0, l0, r0⟩ := hz a (Nat.le_refl a)
  have k1 : K0 (a + 1) = (14, 16) := (lay0 hk).2
  have b1 : R0 a 0 = some (a + 1) := (lay0 hk).1
  refine ex_aload_n dX0_init_0 rfl ?_
  refine ex_oinit dX0_init_1 rfl lk_X0_3 wo_i wo_c ⟨by decide, by decide⟩ (Nat.le_of_ble_eq_true rfl) ?_
  refine ex_aload_n dX0_init_4 rfl ?_
  refine ex_bipush (v := 16) dX0_init_5 (by decide) ?_
  refine px_newp (kd := 14) (t0 := 1) (N := 16) (n := a + 1) dX0_init_7 rfl (by decide) (by decide) (fun _ _ h => h) rfl rfl wa_I (by decide) (by decide) (by decide) ⟨by decide, by decide⟩ (hz.up (by omega)) k1 (by omega) ?_
  refine px_F (C := RX0) (T := TX0) (N := 7) (kd := 0) (j := 0) tyX0 dX0_init_9 rfl rfl rfl inX0 tyX0_ok nmX0 (by decide) (by decide) wf_X0_9 rfl rfl ⟨rfl, rfl⟩ rfl hk (by omega) ?_
  refine ex_aload_n dX0_init_12 rfl ?_
  refine ex_iconst (v := 0) dX0_init_13 (by decide) ?_
  refine px_I (C := RX0) (T := TX0) (N := 7) (kd := 0) (j := 1) tyX0 dX0_init_14 rfl rfl inX0 tyX0_ok nmX0 (by decide) (by decide) wf_X0_15 rfl ⟨rfl, rfl⟩ rfl hk (by omega) ?_
  refine pm_i0 i0 ?_
  refine ex_aload_n dX0_init_17 rfl ?_
  refine ex_iconst (v := 0) dX0_init_18 (by decide) ?_
  refine px_I (C := RX0) (T := TX0) (N := 7) (kd := 0) (j := 2) tyX0 dX0_init_19 rfl rfl inX0 tyX0_ok nmX0 (by decide) (by decide) wf_X0_19 rfl ⟨rfl, rfl⟩ rfl hk (by omega) ?_
  refine pm_i0 i0 ?_
  refine ex_aload_n dX0_init_22 rfl ?_
  refine ex_iconst (v := 0) dX0_init_23 (by decide) ?_
  refine px_I (C := RX0) (T := TX0) (N := 7) (kd := 0) (j := 3) tyX0 dX0_init_24 rfl rfl inX0 tyX0_ok nmX0 (by decide) (by decide) wf_X0_23 rfl ⟨rfl, rfl⟩ rfl hk (by omega) ?_
  refine pm_i0 i0 ?_
  refine ex_aload_n dX0_init_27 rfl ?_
  refine ex_iconst (v := 0) dX0_init_28 (by decide) ?_
  refine px_I (C := RX0) (T := TX0) (N := 7) (kd := 0) (j := 4) tyX0 dX0_init_29 rfl rfl inX0 tyX0_ok nmX0 (by decide) (by decide) wf_X0_26 rfl ⟨rfl, rfl⟩ rfl hk (by omega) ?_
  refine pm_i0 i0 ?_
  refine ex_aload_n dX0_init_32 rfl ?_
  refine ex_iconst (v := 0) dX0_init_33 (by decide) ?_
  refine px_I (C := RX0) (T := TX0) (N := 7) (kd := 0) (j := 5) tyX0 dX0_init_34 rfl rfl inX0 tyX0_ok nmX0 (by decide) (by decide) wf_X0_29 rfl ⟨rfl, rfl⟩ rfl hk (by omega) ?_
  refine pm_i0 i0 ?_
  refine ex_aload_n dX0_init_37 rfl ?_
  refine ex_iconst (v := 0) dX0_init_38 (by decide) ?_
  refine px_I (C := RX0) (T := TX0) (N := 7) (kd := 0) (j := 6) tyX0 dX0_init_39 rfl rfl inX0 tyX0_ok nmX0 (by decide) (by decide) wf_X0_32 rfl ⟨rfl, rfl⟩ rfl hk (by omega) ?_
  refine pm_i0 i0 ?_
  refine ex_vret dX0_init_42 rfl ⟨rfl, by decide⟩ ?_
  refine ⟨rfl, _, _, _, rfl, ?_, fun c h1 h2 => ?_, fun c hc => ?_⟩
  · exact fun c hc => ⟨(hz c (by omega)).1, (hz c (by omega)).2.1, by simp only [up2_off (show c ≠ a by omega)]; exact (hz c (by omega)).2.2⟩
  · rcases (by omega : c = a ∨ c = a + 1) with rfl | rfl
    · exact ⟨i0.trans (J0_n hk (by decide)).symm, l0.trans (L0_n hk (by decide)).symm, (part_up1 (r0.trans part_0.symm) b1).trans (rz_0 hk)⟩
    · obtain ⟨z1, z2, z3⟩ := hz (a + 1) (by omega)
      exact ⟨z1.trans (J0_n k1 (by decide)).symm, z2.trans (L0_n k1 (by decide)).symm, by simp only [up2_off (show a + 1 ≠ a by omega)]; exact z3.trans (rz_arr k1 (by decide)).symm⟩
  · exact ⟨rfl, rfl, by simp only [up2_off (show c ≠ a by omega)]⟩
set_option maxHeartbeats 4000000 in
theorem c_X8 {a : Nat} (hk : K0 a = (8, 4)) (hz : Zm I L R a) : Ca G mdX8_init [.ref a] (pm I L R (a + 1)) (Iq I L R a (a + 3)) := by
  refine Ca.intro [some (.ref a)] (by decide) (Nat.le_of_ble_eq_true rfl) rfl rfl ?_
  have al := K0_lt hk
  obtain ⟨i0, l0, r0⟩ := hz a (Nat.le_refl a)
  have k1 : K0 (a + 1) = (14, 4) := (lay8 hk).2.2.1
  have b1 : R0 a 0 = some (a + 1) := (lay8 hk).1
  have k2 : K0 (a + 2) = (14, 4) := (lay8 hk).2.2.2
  have b2 : R0 a 1 = some (a + 2) := (lay8 hk).2.1
  refine ex_aload_n dX8_init_0 rfl ?_
  refine ex_oinit dX8_init_1 rfl lk_X8_3 wo_i wo_c ⟨by decide, by decide⟩ (Nat.le_of_ble_eq_true rfl) ?_
  refine ex_aload_n dX8_init_4 rfl ?_
  refine ex_iconst (v := 4) dX8_init_5 (by decide) ?_
  refine px_newp (kd := 14) (t0 := 1) (N := 4) (n := a + 1) dX8_init_6 rfl (by decide) (by decide) (fun _ _ h => h) rfl rfl wa_I (by decide) (by decide) (by decide) ⟨by decide, by decide⟩ (hz.up (by omega)) k1 (by omega) ?_
  refine px_F (C := RX8) (T := TX8) (N := 4) (kd := 8) (j := 0) tyX8 dX8_init_8 rfl rfl rfl inX8 tyX8_ok nmX8 (by decide) (by decide) wf_X8_9 rfl rfl ⟨rfl, rfl⟩ rfl hk (by omega) ?_
  refine ex_aload_n dX8_init_11 rfl ?_
  refine ex_iconst (v := 4) dX8_init_12 (by decide) ?_
  refine px_newp (kd := 14) (t0 := 1) (N := 4) (n := a + 2) dX8_init_13 rfl (by decide) (by decide) (fun _ _ h => h) rfl rfl wa_I (by decide) (by decide) (by decide) ⟨by decide, by decide⟩ (Zm.up (Zm.r (hz.up (by omega)) (by omega)) (Nat.le_refl _)) k2 (by omega) ?_
  refine px_F (C := RX8) (T := TX8) (N := 4) (kd := 8) (j := 1) tyX8 dX8_init_15 rfl rfl rfl inX8 tyX8_ok nmX8 (by decide) (by decide) wf_X8_15 rfl rfl ⟨rfl, rfl⟩ rfl hk (by omega) ?_
  refine ex_aload_n dX8_init_18 rfl ?_
  refine ex_iconst (v := 0) dX8_init_19 (by decide) ?_
  refine px_I (C := RX8) (T := TX8) (N := 4) (kd := 8) (j := 2) tyX8 dX8_init_20 rfl rfl inX8 tyX8_ok nmX8 (by decide) (by decide) wf_X8_18 rfl ⟨rfl, rfl⟩ rfl hk (by omega) ?_
  refine pm_i0 i0 ?_
  refine ex_aload_n dX8_init_23 rfl ?_
  refine ex_iconst (v := 0) dX8_init_24 (by decide) ?_
  refine px_I (C := RX8) (T := TX8) (N := 4) (kd := 8) (j := 3) tyX8 dX8_init_25 rfl rfl inX8 tyX8_ok nmX8 (by decide) (by decide) wf_X8_22 rfl ⟨rfl, rfl⟩ rfl hk (by omega) ?_
  refine pm_i0 i0 ?_
  refine ex_vret dX8_init_28 rfl ⟨rfl, by decide⟩ ?_
  refine ⟨rfl, _, _, _, rfl, ?_, fun c h1 h2 => ?_, fun c hc => ?_⟩
  · exact fun c hc => ⟨(hz c (by omega)).1, (hz c (by omega)).2.1, by simp only [up2_off (show c ≠ a by omega)]; exact (hz c (by omega)).2.2⟩
  · rcases (by omega : c = a ∨ c = a + 1 ∨ c = a + 2) with rfl | rfl | rfl
    · exact ⟨i0.trans (J0_n hk (by decide)).symm, l0.trans (L0_n hk (by decide)).symm, (part_up1 (part_up1 (r0.trans part_0.symm) b1) b2).trans (rz_8 hk)⟩
    · obtain ⟨z1, z2, z3⟩ := hz (a + 1) (by omega)
      exact ⟨z1.trans (J0_n k1 (by decide)).symm, z2.trans (L0_n k1 (by decide)).symm, by simp only [up2_off (show a + 1 ≠ a by omega)]; exact z3.trans (rz_arr k1 (by decide)).symm⟩
    · obtain ⟨z1, z2, z3⟩ := hz (a + 2) (by omega)
      exact ⟨z1.trans (J0_n k2 (by decide)).symm, z2.trans (L0_n k2 (by decide)).symm, by simp only [up2_off (show a + 2 ≠ a by omega)]; exact z3.trans (rz_arr k2 (by decide)).symm⟩
  · exact ⟨rfl, rfl, by simp only [up2_off (show c ≠ a by omega)]⟩
set_option maxHeartbeats 4000000 in
theorem c_X6 {a : Nat} (hk : K0 a = (6, 3)) (hz : Zm I L R a) : Ca G mdX6_init [.ref a] (pm I L R (a + 1)) (Iq I L R a (a + 2)) := by
  refine Ca.intro [some (.ref a)] (by decide) (Nat.le_of_ble_eq_true rfl) rfl rfl ?_
  have al := K0_lt hk
  obtain ⟨i0, l0, r0⟩ := hz a (Nat.le_refl a)
  have k1 : K0 (a + 1) = (14, 60) := (lay6 hk).2
  have b1 : R0 a 0 = some (a + 1) := (lay6 hk).1
  refine ex_aload_n dX6_init_0 rfl ?_
  refine ex_oinit dX6_init_1 rfl lk_X6_3 wo_i wo_c ⟨by decide, by decide⟩ (Nat.le_of_ble_eq_true rfl) ?_
  refine ex_aload_n dX6_init_4 rfl ?_
  refine ex_bipush (v := 60) dX6_init_5 (by decide) ?_
  refine px_newp (kd := 14) (t0 := 1) (N := 60) (n := a + 1) dX6_init_7 rfl (by decide) (by decide) (fun _ _ h => h) rfl rfl wa_I (by decide) (by decide) (by decide) ⟨by decide, by decide⟩ (hz.up (by omega)) k1 (by omega) ?_
  refine px_F (C := RX6) (T := TX6) (N := 3) (kd := 6) (j := 0) tyX6 dX6_init_9 rfl rfl rfl inX6 tyX6_ok nmX6 (by decide) (by decide) wf_X6_9 rfl rfl ⟨rfl, rfl⟩ rfl hk (by omega) ?_
  refine ex_aload_n dX6_init_12 rfl ?_
  refine ex_iconst (v := 0) dX6_init_13 (by decide) ?_
  refine px_I (C := RX6) (T := TX6) (N := 3) (kd := 6) (j := 1) tyX6 dX6_init_14 rfl rfl inX6 tyX6_ok nmX6 (by decide) (by decide) wf_X6_15 rfl ⟨rfl, rfl⟩ rfl hk (by omega) ?_
  refine pm_i0 i0 ?_
  refine ex_aload_n dX6_init_17 rfl ?_
  refine ex_iconst (v := 0) dX6_init_18 (by decide) ?_
  refine px_I (C := RX6) (T := TX6) (N := 3) (kd := 6) (j := 2) tyX6 dX6_init_19 rfl rfl inX6 tyX6_ok nmX6 (by decide) (by decide) wf_X6_19 rfl ⟨rfl, rfl⟩ rfl hk (by omega) ?_
  refine pm_i0 i0 ?_
  refine ex_vret dX6_init_22 rfl ⟨rfl, by decide⟩ ?_
  refine ⟨rfl, _, _, _, rfl, ?_, fun c h1 h2 => ?_, fun c hc => ?_⟩
  · exact fun c hc => ⟨(hz c (by omega)).1, (hz c (by omega)).2.1, by simp only [up2_off (show c ≠ a by omega)]; exact (hz c (by omega)).2.2⟩
  · rcases (by omega : c = a ∨ c = a + 1) with rfl | rfl
    · exact ⟨i0.trans (J0_n hk (by decide)).symm, l0.trans (L0_n hk (by decide)).symm, (part_up1 (r0.trans part_0.symm) b1).trans (rz_6 hk)⟩
    · obtain ⟨z1, z2, z3⟩ := hz (a + 1) (by omega)
      exact ⟨z1.trans (J0_n k1 (by decide)).symm, z2.trans (L0_n k1 (by decide)).symm, by simp only [up2_off (show a + 1 ≠ a by omega)]; exact z3.trans (rz_arr k1 (by decide)).symm⟩
  · exact ⟨rfl, rfl, by simp only [up2_off (show c ≠ a by omega)]⟩
set_option maxHeartbeats 4000000 in
theorem c_X4 {a : Nat} (hk : K0 a = (4, 3)) (hz : Zm I L R a) : Ca G mdX4_init [.ref a] (pm I L R (a + 1)) (Iq I L R a (a + 2)) := by
  refine Ca.intro [some (.ref a)] (by decide) (Nat.le_of_ble_eq_true rfl) rfl rfl ?_
  have al := K0_lt hk
  obtain ⟨i0, l0, r0⟩ := hz a (Nat.le_refl a)
  have k1 : K0 (a + 1) = (13, 100) := (lay4 hk).2
  have b1 : R0 a 0 = some (a + 1) := (lay4 hk).1
  refine ex_aload_n dX4_init_0 rfl ?_
  refine ex_oinit dX4_init_1 rfl lk_X4_3 wo_i wo_c ⟨by decide, by decide⟩ (Nat.le_of_ble_eq_true rfl) ?_
  refine ex_aload_n dX4_init_4 rfl ?_
  refine ex_bipush (v := 100) dX4_init_5 (by decide) ?_
  refine px_newp (kd := 13) (t0 := 0) (N := 100) (n := a + 1) dX4_init_7 rfl (by decide) (by decide) (fun _ _ h => h) rfl rfl wa_B (by decide) (by decide) (by decide) ⟨by decide, by decide⟩ (hz.up (by omega)) k1 (by omega) ?_
  refine px_F (C := RX4) (T := TX4) (N := 3) (kd := 4) (j := 0) tyX4 dX4_init_9 rfl rfl rfl inX4 tyX4_ok nmX4 (by decide) (by decide) wf_X4_9 rfl rfl ⟨rfl, rfl⟩ rfl hk (by omega) ?_
  refine ex_aload_n dX4_init_12 rfl ?_
  refine ex_iconst (v := 0) dX4_init_13 (by decide) ?_
  refine px_I (C := RX4) (T := TX4) (N := 3) (kd := 4) (j := 1) tyX4 dX4_init_14 rfl rfl inX4 tyX4_ok nmX4 (by decide) (by decide) wf_X4_15 rfl ⟨rfl, rfl⟩ rfl hk (by omega) ?_
  refine pm_i0 i0 ?_
  refine ex_aload_n dX4_init_17 rfl ?_
  refine ex_iconst (v := 0) dX4_init_18 (by decide) ?_
  refine px_I (C := RX4) (T := TX4) (N := 3) (kd := 4) (j := 2) tyX4 dX4_init_19 rfl rfl inX4 tyX4_ok nmX4 (by decide) (by decide) wf_X4_19 rfl ⟨rfl, rfl⟩ rfl hk (by omega) ?_
  refine pm_i0 i0 ?_
  refine ex_vret dX4_init_22 rfl ⟨rfl, by decide⟩ ?_
  refine ⟨rfl, _, _, _, rfl, ?_, fun c h1 h2 => ?_, fun c hc => ?_⟩
  · exact fun c hc => ⟨(hz c (by omega)).1, (hz c (by omega)).2.1, by simp only [up2_off (show c ≠ a by omega)]; exact (hz c (by omega)).2.2⟩
  · rcases (by omega : c = a ∨ c = a + 1) with rfl | rfl
    · exact ⟨i0.trans (J0_n hk (by decide)).symm, l0.trans (L0_n hk (by decide)).symm, (part_up1 (r0.trans part_0.symm) b1).trans (rz_4 hk)⟩
    · obtain ⟨z1, z2, z3⟩ := hz (a + 1) (by omega)
      exact ⟨z1.trans (J0_n k1 (by decide)).symm, z2.trans (L0_n k1 (by decide)).symm, by simp only [up2_off (show a + 1 ≠ a by omega)]; exact z3.trans (rz_arr k1 (by decide)).symm⟩
  · exact ⟨rfl, rfl, by simp only [up2_off (show c ≠ a by omega)]⟩
set_option maxHeartbeats 4000000 in
theorem c_X2 {a : Nat} (hk : K0 a = (2, 6)) (hz : Zm I L R a) : Ca G mdX2_init [.ref a] (pm I L R (a + 1)) (Iq I L R a (a + 2)) := by
  refine Ca.intro [some (.ref a)] (by decide) (Nat.le_of_ble_eq_true rfl) rfl rfl ?_
  have al := K0_lt hk
  obtain ⟨i0, l0, r0⟩ := hz a (Nat.le_refl a)
  have k1 : K0 (a + 1) = (14, 400) := (lay2_d a al hk).2
  have b1 : R0 a 0 = some (a + 1) := (lay2_d a al hk).1
  refine ex_aload_n dX2_init_0 rfl ?_
  refine ex_oinit dX2_init_1 rfl lk_X2_3 wo_i wo_c ⟨by decide, by decide⟩ (Nat.le_of_ble_eq_true rfl) ?_
  refine ex_aload_n dX2_init_4 rfl ?_
  refine ex_sipush (v := 400) dX2_init_5 (by decide) ?_
  refine px_newp (kd := 14) (t0 := 1) (N := 400) (n := a + 1) dX2_init_8 rfl (by decide) (by decide) (fun _ _ h => h) rfl rfl wa_I (by decide) (by decide) (by decide) ⟨by decide, by decide⟩ (hz.up (by omega)) k1 (by omega) ?_
  refine px_F (C := RX2) (T := TX2) (N := 6) (kd := 2) (j := 0) tyX2 dX2_init_10 rfl rfl rfl inX2 tyX2_ok nmX2 (by decide) (by decide) wf_X2_9 rfl rfl ⟨rfl, rfl⟩ rfl hk (by omega) ?_
  refine ex_aload_n dX2_init_13 rfl ?_
  refine ex_iconst (v := 0) dX2_init_14 (by decide) ?_
  refine px_I (C := RX2) (T := TX2) (N := 6) (kd := 2) (j := 1) tyX2 dX2_init_15 rfl rfl inX2 tyX2_ok nmX2 (by decide) (by decide) wf_X2_15 rfl ⟨rfl, rfl⟩ rfl hk (by omega) ?_
  refine pm_i0 i0 ?_
  refine ex_aload_n dX2_init_18 rfl ?_
  refine ex_iconst (v := 0) dX2_init_19 (by decide) ?_
  refine px_I (C := RX2) (T := TX2) (N := 6) (kd := 2) (j := 2) tyX2 dX2_init_20 rfl rfl inX2 tyX2_ok nmX2 (by decide) (by decide) wf_X2_19 rfl ⟨rfl, rfl⟩ rfl hk (by omega) ?_
  refine pm_i0 i0 ?_
  refine ex_aload_n dX2_init_23 rfl ?_
  refine ex_iconst (v := 0) dX2_init_24 (by decide) ?_
  refine px_I (C := RX2) (T := TX2) (N := 6) (kd := 2) (j := 3) tyX2 dX2_init_25 rfl rfl inX2 tyX2_ok nmX2 (by decide) (by decide) wf_X2_22 rfl ⟨rfl, rfl⟩ rfl hk (by omega) ?_
  refine pm_i0 i0 ?_
  refine ex_aload_n dX2_init_28 rfl ?_
  refine ex_iconst (v := 0) dX2_init_29 (by decide) ?_
  refine px_I (C := RX2) (T := TX2) (N := 6) (kd := 2) (j := 4) tyX2 dX2_init_30 rfl rfl inX2 tyX2_ok nmX2 (by decide) (by decide) wf_X2_25 rfl ⟨rfl, rfl⟩ rfl hk (by omega) ?_
  refine pm_i0 i0 ?_
  refine ex_aload_n dX2_init_33 rfl ?_
  refine ex_iconst (v := 0) dX2_init_34 (by decide) ?_
  refine px_I (C := RX2) (T := TX2) (N := 6) (kd := 2) (j := 5) tyX2 dX2_init_35 rfl rfl inX2 tyX2_ok nmX2 (by decide) (by decide) wf_X2_28 rfl ⟨rfl, rfl⟩ rfl hk (by omega) ?_
  refine pm_i0 i0 ?_
  refine ex_vret dX2_init_38 rfl ⟨rfl, by decide⟩ ?_
  refine ⟨rfl, _, _, _, rfl, ?_, fun c h1 h2 => ?_, fun c hc => ?_⟩
  · exact fun c hc => ⟨(hz c (by omega)).1, (hz c (by omega)).2.1, by simp only [up2_off (show c ≠ a by omega)]; exact (hz c (by omega)).2.2⟩
  · rcases (by omega : c = a ∨ c = a + 1) with rfl | rfl
    · exact ⟨i0.trans (J0_n hk (by decide)).symm, l0.trans (L0_n hk (by decide)).symm, (part_up1 (r0.trans part_0.symm) b1).trans (rz_2 hk)⟩
    · obtain ⟨z1, z2, z3⟩ := hz (a + 1) (by omega)
      exact ⟨z1.trans (J0_n k1 (by decide)).symm, z2.trans (L0_n k1 (by decide)).symm, by simp only [up2_off (show a + 1 ≠ a by omega)]; exact z3.trans (rz_arr k1 (by decide)).symm⟩
  · exact ⟨rfl, rfl, by simp only [up2_off (show c ≠ a by omega)]⟩
set_option maxHeartbeats 4000000 in
theorem c_X1 {a : Nat} (hk : K0 a = (1, 10)) (hz : Zm I L R a) : Ca G mdX1_init [.ref a] (pm I L R (a + 1)) (Iq I L R a (a + 1)) := by
  refine Ca.intro [some (.ref a)] (by decide) (Nat.le_of_ble_eq_true rfl) rfl rfl ?_
  have al := K0_lt hk
  obtain ⟨i0, l0, r0⟩ := hz a (Nat.le_refl a)
  refine ex_aload_n dX1_init_0 rfl ?_
  refine ex_oinit dX1_init_1 rfl lk_X1_3 wo_i wo_c ⟨by decide, by decide⟩ (Nat.le_of_ble_eq_true rfl) ?_
  refine ex_aload_n dX1_init_4 rfl ?_
  refine ex_iconst (v := 0) dX1_init_5 (by decide) ?_
  refine px_I (C := RX1) (T := TX1) (N := 10) (kd := 1) (j := 0) tyX1 dX1_init_6 rfl rfl inX1 tyX1_ok nmX1 (by decide) (by decide) wf_X1_9 rfl ⟨rfl, rfl⟩ rfl hk (by omega) ?_
  refine ex_aload_n dX1_init_9 rfl ?_
  refine ex_iconst (v := 0) dX1_init_10 (by decide) ?_
  refine px_I (C := RX1) (T := TX1) (N := 10) (kd := 1) (j := 1) tyX1 dX1_init_11 rfl rfl inX1 tyX1_ok nmX1 (by decide) (by decide) wf_X1_15 rfl ⟨rfl, rfl⟩ rfl hk (by omega) ?_
  refine ex_aload_n dX1_init_14 rfl ?_
  refine ex_iconst (v := 1) dX1_init_15 (by decide) ?_
  refine px_I (C := RX1) (T := TX1) (N := 10) (kd := 1) (j := 2) tyX1 dX1_init_16 rfl rfl inX1 tyX1_ok nmX1 (by decide) (by decide) wf_X1_19 rfl ⟨rfl, rfl⟩ rfl hk (by omega) ?_
  refine ex_aload_n dX1_init_19 rfl ?_
  refine ex_iconst (v := 1) dX1_init_20 (by decide) ?_
  refine px_I (C := RX1) (T := TX1) (N := 10) (kd := 1) (j := 3) tyX1 dX1_init_21 rfl rfl inX1 tyX1_ok nmX1 (by decide) (by decide) wf_X1_22 rfl ⟨rfl, rfl⟩ rfl hk (by omega) ?_
  refine ex_aload_n dX1_init_24 rfl ?_
  refine ex_iconst (v := 0) dX1_init_25 (by decide) ?_
  refine px_I (C := RX1) (T := TX1) (N := 10) (kd := 1) (j := 4) tyX1 dX1_init_26 rfl rfl inX1 tyX1_ok nmX1 (by decide) (by decide) wf_X1_25 rfl ⟨rfl, rfl⟩ rfl hk (by omega) ?_
  refine ex_aload_n dX1_init_29 rfl ?_
  refine ex_iconst (v := 1) dX1_init_30 (by decide) ?_
  refine px_I (C := RX1) (T := TX1) (N := 10) (kd := 1) (j := 5) tyX1 dX1_init_31 rfl rfl inX1 tyX1_ok nmX1 (by decide) (by decide) wf_X1_28 rfl ⟨rfl, rfl⟩ rfl hk (by omega) ?_
  refine ex_aload_n dX1_init_34 rfl ?_
  refine ex_iconst (v := 0) dX1_init_35 (by decide) ?_
  refine px_I (C := RX1) (T := TX1) (N := 10) (kd := 1) (j := 6) tyX1 dX1_init_36 rfl rfl inX1 tyX1_ok nmX1 (by decide) (by decide) wf_X1_31 rfl ⟨rfl, rfl⟩ rfl hk (by omega) ?_
  refine ex_aload_n dX1_init_39 rfl ?_
  refine ex_iconst (v := 0) dX1_init_40 (by decide) ?_
  refine px_I (C := RX1) (T := TX1) (N := 10) (kd := 1) (j := 7) tyX1 dX1_init_41 rfl rfl inX1 tyX1_ok nmX1 (by decide) (by decide) wf_X1_34 rfl ⟨rfl, rfl⟩ rfl hk (by omega) ?_
  refine ex_aload_n dX1_init_44 rfl ?_
  refine ex_iconst (v := 0) dX1_init_45 (by decide) ?_
  refine px_I (C := RX1) (T := TX1) (N := 10) (kd := 1) (j := 8) tyX1 dX1_init_46 rfl rfl inX1 tyX1_ok nmX1 (by decide) (by decide) wf_X1_37 rfl ⟨rfl, rfl⟩ rfl hk (by omega) ?_
  refine ex_aload_n dX1_init_49 rfl ?_
  refine ex_bipush (v := (-9)) dX1_init_50 (by decide) ?_
  refine px_I (C := RX1) (T := TX1) (N := 10) (kd := 1) (j := 9) tyX1 dX1_init_52 rfl rfl inX1 tyX1_ok nmX1 (by decide) (by decide) wf_X1_40 rfl ⟨rfl, rfl⟩ rfl hk (by omega) ?_
  refine ex_vret dX1_init_55 rfl ⟨rfl, by decide⟩ ?_
  refine ⟨rfl, _, _, _, rfl, ?_, fun c h1 h2 => ?_, fun c hc => ?_⟩
  · exact fun c hc => ⟨by simp only [up2_off (show c ≠ a by omega)]; exact (hz c (by omega)).1, (hz c (by omega)).2.1, (hz c (by omega)).2.2⟩
  · rcases (by omega : c = a) with rfl
    · exact ⟨by
        rw [show J0 c = bj from by unfold J0; rw [hk, if_pos rfl]]
        funext j
        unfold bj
        by_cases e : j ≤ 9
        · rcases (by omega : j = 0 ∨ j = 1 ∨ j = 2 ∨ j = 3 ∨ j = 4 ∨ j = 5 ∨ j = 6 ∨ j = 7 ∨ j = 8 ∨ j = 9) with rfl | rfl | rfl | rfl | rfl | rfl | rfl | rfl | rfl | rfl
          all_goals simp [up2]
        · rw [u2_j (by omega), u2_j (by omega), u2_j (by omega), u2_j (by omega), u2_j (by omega), u2_j (by omega), u2_j (by omega), u2_j (by omega), u2_j (by omega), u2_j (by omega), i0, if_neg (by omega), if_neg (by omega)]
          rfl, l0.trans (L0_n hk (by decide)).symm, (r0.trans part_0.symm).trans (rz_1 hk)⟩
  · exact ⟨by simp only [up2_off (show c ≠ a by omega)], rfl, rfl⟩
set_option maxHeartbeats 4000000 in
theorem c_X3 {a : Nat} (hk : K0 a = (3, 2)) (hz : Zm I L R a) : Ca G mdX3_init [.ref a] (pm I L R (a + 1)) (Iq I L R a (a + 1)) := by
  refine Ca.intro [some (.ref a)] (by decide) (Nat.le_of_ble_eq_true rfl) rfl rfl ?_
  have al := K0_lt hk
  obtain ⟨i0, l0, r0⟩ := hz a (Nat.le_refl a)
  refine ex_aload_n dX3_init_0 rfl ?_
  refine ex_oinit dX3_init_1 rfl lk_X3_1 wo_i wo_c ⟨by decide, by decide⟩ (Nat.le_of_ble_eq_true rfl) ?_
  refine ex_aload_n dX3_init_4 rfl ?_
  refine ex_lconst (v := 0) dX3_init_5 (by decide) ?_
  refine px_L (C := RX3) (T := TX3) (N := 2) (kd := 3) (j := 0) tyX3 dX3_init_6 rfl rfl inX3 tyX3_ok nmX3 (by decide) (by decide) wf_X3_7 rfl ⟨rfl, rfl⟩ rfl hk (by omega) ?_
  refine ex_aload_n dX3_init_9 rfl ?_
  refine ex_lconst (v := 1) dX3_init_10 (by decide) ?_
  refine px_L (C := RX3) (T := TX3) (N := 2) (kd := 3) (j := 1) tyX3 dX3_init_11 rfl rfl inX3 tyX3_ok nmX3 (by decide) (by decide) wf_X3_13 rfl ⟨rfl, rfl⟩ rfl hk (by omega) ?_
  refine ex_vret dX3_init_14 rfl ⟨rfl, by decide⟩ ?_
  refine ⟨rfl, _, _, _, rfl, ?_, fun c h1 h2 => ?_, fun c hc => ?_⟩
  · exact fun c hc => ⟨(hz c (by omega)).1, by simp only [up2_off (show c ≠ a by omega)]; exact (hz c (by omega)).2.1, (hz c (by omega)).2.2⟩
  · rcases (by omega : c = a) with rfl
    · exact ⟨i0.trans (J0_n hk (by decide)).symm, by
        rw [show L0 c = fj from by unfold L0; rw [hk, if_pos rfl]]
        funext j
        unfold fj
        by_cases e1 : j = 1
        · subst e1
          rw [u2_s, if_pos rfl]
        · rw [v2_j e1, if_neg e1]
          by_cases e0 : j = 0
          · subst e0
            rw [u2_s]
          · rw [v2_j e0, l0]
            rfl, (r0.trans part_0.symm).trans (rz_3 hk)⟩
  · exact ⟨rfl, by simp only [up2_off (show c ≠ a by omega)], rfl⟩
set_option maxHeartbeats 4000000 in
theorem c_X10 {a : Nat} (hk : K0 a = (10, 4)) (hz : Zm I L R a) : Ca G mdX10_init [.ref a] (pm I L R (a + 1)) (Iq I L R a (a + 1)) := by
  refine Ca.intro [some (.ref a)] (by decide) (Nat.le_of_ble_eq_true rfl) rfl rfl ?_
  have al := K0_lt hk
  obtain ⟨i0, l0, r0⟩ := hz a (Nat.le_refl a)
  refine ex_aload_n dX10_init_0 rfl ?_
  refine ex_oinit dX10_init_1 rfl lk_X10_1 wo_i wo_c ⟨by decide, by decide⟩ (Nat.le_of_ble_eq_true rfl) ?_
  refine ex_aload_n dX10_init_4 rfl ?_
  refine ex_iconst (v := 0) dX10_init_5 (by decide) ?_
  refine px_I (C := RX10) (T := TX10) (N := 4) (kd := 10) (j := 0) tyX10 dX10_init_6 rfl rfl inX10 tyX10_ok nmX10 (by decide) (by decide) wf_X10_7 rfl ⟨rfl, rfl⟩ rfl hk (by omega) ?_
  refine pm_i0 i0 ?_
  refine ex_aload_n dX10_init_9 rfl ?_
  refine ex_iconst (v := 0) dX10_init_10 (by decide) ?_
  refine px_I (C := RX10) (T := TX10) (N := 4) (kd := 10) (j := 1) tyX10 dX10_init_11 rfl rfl inX10 tyX10_ok nmX10 (by decide) (by decide) wf_X10_13 rfl ⟨rfl, rfl⟩ rfl hk (by omega) ?_
  refine pm_i0 i0 ?_
  refine ex_aload_n dX10_init_14 rfl ?_
  refine ex_iconst (v := 0) dX10_init_15 (by decide) ?_
  refine px_I (C := RX10) (T := TX10) (N := 4) (kd := 10) (j := 2) tyX10 dX10_init_16 rfl rfl inX10 tyX10_ok nmX10 (by decide) (by decide) wf_X10_16 rfl ⟨rfl, rfl⟩ rfl hk (by omega) ?_
  refine pm_i0 i0 ?_
  refine ex_aload_n dX10_init_19 rfl ?_
  refine ex_iconst (v := 0) dX10_init_20 (by decide) ?_
  refine px_I (C := RX10) (T := TX10) (N := 4) (kd := 10) (j := 3) tyX10 dX10_init_21 rfl rfl inX10 tyX10_ok nmX10 (by decide) (by decide) wf_X10_19 rfl ⟨rfl, rfl⟩ rfl hk (by omega) ?_
  refine pm_i0 i0 ?_
  refine ex_vret dX10_init_24 rfl ⟨rfl, by decide⟩ ?_
  refine ⟨rfl, _, _, _, rfl, ?_, fun c h1 h2 => ?_, fun c hc => ?_⟩
  · exact fun c hc => ⟨(hz c (by omega)).1, (hz c (by omega)).2.1, (hz c (by omega)).2.2⟩
  · rcases (by omega : c = a) with rfl
    · exact ⟨i0.trans (J0_n hk (by decide)).symm, l0.trans (L0_n hk (by decide)).symm, (r0.trans part_0.symm).trans (rz_10 hk)⟩
  · exact ⟨rfl, rfl, rfl⟩
end
end R50
