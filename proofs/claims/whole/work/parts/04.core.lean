abbrev Gp : Type := Launch × va_G × Nat × (Nat → ClassId) × Nat × Nat × (Nat → Int32)
abbrev gL (G : Gp) : Launch := G.1
abbrev gD (G : Gp) : va_G := G.2.1
abbrev gB (G : Gp) : Nat := G.2.2.1
abbrev gY (G : Gp) : Nat → ClassId := G.2.2.2.1
abbrev gS (G : Gp) : Nat := G.2.2.2.2.1
abbrev gN (G : Gp) : Nat := G.2.2.2.2.2.1
abbrev gX (G : Gp) : Nat → Int32 := G.2.2.2.2.2.2
/-- ints, longs, references by cell and slot; a cell's kind and size; how many cells -/
abbrev Mem : Type := (Nat → Nat → Int32) × (Nat → Nat → Int64) × (Nat → Nat → Option Nat) × (Nat → Nat × Nat) × Nat
def ga (G : Gp) (k : Nat) : Nat := if k = 999999 then gS G else gB G + k
def cv (G : Gp) : Value → Value
  | .ref k => .ref (ga G k)
  | v => v
theorem cv_cat (G : Gp) (v : Value) : (cv G v).category = v.category := by cases v <;> rfl
theorem cv_sum (G : Gp) (st : List Value) : ((st.map (cv G)).map fun v => v.category).sum = (st.map fun v => v.category).sum := by
  induction st with
  | nil => rfl
  | cons a l ih => simp only [List.map_cons, List.sum_cons, ih, cv_cat]
def tyt : List (List Nat) := [[2, 0, 0, 0, 0, 0, 0], [0, 0, 0, 0, 0, 0, 0, 0, 0, 0], [2, 0, 0, 0, 0, 0], [1, 1], [2, 0, 0], [2, 2, 0, 0], [2, 0, 0], [2, 2, 2, 0], [2, 2, 0, 0], [2, 2, 2, 2, 2, 2, 2, 0], [0, 0, 0, 0], [2, 2, 2, 2, 2, 2, 2, 2, 2, 2, 2, 2, 2, 2, 2, 2, 0, 0, 0, 2], [0, 2, 0, 1, 1, 2, 2, 2, 2, 2, 2, 2, 2, 2, 2, 0, 0, 0, 2, 2, 2, 2, 2, 2, 0, 2, 0, 0, 0, 0, 0, 0, 0, 0, 2, 2, 2, 0, 2, 1]]
def tyc (kd j : Nat) : Nat := (tyt.getD kd []).getD j 0
def fval (G : Gp) (M : Mem) (kd k j : Nat) : Value := if tyc kd j = 0 then .int (M.1 k j) else if tyc kd j = 1 then .long (M.2.1 k j) else va_rf ((M.2.2.1 k j).map (ga G))
def ent (G : Gp) (M : Mem) (k : Nat) : va_E := if (M.2.2.2.1 k).1 < 13 then .inr ((M.2.2.2.1 k).1, (List.range (M.2.2.2.1 k).2).map (fval G M (M.2.2.2.1 k).1 k)) else .inl (gY G (M.2.2.2.1 k).1, (M.2.2.2.1 k).2, if (M.2.2.2.1 k).1 < 16 then .inl (M.1 k) else .inr (.inr (.inr (.inr (fun j => (M.2.2.1 k j).map (ga G))))))
def wsl (G : Gp) (M : Mem) : va_W := (List.range M.2.2.2.2).map (fun k => (gB G + k, ent G M k))
def Wd (G : Gp) (M : Mem) (H : Heap) : Prop := va_P (gD G) vwCl (wsl G M) H ∧ M.2.2.2.2 ≤ 999999
theorem wsl_at {G : Gp} {M : Mem} {k : Nat} (h : k < M.2.2.2.2) : (wsl G M)[k]? = some (gB G + k, ent G M k) := by simp [wsl, h]
theorem wsl_get {G : Gp} {M : Mem} {k : Nat} {q : Nat × va_E} (h : (wsl G M)[k]? = some q) : k < M.2.2.2.2 ∧ q = (gB G + k, ent G M k) := by
  have hl := (List.getElem?_eq_some_iff.mp h).1
  simp [wsl] at hl
  rw [wsl_at hl] at h
  exact ⟨hl, (Option.some.inj h).symm⟩
theorem wsl_D (G : Gp) (M : Mem) : va_D (fun q => gB G ≤ q) (wsl G M) := by
  refine ⟨fun i j p q hp hq he => ?_, fun k q hq => ?_⟩
  · rw [(wsl_get hp).2, (wsl_get hq).2] at he
    exact Nat.add_left_cancel he
  · rw [(wsl_get hq).2]
    exact Nat.le_add_right _ _
theorem wsl_set {G : Gp} {M M' : Mem} {a : Nat} (hn : M'.2.2.2.2 = M.2.2.2.2) (he : ∀ k, k ≠ a → ent G M' k = ent G M k) : (wsl G M).set a (gB G + a, ent G M' a) = wsl G M' := by
  apply List.ext_getElem?
  intro i
  rw [List.getElem?_set]
  by_cases hi : i < M.2.2.2.2
  · rw [wsl_at (M := M') (by omega), wsl_at hi]
    by_cases hai : a = i
    · subst hai
      simp [wsl, hi]
    · rw [if_neg hai, he i (fun h => hai h.symm)]
  · have h1 : (wsl G M)[i]? = none := by simp [wsl]; omega
    have h2 : (wsl G M')[i]? = none := by simp [wsl]; omega
    rw [h1, h2]
    by_cases hai : a = i
    · subst hai
      simp [wsl]; omega
    · rw [if_neg hai]
theorem wsl_push {G : Gp} {M M' : Mem} (hn : M'.2.2.2.2 = M.2.2.2.2 + 1) (he : ∀ k, k < M.2.2.2.2 → ent G M' k = ent G M k) : wsl G M ++ [(gB G + M.2.2.2.2, ent G M' M.2.2.2.2)] = wsl G M' := by
  unfold wsl
  rw [hn, List.range_succ, List.map_append]
  congr 1
  apply List.map_congr_left
  intro k hk
  rw [he k (List.mem_range.mp hk)]
abbrev tys (G : Gp) : List (ClassId × FieldType) := [(gY G 13, .byte), (gY G 14, .int), (gY G 15, .boolean), (gY G 16, .object RX0), (gY G 17, .object RX1), (gY G 18, .object RX4), (gY G 19, .object RX5), (gY G 20, .object RX6), (gY G 21, .object RX8), (gY G 22, .object RX10)]
def nwt : List (String × Nat × MethodName × String) := [("SurgeBasin$Night", 11, ⟨"SurgeBasin$Waters", "<init>", "()V"⟩, "SurgeBasin"), ("SurgeBasin$Waters", 11, ⟨"SurgeBasin$Basin", "<init>", "()V"⟩, "SurgeBasin"), ("SurgeBasin$Waters", 20, ⟨"SurgeBasin$Swell", "<init>", "()V"⟩, "SurgeBasin"), ("SurgeBasin$Night", 38, ⟨"SurgeBasin$Boat", "<init>", "()V"⟩, "SurgeBasin"), ("SurgeBasin", 63, ⟨"SurgeBasin$Reader", "<init>", "()V"⟩, "SurgeBasin"), ("SurgeBasin$Reader", 11, ⟨"SurgeBasin$Basin", "<init>", "()V"⟩, "SurgeBasin"), ("SurgeBasin$Reader", 20, ⟨"SurgeBasin$Swell", "<init>", "()V"⟩, "SurgeBasin"), ("SurgeBasin$Reader", 27, ⟨"SurgeBasin$Letters", "<init>", "()V"⟩, "SurgeBasin"), ("SurgeBasin", 68, ⟨"SurgeBasin$Basin", "<init>", "()V"⟩, "SurgeBasin"), ("SurgeBasin", 73, ⟨"SurgeBasin$Swell", "<init>", "()V"⟩, "SurgeBasin"), ("SurgeBasin", 78, ⟨"SurgeBasin$Boat", "<init>", "()V"⟩, "SurgeBasin"), ("SurgeBasin", 85, ⟨"SurgeBasin$Crossings", "<init>", "()V"⟩, "SurgeBasin"), ("SurgeBasin", 109, ⟨"SurgeBasin$Fraction", "<init>", "()V"⟩, "SurgeBasin"), ("SurgeBasin", 114, ⟨"SurgeBasin$Numbers", "<init>", "()V"⟩, "SurgeBasin"), ("SurgeBasin", 115, ⟨"SurgeBasin$Letters", "<init>", "()V"⟩, "SurgeBasin"), ("SurgeBasin", 116, ⟨"SurgeBasin$Work", "<init>", "()V"⟩, "SurgeBasin"), ("SurgeBasin$Reader", 123, ⟨"SurgeBasin", "within", "(III)Z"⟩, "SurgeBasin"), ("SurgeBasin$Numbers", 32, ⟨"SurgeBasin", "within", "(III)Z"⟩, "SurgeBasin"), ("SurgeBasin$Basin", 59, ⟨"SurgeBasin", "mix", "(JJ)J"⟩, "SurgeBasin"), ("SurgeBasin$Swell", 34, ⟨"SurgeBasin", "mix", "(JJ)J"⟩, "SurgeBasin"), ("SurgeBasin$Boat", 55, ⟨"SurgeBasin", "mix", "(JJ)J"⟩, "SurgeBasin"), ("SurgeBasin$Work", 38, ⟨"SurgeBasin", "mix", "(JJ)J"⟩, "SurgeBasin"), ("SurgeBasin$Night", 96, ⟨"SurgeBasin", "mix", "(JJ)J"⟩, "SurgeBasin"), ("SurgeBasin$Numbers", 38, ⟨"SurgeBasin", "mix", "(JJ)J"⟩, "SurgeBasin"), ("SurgeBasin$Letters", 34, ⟨"SurgeBasin", "mix", "(JJ)J"⟩, "SurgeBasin")]
def aoc : List String := [RX0, RX1, RX4, RX5, RX6, RX8, RX10]
def Kst (G : Gp) (U : State) : Prop := va_K (gD G) vwCl (tys G) U ∧ (∀ q ∈ nwt, va_Nw (.methodLinkNest q.1 q.2.1 q.2.2.1 q.2.2.2) U) ∧ ∀ C ∈ aoc, va_AO C U
def St (G : Gp) (M : Mem) (U : State) : Prop := (Wd G M U.heap ∧ U.heap.size = gB G + M.2.2.2.2) ∧ Kst G U ∧ va_X (gS G) (gN G) (gX G) U U.heap ∧ gS G < gB G
theorem Kst.warm {G : Gp} {s U : State} (hW : s.WarmedH U.vm) (h : Kst G s) : Kst G U := ⟨h.1.moved hW.alike, fun q hq => (h.2.1 q hq).warmM hW, fun C hC => (h.2.2 C hC).moved hW.alike⟩
theorem St.calling {G : Gp} {M : Mem} {U : State} (h : St G M U) (g : JFrame) (mk : MethodId) (a : Array Value) : St G M (U.calling g mk a) :=
  ⟨h.1, ⟨va_K.moved (u := U) (U := U.calling g mk a) (Vm.Alike.refl U.vm) h.2.1.1, fun q hq => va_Nw.same (u := U) (U := U.calling g mk a) rfl rfl (h.2.1.2.1 q hq), fun C hC => va_AO.moved (u := U) (U := U.calling g mk a) (Vm.Alike.refl U.vm) (h.2.1.2.2 C hC)⟩, va_X.moved (u := U) (U := U.calling g mk a) (Vm.Alike.refl U.vm) h.2.2.1, h.2.2.2⟩
/-- a method: name, code, locals, what it returns, room -/
abbrev Md : Type := MethodName × ByteArray × Nat × Option FieldType × Room
def Qp (G : Gp) (nc : Nat) (P : Option Value → Mem → Prop) : Array Value → State → Outcome → State → Prop := fun _ st oc t => ∃ r M', oc = .returned (r.map (cv G)) ∧ P r M' ∧ Wd G M' t.heap ∧ gB G + M'.2.2.2.2 = st.heap.size + nc ∧ va_F (fun q => gB G ≤ q) st t
def lvl (G : Gp) : Nat → List (Option Value) → List (Nat × Value)
  | _, [] => []
  | i, none :: l => lvl G (i + 1) l
  | i, some v :: l => (i, cv G v) :: lvl G (i + 1) l
def Cx (G : Gp) (d : Md) (p : Program) (s : State) (m : MethodId) (args : Array Value) (meth : Method) (c : Code) : Prop :=
  p.tables.exec = Jvm.exec ∧ c.code = d.2.1 ∧ meth.sig.returnType = d.2.2.2.1 ∧ c.maxLocals = d.2.2.1 ∧ s.vm.findClass d.1.cls = some m.cls ∧ (∀ w ∈ lw_gd, w.before args s = true) ∧ meth.locks = false ∧ meth.name = d.1.name ∧ Kst G s ∧ va_X (gS G) (gN G) (gX G) s s.heap ∧ gS G < gB G ∧ gB G ≤ s.heap.size
def Ex (G : Gp) (d : Md) (pc : Nat) (ls : List (Option Value)) (st : List Value) (M : Mem) (uc us : Nat) (P : Option Value → Mem → Prop) : Prop :=
  ∀ (p : Program) (e : Env) (s : State) (m : MethodId) (args : Array Value) (below : List Frame) (meth : Method) (c : Code) (H : Heap) (locs : List Loc) (lsA : Array Slot),
    Cx G d p s m args meth c → Wd G M H → va_S (fun q => gB G ≤ q) s.heap H locs → lv_has lsA d.2.2.1 (lvl G 0 ls) → ls.length = d.2.2.1 → gB G + M.2.2.2.2 = s.heap.size + uc →
    W p (gL G) e d.2.2.2.2 s m args below meth c H locs uc us (MQ below (Qp G d.2.2.2.2.cells P) args s d.2.2.2.2.cells d.2.2.2.2.slots (fun q => gB G ≤ q)) (F0 m pc lsA (st.map (cv G)))
def Ca (G : Gp) (d : Md) (vs : List Value) (M : Mem) (P : Option Value → Mem → Prop) : Prop :=
  Met (gL G) d.1 (.code d.1 d.2.1 d.2.2.1 d.2.2.2.1 :: lw_gd) d.2.2.2.2 (fun av U => av = (vs.map (cv G)).toArray ∧ St G M U) (Qp G d.2.2.2.2.cells P) d.2.2.2.2.cells d.2.2.2.2.slots (fun q => gB G ≤ q)
theorem Ca.intro {G : Gp} {d : Md} {vs : List Value} {M : Mem} {P : Option Value → Mem → Prop} (ls : List (Option Value)) (hy : plainName d.1.cls = true) (hl : (lg_sl (vs.map (cv G))).length ≤ d.2.2.1) (hls : lvl G 0 ls = lv_args 0 (vs.map (cv G))) (hn : ls.length = d.2.2.1) (h : Ex G d 0 ls [] M 0 0 P) : Ca G d vs M P := by
  refine Met.ofW (cc := d.2.1) (maxL := d.2.2.1) (ret := d.2.2.2.1) hy rfl ?_
  intro p e s m args below meth c s₁ B hml hv
  obtain ⟨rfl, ⟨hW, hZ⟩, hK, hX, hb⟩ := hv
  have hts := atoms_spec (ws := .code d.1 d.2.1 d.2.2.1 d.2.2.2.1 :: lw_gd) B.pre
  rw [lg_entry_eq]
  have hle := lv_entry (vs.map (cv G)) (n := d.2.2.1) hl
  rw [← hls] at hle
  exact h p e s m _ below meth c s.heap [] _ ⟨B.exec, B.bytes, B.returns, hml, findClass_of_methodNamed B.named, fun w hw => hts w (List.mem_cons_of_mem _ hw), B.notSynchronized, (name_of_methodNamed B.named B.method).1, hK, hX, hb, by rw [hZ]; exact Nat.le_add_right _ _⟩ hW va_S.rf hle hn hZ.symm
theorem lvl_mem {G : Gp} : ∀ {ls : List (Option Value)} {i j : Nat} {v : Value}, ls[i]? = some (some v) → (j + i, cv G v) ∈ lvl G j ls := by
  intro ls
  induction ls with
  | nil => intro i j v h; simp at h
  | cons a l ih =>
    intro i j v h
    cases i with
    | zero =>
      have h1 : a = some v := by simpa using h
      subst h1
      exact List.mem_cons_self
    | succ i =>
      have h1 : l[i]? = some (some v) := by simpa using h
      have h2 := ih (j := j + 1) h1
      have h3 : j + (i + 1) = j + 1 + i := by omega
      rw [h3]
      cases a with
      | none => exact h2
      | some w => exact List.mem_cons_of_mem _ h2
theorem lvl_of {G : Gp} : ∀ {ls : List (Option Value)} {j : Nat} {q : Nat × Value}, q ∈ lvl G j ls → ∃ i v, ls[i]? = some (some v) ∧ q = (j + i, cv G v) := by
  intro ls
  induction ls with
  | nil => intro j q h; cases h
  | cons a l ih =>
    intro j q h
    cases a with
    | none =>
      obtain ⟨i, v, h1, h2⟩ := ih (j := j + 1) h
      exact ⟨i + 1, v, by simpa using h1, by rw [h2]; congr 1; omega⟩
    | some w =>
      rcases List.mem_cons.mp h with h | h
      · exact ⟨0, w, rfl, h⟩
      · obtain ⟨i, v, h1, h2⟩ := ih (j := j + 1) h
        exact ⟨i + 1, v, by simpa using h1, by rw [h2]; congr 1; omega⟩
theorem lvl_at {G : Gp} {lsA : Array Slot} {nL : Nat} {ls : List (Option Value)} (h : lv_has lsA nL (lvl G 0 ls)) {i : Nat} {v : Value} (hi : ls[i]? = some (some v)) : lsA[i]? = some (.val (cv G v)) := by
  have h1 := h.2.2 _ (lvl_mem (G := G) (j := 0) hi)
  rw [Nat.zero_add] at h1
  exact h1
section RULES
variable {G : Gp} {d : Md} {pc : Nat} {ls : List (Option Value)} {st : List Value} {M : Mem} {uc us : Nat} {P : Option Value → Mem → Prop}
theorem ex_iadd {x y : Int32} (h : decode d.2.1 pc = .ok (.iadd, 1)) (k : Ex G d (pc + 1) ls (.int (x + y) :: st) M uc us P) : Ex G d pc ls (.int y :: .int x :: st) M uc us P := fun p e s m args below meth c H locs lsA C w S hl hn hz => lv_iadd C.1 C.2.1 h (k p e s m args below meth c H locs lsA C w S hl hn hz)
theorem ex_isub {x y : Int32} (h : decode d.2.1 pc = .ok (.isub, 1)) (k : Ex G d (pc + 1) ls (.int (x - y) :: st) M uc us P) : Ex G d pc ls (.int y :: .int x :: st) M uc us P := fun p e s m args below meth c H locs lsA C w S hl hn hz => lv_isub C.1 C.2.1 h (k p e s m args below meth c H locs lsA C w S hl hn hz)
theorem ex_imul {x y : Int32} (h : decode d.2.1 pc = .ok (.imul, 1)) (k : Ex G d (pc + 1) ls (.int (x * y) :: st) M uc us P) : Ex G d pc ls (.int y :: .int x :: st) M uc us P := fun p e s m args below meth c H locs lsA C w S hl hn hz => lv_imul C.1 C.2.1 h (k p e s m args below meth c H locs lsA C w S hl hn hz)
theorem ex_iand {x y : Int32} (h : decode d.2.1 pc = .ok (.iand, 1)) (k : Ex G d (pc + 1) ls (.int (x &&& y) :: st) M uc us P) : Ex G d pc ls (.int y :: .int x :: st) M uc us P := fun p e s m args below meth c H locs lsA C w S hl hn hz => lv_iand C.1 C.2.1 h (k p e s m args below meth c H locs lsA C w S hl hn hz)
theorem ex_ior {x y : Int32} (h : decode d.2.1 pc = .ok (.ior, 1)) (k : Ex G d (pc + 1) ls (.int (x ||| y) :: st) M uc us P) : Ex G d pc ls (.int y :: .int x :: st) M uc us P := fun p e s m args below meth c H locs lsA C w S hl hn hz => lv_ior C.1 C.2.1 h (k p e s m args below meth c H locs lsA C w S hl hn hz)
theorem ex_ixor {x y : Int32} (h : decode d.2.1 pc = .ok (.ixor, 1)) (k : Ex G d (pc + 1) ls (.int (x ^^^ y) :: st) M uc us P) : Ex G d pc ls (.int y :: .int x :: st) M uc us P := fun p e s m args below meth c H locs lsA C w S hl hn hz => lv_ixor C.1 C.2.1 h (k p e s m args below meth c H locs lsA C w S hl hn hz)
theorem ex_ishl {x y : Int32} (h : decode d.2.1 pc = .ok (.ishl, 1)) (k : Ex G d (pc + 1) ls (.int (x <<< (y &&& 31)) :: st) M uc us P) : Ex G d pc ls (.int y :: .int x :: st) M uc us P := fun p e s m args below meth c H locs lsA C w S hl hn hz => lv_ishl C.1 C.2.1 h (k p e s m args below meth c H locs lsA C w S hl hn hz)
theorem ex_ishr {x y : Int32} (h : decode d.2.1 pc = .ok (.ishr, 1)) (k : Ex G d (pc + 1) ls (.int (x >>> (y &&& 31)) :: st) M uc us P) : Ex G d pc ls (.int y :: .int x :: st) M uc us P := fun p e s m args below meth c H locs lsA C w S hl hn hz => lv_ishr C.1 C.2.1 h (k p e s m args below meth c H locs lsA C w S hl hn hz)
theorem ex_idiv {x y : Int32} (h : decode d.2.1 pc = .ok (.idiv, 1)) (hne : ¬ y = 0) (k : Ex G d (pc + 1) ls (.int (x / y) :: st) M uc us P) : Ex G d pc ls (.int y :: .int x :: st) M uc us P := fun p e s m args below meth c H locs lsA C w S hl hn hz => lv_idiv C.1 C.2.1 h hne (k p e s m args below meth c H locs lsA C w S hl hn hz)
theorem ex_irem {x y : Int32} (h : decode d.2.1 pc = .ok (.irem, 1)) (hne : ¬ y = 0) (k : Ex G d (pc + 1) ls (.int (x - x / y * y) :: st) M uc us P) : Ex G d pc ls (.int y :: .int x :: st) M uc us P := fun p e s m args below meth c H locs lsA C w S hl hn hz => lv_irem C.1 C.2.1 h hne (k p e s m args below meth c H locs lsA C w S hl hn hz)
theorem ex_ladd {x y : Int64} (h : decode d.2.1 pc = .ok (.ladd, 1)) (k : Ex G d (pc + 1) ls (.long (x + y) :: st) M uc us P) : Ex G d pc ls (.long y :: .long x :: st) M uc us P := fun p e s m args below meth c H locs lsA C w S hl hn hz => lv_ladd C.1 C.2.1 h (k p e s m args below meth c H locs lsA C w S hl hn hz)
theorem ex_lmul {x y : Int64} (h : decode d.2.1 pc = .ok (.lmul, 1)) (k : Ex G d (pc + 1) ls (.long (x * y) :: st) M uc us P) : Ex G d pc ls (.long y :: .long x :: st) M uc us P := fun p e s m args below meth c H locs lsA C w S hl hn hz => lv_lmul C.1 C.2.1 h (k p e s m args below meth c H locs lsA C w S hl hn hz)
theorem ex_ldiv {x y : Int64} (h : decode d.2.1 pc = .ok (.ldiv, 1)) (hne : ¬ y = 0) (k : Ex G d (pc + 1) ls (.long (x / y) :: st) M uc us P) : Ex G d pc ls (.long y :: .long x :: st) M uc us P := fun p e s m args below meth c H locs lsA C w S hl hn hz => lv_ldiv C.1 C.2.1 h hne (k p e s m args below meth c H locs lsA C w S hl hn hz)
theorem ex_lrem {x y : Int64} (h : decode d.2.1 pc = .ok (.lrem, 1)) (hne : ¬ y = 0) (k : Ex G d (pc + 1) ls (.long (x - x / y * y) :: st) M uc us P) : Ex G d pc ls (.long y :: .long x :: st) M uc us P := fun p e s m args below meth c H locs lsA C w S hl hn hz => lv_lrem C.1 C.2.1 h hne (k p e s m args below meth c H locs lsA C w S hl hn hz)
theorem ex_ineg {x : Int32} (h : decode d.2.1 pc = .ok (.ineg, 1)) (k : Ex G d (pc + 1) ls (.int (-x) :: st) M uc us P) : Ex G d pc ls (.int x :: st) M uc us P := fun p e s m args below meth c H locs lsA C w S hl hn hz => lv_ineg C.1 C.2.1 h (k p e s m args below meth c H locs lsA C w S hl hn hz)
theorem ex_lneg {x : Int64} (h : decode d.2.1 pc = .ok (.lneg, 1)) (k : Ex G d (pc + 1) ls (.long (-x) :: st) M uc us P) : Ex G d pc ls (.long x :: st) M uc us P := fun p e s m args below meth c H locs lsA C w S hl hn hz => lv_lneg C.1 C.2.1 h (k p e s m args below meth c H locs lsA C w S hl hn hz)
theorem ex_i2l {x : Int32} (h : decode d.2.1 pc = .ok (.i2l, 1)) (k : Ex G d (pc + 1) ls (.long x.toInt64 :: st) M uc us P) : Ex G d pc ls (.int x :: st) M uc us P := fun p e s m args below meth c H locs lsA C w S hl hn hz => lv_i2l C.1 C.2.1 h rfl (k p e s m args below meth c H locs lsA C w S hl hn hz)
theorem ex_l2i {x : Int64} (h : decode d.2.1 pc = .ok (.l2i, 1)) (k : Ex G d (pc + 1) ls (.int x.toInt32 :: st) M uc us P) : Ex G d pc ls (.long x :: st) M uc us P := fun p e s m args below meth c H locs lsA C w S hl hn hz => lv_l2i C.1 C.2.1 h rfl (k p e s m args below meth c H locs lsA C w S hl hn hz)
theorem ex_i2b {x : Int32} (h : decode d.2.1 pc = .ok (.i2b, 1)) (k : Ex G d (pc + 1) ls (.int x.toInt8.toInt32 :: st) M uc us P) : Ex G d pc ls (.int x :: st) M uc us P := fun p e s m args below meth c H locs lsA C w S hl hn hz => lv_i2b C.1 C.2.1 h rfl (k p e s m args below meth c H locs lsA C w S hl hn hz)
theorem ex_lcmp {x y : Int64} (h : decode d.2.1 pc = .ok (.lcmp, 1)) (k : Ex G d (pc + 1) ls (.int (lg_cmp x y) :: st) M uc us P) : Ex G d pc ls (.long y :: .long x :: st) M uc us P := fun p e s m args below meth c H locs lsA C w S hl hn hz => W.lcmp C.1 C.2.1 h (k p e s m args below meth c H locs lsA C w S hl hn hz)
theorem ex_iconst {n : Int} {v : Int32} (h : decode d.2.1 pc = .ok (.iconst n, 1)) (hv : Int32.ofInt n = v) (k : Ex G d (pc + 1) ls (.int v :: st) M uc us P) : Ex G d pc ls st M uc us P := fun p e s m args below meth c H locs lsA C w S hl hn hz => lv_iconst C.1 C.2.1 h hv (k p e s m args below meth c H locs lsA C w S hl hn hz)
theorem ex_bipush {n : Int} {v : Int32} (h : decode d.2.1 pc = .ok (.bipush n, 2)) (hv : (Int8.ofInt n).toInt32 = v) (k : Ex G d (pc + 2) ls (.int v :: st) M uc us P) : Ex G d pc ls st M uc us P := fun p e s m args below meth c H locs lsA C w S hl hn hz => lv_bipush C.1 C.2.1 h hv (k p e s m args below meth c H locs lsA C w S hl hn hz)
theorem ex_sipush {n : Int} {v : Int32} (h : decode d.2.1 pc = .ok (.sipush n, 3)) (hv : (Int16.ofInt n).toInt32 = v) (k : Ex G d (pc + 3) ls (.int v :: st) M uc us P) : Ex G d pc ls st M uc us P := fun p e s m args below meth c H locs lsA C w S hl hn hz => lv_sipush C.1 C.2.1 h hv (k p e s m args below meth c H locs lsA C w S hl hn hz)
theorem ex_lconst {n : Fin 2} {v : Int64} (h : decode d.2.1 pc = .ok (.lconst n, 1)) (hv : Int64.ofNat (n : Nat) = v) (k : Ex G d (pc + 1) ls (.long v :: st) M uc us P) : Ex G d pc ls st M uc us P := fun p e s m args below meth c H locs lsA C w S hl hn hz => lv_lconst C.1 C.2.1 h hv (k p e s m args below meth c H locs lsA C w S hl hn hz)
theorem ex_ldc2 {own : String} {i : Nat} {v : Int64} (h : decode d.2.1 pc = .ok (.ldc2_w i, 3)) (ho : d.1.cls = own) (hw : Cond.constantLong own i v ∈ lw_gd) (k : Ex G d (pc + 3) ls (.long v :: st) M uc us P) : Ex G d pc ls st M uc us P := fun p e s m args below meth c H locs lsA C w S hl hn hz => W.ldc2 C.1 C.2.1 (own := own) (by rw [← ho]; exact C.2.2.2.2.1) (C.2.2.2.2.2.1 _ hw) rfl h (k p e s m args below meth c H locs lsA C w S hl hn hz)
theorem ex_iload_n {i : Fin 4} {x : Int32} (h : decode d.2.1 pc = .ok (.iload_n i, 1)) (hv : ls[(i : Nat)]? = some (some (.int x))) (k : Ex G d (pc + 1) ls (.int x :: st) M uc us P) : Ex G d pc ls st M uc us P := fun p e s m args below meth c H locs lsA C w S hl hn hz => lv_iload_n C.1 C.2.1 h rfl (lvl_at hl hv) (k p e s m args below meth c H locs lsA C w S hl hn hz)
theorem ex_iload {i : Nat} {x : Int32} (h : decode d.2.1 pc = .ok (.iload i, 2)) (hv : ls[i]? = some (some (.int x))) (k : Ex G d (pc + 2) ls (.int x :: st) M uc us P) : Ex G d pc ls st M uc us P := fun p e s m args below meth c H locs lsA C w S hl hn hz => lv_iload C.1 C.2.1 h (lvl_at hl hv) (k p e s m args below meth c H locs lsA C w S hl hn hz)
theorem ex_lload_n {i : Fin 4} {x : Int64} (h : decode d.2.1 pc = .ok (.lload_n i, 1)) (hv : ls[(i : Nat)]? = some (some (.long x))) (k : Ex G d (pc + 1) ls (.long x :: st) M uc us P) : Ex G d pc ls st M uc us P := fun p e s m args below meth c H locs lsA C w S hl hn hz => lv_lload_n C.1 C.2.1 h rfl (lvl_at hl hv) (k p e s m args below meth c H locs lsA C w S hl hn hz)
theorem ex_lload {i : Nat} {x : Int64} (h : decode d.2.1 pc = .ok (.lload i, 2)) (hv : ls[i]? = some (some (.long x))) (k : Ex G d (pc + 2) ls (.long x :: st) M uc us P) : Ex G d pc ls st M uc us P := fun p e s m args below meth c H locs lsA C w S hl hn hz => lv_lload C.1 C.2.1 h (lvl_at hl hv) (k p e s m args below meth c H locs lsA C w S hl hn hz)
theorem ex_aload_n {i : Fin 4} {x : Nat} (h : decode d.2.1 pc = .ok (.aload_n i, 1)) (hv : ls[(i : Nat)]? = some (some (.ref x))) (k : Ex G d (pc + 1) ls (.ref x :: st) M uc us P) : Ex G d pc ls st M uc us P := fun p e s m args below meth c H locs lsA C w S hl hn hz => lv_aload_n C.1 C.2.1 h rfl (lvl_at hl hv) (k p e s m args below meth c H locs lsA C w S hl hn hz)
theorem ex_aload {i : Nat} {x : Nat} (h : decode d.2.1 pc = .ok (.aload i, 2)) (hv : ls[i]? = some (some (.ref x))) (k : Ex G d (pc + 2) ls (.ref x :: st) M uc us P) : Ex G d pc ls st M uc us P := fun p e s m args below meth c H locs lsA C w S hl hn hz => lv_aload C.1 C.2.1 h (lvl_at hl hv) (k p e s m args below meth c H locs lsA C w S hl hn hz)
/-- the locals behind a store of one slot -/
theorem lvl_set1 {i : Nat} {v : Value} {lsA' : Array Slot} {nL : Nat} (hp : ∀ w, ls[i - 1]? = some (some w) → 0 < i → w.category = 1) (h : lv_has lsA' nL ((i, cv G v) :: (lvl G 0 ls).filter (fun q => !(q.1 == i) && !(q.1 + 1 == i && q.2.category == 2)))) (hi : i < ls.length) : lv_has lsA' nL (lvl G 0 (ls.set i (some v))) := by
  refine ⟨h.1, h.2.1, fun q hq => ?_⟩
  obtain ⟨k, w, h1, h2⟩ := lvl_of hq
  rw [Nat.zero_add] at h2
  rw [List.getElem?_set] at h1
  by_cases hik : i = k
  · subst hik
    rw [if_pos rfl, if_pos hi] at h1
    cases h1
    rw [h2]
    exact h.2.2 _ List.mem_cons_self
  · rw [if_neg hik] at h1
    have h3 := lvl_mem (G := G) (j := 0) h1
    rw [Nat.zero_add] at h3
    rw [h2]
    refine h.2.2 _ (List.mem_cons_of_mem _ (List.mem_filter.mpr ⟨h3, ?_⟩))
    have e1 : (k == i) = false := by simp; exact fun q => hik q.symm
    have e2 : ((k + 1 == i) && ((cv G w).category == 2)) = false := by
      by_cases hk : k + 1 = i
      · have h4 := hp w (by rw [← hk]; exact h1) (by omega)
        rw [cv_cat, h4]
        simp
      · simp [hk]
    simp only [e1, e2]
    rfl
theorem lvl_set2 {i : Nat} {v : Value} {lsA' : Array Slot} {nL : Nat} (hp : ∀ w, ls[i - 1]? = some (some w) → 0 < i → w.category = 1) (h : lv_has lsA' nL ((i, cv G v) :: (lvl G 0 ls).filter (fun q => !(q.1 == i) && (!(q.1 == i + 1) && !(q.1 + 1 == i && q.2.category == 2))))) (hi : i < ls.length) : lv_has lsA' nL (lvl G 0 ((ls.set i (some v)).set (i + 1) none)) := by
  refine ⟨h.1, h.2.1, fun q hq => ?_⟩
  obtain ⟨k, w, h1, h2⟩ := lvl_of hq
  rw [Nat.zero_add] at h2
  rw [List.getElem?_set] at h1
  by_cases hik1 : i + 1 = k
  · rw [if_pos hik1] at h1
    split at h1 <;> cases h1
  · rw [if_neg hik1, List.getElem?_set] at h1
    by_cases hik : i = k
    · subst hik
      rw [if_pos rfl, if_pos hi] at h1
      cases h1
      rw [h2]
      exact h.2.2 _ List.mem_cons_self
    · rw [if_neg hik] at h1
      have h3 := lvl_mem (G := G) (j := 0) h1
      rw [Nat.zero_add] at h3
      rw [h2]
      refine h.2.2 _ (List.mem_cons_of_mem _ (List.mem_filter.mpr ⟨h3, ?_⟩))
      have e1 : (k == i) = false := by simp; exact fun q => hik q.symm
      have e3 : (k == i + 1) = false := by simp; exact fun q => hik1 q.symm
      have e2 : ((k + 1 == i) && ((cv G w).category == 2)) = false := by
        by_cases hk : k + 1 = i
        · have h4 := hp w (by rw [← hk]; exact h1) (by omega)
          rw [cv_cat, h4]
          simp
        · simp [hk]
      simp only [e1, e2, e3]
      rfl
theorem ex_istore_g {i : Nat} {x : Int32} (h : decode d.2.1 pc = .ok (.istore i, 2)) (hp : ∀ w, ls[i - 1]? = some (some w) → 0 < i → w.category = 1) (hi : i < ls.length) (k : Ex G d (pc + 2) (ls.set i (some (.int x))) st M uc us P) : Ex G d pc ls (.int x :: st) M uc us P := fun p e s m args below meth c H locs lsA C w S hl hn hz => lv_istore C.1 C.2.1 h hl (by rw [← hn]; exact hi) rfl (fun ls2 h2 => k p e s m args below meth c H locs ls2 C w S (lvl_set1 (v := .int x) hp h2 hi) (by rw [List.length_set]; exact hn) hz)
theorem ex_istore_ng {i : Fin 4} {x : Int32} (h : decode d.2.1 pc = .ok (.istore_n i, 1)) (hp : ∀ w, ls[(i : Nat) - 1]? = some (some w) → 0 < (i : Nat) → w.category = 1) (hi : (i : Nat) < ls.length) (k : Ex G d (pc + 1) (ls.set i (some (.int x))) st M uc us P) : Ex G d pc ls (.int x :: st) M uc us P := fun p e s m args below meth c H locs lsA C w S hl hn hz => lv_istore_n C.1 C.2.1 h rfl hl (by rw [← hn]; exact hi) rfl (fun ls2 h2 => k p e s m args below meth c H locs ls2 C w S (lvl_set1 (v := .int x) hp h2 hi) (by rw [List.length_set]; exact hn) hz)
theorem ex_astore_g {i : Nat} {x : Nat} (h : decode d.2.1 pc = .ok (.astore i, 2)) (hp : ∀ w, ls[i - 1]? = some (some w) → 0 < i → w.category = 1) (hi : i < ls.length) (k : Ex G d (pc + 2) (ls.set i (some (.ref x))) st M uc us P) : Ex G d pc ls (.ref x :: st) M uc us P := fun p e s m args below meth c H locs lsA C w S hl hn hz => lv_astore C.1 C.2.1 h hl (by rw [← hn]; exact hi) rfl (fun ls2 h2 => k p e s m args below meth c H locs ls2 C w S (lvl_set1 (v := .ref x) hp h2 hi) (by rw [List.length_set]; exact hn) hz)
theorem ex_astore_ng {i : Fin 4} {x : Nat} (h : decode d.2.1 pc = .ok (.astore_n i, 1)) (hp : ∀ w, ls[(i : Nat) - 1]? = some (some w) → 0 < (i : Nat) → w.category = 1) (hi : (i : Nat) < ls.length) (k : Ex G d (pc + 1) (ls.set i (some (.ref x))) st M uc us P) : Ex G d pc ls (.ref x :: st) M uc us P := fun p e s m args below meth c H locs lsA C w S hl hn hz => lv_astore_n C.1 C.2.1 h rfl hl (by rw [← hn]; exact hi) rfl (fun ls2 h2 => k p e s m args below meth c H locs ls2 C w S (lvl_set1 (v := .ref x) hp h2 hi) (by rw [List.length_set]; exact hn) hz)
theorem ex_lstore_g {i : Nat} {x : Int64} (h : decode d.2.1 pc = .ok (.lstore i, 2)) (hp : ∀ w, ls[i - 1]? = some (some w) → 0 < i → w.category = 1) (hi : i + 1 < ls.length) (k : Ex G d (pc + 2) ((ls.set i (some (.long x))).set (i + 1) none) st M uc us P) : Ex G d pc ls (.long x :: st) M uc us P := fun p e s m args below meth c H locs lsA C w S hl hn hz => lv_lstore C.1 C.2.1 h hl (by rw [← hn]; exact hi) rfl (fun ls2 h2 => k p e s m args below meth c H locs ls2 C w S (lvl_set2 (v := .long x) hp h2 (by omega)) (by rw [List.length_set, List.length_set]; exact hn) hz)
theorem ex_lstore_ng {i : Fin 4} {x : Int64} (h : decode d.2.1 pc = .ok (.lstore_n i, 1)) (hp : ∀ w, ls[(i : Nat) - 1]? = some (some w) → 0 < (i : Nat) → w.category = 1) (hi : (i : Nat) + 1 < ls.length) (k : Ex G d (pc + 1) ((ls.set i (some (.long x))).set (i + 1) none) st M uc us P) : Ex G d pc ls (.long x :: st) M uc us P := fun p e s m args below meth c H locs lsA C w S hl hn hz => lv_lstore_n C.1 C.2.1 h rfl hl (by rw [← hn]; exact hi) rfl (fun ls2 h2 => k p e s m args below meth c H locs ls2 C w S (lvl_set2 (v := .long x) hp h2 (by omega)) (by rw [List.length_set, List.length_set]; exact hn) hz)
theorem ex_iinc_g {i : Nat} {n : Int} {x v : Int32} (h : decode d.2.1 pc = .ok (.iinc i n, 3)) (hx : ls[i]? = some (some (.int x))) (hv : x + Int32.ofInt n = v) (hp : ∀ w, ls[i - 1]? = some (some w) → 0 < i → w.category = 1) (k : Ex G d (pc + 3) (ls.set i (some (.int v))) st M uc us P) : Ex G d pc ls st M uc us P := by
  intro p e s m args below meth c H locs lsA C w S hl hn hz
  have hi : i < ls.length := (List.getElem?_eq_some_iff.mp hx).1
  have hm := lvl_mem (G := G) (j := 0) hx
  rw [Nat.zero_add] at hm
  obtain ⟨kk, hk⟩ := List.getElem?_of_mem hm
  exact lv_iinc C.1 C.2.1 h hl (k := kk) (x := x) hk hv (by rw [← hn]; exact hi) rfl (fun ls2 h2 => k p e s m args below meth c H locs ls2 C w S (lvl_set1 (v := .int v) hp h2 hi) (by rw [List.length_set]; exact hn) hz)
theorem ex_if_eq {x : Int32} {off : Int} (tgt : Nat) (h : decode d.2.1 pc = .ok (.ifCond .eq off, 3)) (ht : (pc : Int) + off = (tgt : Int)) (kt : x = 0 → Ex G d tgt ls st M uc us P) (kf : ¬ x = 0 → Ex G d (pc + 3) ls st M uc us P) : Ex G d pc ls (.int x :: st) M uc us P := fun p e s m args below meth c H locs lsA C w S hl hn hz => lv_if_eq C.1 C.2.1 h ht (fun q => kt q p e s m args below meth c H locs lsA C w S hl hn hz) (fun q => kf q p e s m args below meth c H locs lsA C w S hl hn hz)
theorem ex_if_ne {x : Int32} {off : Int} (tgt : Nat) (h : decode d.2.1 pc = .ok (.ifCond .ne off, 3)) (ht : (pc : Int) + off = (tgt : Int)) (kt : ¬ x = 0 → Ex G d tgt ls st M uc us P) (kf : x = 0 → Ex G d (pc + 3) ls st M uc us P) : Ex G d pc ls (.int x :: st) M uc us P := fun p e s m args below meth c H locs lsA C w S hl hn hz => lv_if_ne C.1 C.2.1 h ht (fun q => kt q p e s m args below meth c H locs lsA C w S hl hn hz) (fun q => kf q p e s m args below meth c H locs lsA C w S hl hn hz)
theorem ex_if_lt {x : Int32} {off : Int} (tgt : Nat) (h : decode d.2.1 pc = .ok (.ifCond .lt off, 3)) (ht : (pc : Int) + off = (tgt : Int)) (kt : x < 0 → Ex G d tgt ls st M uc us P) (kf : ¬ x < 0 → Ex G d (pc + 3) ls st M uc us P) : Ex G d pc ls (.int x :: st) M uc us P := fun p e s m args below meth c H locs lsA C w S hl hn hz => lv_if_lt C.1 C.2.1 h ht (fun q => kt q p e s m args below meth c H locs lsA C w S hl hn hz) (fun q => kf q p e s m args below meth c H locs lsA C w S hl hn hz)
theorem ex_if_ge {x : Int32} {off : Int} (tgt : Nat) (h : decode d.2.1 pc = .ok (.ifCond .ge off, 3)) (ht : (pc : Int) + off = (tgt : Int)) (kt : 0 ≤ x → Ex G d tgt ls st M uc us P) (kf : ¬ 0 ≤ x → Ex G d (pc + 3) ls st M uc us P) : Ex G d pc ls (.int x :: st) M uc us P := fun p e s m args below meth c H locs lsA C w S hl hn hz => lv_if_ge C.1 C.2.1 h ht (fun q => kt q p e s m args below meth c H locs lsA C w S hl hn hz) (fun q => kf q p e s m args below meth c H locs lsA C w S hl hn hz)
theorem ex_if_gt {x : Int32} {off : Int} (tgt : Nat) (h : decode d.2.1 pc = .ok (.ifCond .gt off, 3)) (ht : (pc : Int) + off = (tgt : Int)) (kt : 0 < x → Ex G d tgt ls st M uc us P) (kf : ¬ 0 < x → Ex G d (pc + 3) ls st M uc us P) : Ex G d pc ls (.int x :: st) M uc us P := fun p e s m args below meth c H locs lsA C w S hl hn hz => lv_if_gt C.1 C.2.1 h ht (fun q => kt q p e s m args below meth c H locs lsA C w S hl hn hz) (fun q => kf q p e s m args below meth c H locs lsA C w S hl hn hz)
theorem ex_if_le {x : Int32} {off : Int} (tgt : Nat) (h : decode d.2.1 pc = .ok (.ifCond .le off, 3)) (ht : (pc : Int) + off = (tgt : Int)) (kt : x ≤ 0 → Ex G d tgt ls st M uc us P) (kf : ¬ x ≤ 0 → Ex G d (pc + 3) ls st M uc us P) : Ex G d pc ls (.int x :: st) M uc us P := fun p e s m args below meth c H locs lsA C w S hl hn hz => lv_if_le C.1 C.2.1 h ht (fun q => kt q p e s m args below meth c H locs lsA C w S hl hn hz) (fun q => kf q p e s m args below meth c H locs lsA C w S hl hn hz)
theorem ex_icmp_eq {x y : Int32} {off : Int} (tgt : Nat) (h : decode d.2.1 pc = .ok (.if_icmp .eq off, 3)) (ht : (pc : Int) + off = (tgt : Int)) (kt : x = y → Ex G d tgt ls st M uc us P) (kf : ¬ x = y → Ex G d (pc + 3) ls st M uc us P) : Ex G d pc ls (.int y :: .int x :: st) M uc us P := fun p e s m args below meth c H locs lsA C w S hl hn hz => lv_icmp_eq C.1 C.2.1 h ht (fun q => kt q p e s m args below meth c H locs lsA C w S hl hn hz) (fun q => kf q p e s m args below meth c H locs lsA C w S hl hn hz)
theorem ex_icmp_ne {x y : Int32} {off : Int} (tgt : Nat) (h : decode d.2.1 pc = .ok (.if_icmp .ne off, 3)) (ht : (pc : Int) + off = (tgt : Int)) (kt : ¬ x = y → Ex G d tgt ls st M uc us P) (kf : x = y → Ex G d (pc + 3) ls st M uc us P) : Ex G d pc ls (.int y :: .int x :: st) M uc us P := fun p e s m args below meth c H locs lsA C w S hl hn hz => lv_icmp_ne C.1 C.2.1 h ht (fun q => kt q p e s m args below meth c H locs lsA C w S hl hn hz) (fun q => kf q p e s m args below meth c H locs lsA C w S hl hn hz)
theorem ex_icmp_lt {x y : Int32} {off : Int} (tgt : Nat) (h : decode d.2.1 pc = .ok (.if_icmp .lt off, 3)) (ht : (pc : Int) + off = (tgt : Int)) (kt : x < y → Ex G d tgt ls st M uc us P) (kf : ¬ x < y → Ex G d (pc + 3) ls st M uc us P) : Ex G d pc ls (.int y :: .int x :: st) M uc us P := fun p e s m args below meth c H locs lsA C w S hl hn hz => lv_icmp_lt C.1 C.2.1 h ht (fun q => kt q p e s m args below meth c H locs lsA C w S hl hn hz) (fun q => kf q p e s m args below meth c H locs lsA C w S hl hn hz)
theorem ex_icmp_ge {x y : Int32} {off : Int} (tgt : Nat) (h : decode d.2.1 pc = .ok (.if_icmp .ge off, 3)) (ht : (pc : Int) + off = (tgt : Int)) (kt : y ≤ x → Ex G d tgt ls st M uc us P) (kf : ¬ y ≤ x → Ex G d (pc + 3) ls st M uc us P) : Ex G d pc ls (.int y :: .int x :: st) M uc us P := fun p e s m args below meth c H locs lsA C w S hl hn hz => lv_icmp_ge C.1 C.2.1 h ht (fun q => kt q p e s m args below meth c H locs lsA C w S hl hn hz) (fun q => kf q p e s m args below meth c H locs lsA C w S hl hn hz)
theorem ex_icmp_gt {x y : Int32} {off : Int} (tgt : Nat) (h : decode d.2.1 pc = .ok (.if_icmp .gt off, 3)) (ht : (pc : Int) + off = (tgt : Int)) (kt : y < x → Ex G d tgt ls st M uc us P) (kf : ¬ y < x → Ex G d (pc + 3) ls st M uc us P) : Ex G d pc ls (.int y :: .int x :: st) M uc us P := fun p e s m args below meth c H locs lsA C w S hl hn hz => lv_icmp_gt C.1 C.2.1 h ht (fun q => kt q p e s m args below meth c H locs lsA C w S hl hn hz) (fun q => kf q p e s m args below meth c H locs lsA C w S hl hn hz)
theorem ex_icmp_le {x y : Int32} {off : Int} (tgt : Nat) (h : decode d.2.1 pc = .ok (.if_icmp .le off, 3)) (ht : (pc : Int) + off = (tgt : Int)) (kt : x ≤ y → Ex G d tgt ls st M uc us P) (kf : ¬ x ≤ y → Ex G d (pc + 3) ls st M uc us P) : Ex G d pc ls (.int y :: .int x :: st) M uc us P := fun p e s m args below meth c H locs lsA C w S hl hn hz => lv_icmp_le C.1 C.2.1 h ht (fun q => kt q p e s m args below meth c H locs lsA C w S hl hn hz) (fun q => kf q p e s m args below meth c H locs lsA C w S hl hn hz)
theorem ex_goto {off : Int} (tgt : Nat) (h : decode d.2.1 pc = .ok (.goto off, 3)) (ht : (pc : Int) + off = (tgt : Int)) (k : Ex G d tgt ls st M uc us P) : Ex G d pc ls st M uc us P := fun p e s m args below meth c H locs lsA C w S hl hn hz => lv_goto C.1 C.2.1 h ht (k p e s m args below meth c H locs lsA C w S hl hn hz)
theorem ex_tin {dflt lo hi : Int} {offs : Array Int} {len : Nat} {x : Int32} {off : Int} (tgt : Nat) (h : decode d.2.1 pc = .ok (.tableswitch dflt lo hi offs, len)) (h1 : ¬ x.toInt < lo) (h2 : ¬ hi < x.toInt) (ho : offs[(x.toInt - lo).toNat]? = some off) (ht : (pc : Int) + off = (tgt : Int)) (k : Ex G d tgt ls st M uc us P) : Ex G d pc ls (.int x :: st) M uc us P := fun p e s m args below meth c H locs lsA C w S hl hn hz => lv_tableIn C.1 C.2.1 h h1 h2 ho ht (k p e s m args below meth c H locs lsA C w S hl hn hz)
theorem ex_tout {dflt lo hi : Int} {offs : Array Int} {len : Nat} {x : Int32} (tgt : Nat) (h : decode d.2.1 pc = .ok (.tableswitch dflt lo hi offs, len)) (hx : x.toInt < lo ∨ hi < x.toInt) (ht : (pc : Int) + dflt = (tgt : Int)) (k : Ex G d tgt ls st M uc us P) : Ex G d pc ls (.int x :: st) M uc us P := fun p e s m args below meth c H locs lsA C w S hl hn hz => lv_tableOut C.1 C.2.1 h hx ht (k p e s m args below meth c H locs lsA C w S hl hn hz)
theorem ex_look {dflt : Int} {ps : Array (Int × Int)} {len : Nat} {x : Int32} {off : Int} (tgt : Nat) (h : decode d.2.1 pc = .ok (.lookupswitch dflt ps, len)) (hp : (ps.toList.zip (ps.toList.drop 1)).all (fun (a, next) => a.1 < next.1) = true) (ho : Op.lookupswitch.offset ps.toList dflt x.toInt = off) (ht : (pc : Int) + off = (tgt : Int)) (k : Ex G d tgt ls st M uc us P) : Ex G d pc ls (.int x :: st) M uc us P := fun p e s m args below meth c H locs lsA C w S hl hn hz => lv_lookup C.1 C.2.1 h hp ho ht (k p e s m args below meth c H locs lsA C w S hl hn hz)
theorem ex_dup {v : Value} (h : decode d.2.1 pc = .ok (.dup, 1)) (hv : v.category = 1) (k : Ex G d (pc + 1) ls (v :: v :: st) M uc us P) : Ex G d pc ls (v :: st) M uc us P := fun p e s m args below meth c H locs lsA C w S hl hn hz => lv_dup C.1 C.2.1 h ((cv_cat G v).trans hv) (k p e s m args below meth c H locs lsA C w S hl hn hz)
theorem ex_dup2 {v u : Value} (h : decode d.2.1 pc = .ok (.dup2, 1)) (hv : v.category = 1) (hu : u.category = 1) (k : Ex G d (pc + 1) ls (v :: u :: v :: u :: st) M uc us P) : Ex G d pc ls (v :: u :: st) M uc us P := fun p e s m args below meth c H locs lsA C w S hl hn hz => lv_dup2_11 C.1 C.2.1 h ((cv_cat G v).trans hv) ((cv_cat G u).trans hu) (k p e s m args below meth c H locs lsA C w S hl hn hz)
theorem qp_of {s : State} {args : Array Value} {H : Heap} {locs : List Loc} {r : Option Value} {nc : Nat} (w : Wd G M H) (S : va_S (fun q => gB G ≤ q) s.heap H locs) (hz : gB G + M.2.2.2.2 = s.heap.size + nc) (hP : P r M) : ∀ t : State, t.heap = H → s.WarmedH t.vm → Qp G nc P args s (.returned (r.map (cv G))) t := by
  intro t ht hW
  exact ⟨r, M, rfl, hP, by rw [ht]; exact w, hz, S.F ht⟩
theorem ex_iret {v : Int32} {ty : FieldType} (h : decode d.2.1 pc = .ok (.ireturn, 1)) (hr : d.2.2.2.1 = some ty) (hn : narrow ty (.int v) = .int v) (hu : uc = d.2.2.2.2.cells ∧ us ≤ d.2.2.2.2.slots) (hP : P (some (.int v)) M) : Ex G d pc ls [.int v] M uc us P := by
  intro p e s m args below meth c H locs lsA C w S hl _ hz
  refine W.widen (Nat.le_of_eq hu.1) hu.2 ?_
  exact W.zret C.1 C.2.1 (C.2.2.1.trans hr) hn (qp_of (r := some (.int v)) w S (by rw [← hu.1]; exact hz) hP) S.2.2 h C.2.2.2.2.2.2.1
theorem ex_lret {v : Int64} (h : decode d.2.1 pc = .ok (.lreturn, 1)) (hr : d.2.2.2.1 = some .long) (hu : uc = d.2.2.2.2.cells ∧ us ≤ d.2.2.2.2.slots) (hP : P (some (.long v)) M) : Ex G d pc ls [.long v] M uc us P := by
  intro p e s m args below meth c H locs lsA C w S hl _ hz
  refine W.widen (Nat.le_of_eq hu.1) hu.2 ?_
  exact W.lret C.1 C.2.1 (C.2.2.1.trans hr) (qp_of (r := some (.long v)) w S (by rw [← hu.1]; exact hz) hP) S.2.2 h C.2.2.2.2.2.2.1
theorem ex_vret (h : decode d.2.1 pc = .ok (.return_, 1)) (hr : d.2.2.2.1 = none) (hu : uc = d.2.2.2.2.cells ∧ us ≤ d.2.2.2.2.slots) (hP : P none M) : Ex G d pc ls [] M uc us P := by
  intro p e s m args below meth c H locs lsA C w S hl _ hz
  refine W.widen (Nat.le_of_eq hu.1) hu.2 ?_
  exact W.vret C.1 C.2.1 (C.2.2.1.trans hr) (qp_of (r := none) w S (by rw [← hu.1]; exact hz) hP) S.2.2 h C.2.2.2.2.2.2.1
theorem Ex.weak {P' : Option Value → Mem → Prop} (k : Ex G d pc ls st M uc us P) (h : ∀ r M', P r M' → P' r M') : Ex G d pc ls st M uc us P' := by
  intro p e s m args below meth c H locs lsA C w S hl hn hz T hT X
  obtain ⟨t, a, o, b1, b2, ⟨r, M', c1, c2, c3⟩, b4⟩ := k p e s m args below meth c H locs lsA C w S hl hn hz T hT X
  exact ⟨t, a, o, b1, b2, ⟨r, M', c1, h r M' c2, c3⟩, b4⟩
theorem Ca.weak {vs : List Value} {P' : Option Value → Mem → Prop} (k : Ca G d vs M P) (h : ∀ r M', P r M' → P' r M') : Ca G d vs M P' := by
  intro p e ha hc hk s m args below hf happ hp hK
  obtain ⟨t, o, b1, b2, b3, ⟨r, M', c1, c2, c3⟩, b4⟩ := k p e ha hc hk s m args below hf happ hp hK
  exact ⟨t, o, b1, b2, b3, ⟨r, M', c1, h r M' c2, c3⟩, b4⟩
end RULES
