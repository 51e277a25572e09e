/-- a new cell, all its slots 0, null -/
def newM (M : Mem) (kd N : Nat) : Mem := (fun a j => if a = M.2.2.2.2 then 0 else M.1 a j, fun a j => if a = M.2.2.2.2 then 0 else M.2.1 a j, fun a j => if a = M.2.2.2.2 then none else M.2.2.1 a j, fun a => if a = M.2.2.2.2 then (kd, N) else M.2.2.2.1 a, M.2.2.2.2 + 1)
def dval (kd j : Nat) : Value := if tyc kd j = 0 then .int 0 else if tyc kd j = 1 then .long 0 else .null
theorem ent_newM_off {G : Gp} {M : Mem} {kd N k : Nat} (h : k < M.2.2.2.2) : ent G (newM M kd N) k = ent G M k := by
  have hk : k ≠ M.2.2.2.2 := Nat.ne_of_lt h
  have hf : ∀ kd', fval G (newM M kd N) kd' k = fval G M kd' k := by
    intro kd'
    funext j
    simp only [fval, newM, if_neg hk]
  unfold ent
  simp only [hf]
  simp only [newM, if_neg hk]
theorem newM_K {M : Mem} {kd N : Nat} : (newM M kd N).2.2.2.1 M.2.2.2.2 = (kd, N) := by simp [newM]
theorem ent_newM_obj {G : Gp} {M : Mem} {kd N : Nat} (h13 : kd < 13) : ent G (newM M kd N) M.2.2.2.2 = .inr (kd, (List.range N).map (dval kd)) := by
  rw [ent_obj newM_K h13]
  congr 3
  funext j
  simp only [fval, dval, newM, if_true]
  rfl
theorem ent_newM_prim {G : Gp} {M : Mem} {kd N : Nat} (h13 : ¬ kd < 13) (h16 : kd < 16) : ent G (newM M kd N) M.2.2.2.2 = .inl (gY G kd, N, .inl (fun _ => 0)) := by
  have h1 : (newM M kd N).1 M.2.2.2.2 = fun _ => 0 := by
    funext j
    simp [newM]
  rw [ent_prim newM_K h13 h16, h1]
theorem ent_newM_ref {G : Gp} {M : Mem} {kd N : Nat} (h16 : ¬ kd < 16) : ent G (newM M kd N) M.2.2.2.2 = .inl (gY G kd, N, .inr (.inr (.inr (.inr (fun _ => none))))) := by
  have h1 : (fun j => ((newM M kd N).2.2.1 M.2.2.2.2 j).map (ga G)) = fun _ => none := by
    funext j
    simp [newM]
  rw [ent_ref newM_K h16, h1]
theorem new_at {G : Gp} {M : Mem} {q : Nat} {x : va_E} {H1 : Heap} (hP : va_P (gD G) vwCl (wsl G M ++ [(q, x)]) H1) (hD : va_D (fun q => gB G ≤ q) (wsl G M ++ [(q, x)])) (hz : H1.size ≤ gB G + M.2.2.2.2 + 1) : q = gB G + M.2.2.2.2 := by
  have hlen : (wsl G M).length = M.2.2.2.2 := by simp [wsl]
  have hq : (wsl G M ++ [(q, x)])[M.2.2.2.2]? = some (q, x) := by
    rw [List.getElem?_append_right (by omega), hlen]
    simp
  have h1 := (hP _ _ hq).lt
  have h2 : gB G ≤ q := hD.2 _ _ hq
  have h3 : q < H1.size := h1
  rcases Nat.lt_or_ge (q - gB G) M.2.2.2.2 with h4 | h4
  · have h5 : (wsl G M ++ [(q, x)])[q - gB G]? = some (gB G + (q - gB G), ent G M (q - gB G)) := by
      rw [List.getElem?_append_left (by omega)]
      exact wsl_at h4
    have h6 := hD.1 _ _ _ _ hq h5 (by show q = _; omega)
    omega
  · omega
section MAKER
variable {G : Gp} {d : Md} {pc : Nat} {ls : List (Option Value)} {st : List Value} {M : Mem} {uc us : Nat} {P : Option Value → Mem → Prop} {own : String} {idx : Nat}
theorem ex_new {C : String} {T : u_T} {N kd : Nat} (ty0 : Nat → FieldType) (h : decode d.2.1 pc = .ok (.new idx, 3)) (ho : d.1.cls = own) (hc : vwCl[kd]? = some (C, T, N)) (h13 : kd < 13) (hin : ∀ w ∈ u_ws C T N, w ∈ lw_gd) (hty : ∀ k, k < N → parseFieldDescriptor (T k).2.2.1 = some (ty0 k)) (hdv : ∀ j, j < N → defaultValue (ty0 j) = dval kd j) (h1 : Cond.classLink own idx C ∈ lw_gd) (h2 : Cond.instantiable C N ∈ lw_gd) (h3 : Cond.initialized C ∈ lw_gd) (hb : uc + 1 ≤ d.2.2.2.2.cells ∧ us + N ≤ d.2.2.2.2.slots) (hm : M.2.2.2.2 + 1 ≤ 999999) (k : Ex G d (pc + 3) ls (.ref M.2.2.2.2 :: st) (newM M kd N) (uc + 1) (us + N) P) : Ex G d pc ls st M uc us P := by
  intro p e s m args below meth c H locs lsA C0 w S hl hn hz
  have hts := C0.2.2.2.2.2.1
  refine va_new (fs := (List.range N).map (dval kd)) C0.1 C0.2.1 (own := own) (C := C) (T := T) (N := N) (ci := kd) hts hin ty0 hty (by rw [← ho]; exact C0.2.2.2.2.1) (hts _ h1) (hts _ h2) (hts _ h3) C0.2.2.2.2.2.2.2.2.1.1 w.1 (wsl_D G M) S (fun q hq => Nat.le_trans C0.2.2.2.2.2.2.2.2.2.2.2 hq) hc (fun j hj => by rw [hdv j hj]; simp [vp_V, List.getD_eq_getElem?_getD, List.getElem?_range hj]) hb.1 hb.2 h (fun q H1 hP1 hD1 hS1 => ?_)
  intro T1 hT1 X1
  have hz1 := X1.heapSize
  rw [hT1] at hz1
  have hq := new_at hP1 hD1 (by omega)
  subst hq
  rw [← ent_newM_obj (G := G) (M := M) h13, wsl_push (M := M) (M' := newM M kd N) rfl (fun k hk => ent_newM_off hk)] at hP1
  have hg : ga G M.2.2.2.2 = gB G + M.2.2.2.2 := by
    unfold ga
    rw [if_neg (by omega)]
  have hk := k p e s m args below meth c H1 locs lsA C0 ⟨hP1, hm⟩ hS1 hl hn (by show gB G + (M.2.2.2.2 + 1) = _; omega) T1 hT1 X1
  have hcv : cv G (.ref M.2.2.2.2) = .ref (gB G + M.2.2.2.2) := by show Value.ref (ga G _) = _; rw [hg]
  rw [List.map_cons, hcv] at hk
  exact hk
theorem ex_newp {kd t0 : Nat} {atype : ArrayType} {ty : FieldType} {n : Int32} {N : Nat} (h : decode d.2.1 pc = .ok (.newarray atype, 2)) (hty : newarray.typeOf atype = ty) (h13 : ¬ kd < 13) (h16 : kd < 16) (hra : ∀ (U : State) (cA : ClassId), va_RA U cA ty → U.vm.findClass ("[" ++ ty.toString) = some cA) (ht : (tys G)[t0]? = some (gY G kd, ty)) (hdf : defaultValue ty = .int 0) (hw : Cond.arrayClass ty ∈ lw_gd) (hn0 : ¬ n < 0) (hN : n.toNatClampNeg = N) (hby : N * componentBytes ty ≤ 536870912) (hb : uc + 1 ≤ d.2.2.2.2.cells ∧ us + N ≤ d.2.2.2.2.slots) (hm : M.2.2.2.2 + 1 ≤ 999999) (k : Ex G d (pc + 2) ls (.ref M.2.2.2.2 :: st) (newM M kd N) (uc + 1) (us + N) P) : Ex G d pc ls (.int n :: st) M uc us P := by
  intro p e s m args below meth c H locs lsA C0 w S hl hn hz
  have hts := C0.2.2.2.2.2.1
  have hK := C0.2.2.2.2.2.2.2.2.1.1
  refine va_newa (a0 := (N, .inl (fun _ => 0))) C0.1 C0.2.1 (by rw [hty]; exact hts _ hw) hty hK w.1 (wsl_D G M) S (fun q hq => Nat.le_trans C0.2.2.2.2.2.2.2.2.2.2.2 hq) (fun cA => by rw [hdf]; rfl) hn0 hN hby hb.1 hb.2 h (fun q cA H1 hK1 hP1 hD1 hS1 => ?_)
  have e1 := hra s _ (hK.2 t0 _ ht).2
  have e2 := hra s cA (hK1.2 (tys G).length (cA, ty) (by simp)).2
  have e3 : cA = gY G kd := Option.some.inj (e2.symm.trans e1)
  subst e3
  intro T1 hT1 X1
  have hz1 := X1.heapSize
  rw [hT1] at hz1
  have hq := new_at hP1 hD1 (by omega)
  subst hq
  rw [← ent_newM_prim (G := G) (M := M) h13 h16, wsl_push (M := M) (M' := newM M kd N) rfl (fun k hk => ent_newM_off hk)] at hP1
  have hg : ga G M.2.2.2.2 = gB G + M.2.2.2.2 := by
    unfold ga
    rw [if_neg (by omega)]
  have hk := k p e s m args below meth c H1 locs lsA C0 ⟨hP1, hm⟩ hS1 hl hn (by show gB G + (M.2.2.2.2 + 1) = _; omega) T1 hT1 X1
  have hcv : cv G (.ref M.2.2.2.2) = .ref (gB G + M.2.2.2.2) := by show Value.ref (ga G _) = _; rw [hg]
  rw [List.map_cons, hcv] at hk
  exact hk
theorem ex_newr {kd t0 : Nat} {C : String} {n : Int32} {N : Nat} (h : decode d.2.1 pc = .ok (.anewarray idx, 3)) (ho : d.1.cls = own) (hcl : Cond.classLink own idx C ∈ lw_gd) (hC : C ∈ aoc) (h16 : ¬ kd < 16) (ht : (tys G)[t0]? = some (gY G kd, .object C)) (hn0 : ¬ n < 0) (hN : n.toNatClampNeg = N) (hby : N * 4 ≤ 536870912) (hb : uc + 1 ≤ d.2.2.2.2.cells ∧ us + N ≤ d.2.2.2.2.slots) (hm : M.2.2.2.2 + 1 ≤ 999999) (k : Ex G d (pc + 3) ls (.ref M.2.2.2.2 :: st) (newM M kd N) (uc + 1) (us + N) P) : Ex G d pc ls (.int n :: st) M uc us P := by
  intro p e s m args below meth c H locs lsA C0 w S hl hn hz
  have hts := C0.2.2.2.2.2.1
  have hK := C0.2.2.2.2.2.2.2.2.1.1
  refine va_newq C0.1 C0.2.1 (own := own) (C := C) (by rw [← ho]; exact C0.2.2.2.2.1) (hts _ hcl) (C0.2.2.2.2.2.2.2.2.1.2.2 _ hC) hK w.1 (wsl_D G M) S (fun q hq => Nat.le_trans C0.2.2.2.2.2.2.2.2.2.2.2 hq) hn0 hN hby hb.1 hb.2 h (fun q cA H1 hK1 hP1 hD1 hS1 => ?_)
  obtain ⟨_, _, _, _, _, e1⟩ := (hK.2 t0 _ ht).2
  obtain ⟨_, _, _, _, _, e2⟩ := (hK1.2 (tys G).length (cA, .object C) (by simp)).2
  have e3 : cA = gY G kd := Option.some.inj (e2.symm.trans e1)
  subst e3
  intro T1 hT1 X1
  have hz1 := X1.heapSize
  rw [hT1] at hz1
  have hq := new_at hP1 hD1 (by omega)
  subst hq
  rw [← ent_newM_ref (G := G) (M := M) h16, wsl_push (M := M) (M' := newM M kd N) rfl (fun k hk => ent_newM_off hk)] at hP1
  have hg : ga G M.2.2.2.2 = gB G + M.2.2.2.2 := by
    unfold ga
    rw [if_neg (by omega)]
  have hk := k p e s m args below meth c H1 locs lsA C0 ⟨hP1, hm⟩ hS1 hl hn (by show gB G + (M.2.2.2.2 + 1) = _; omega) T1 hT1 X1
  have hcv : cv G (.ref M.2.2.2.2) = .ref (gB G + M.2.2.2.2) := by show Value.ref (ga G _) = _; rw [hg]
  rw [List.map_cons, hcv] at hk
  exact hk
theorem ent_upR_off {a i k b : Nat} (h : k ≠ a) : ent G (M.1, M.2.1, up2 M.2.2.1 a i (some b), M.2.2.2) k = ent G M k := ent_putV_off (v := .ref b) h
theorem ent_upR {a i kd N b : Nat} (hk : M.2.2.2.1 a = (kd, N)) (h16 : ¬ kd < 16) : ent G (M.1, M.2.1, up2 M.2.2.1 a i (some b), M.2.2.2) a = .inl (gY G kd, N, .inr (.inr (.inr (.inr (va_up (fun j => (M.2.2.1 a j).map (ga G)) i (some (ga G b))))))) := by
  have h1 : (fun j => (up2 M.2.2.1 a i (some b) a j).map (ga G)) = va_up (fun j => (M.2.2.1 a j).map (ga G)) i (some (ga G b)) := by
    funext j
    by_cases hj : j = i
    · simp [up2, va_up, hj]
    · simp [up2, va_up, hj]
  rw [ent_ref (M := (M.1, M.2.1, up2 M.2.2.1 a i (some b), M.2.2.2)) hk h16, ← h1]
theorem ex_aast {a N kd ci b Nb t0 : Nat} {C : String} {T : u_T} {i : Int32} (h : decode d.2.1 pc = .ok (.aastore, 1)) (hk : M.2.2.2.1 a = (kd, N)) (h16 : ¬ kd < 16) (ht : (tys G)[t0]? = some (gY G kd, .object C)) (ha : a < M.2.2.2.2) (hin : vp_in i N) (hkb : M.2.2.2.1 b = (ci, Nb)) (hb : b < M.2.2.2.2) (h13 : ci < 13) (hc : vwCl[ci]? = some (C, T, Nb)) (k : Ex G d (pc + 1) ls st (M.1, M.2.1, up2 M.2.2.1 a i.toNatClampNeg (some b), M.2.2.2) uc us P) : Ex G d pc ls (.ref b :: .int i :: .ref a :: st) M uc us P := by
  intro p e s m args below meth c H locs lsA C0 w S hl hn hz
  show W p (gL G) e d.2.2.2.2 s m args below meth c H locs uc us _ (F0 m pc lsA (.ref (ga G b) :: .int i :: .ref (ga G a) :: st.map (cv G)))
  rw [ga_in w ha, ga_in w hb]
  refine va_astq C0.1 C0.2.1 C0.2.2.2.2.2.2.2.2.1.1 w.1 (wsl_D G M) S a t0 b ci (r := (C, T, Nb)) (by rw [wsl_at ha, ent_ref hk h16]) ht (by rw [wsl_at hb, ent_obj hkb h13]) hc hin h (fun H1 locs1 hP1 hD1 hS1 => ?_)
  rw [← ga_in w hb, ← ent_upR hk h16, wsl_set (M := M) (M' := (M.1, M.2.1, up2 M.2.2.1 a i.toNatClampNeg (some b), M.2.2.2)) rfl (fun k hk => ent_upR_off hk)] at hP1
  exact k p e s m args below meth c H1 locs1 lsA C0 ⟨hP1, w.2⟩ hS1 hl hn hz
theorem ex_oinit {a : Nat} (h : decode d.2.1 pc = .ok (.invokespecial idx, 3)) (ho : d.1.cls = own) (h1 : Cond.methodLink own idx Lib.objectInit ∈ lw_gd) (h2 : Cond.instanceMethod Lib.objectInit ∈ lw_gd) (h3 : Cond.code Lib.objectInit ⟨#[0xb1]⟩ 1 none ∈ lw_gd) (hR : 1 ≤ d.2.2.2.2.frames ∧ 20 ≤ d.2.2.2.2.locals) (hcs : (st.map fun v => v.category).sum ≤ 8) (k : Ex G d (pc + 3) ls st M uc us P) : Ex G d pc ls (.ref a :: st) M uc us P := by
  intro p e s m args below meth c H locs lsA C0 w S hl hn hz
  have hts := C0.2.2.2.2.2.1
  exact W.objInit (idx := idx) (own := own) (rest := st.map (cv G)) C0.1 C0.2.1 (by rw [← ho]; exact C0.2.2.2.2.1) (hts _ h1) (hts _ h2) (hts _ h3) rfl (hl.1.trans C0.2.2.2.1.symm) rfl h hR.1 (by rw [cv_sum]; show 2 * 0 + _ + 12 ≤ _; omega) (k p e s m args below meth c H locs lsA C0 w S hl hn hz)
theorem ex_mmax {x y : Int32} (h : decode d.2.1 pc = .ok (.invokestatic idx, 3)) (ho : d.1.cls = own) (h1 : Cond.methodLink own idx Lib.Math.max.name ∈ lw_gd) (h2 : Cond.static Lib.Math.max.name ∈ lw_gd) (h3 : Cond.initialized "java/lang/Math" ∈ lw_gd) (h4 : Cond.code Lib.Math.max.name Lib.Math.max.code 2 (some .int) ∈ lw_gd) (hR : 1 ≤ d.2.2.2.2.frames ∧ 21 ≤ d.2.2.2.2.locals) (hu : uc ≤ d.2.2.2.2.cells ∧ us ≤ d.2.2.2.2.slots) (hcs : (st.map fun v => v.category).sum ≤ 8) (k : Ex G d (pc + 3) ls (.int (if x < y then y else x) :: st) M uc us P) : Ex G d pc ls (.int y :: .int x :: st) M uc us P := by
  intro p e s m args below meth c H locs lsA C0 w S hl hn hz
  have hts := C0.2.2.2.2.2.1
  exact va_mmax C0.1 C0.2.1 (C0.2.2.2.1.trans hl.1.symm) (own := own) (index := idx) (by rw [← ho]; exact C0.2.2.2.2.1) (hts _ h1) (hts _ h2) (hts _ h3) (hts _ h4) hR.1 (by rw [cv_sum]; omega) hu.1 hu.2 h (k p e s m args below meth c H locs lsA C0 w S hl hn hz)
theorem ex_mmin {x y : Int32} (h : decode d.2.1 pc = .ok (.invokestatic idx, 3)) (ho : d.1.cls = own) (h1 : Cond.methodLink own idx Lib.Math.min.name ∈ lw_gd) (h2 : Cond.static Lib.Math.min.name ∈ lw_gd) (h3 : Cond.initialized "java/lang/Math" ∈ lw_gd) (h4 : Cond.code Lib.Math.min.name Lib.Math.min.code 2 (some .int) ∈ lw_gd) (hR : 1 ≤ d.2.2.2.2.frames ∧ 21 ≤ d.2.2.2.2.locals) (hu : uc ≤ d.2.2.2.2.cells ∧ us ≤ d.2.2.2.2.slots) (hcs : (st.map fun v => v.category).sum ≤ 8) (k : Ex G d (pc + 3) ls (.int (if y < x then y else x) :: st) M uc us P) : Ex G d pc ls (.int y :: .int x :: st) M uc us P := by
  intro p e s m args below meth c H locs lsA C0 w S hl hn hz
  have hts := C0.2.2.2.2.2.1
  exact va_mmin C0.1 C0.2.1 (C0.2.2.2.1.trans hl.1.symm) (own := own) (index := idx) (by rw [← ho]; exact C0.2.2.2.2.1) (hts _ h1) (hts _ h2) (hts _ h3) (hts _ h4) hR.1 (by rw [cv_sum]; omega) hu.1 hu.2 h (k p e s m args below meth c H locs lsA C0 w S hl hn hz)
theorem ex_mabs {x : Int32} (h : decode d.2.1 pc = .ok (.invokestatic idx, 3)) (ho : d.1.cls = own) (h1 : Cond.methodLink own idx Lib.Math.abs.name ∈ lw_gd) (h2 : Cond.static Lib.Math.abs.name ∈ lw_gd) (h3 : Cond.initialized "java/lang/Math" ∈ lw_gd) (h4 : Cond.code Lib.Math.abs.name Lib.Math.abs.code 1 (some .int) ∈ lw_gd) (hR : 1 ≤ d.2.2.2.2.frames ∧ 21 ≤ d.2.2.2.2.locals) (hu : uc ≤ d.2.2.2.2.cells ∧ us ≤ d.2.2.2.2.slots) (hcs : (st.map fun v => v.category).sum ≤ 8) (k : Ex G d (pc + 3) ls (.int (if 0 ≤ x then x else 0 - x) :: st) M uc us P) : Ex G d pc ls (.int x :: st) M uc us P := by
  intro p e s m args below meth c H locs lsA C0 w S hl hn hz
  have hts := C0.2.2.2.2.2.1
  exact va_mabs C0.1 C0.2.1 (C0.2.2.2.1.trans hl.1.symm) (own := own) (index := idx) (by rw [← ho]; exact C0.2.2.2.2.1) (hts _ h1) (hts _ h2) (hts _ h3) (hts _ h4) hR.1 (by rw [cv_sum]; omega) hu.1 hu.2 h (k p e s m args below meth c H locs lsA C0 w S hl hn hz)
/-- System.arraycopy between rows of ints -/
def cpI (M : Mem) (a0 a sp dp n : Nat) : Mem := (fun a' j => if a' = a then va_cpy (M.1 a0) (M.1 a) sp dp n j else M.1 a' j, M.2)
theorem ent_cpI_off {a0 a sp dp n k : Nat} (h : k ≠ a) : ent G (cpI M a0 a sp dp n) k = ent G M k := by
  have hf : ∀ kd', fval G (cpI M a0 a sp dp n) kd' k = fval G M kd' k := by
    intro kd'
    funext j
    simp only [fval, cpI, if_neg h]
  unfold ent
  simp only [hf]
  simp only [cpI, if_neg h]
theorem ent_cpI {a0 a sp dp n N : Nat} (hk : M.2.2.2.1 a = (14, N)) : ent G (cpI M a0 a sp dp n) a = .inl (gY G 14, N, .inl (va_cpy (M.1 a0) (M.1 a) sp dp n)) := by
  have h1 : (cpI M a0 a sp dp n).1 a = va_cpy (M.1 a0) (M.1 a) sp dp n := by
    funext j
    simp [cpI]
  rw [ent_prim (M := cpI M a0 a sp dp n) hk (by decide) (by decide), h1]
theorem ex_copy {a0 a N0 N : Nat} {sp dp n : Int32} (h : decode d.2.1 pc = .ok (.invokestatic idx, 3)) (ho : d.1.cls = own) (h1 : Cond.methodLink own idx arraycopyName ∈ lw_gd) (h2 : Cond.native arraycopyName ∈ lw_gd) (h3 : Cond.static arraycopyName ∈ lw_gd) (h4 : Cond.initialized "java/lang/System" ∈ lw_gd) (hk0 : M.2.2.2.1 a0 = (14, N0)) (hk : M.2.2.2.1 a = (14, N)) (ha0 : a0 < M.2.2.2.2) (ha : a < M.2.2.2.2) (g1 : ¬ sp < 0) (g2 : ¬ dp < 0) (g3 : ¬ n < 0) (g4 : sp.toNatClampNeg + n.toNatClampNeg ≤ N0) (g5 : dp.toNatClampNeg + n.toNatClampNeg ≤ N) (hR : 1 ≤ d.2.2.2.2.frames ∧ 8 + (nativeFrameWords "java/lang/System" "arraycopy" 5 + 11) ≤ d.2.2.2.2.locals) (hcs : (st.map fun v => v.category).sum ≤ 8) (k : Ex G d (pc + 3) ls st (cpI M a0 a sp.toNatClampNeg dp.toNatClampNeg n.toNatClampNeg) uc us P) : Ex G d pc ls (.int n :: .int dp :: .ref a :: .int sp :: .ref a0 :: st) M uc us P := by
  intro p e s m args below meth c H locs lsA C0 w S hl hn hz
  have hts := C0.2.2.2.2.2.1
  show W p (gL G) e d.2.2.2.2 s m args below meth c H locs uc us _ (F0 m pc lsA (.int n :: .int dp :: .ref (ga G a) :: .int sp :: .ref (ga G a0) :: st.map (cv G)))
  rw [ga_in w ha, ga_in w ha0]
  refine va_copyi C0.1 C0.2.1 (C0.2.2.2.1.trans hl.1.symm) (own := own) (index := idx) (by rw [← ho]; exact C0.2.2.2.2.1) (hts _ h1) (hts _ h2) (hts _ h3) (hts _ h4) C0.2.2.2.2.2.2.2.2.1.1 w.1 (wsl_D G M) S a0 a 1 1 (ty := .int) (by rw [wsl_at ha0, ent_prim hk0 (by decide) (by decide)]) (by rw [wsl_at ha, ent_prim hk (by decide) (by decide)]) rfl rfl rfl g1 g2 g3 g4 g5 (fun _ _ => rfl) hR.1 (by rw [cv_sum]; omega) h (fun H1 locs1 hP1 hD1 hS1 => ?_)
  rw [← ent_cpI hk, wsl_set (M := M) (M' := cpI M a0 a sp.toNatClampNeg dp.toNatClampNeg n.toNatClampNeg) rfl (fun k hk => ent_cpI_off hk)] at hP1
  exact k p e s m args below meth c H1 locs1 lsA C0 ⟨hP1, w.2⟩ hS1 hl hn hz
end MAKER
