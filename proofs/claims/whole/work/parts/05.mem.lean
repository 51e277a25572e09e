def up2 {α : Type} (f : Nat → Nat → α) (a j : Nat) (v : α) : Nat → Nat → α := fun a' j' => if a' = a ∧ j' = j then v else f a' j'
theorem up2_off {α : Type} {f : Nat → Nat → α} {a j k : Nat} {v : α} (h : k ≠ a) : up2 f a j v k = f k := by
  funext i
  simp [up2, h]
theorem lw_good : ∀ w ∈ lw_gd, (w.onTables && w.keeps) = true ∨ ∃ ty, w = .arrayClass ty := fun _ hw => good_of_word (List.mem_filter.mp hw).2
theorem ga_in {G : Gp} {M : Mem} {H : Heap} (w : Wd G M H) {a : Nat} (ha : a < M.2.2.2.2) : ga G a = gB G + a := by
  have h1 := w.2
  unfold ga
  rw [if_neg (by omega)]
theorem ent_obj {G : Gp} {M : Mem} {a kd N : Nat} (hk : M.2.2.2.1 a = (kd, N)) (h13 : kd < 13) : ent G M a = .inr (kd, (List.range N).map (fval G M kd a)) := by
  unfold ent
  rw [hk]
  exact if_pos h13
theorem ent_prim {G : Gp} {M : Mem} {a kd N : Nat} (hk : M.2.2.2.1 a = (kd, N)) (h13 : ¬ kd < 13) (h16 : kd < 16) : ent G M a = .inl (gY G kd, N, .inl (M.1 a)) := by
  unfold ent
  rw [hk]
  simp only [h13, h16, if_true, if_false]
theorem ent_ref {G : Gp} {M : Mem} {a kd N : Nat} (hk : M.2.2.2.1 a = (kd, N)) (h16 : ¬ kd < 16) : ent G M a = .inl (gY G kd, N, .inr (.inr (.inr (.inr (fun j => (M.2.2.1 a j).map (ga G)))))) := by
  have h13 : ¬ kd < 13 := by omega
  unfold ent
  rw [hk]
  simp only [h13, h16, if_false]
def aval (M : Mem) (kd k j : Nat) : Option Value := if tyc kd j = 0 then some (.int (M.1 k j)) else if tyc kd j = 1 then some (.long (M.2.1 k j)) else (M.2.2.1 k j).map .ref
theorem aval_f {G : Gp} {M : Mem} {kd k j : Nat} {v : Value} (h : aval M kd k j = some v) : fval G M kd k j = cv G v := by
  unfold aval at h
  unfold fval
  by_cases h0 : tyc kd j = 0
  · rw [if_pos h0] at h ⊢
    cases h
    rfl
  · rw [if_neg h0] at h ⊢
    by_cases h1 : tyc kd j = 1
    · rw [if_pos h1] at h ⊢
      cases h
      rfl
    · rw [if_neg h1] at h ⊢
      cases hr : M.2.2.1 k j with
      | none => rw [hr] at h; cases h
      | some b => rw [hr] at h; cases h; rfl
/-- a value comes to a slot -/
def putV (M : Mem) (a j : Nat) (v : Value) : Mem := match v with
  | .int x => (up2 M.1 a j x, M.2)
  | .long x => (M.1, up2 M.2.1 a j x, M.2.2)
  | .ref b => (M.1, M.2.1, up2 M.2.2.1 a j (some b), M.2.2.2)
  | _ => M
def tcv (kd j : Nat) (v : Value) : Prop := match v with
  | .int _ => tyc kd j = 0
  | .long _ => tyc kd j = 1
  | .ref _ => tyc kd j = 2
  | _ => False
theorem putV_K {M : Mem} {a j : Nat} {v : Value} : (putV M a j v).2.2.2 = M.2.2.2 := by cases v <;> rfl
theorem ent_putV_off {G : Gp} {M : Mem} {a j k : Nat} {v : Value} (h : k ≠ a) : ent G (putV M a j v) k = ent G M k := by
  have hf : ∀ kd, fval G (putV M a j v) kd k = fval G M kd k := by
    intro kd
    funext i
    cases v <;> simp [fval, putV, up2_off h]
  unfold ent
  rw [putV_K]
  simp only [hf]
  cases v <;> simp [putV, up2_off h]
theorem fval_putV {G : Gp} {M : Mem} {a j kd i : Nat} {v : Value} (hv : tcv kd j v) : fval G (putV M a j v) kd a i = if i = j then cv G v else fval G M kd a i := by
  by_cases hi : i = j
  · subst hi
    rw [if_pos rfl]
    cases v <;> simp_all [tcv, fval, putV, up2, cv, va_rf]
  · rw [if_neg hi]
    cases v <;> simp [fval, putV, up2, hi]
theorem range_set {N j : Nat} {f : Nat → Value} {y : Value} : ((List.range N).map f).set j y = (List.range N).map (fun i => if i = j then y else f i) := by
  apply List.ext_getElem?
  intro i
  rw [List.getElem?_set]
  simp only [List.getElem?_map, List.getElem?_range', List.length_map, List.length_range]
  by_cases hi : i < N
  · rw [List.getElem?_range hi]
    by_cases hj : j = i
    · subst hj
      simp [hi]
    · have hj' : ¬ i = j := fun q => hj q.symm
      simp [hj, hj']
  · have hn : (List.range N)[i]? = none := by simp; omega
    rw [hn]
    by_cases hj : j = i
    · subst hj
      simp [hi]
    · simp [hj]
theorem ent_putV {G : Gp} {M : Mem} {a j kd N : Nat} {v : Value} (hk : M.2.2.2.1 a = (kd, N)) (h13 : kd < 13) (hv : tcv kd j v) : ent G (putV M a j v) a = .inr (kd, ((List.range N).map (fval G M kd a)).set j (cv G v)) := by
  rw [ent_obj (by rw [putV_K]; exact hk) h13, range_set]
  congr 3
  funext i
  exact fval_putV hv
theorem size_of {G : Gp} {d : Md} {p : Program} {l : Launch} {e : Env} {R : Room} {s : State} {m : MethodId} {args : Array Value} {below : List Frame} {meth : Method} {c : Code} {T : State} {H : Heap} {locs : List Loc} {M : Mem} {uc us : Nat} (C : Cx G d p s m args meth c) (w : Wd G M H) (S : va_S (fun q => gB G ≤ q) s.heap H locs) (hz : gB G + M.2.2.2.2 = s.heap.size + uc) (hT : T.heap = H) (X : Stand p l e R s m args below meth c T locs uc us) : H.size = gB G + M.2.2.2.2 := by
  have h1 := X.heapSize
  rw [hT] at h1
  have h2 := S.1
  have h3 : gB G ≤ s.heap.size := C.2.2.2.2.2.2.2.2.2.2.2
  by_cases hN : M.2.2.2.2 = 0
  · omega
  · have h4 := (w.1 (M.2.2.2.2 - 1) _ (wsl_at (by omega))).lt
    have h5 : gB G + (M.2.2.2.2 - 1) < H.size := h4
    omega
section MEMR
variable {G : Gp} {d : Md} {pc : Nat} {ls : List (Option Value)} {st : List Value} {M : Mem} {uc us : Nat} {P : Option Value → Mem → Prop}
theorem ex_get {C : String} {T : u_T} {N kd j idx a : Nat} {own : String} {v : Value} (h : decode d.2.1 pc = .ok (.getfield idx, 3)) (ho : d.1.cls = own) (hc : vwCl[kd]? = some (C, T, N)) (hin : ∀ w ∈ u_ws C T N, w ∈ lw_gd) (hj : j < N) (h13 : kd < 13) (hlink : Cond.fieldLink own idx (T j).1 (T j).2.1 (T j).2.2.1 ∈ lw_gd) (hk : M.2.2.2.1 a = (kd, N)) (ha : a < M.2.2.2.2) (hv : aval M kd a j = some v) (k : Ex G d (pc + 3) ls (v :: st) M uc us P) : Ex G d pc ls (.ref a :: st) M uc us P := by
  intro p e s m args below meth c H locs lsA C0 w S hl hn hz
  show W p (gL G) e d.2.2.2.2 s m args below meth c H locs uc us _ (F0 m pc lsA (.ref (ga G a) :: st.map (cv G)))
  rw [ga_in w ha]
  refine va_get (fs := (List.range N).map (fval G M kd a)) C0.1 C0.2.1 (own := own) (ref := (T j).1) (C := C) (T := T) (N := N) (ci := kd) C0.2.2.2.2.2.1 hin (by rw [← ho]; exact C0.2.2.2.2.1) C0.2.2.2.2.2.2.2.2.1.1 w.1 a (by rw [wsl_at ha, ent_obj hk h13]) hc j hj (C0.2.2.2.2.2.1 _ hlink) (fun _ h => h) (v := cv G v) ?_ h (k p e s m args below meth c H locs lsA C0 w S hl hn hz)
  rw [List.getElem?_map, List.getElem?_range hj]
  exact congrArg some (aval_f hv)
theorem ex_put {C : String} {T : u_T} {N kd j idx a : Nat} {own : String} {v : Value} (ty0 : Nat → FieldType) (h : decode d.2.1 pc = .ok (.putfield idx, 3)) (ho : d.1.cls = own) (hc : vwCl[kd]? = some (C, T, N)) (hin : ∀ w ∈ u_ws C T N, w ∈ lw_gd) (hty : ∀ k, k < N → parseFieldDescriptor (T k).2.2.1 = some (ty0 k)) (hnm : ∀ a, a < N → ∀ b, b < N → a ≠ b → (T a).2.1 ≠ (T b).2.1) (hj : j < N) (h13 : kd < 13) (hlink : Cond.fieldLink own idx (T j).1 (T j).2.1 (T j).2.2.1 ∈ lw_gd) (hfin : (T j).2.2.2 = false) (hnf : narrow (ty0 j) (cv G v) = cv G v ∧ fits (ty0 j) (cv G v) = true) (hv : tcv kd j v) (hk : M.2.2.2.1 a = (kd, N)) (ha : a < M.2.2.2.2) (k : Ex G d (pc + 3) ls st (putV M a j v) uc us P) : Ex G d pc ls (v :: .ref a :: st) M uc us P := by
  intro p e s m args below meth c H locs lsA C0 w S hl hn hz
  show W p (gL G) e d.2.2.2.2 s m args below meth c H locs uc us _ (F0 m pc lsA (cv G v :: .ref (ga G a) :: st.map (cv G)))
  rw [ga_in w ha]
  refine va_put (fs := (List.range N).map (fval G M kd a)) C0.1 C0.2.1 (own := own) (ref := (T j).1) (C := C) (T := T) (N := N) (ci := kd) C0.2.2.2.2.2.1 hin ty0 hty hnm (by rw [← ho]; exact C0.2.2.2.2.1) C0.2.2.2.2.2.2.2.2.1.1 w.1 (wsl_D G M) S a (by rw [wsl_at ha, ent_obj hk h13]) hc j hj (C0.2.2.2.2.2.1 _ hlink) (fun _ h => h) hfin (v := cv G v) (hty j hj) hnf.1 hnf.2 (by simp; exact hj) h (fun H1 locs1 hP1 hD1 hS1 => ?_)
  rw [← ent_putV hk h13 hv, wsl_set (by rw [putV_K]) (fun k hk => ent_putV_off hk)] at hP1
  exact k p e s m args below meth c H1 locs1 lsA C0 ⟨hP1, by rw [putV_K]; exact w.2⟩ hS1 hl hn (by rw [putV_K]; exact hz)
theorem ex_putF {C : String} {T : u_T} {N kd j idx a : Nat} {own : String} {v : Value} (ty0 : Nat → FieldType) (h : decode d.2.1 pc = .ok (.putfield idx, 3)) (ho : d.1.cls = own) (hini : d.1.name = "<init>") (hc : vwCl[kd]? = some (C, T, N)) (hin : ∀ w ∈ u_ws C T N, w ∈ lw_gd) (hty : ∀ k, k < N → parseFieldDescriptor (T k).2.2.1 = some (ty0 k)) (hnm : ∀ a, a < N → ∀ b, b < N → a ≠ b → (T a).2.1 ≠ (T b).2.1) (hj : j < N) (h13 : kd < 13) (hlink : Cond.fieldLink own idx (T j).1 (T j).2.1 (T j).2.2.1 ∈ lw_gd) (hfin : (T j).2.2.2 = true) (hdecl : (T j).1 = own) (hnf : narrow (ty0 j) (cv G v) = cv G v ∧ fits (ty0 j) (cv G v) = true) (hv : tcv kd j v) (hk : M.2.2.2.1 a = (kd, N)) (ha : a < M.2.2.2.2) (k : Ex G d (pc + 3) ls st (putV M a j v) uc us P) : Ex G d pc ls (v :: .ref a :: st) M uc us P := by
  intro p e s m args below meth c H locs lsA C0 w S hl hn hz
  show W p (gL G) e d.2.2.2.2 s m args below meth c H locs uc us _ (F0 m pc lsA (cv G v :: .ref (ga G a) :: st.map (cv G)))
  rw [ga_in w ha]
  refine va_putF (fs := (List.range N).map (fval G M kd a)) C0.1 C0.2.1 (own := own) (ref := (T j).1) (C := C) (T := T) (N := N) (ci := kd) C0.2.2.2.2.2.1 hin ty0 hty hnm (by rw [← ho]; exact C0.2.2.2.2.1) C0.2.2.2.2.2.2.2.2.1.1 w.1 (wsl_D G M) S a (by rw [wsl_at ha, ent_obj hk h13]) hc j hj (C0.2.2.2.2.2.1 _ hlink) (fun _ h => h) hfin (C0.2.2.2.2.2.2.2.1.trans hini) hdecl (v := cv G v) (hty j hj) hnf.1 hnf.2 (by simp; exact hj) h (fun H1 locs1 hP1 hD1 hS1 => ?_)
  rw [← ent_putV hk h13 hv, wsl_set (by rw [putV_K]) (fun k hk => ent_putV_off hk)] at hP1
  exact k p e s m args below meth c H1 locs1 lsA C0 ⟨hP1, by rw [putV_K]; exact w.2⟩ hS1 hl hn (by rw [putV_K]; exact hz)
theorem ex_iald {a N : Nat} {i : Int32} (h : decode d.2.1 pc = .ok (.iaload, 1)) (hk : M.2.2.2.1 a = (14, N)) (ha : a < M.2.2.2.2) (hin : vp_in i N) (k : Ex G d (pc + 1) ls (.int (M.1 a i.toNatClampNeg) :: st) M uc us P) : Ex G d pc ls (.int i :: .ref a :: st) M uc us P := by
  intro p e s m args below meth c H locs lsA C0 w S hl hn hz
  show W p (gL G) e d.2.2.2.2 s m args below meth c H locs uc us _ (F0 m pc lsA (.int i :: .ref (ga G a) :: st.map (cv G)))
  rw [ga_in w ha]
  exact va_iald C0.1 C0.2.1 C0.2.2.2.2.2.2.2.2.1.1 w.1 a 1 (by rw [wsl_at ha, ent_prim hk (by decide) (by decide)]) rfl hin h (k p e s m args below meth c H locs lsA C0 w S hl hn hz)
theorem ex_bald {a N : Nat} {i : Int32} (h : decode d.2.1 pc = .ok (.baload, 1)) (hk : M.2.2.2.1 a = (13, N)) (ha : a < M.2.2.2.2) (hin : vp_in i N) (k : Ex G d (pc + 1) ls (.int (M.1 a i.toNatClampNeg) :: st) M uc us P) : Ex G d pc ls (.int i :: .ref a :: st) M uc us P := by
  intro p e s m args below meth c H locs lsA C0 w S hl hn hz
  show W p (gL G) e d.2.2.2.2 s m args below meth c H locs uc us _ (F0 m pc lsA (.int i :: .ref (ga G a) :: st.map (cv G)))
  rw [ga_in w ha]
  exact va_bald C0.1 C0.2.1 C0.2.2.2.2.2.2.2.2.1.1 w.1 a 0 (by rw [wsl_at ha, ent_prim hk (by decide) (by decide)]) rfl hin h (k p e s m args below meth c H locs lsA C0 w S hl hn hz)
theorem ex_zald {a N : Nat} {i : Int32} (h : decode d.2.1 pc = .ok (.baload, 1)) (hk : M.2.2.2.1 a = (15, N)) (ha : a < M.2.2.2.2) (hin : vp_in i N) (k : Ex G d (pc + 1) ls (.int (M.1 a i.toNatClampNeg) :: st) M uc us P) : Ex G d pc ls (.int i :: .ref a :: st) M uc us P := by
  intro p e s m args below meth c H locs lsA C0 w S hl hn hz
  show W p (gL G) e d.2.2.2.2 s m args below meth c H locs uc us _ (F0 m pc lsA (.int i :: .ref (ga G a) :: st.map (cv G)))
  rw [ga_in w ha]
  exact va_zald C0.1 C0.2.1 C0.2.2.2.2.2.2.2.2.1.1 w.1 a 2 (by rw [wsl_at ha, ent_prim hk (by decide) (by decide)]) rfl hin h (k p e s m args below meth c H locs lsA C0 w S hl hn hz)
theorem ex_aald {a N kd b : Nat} {C : String} {i : Int32} (h : decode d.2.1 pc = .ok (.aaload, 1)) (hk : M.2.2.2.1 a = (kd, N)) (h16 : ¬ kd < 16) (ht : (tys G)[kd - 13]? = some (gY G kd, .object C)) (ha : a < M.2.2.2.2) (hin : vp_in i N) (hR : M.2.2.1 a i.toNatClampNeg = some b) (k : Ex G d (pc + 1) ls (.ref b :: st) M uc us P) : Ex G d pc ls (.int i :: .ref a :: st) M uc us P := by
  intro p e s m args below meth c H locs lsA C0 w S hl hn hz
  show W p (gL G) e d.2.2.2.2 s m args below meth c H locs uc us _ (F0 m pc lsA (.int i :: .ref (ga G a) :: st.map (cv G)))
  rw [ga_in w ha]
  refine va_aldq C0.1 C0.2.1 C0.2.2.2.2.2.2.2.2.1.1 w.1 a (kd - 13) (by rw [wsl_at ha, ent_ref hk h16]) ht hin h ?_
  rw [hR]
  exact k p e s m args below meth c H locs lsA C0 w S hl hn hz
theorem ent_upI_off {a i k : Nat} {x : Int32} (h : k ≠ a) : ent G (up2 M.1 a i x, M.2) k = ent G M k := ent_putV_off (v := .int x) h
theorem ent_upI {a i kd N : Nat} {x : Int32} (hk : M.2.2.2.1 a = (kd, N)) (h13 : ¬ kd < 13) (h16 : kd < 16) : ent G (up2 M.1 a i x, M.2) a = .inl (gY G kd, N, .inl (upd (M.1 a) i x)) := by
  have h1 : up2 M.1 a i x a = upd (M.1 a) i x := by
    funext j
    simp [up2, upd]
  rw [ent_prim (M := (up2 M.1 a i x, M.2)) hk h13 h16, ← h1]
theorem ex_iast {a N : Nat} {i x : Int32} (h : decode d.2.1 pc = .ok (.iastore, 1)) (hk : M.2.2.2.1 a = (14, N)) (ha : a < M.2.2.2.2) (hin : vp_in i N) (k : Ex G d (pc + 1) ls st (up2 M.1 a i.toNatClampNeg x, M.2) uc us P) : Ex G d pc ls (.int x :: .int i :: .ref a :: st) M uc us P := by
  intro p e s m args below meth c H locs lsA C0 w S hl hn hz
  show W p (gL G) e d.2.2.2.2 s m args below meth c H locs uc us _ (F0 m pc lsA (.int x :: .int i :: .ref (ga G a) :: st.map (cv G)))
  rw [ga_in w ha]
  refine va_iast C0.1 C0.2.1 C0.2.2.2.2.2.2.2.2.1.1 w.1 (wsl_D G M) S a 1 (by rw [wsl_at ha, ent_prim hk (by decide) (by decide)]) rfl hin h (fun H1 locs1 hP1 hD1 hS1 => ?_)
  rw [← ent_upI hk (by decide) (by decide), wsl_set (M := M) (M' := (up2 M.1 a i.toNatClampNeg x, M.2)) rfl (fun k hk => ent_upI_off hk)] at hP1
  exact k p e s m args below meth c H1 locs1 lsA C0 ⟨hP1, w.2⟩ hS1 hl hn hz
theorem ex_bast {a N : Nat} {i x : Int32} (h : decode d.2.1 pc = .ok (.bastore, 1)) (hk : M.2.2.2.1 a = (13, N)) (ha : a < M.2.2.2.2) (hin : vp_in i N) (k : Ex G d (pc + 1) ls st (up2 M.1 a i.toNatClampNeg (vp_nar .byte x), M.2) uc us P) : Ex G d pc ls (.int x :: .int i :: .ref a :: st) M uc us P := by
  intro p e s m args below meth c H locs lsA C0 w S hl hn hz
  show W p (gL G) e d.2.2.2.2 s m args below meth c H locs uc us _ (F0 m pc lsA (.int x :: .int i :: .ref (ga G a) :: st.map (cv G)))
  rw [ga_in w ha]
  refine va_bast C0.1 C0.2.1 C0.2.2.2.2.2.2.2.2.1.1 w.1 (wsl_D G M) S a 0 (by rw [wsl_at ha, ent_prim hk (by decide) (by decide)]) rfl hin h (fun H1 locs1 hP1 hD1 hS1 => ?_)
  rw [← ent_upI hk (by decide) (by decide), wsl_set (M := M) (M' := (up2 M.1 a i.toNatClampNeg (vp_nar .byte x), M.2)) rfl (fun k hk => ent_upI_off hk)] at hP1
  exact k p e s m args below meth c H1 locs1 lsA C0 ⟨hP1, w.2⟩ hS1 hl hn hz
theorem ex_zast {a N : Nat} {i x : Int32} (h : decode d.2.1 pc = .ok (.bastore, 1)) (hk : M.2.2.2.1 a = (15, N)) (ha : a < M.2.2.2.2) (hin : vp_in i N) (k : Ex G d (pc + 1) ls st (up2 M.1 a i.toNatClampNeg (vp_nar .boolean x), M.2) uc us P) : Ex G d pc ls (.int x :: .int i :: .ref a :: st) M uc us P := by
  intro p e s m args below meth c H locs lsA C0 w S hl hn hz
  show W p (gL G) e d.2.2.2.2 s m args below meth c H locs uc us _ (F0 m pc lsA (.int x :: .int i :: .ref (ga G a) :: st.map (cv G)))
  rw [ga_in w ha]
  refine va_zast C0.1 C0.2.1 C0.2.2.2.2.2.2.2.2.1.1 w.1 (wsl_D G M) S a 2 (by rw [wsl_at ha, ent_prim hk (by decide) (by decide)]) rfl hin h (fun H1 locs1 hP1 hD1 hS1 => ?_)
  rw [← ent_upI hk (by decide) (by decide), wsl_set (M := M) (M' := (up2 M.1 a i.toNatClampNeg (vp_nar .boolean x), M.2)) rfl (fun k hk => ent_upI_off hk)] at hP1
  exact k p e s m args below meth c H1 locs1 lsA C0 ⟨hP1, w.2⟩ hS1 hl hn hz
theorem ex_alen {a N kd : Nat} {ty : FieldType} (h : decode d.2.1 pc = .ok (.arraylength, 1)) (hk : M.2.2.2.1 a = (kd, N)) (h13 : ¬ kd < 13) (ht : (tys G)[kd - 13]? = some (gY G kd, ty)) (ha : a < M.2.2.2.2) (k : Ex G d (pc + 1) ls (.int (nI N) :: st) M uc us P) : Ex G d pc ls (.ref a :: st) M uc us P := by
  intro p e s m args below meth c H locs lsA C0 w S hl hn hz
  show W p (gL G) e d.2.2.2.2 s m args below meth c H locs uc us _ (F0 m pc lsA (.ref (ga G a) :: st.map (cv G)))
  rw [ga_in w ha]
  have he : ∃ x : vp_A, (wsl G M)[a]? = some (gB G + a, .inl (gY G kd, x)) ∧ x.1 = N := by
    rw [wsl_at ha]
    by_cases h16 : kd < 16
    · exact ⟨_, by rw [ent_prim hk h13 h16], rfl⟩
    · exact ⟨_, by rw [ent_ref hk h16], rfl⟩
  obtain ⟨x, hx, hN⟩ := he
  exact va_alen C0.1 C0.2.1 C0.2.2.2.2.2.2.2.2.1.1 w.1 a (kd - 13) hx ht (by rw [hN]; rfl) h (k p e s m args below meth c H locs lsA C0 w S hl hn hz)
theorem ex_slen (h : decode d.2.1 pc = .ok (.arraylength, 1)) (k : Ex G d (pc + 1) ls (.int (nI (gN G)) :: st) M uc us P) : Ex G d pc ls (.ref 999999 :: st) M uc us P := by
  intro p e s m args below meth c H locs lsA C0 w S hl hn hz
  have hb := C0.2.2.2.2.2.2.2.2.2.2
  exact va_slen C0.1 C0.2.1 C0.2.2.2.2.2.2.2.2.2.1 (Nat.lt_of_lt_of_le hb.1 hb.2) (Nat.not_le.mpr hb.1) S h (k p e s m args below meth c H locs lsA C0 w S hl hn hz)
theorem ex_sld {i : Int32} (h : decode d.2.1 pc = .ok (.iaload, 1)) (hin : vp_in i (gN G)) (k : Ex G d (pc + 1) ls (.int (gX G i.toNatClampNeg) :: st) M uc us P) : Ex G d pc ls (.int i :: .ref 999999 :: st) M uc us P := by
  intro p e s m args below meth c H locs lsA C0 w S hl hn hz
  have hb := C0.2.2.2.2.2.2.2.2.2.2
  exact va_sld C0.1 C0.2.1 C0.2.2.2.2.2.2.2.2.2.1 (Nat.lt_of_lt_of_le hb.1 hb.2) (Nat.not_le.mpr hb.1) S hin h (k p e s m args below meth c H locs lsA C0 w S hl hn hz)
end MEMR
