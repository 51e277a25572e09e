/-- the words of a call -/
def LkB (own : String) (idx : Nat) (d' : Md) (n : Nat) : Prop := Cond.initialized d'.1.cls ∈ lw_gd ∧ Cond.code d'.1 d'.2.1 d'.2.2.1 d'.2.2.2.1 ∈ lw_gd ∧ (d'.1.cls ≠ "java/lang/invoke/MethodHandle" ∧ d'.1.cls ≠ "java/lang/invoke/VarHandle") ∧ (parseMethodDescriptor d'.1.desc).map (fun d => d.parameters.length) = some n
def LkV (own : String) (idx : Nat) (d' : Md) (n : Nat) : Prop := LkB own idx d' n ∧ Cond.methodLink own idx d'.1 ∈ lw_gd ∧ Cond.instanceMethod d'.1 ∈ lw_gd ∧ Cond.selects d'.1.cls d'.1 d'.1 ∈ lw_gd
def LkS (own : String) (idx : Nat) (d' : Md) (n : Nat) : Prop := LkB own idx d' n ∧ Cond.methodLink own idx d'.1 ∈ lw_gd ∧ Cond.static d'.1 ∈ lw_gd
def LkI (own : String) (idx : Nat) (d' : Md) (n : Nat) : Prop := LkB own idx d' n ∧ Cond.methodLink own idx d'.1 ∈ lw_gd ∧ d'.1.name = "<init>" ∧ Cond.instanceMethod d'.1 ∈ lw_gd ∧ d'.2.2.2.1 = none
def LkSN (own : String) (idx : Nat) (d' : Md) (n : Nat) : Prop := LkB own idx d' n ∧ (own, idx, d'.1, "SurgeBasin") ∈ nwt ∧ Cond.static d'.1 ∈ lw_gd
def LkIN (own : String) (idx : Nat) (d' : Md) (n : Nat) : Prop := LkB own idx d' n ∧ (own, idx, d'.1, "SurgeBasin") ∈ nwt ∧ d'.1.name = "<init>" ∧ Cond.instanceMethod d'.1 ∈ lw_gd ∧ d'.2.2.2.1 = none
/-- the callee's room fits into the caller's -/
def Rmk (d d' : Md) (uc us : Nat) : Prop := (d'.2.2.2.2.frames + 1 ≤ d.2.2.2.2.frames ∧ 8 + (d'.2.2.1 + 11) + d'.2.2.2.2.locals ≤ d.2.2.2.2.locals) ∧ uc + d'.2.2.2.2.cells ≤ d.2.2.2.2.cells ∧ us + d'.2.2.2.2.slots ≤ d.2.2.2.2.slots
theorem pay_gd {args : Array Value} {s : State} {w0 : Cond} (h0 : w0 ∈ lw_gd) (hts : ∀ w ∈ lw_gd, w.before args s = true) : ∀ w ∈ w0 :: lw_gd, ∀ (a' : Array Value) (U : State), s.WarmedH U.vm → w.before a' U = true := by
  intro w hw a' U hW
  have hm : w ∈ lw_gd := by
    rcases List.mem_cons.mp hw with rfl | h
    · exact h0
    · exact h
  exact word_at hW (lw_good w hm) (hts w hm)
section CALLR
variable {G : Gp} {d d' : Md} {pc : Nat} {ls : List (Option Value)} {st st0 vs : List Value} {M : Mem} {uc us : Nat} {P P1 : Option Value → Mem → Prop} {own : String} {idx n : Nat}
theorem ex_run (hr : ∀ (p : Program) (e : Env) (s : State) (m : MethodId) (args : Array Value) (below : List Frame) (meth : Method) (c : Code) (H : Heap) (locs : List Loc) (lsA : Array Slot), Cx G d p s m args meth c → Wd G M H → H.size = gB G + M.2.2.2.2 → va_S (fun q => gB G ≤ q) s.heap H locs → lsA.size = d.2.2.1 →
      va_Run p (gL G) e d.2.2.2.2 s m args below meth c H locs uc us d'.2.2.2.2.cells d'.2.2.2.2.slots (F0 m pc lsA (st0.map (cv G))) (st.map (cv G)) (Qp G d'.2.2.2.2.cells P1 (vs.map (cv G)).toArray) (fun q => gB G ≤ q))
    (k : ∀ r M1, P1 r M1 → Ex G d (pc + 3) ls (r.toList ++ st) M1 (uc + d'.2.2.2.2.cells) (us + d'.2.2.2.2.slots) P) : Ex G d pc ls st0 M uc us P := by
  intro p e s m args below meth c H locs lsA C w S hl hn hz T hT X
  have hH := size_of C w S hz hT X
  obtain ⟨v, st₀, t, T', L, h0, X', hL, e1, e2, ⟨r, M1, hv, hp, w1, hz1, hF1, hF2⟩, stp⟩ := hr p e s m args below meth c H locs lsA C w hH S hl.1 T hT X
  rw [h0] at hz1 hF1 hF2
  have hS1 : va_S (fun q => gB G ≤ q) s.heap T'.heap (locs ++ L) := by
    refine ⟨Nat.le_trans S.1 (by rw [e1]; exact hF1), fun q h1 h2 => ?_, fun q hq => ?_⟩
    · rw [e1, hF2 q (Nat.lt_of_lt_of_le h1 S.1) h2]
      exact S.2.1 q h1 h2
    · rcases List.mem_append.mp hq with h | h
      · exact S.2.2 q h
      · exact hL q h
  obtain ⟨t2, a1, b1⟩ := k r M1 hp p e s m args below meth c T'.heap (locs ++ L) lsA C (by rw [e1]; exact w1) hS1 hl hn (by omega) T' rfl X'
  refine ⟨t2, stp t2 ?_, b1⟩
  cases hv
  cases r with
  | none => exact a1
  | some r => exact a1
theorem callB_gd {s : State} {args : Array Value} {R : Room} (hB : LkB own idx d' n) (hts : ∀ w ∈ lw_gd, w.before args s = true) (hR : d'.2.2.2.2.frames + 1 ≤ R.frames ∧ 8 + (d'.2.2.1 + 11) + d'.2.2.2.2.locals ≤ R.locals) (hl : (Cond.methodLink own idx d'.1).before args s = true) : CallB R s args own idx d'.1 d'.2.1 d'.2.2.1 d'.2.2.2.1 (.code d'.1 d'.2.1 d'.2.2.1 d'.2.2.2.1 :: lw_gd) d'.2.2.2.2 d'.2.2.2.2.cells d'.2.2.2.2.slots n := by
  obtain ⟨h1, h2, h3, h4⟩ := hB
  refine ⟨rfl, rfl, hR.1, hR.2, pay_gd h2 hts, List.mem_cons_self, hts _ h2, hts _ h1, h3, fun sig h => ?_, hl⟩
  rw [h] at h4
  exact (Option.some.inj h4).symm
theorem callN_gd {s : State} {args : Array Value} {R : Room} (hB : LkB own idx d' n) (hts : ∀ w ∈ lw_gd, w.before args s = true) (hR : d'.2.2.2.2.frames + 1 ≤ R.frames ∧ 8 + (d'.2.2.1 + 11) + d'.2.2.2.2.locals ≤ R.locals) (hl : (Cond.methodLinkNest own idx d'.1 "SurgeBasin").before args s = true) : va_CN R s args own idx d'.1 "SurgeBasin" d'.2.1 d'.2.2.1 d'.2.2.2.1 (.code d'.1 d'.2.1 d'.2.2.1 d'.2.2.2.1 :: lw_gd) d'.2.2.2.2 d'.2.2.2.2.cells d'.2.2.2.2.slots n := by
  obtain ⟨h1, h2, h3, h4⟩ := hB
  refine ⟨⟨rfl, rfl, hR.1, hR.2, pay_gd h2 hts, List.mem_cons_self⟩, hts _ h2, hts _ h1, h3, fun sig h => ?_, hl⟩
  rw [h] at h4
  exact (Option.some.inj h4).symm
theorem st_of {p : Program} {s : State} {m : MethodId} {args : Array Value} {meth : Method} {c : Code} {H : Heap} {locs : List Loc} (C : Cx G d p s m args meth c) (w : Wd G M H) (hH : H.size = gB G + M.2.2.2.2) (S : va_S (fun q => gB G ≤ q) s.heap H locs) (U : State) (hU : U.heap = H) (hW : s.WarmedH U.vm) : St G M U := by
  obtain ⟨-, -, -, -, -, -, -, -, hK, hX, hb, hs⟩ := C
  refine ⟨⟨by rw [hU]; exact w, by rw [hU]; exact hH⟩, hK.warm hW, ?_, hb⟩
  rw [hU]
  exact (hX.kept (S.2.1 _ (Nat.lt_of_lt_of_le hb hs) (Nat.not_le.mpr hb))).moved hW.alike
theorem blind_of : FrameBlind (fun av U => av = (vs.map (cv G)).toArray ∧ St G M U) := fun a U g mk h => ⟨h.1, h.2.calling g mk a⟩
theorem ex_cV {a kd N : Nat} {T : u_T} (h : decode d.2.1 pc = .ok (.invokevirtual idx, 3)) (ho : d.1.cls = own) (hL : LkV own idx d' n) (hcl : vwCl[kd]? = some (d'.1.cls, T, N)) (h13 : kd < 13) (hk : M.2.2.2.1 a = (kd, N)) (ha : a < M.2.2.2.2) (hR : Rmk d d' uc us) (hn : vs.length = n) (hcs : (st.map fun v => v.category).sum ≤ 8) (hst : st0 = vs.reverse ++ .ref a :: st) (hc : Ca G d' (.ref a :: vs) M P1)
    (k : ∀ r M1, P1 r M1 → Ex G d (pc + 3) ls (r.toList ++ st) M1 (uc + d'.2.2.2.2.cells) (us + d'.2.2.2.2.slots) P) : Ex G d pc ls st0 M uc us P := by
  refine ex_run (vs := .ref a :: vs) (fun p e s m args below meth c H locs lsA C w hH S hz => ?_) k
  have hg := ga_in w ha
  have hcv : cv G (.ref a) = .ref (gB G + a) := by show Value.ref (ga G a) = _; rw [hg]
  obtain ⟨hB, h1, h2, h3⟩ := hL
  have hts := C.2.2.2.2.2.1
  have he : (wsl G M)[a]? = some (gB G + a, .inr (kd, (List.range N).map (fval G M kd a))) := by rw [wsl_at ha, ent_obj hk h13]
  have hrun := va_runV (n := n) (b := gB G + a) (As := vs.map (cv G)) (rest := st.map (cv G)) (g := F0 m pc lsA (st0.map (cv G))) (cells := uc) (slots := us) (locs := locs) (e := e) (below := below) (meth := meth) (H := H) (C := d'.1.cls) (R := d.2.2.2.2) ⟨C.1, C.2.1, C.2.2.2.1, (by rw [← ho]; exact C.2.2.2.2.1 : s.vm.findClass own = some m.cls), hts⟩ hc ⟨callB_gd hB hts hR.1 (hts _ h1), hts _ h2, hts _ h3⟩ ⟨blind_of, va_recv C.2.2.2.2.2.2.2.2.1.1 w.1 hcl he, fun U hU hW => ⟨by rw [List.map_cons, hcv], st_of C w hH S U hU hW⟩⟩ rfl (by rw [List.length_map]; exact hn) hz (by subst hst; simp [hcv]) (lv_room (by rw [cv_sum]; exact hcs)) h hR.2
  rw [List.map_cons, hcv]
  exact hrun
theorem ex_cS (h : decode d.2.1 pc = .ok (.invokestatic idx, 3)) (ho : d.1.cls = own) (hL : LkS own idx d' n) (hR : Rmk d d' uc us) (hn : vs.length = n) (hcs : (st.map fun v => v.category).sum ≤ 8) (hst : st0 = vs.reverse ++ st) (hc : Ca G d' vs M P1)
    (k : ∀ r M1, P1 r M1 → Ex G d (pc + 3) ls (r.toList ++ st) M1 (uc + d'.2.2.2.2.cells) (us + d'.2.2.2.2.slots) P) : Ex G d pc ls st0 M uc us P := by
  refine ex_run (vs := vs) (fun p e s m args below meth c H locs lsA C w hH S hz => ?_) k
  obtain ⟨hB, h1, h2⟩ := hL
  have hts := C.2.2.2.2.2.1
  exact va_runS (n := n) (As := vs.map (cv G)) (rest := st.map (cv G)) (g := F0 m pc lsA (st0.map (cv G))) ⟨C.1, C.2.1, C.2.2.2.1, (by rw [← ho]; exact C.2.2.2.2.1 : s.vm.findClass own = some m.cls), hts⟩ hc ⟨callB_gd hB hts hR.1 (hts _ h1), hts _ h2⟩ ⟨blind_of, fun U hU hW => ⟨rfl, st_of C w hH S U hU hW⟩⟩ rfl (by rw [List.length_map]; exact hn) hz (by subst hst; simp) (lv_room (by rw [cv_sum]; exact hcs)) h hR.2
theorem ex_cSN (h : decode d.2.1 pc = .ok (.invokestatic idx, 3)) (ho : d.1.cls = own) (hL : LkSN own idx d' n) (hR : Rmk d d' uc us) (hn : vs.length = n) (hcs : (st.map fun v => v.category).sum ≤ 8) (hst : st0 = vs.reverse ++ st) (hc : Ca G d' vs M P1)
    (k : ∀ r M1, P1 r M1 → Ex G d (pc + 3) ls (r.toList ++ st) M1 (uc + d'.2.2.2.2.cells) (us + d'.2.2.2.2.slots) P) : Ex G d pc ls st0 M uc us P := by
  refine ex_run (vs := vs) (fun p e s m args below meth c H locs lsA C w hH S hz => ?_) k
  obtain ⟨hB, h1, h2⟩ := hL
  have hts := C.2.2.2.2.2.1
  have hnw := C.2.2.2.2.2.2.2.2.1.2.1 _ h1
  exact va_runSN (n := n) (host := "SurgeBasin") (As := vs.map (cv G)) (rest := st.map (cv G)) (g := F0 m pc lsA (st0.map (cv G))) ⟨C.1, C.2.1, C.2.2.2.1, (by rw [← ho]; exact C.2.2.2.2.1 : s.vm.findClass own = some m.cls), hts⟩ hc ⟨callN_gd hB hts hR.1 (va_Nw.use rfl hnw), hts _ h2, trivial⟩ ⟨blind_of, fun U hU hW => ⟨rfl, st_of C w hH S U hU hW⟩⟩ rfl (by rw [List.length_map]; exact hn) hz (by subst hst; simp) (lv_room (by rw [cv_sum]; exact hcs)) h hR.2
theorem ex_cI {a : Nat} (h : decode d.2.1 pc = .ok (.invokespecial idx, 3)) (ho : d.1.cls = own) (hL : LkI own idx d' n) (ha : a < M.2.2.2.2) (hR : Rmk d d' uc us) (hn : vs.length = n) (hcs : (st.map fun v => v.category).sum ≤ 8) (hst : st0 = vs.reverse ++ .ref a :: st) (hc : Ca G d' (.ref a :: vs) M P1)
    (k : ∀ r M1, P1 r M1 → Ex G d (pc + 3) ls (r.toList ++ st) M1 (uc + d'.2.2.2.2.cells) (us + d'.2.2.2.2.slots) P) : Ex G d pc ls st0 M uc us P := by
  refine ex_run (vs := .ref a :: vs) (fun p e s m args below meth c H locs lsA C w hH S hz => ?_) k
  have hg := ga_in w ha
  have hcv : cv G (.ref a) = .ref (gB G + a) := by show Value.ref (ga G a) = _; rw [hg]
  obtain ⟨hB, h1, h2, h3, h4⟩ := hL
  have hts := C.2.2.2.2.2.1
  have hB' := callB_gd hB hts hR.1 (hts _ h1)
  have hc' : Met (gL G) d'.1 (.code d'.1 d'.2.1 d'.2.2.1 d'.2.2.2.1 :: lw_gd) d'.2.2.2.2 (fun av U => av = ((Value.ref a :: vs).map (cv G)).toArray ∧ St G M U) (Qp G d'.2.2.2.2.cells P1) d'.2.2.2.2.cells d'.2.2.2.2.slots (fun q => gB G ≤ q) := hc
  rw [h4] at hB' hc'
  have hrun := va_runI (n := n) (b := gB G + a) (As := vs.map (cv G)) (rest := st.map (cv G)) (g := F0 m pc lsA (st0.map (cv G))) (cells := uc) (slots := us) (locs := locs) (e := e) (below := below) (meth := meth) (H := H) (R := d.2.2.2.2) ⟨C.1, C.2.1, C.2.2.2.1, (by rw [← ho]; exact C.2.2.2.2.1 : s.vm.findClass own = some m.cls), hts⟩ hc' ⟨hB', h2, hts _ h3⟩ ⟨blind_of, fun U hU hW => ⟨by rw [List.map_cons, hcv], st_of C w hH S U hU hW⟩⟩ rfl (by rw [List.length_map]; exact hn) hz (by subst hst; simp [hcv]) (lv_room (by rw [cv_sum]; exact hcs)) h hR.2
  rw [List.map_cons, hcv]
  exact hrun
theorem ex_cIN {a : Nat} (h : decode d.2.1 pc = .ok (.invokespecial idx, 3)) (ho : d.1.cls = own) (hL : LkIN own idx d' n) (ha : a < M.2.2.2.2) (hR : Rmk d d' uc us) (hn : vs.length = n) (hcs : (st.map fun v => v.category).sum ≤ 8) (hst : st0 = vs.reverse ++ .ref a :: st) (hc : Ca G d' (.ref a :: vs) M P1)
    (k : ∀ r M1, P1 r M1 → Ex G d (pc + 3) ls (r.toList ++ st) M1 (uc + d'.2.2.2.2.cells) (us + d'.2.2.2.2.slots) P) : Ex G d pc ls st0 M uc us P := by
  refine ex_run (vs := .ref a :: vs) (fun p e s m args below meth c H locs lsA C w hH S hz => ?_) k
  have hg := ga_in w ha
  have hcv : cv G (.ref a) = .ref (gB G + a) := by show Value.ref (ga G a) = _; rw [hg]
  obtain ⟨hB, h1, h2, h3, h4⟩ := hL
  have hts := C.2.2.2.2.2.1
  have hnw := C.2.2.2.2.2.2.2.2.1.2.1 _ h1
  have hB' := callN_gd hB hts hR.1 (va_Nw.use rfl hnw)
  have hc' : Met (gL G) d'.1 (.code d'.1 d'.2.1 d'.2.2.1 d'.2.2.2.1 :: lw_gd) d'.2.2.2.2 (fun av U => av = ((Value.ref a :: vs).map (cv G)).toArray ∧ St G M U) (Qp G d'.2.2.2.2.cells P1) d'.2.2.2.2.cells d'.2.2.2.2.slots (fun q => gB G ≤ q) := hc
  rw [h4] at hB' hc'
  have hrun := va_runIN (n := n) (host := "SurgeBasin") (b := gB G + a) (As := vs.map (cv G)) (rest := st.map (cv G)) (g := F0 m pc lsA (st0.map (cv G))) (cells := uc) (slots := us) (locs := locs) (e := e) (below := below) (meth := meth) (H := H) (R := d.2.2.2.2) ⟨C.1, C.2.1, C.2.2.2.1, (by rw [← ho]; exact C.2.2.2.2.1 : s.vm.findClass own = some m.cls), hts⟩ hc' ⟨hB', h2, hts _ h3⟩ ⟨blind_of, fun U hU hW => ⟨by rw [List.map_cons, hcv], st_of C w hH S U hU hW⟩⟩ rfl (by rw [List.length_map]; exact hn) hz (by subst hst; simp [hcv]) (lv_room (by rw [cv_sum]; exact hcs)) h hR.2
  rw [List.map_cons, hcv]
  exact hrun
end CALLR
