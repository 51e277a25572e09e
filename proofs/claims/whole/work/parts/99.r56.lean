section R56
variable {G : Gp} {I : Im} {L : Nat → Nat → Int64} {t : Nat}
section
/-! the claim out of one walk of the law's body: begun with the kit's skeleton -/
def R_law : String := "SurgeBasinLaw"
def lw_P (b : Addr) (xs : List Int32) (args : Array Value) (s : State) : Prop := args = #[.ref b] ∧ s.IntsAt b xs ∧ xs.length ≤ 3584 ∧ (Jvm.Cond.and given_1 narrow_1).before args s = true
def lw_Q (_ : Array Value) (s : State) (o : Outcome) (t : State) : Prop := o = .returned (some (.int 1)) ∧ Framed s o t [] 600000 7302249
def lw_Z (below : List Frame) (a : Array Value) (s : State) : State → Prop := fun t => ∃ o, t.status = .running ∧ Ended t below o ∧ lw_Q a s o t
def lw_At (p : Program) (s : State) (m : MethodId) (meth : Method) (c : Code) (b L : Nat) (xs : Nat → Int32) : Prop :=
  p.tables.exec = Jvm.exec ∧ c.code = code ∧ meth.sig.returnType = ret ∧ c.maxLocals = 4 ∧ s.vm.findClass R_law = some m.cls ∧ (∀ w ∈ lw_tbl, w.before #[Value.ref b] s = true) ∧ va_X b L xs s s.heap ∧ b < s.heap.size ∧ meth.locks = false ∧ meth.name = "law"
theorem room_le {s : State} {pl : Platform} (h : s.hasRoom pl room_1 = true) : s.hasRoom pl mdL2.2.2.2.2 = true := by
  simp only [State.hasRoom, Bool.and_eq_true, decide_eq_true_eq] at h ⊢
  obtain ⟨⟨⟨⟨a0, a1, a2, a3, a4, a5⟩, a6⟩, a7⟩, a8⟩ := h
  exact ⟨⟨⟨⟨a0, a1, a2, a3, a4, a5⟩, Nat.le_trans (Nat.add_le_add_left (show 223 ≤ room_1.cells by decide) _) a6⟩, Nat.le_trans (Nat.add_le_add_left (show 5127 ≤ room_1.slots by decide) _) a7⟩, a8⟩
theorem w_conv {p : Program} {l : Launch} {e : Env} {s : State} {m : MethodId} {args : Array Value} {below : List Frame} {meth : Method} {c : Code} {H : Heap} {locs : List Loc} {cells slots : Nat} {Q Q' : State → Prop} {g : JFrame} (k : W p l e mdL2.2.2.2.2 s m args below meth c H locs cells slots Q' g) (hq : ∀ t, Q' t → Q t) : W p l e room_1 s m args below meth c H locs cells slots Q g := fun T hT X => by
  obtain ⟨t, a, b⟩ := k T hT ⟨X.admits, X.cas, X.clock, X.frames, room_le X.room, X.hears, X.method, X.code, X.here, X.tail, X.warmed, X.limits, X.bytes, X.same⟩
  exact ⟨t, a, hq t b⟩
theorem mq_z {below : List Frame} {args : Array Value} {s t : State} (hB : gB G = s.heap.size) (h : MQ below (Qp G 223 (fun r _ => r = some (.int 1))) args s 223 5127 (fun q => gB G ≤ q) t) : lw_Z below args s t := by
  obtain ⟨o, h1, h2, ⟨r, M', rfl, rfl, -⟩, Ls, ⟨f1, f2, f3⟩, hL⟩ := h
  refine ⟨_, h1, h2, rfl, ⟨_, rfl⟩, f2, ?_⟩
  obtain ⟨g1, g2, g3, g4, g5, g6⟩ := f3
  refine ⟨g1, g2, Nat.le_trans g3 (Nat.add_le_add_left (by decide) _), g4, Nat.le_trans g5 (by decide), fun a c hc => ?_⟩
  obtain ⟨c', c1, c2, c3, c4⟩ := g6 a c hc
  refine ⟨c', c1, c2, c3, fun i _ => c4 i (fun hm => ?_)⟩
  have q1 : gB G ≤ a := hL _ hm
  have q2 : a < s.heap.size := (Array.getElem?_eq_some_iff.mp hc).1
  rw [hB] at q1
  exact absurd q2 (Nat.not_lt.mpr q1)
set_option maxRecDepth 100000 in
theorem nwt_in : ∀ q ∈ nwt, Cond.methodLinkNest q.1 q.2.1 q.2.2.1 q.2.2.2 ∈ lw_tbl := List.forall_mem_cons.mpr ⟨List.mem_of_getElem? (i := 153) (by decide +kernel), List.forall_mem_cons.mpr ⟨List.mem_of_getElem? (i := 159) (by decide +kernel), List.forall_mem_cons.mpr ⟨List.mem_of_getElem? (i := 201) (by decide +kernel), List.forall_mem_cons.mpr ⟨List.mem_of_getElem? (i := 258) (by decide +kernel), List.forall_mem_cons.mpr ⟨List.mem_of_getElem? (i := 321) (by decide +kernel), List.forall_mem_cons.mpr ⟨List.mem_of_getElem? (i := 326) (by decide +kernel), List.forall_mem_cons.mpr ⟨List.mem_of_getElem? (i := 328) (by decide +kernel), List.forall_mem_cons.mpr ⟨List.mem_of_getElem? (i := 331) (by decide +kernel), List.forall_mem_cons.mpr ⟨List.mem_of_getElem? (i := 365) (by decide +kernel), List.forall_mem_cons.mpr ⟨List.mem_of_getElem? (i := 366) (by decide +kernel), List.forall_mem_cons.mpr ⟨List.mem_of_getElem? (i := 367) (by decide +kernel), List.forall_mem_cons.mpr ⟨List.mem_of_getElem? (i := 370) (by decide +kernel), List.forall_mem_cons.mpr ⟨List.mem_of_getElem? (i := 401) (by decide +kernel), List.forall_mem_cons.mpr ⟨List.mem_of_getElem? (i := 415) (by decide +kernel), List.forall_mem_cons.mpr ⟨List.mem_of_getElem? (i := 432) (by decide +kernel), List.forall_mem_cons.mpr ⟨List.mem_of_getElem? (i := 434) (by decide +kernel), List.forall_mem_cons.mpr ⟨List.mem_of_getElem? (i := 636) (by decide +kernel), List.forall_mem_cons.mpr ⟨List.mem_of_getElem? (i := 1162) (by decide +kernel), List.forall_mem_cons.mpr ⟨List.mem_of_getElem? (i := 1207) (by decide +kernel), List.forall_mem_cons.mpr ⟨List.mem_of_getElem? (i := 1214) (by decide +kernel), List.forall_mem_cons.mpr ⟨List.mem_of_getElem? (i := 1220) (by decide +kernel), List.forall_mem_cons.mpr ⟨List.mem_of_getElem? (i := 1225) (by decide +kernel), List.forall_mem_cons.mpr ⟨List.mem_of_getElem? (i := 1231) (by decide +kernel), List.forall_mem_cons.mpr ⟨List.mem_of_getElem? (i := 1242) (by decide +kernel), List.forall_mem_cons.mpr ⟨List.mem_of_getElem? (i := 1248) (by decide +kernel), fun _ h => by cases h⟩⟩⟩⟩⟩⟩⟩⟩⟩⟩⟩⟩⟩⟩⟩⟩⟩⟩⟩⟩⟩⟩⟩⟩⟩
set_option maxRecDepth 100000 in
theorem ao_in : ∀ C ∈ aoc, Cond.arrayOver (.object C) ∈ lw_tbl := List.forall_mem_cons.mpr ⟨List.mem_of_getElem? (i := 137) (by decide +kernel), List.forall_mem_cons.mpr ⟨List.mem_of_getElem? (i := 141) (by decide +kernel), List.forall_mem_cons.mpr ⟨List.mem_of_getElem? (i := 135) (by decide +kernel), List.forall_mem_cons.mpr ⟨List.mem_of_getElem? (i := 145) (by decide +kernel), List.forall_mem_cons.mpr ⟨List.mem_of_getElem? (i := 133) (by decide +kernel), List.forall_mem_cons.mpr ⟨List.mem_of_getElem? (i := 139) (by decide +kernel), List.forall_mem_cons.mpr ⟨List.mem_of_getElem? (i := 143) (by decide +kernel), fun _ h => by cases h⟩⟩⟩⟩⟩⟩⟩
theorem gd_of {args : Array Value} {s : State} (hts : ∀ w ∈ lw_tbl, w.before args s = true) : ∀ w ∈ lw_gd, w.before args s = true := fun w hw => hts w (List.mem_filter.mp hw).1
theorem cl_of {args : Array Value} {s : State} (hg : ∀ w ∈ lw_gd, w.before args s = true) : ∃ D : va_G, ∀ (k : Nat) (q : vw_C), vwCl[k]? = some q → u_Kn s q.1 q.2.1 q.2.2 (D.1 k) (D.2 k) := by
  have hcl : ∀ k : Nat, ∃ x : ClassId × (Nat → Nat), ∀ q : vw_C, vwCl[k]? = some q → u_Kn s q.1 q.2.1 q.2.2 x.1 x.2 := by
    intro k
    by_cases hk : k < 13
    · rcases (by omega : k = 0 ∨ k = 1 ∨ k = 2 ∨ k = 3 ∨ k = 4 ∨ k = 5 ∨ k = 6 ∨ k = 7 ∨ k = 8 ∨ k = 9 ∨ k = 10 ∨ k = 11 ∨ k = 12) with rfl | rfl | rfl | rfl | rfl | rfl | rfl | rfl | rfl | rfl | rfl | rfl | rfl
      · obtain ⟨cC, iS, h⟩ := u_known (C := RX0) (T := TX0) (N := 7) (n := 7) hg inX0 (hg _ wi_X0)
        exact ⟨(cC, iS), fun q hq => by cases hq; exact h⟩
      · obtain ⟨cC, iS, h⟩ := u_known (C := RX1) (T := TX1) (N := 10) (n := 10) hg inX1 (hg _ wi_X1)
        exact ⟨(cC, iS), fun q hq => by cases hq; exact h⟩
      · obtain ⟨cC, iS, h⟩ := u_known (C := RX2) (T := TX2) (N := 6) (n := 6) hg inX2 (hg _ wi_X2)
        exact ⟨(cC, iS), fun q hq => by cases hq; exact h⟩
      · obtain ⟨cC, iS, h⟩ := u_known (C := RX3) (T := TX3) (N := 2) (n := 2) hg inX3 (hg _ wi_X3)
        exact ⟨(cC, iS), fun q hq => by cases hq; exact h⟩
      · obtain ⟨cC, iS, h⟩ := u_known (C := RX4) (T := TX4) (N := 3) (n := 3) hg inX4 (hg _ wi_X4)
        exact ⟨(cC, iS), fun q hq => by cases hq; exact h⟩
      · obtain ⟨cC, iS, h⟩ := u_known (C := RX5) (T := TX5) (N := 4) (n := 4) hg inX5 (hg _ wi_X5)
        exact ⟨(cC, iS), fun q hq => by cases hq; exact h⟩
      · obtain ⟨cC, iS, h⟩ := u_known (C := RX6) (T := TX6) (N := 3) (n := 3) hg inX6 (hg _ wi_X6)
        exact ⟨(cC, iS), fun q hq => by cases hq; exact h⟩
      · obtain ⟨cC, iS, h⟩ := u_known (C := RX7) (T := TX7) (N := 4) (n := 4) hg inX7 (hg _ wi_X7)
        exact ⟨(cC, iS), fun q hq => by cases hq; exact h⟩
      · obtain ⟨cC, iS, h⟩ := u_known (C := RX8) (T := TX8) (N := 4) (n := 4) hg inX8 (hg _ wi_X8)
        exact ⟨(cC, iS), fun q hq => by cases hq; exact h⟩
      · obtain ⟨cC, iS, h⟩ := u_known (C := RX9) (T := TX9) (N := 8) (n := 8) hg inX9 (hg _ wi_X9)
        exact ⟨(cC, iS), fun q hq => by cases hq; exact h⟩
      · obtain ⟨cC, iS, h⟩ := u_known (C := RX10) (T := TX10) (N := 4) (n := 4) hg inX10 (hg _ wi_X10)
        exact ⟨(cC, iS), fun q hq => by cases hq; exact h⟩
      · obtain ⟨cC, iS, h⟩ := u_known (C := RX11) (T := TX11) (N := 20) (n := 20) hg inX11 (hg _ wi_X11)
        exact ⟨(cC, iS), fun q hq => by cases hq; exact h⟩
      · obtain ⟨cC, iS, h⟩ := u_known (C := RX12) (T := TX12) (N := 40) (n := 40) hg inX12 (hg _ wi_X12)
        exact ⟨(cC, iS), fun q hq => by cases hq; exact h⟩
    · obtain ⟨cC, iS, -⟩ := u_known (C := RX0) (T := TX0) (N := 7) (n := 7) hg inX0 (hg _ wi_X0)
      refine ⟨(cC, iS), fun q hq => ?_⟩
      rw [List.getElem?_eq_none (show vwCl.length ≤ k from Nat.not_lt.mp hk)] at hq
      cases hq
  obtain ⟨D, hD⟩ := Classical.axiomOfChoice hcl
  exact ⟨(fun k => (D k).1, fun k => (D k).2), fun k q hq => hD k q hq⟩
def tyl : List FieldType := [.byte, .int, .boolean, .object RX0, .object RX1, .object RX4, .object RX5, .object RX6, .object RX8, .object RX10]
theorem ar_p {args : Array Value} {s : State} {ty : FieldType} (h : (Cond.arrayClass ty).before args s = true) (hr : ∀ c, s.vm.findClass ("[" ++ ty.toString) = some c → va_RA s c ty) : ∃ c : ClassId, ArrOfT s c ty ∧ va_RA s c ty := by
  obtain ⟨c, k, comp, h1, h2, h3⟩ := Cond.arrayClass_spec h
  exact ⟨c, fun n z => ⟨fun k h => (by cases h), k, h2, comp, h3⟩, hr c h1⟩
theorem ar_o {args : Array Value} {s : State} {C : String} (h : (Cond.arrayOver (.object C)).before args s = true) : ∃ c : ClassId, ArrOfT s c (.object C) ∧ va_RA s c (.object C) := by
  obtain ⟨comp, c, k, f1, -, f3, f4, f5⟩ := Cond.arrayOver_spec h
  exact ⟨c, fun n z => ⟨fun k h => (by cases h), k, f3, comp, f4⟩, k, comp, f3, f4, f1, f5⟩
theorem ty_of {args : Array Value} {s : State} (hg : ∀ w ∈ lw_gd, w.before args s = true) (ha : ∀ C ∈ aoc, (Cond.arrayOver (.object C)).before args s = true) : ∃ Y : Nat → ClassId, ∀ (k : Nat) (ty : FieldType), tyl[k]? = some ty → ArrOfT s (Y (13 + k)) ty ∧ va_RA s (Y (13 + k)) ty := by
  have hty : ∀ k : Nat, ∃ c : ClassId, ∀ ty : FieldType, tyl[k]? = some ty → ArrOfT s c ty ∧ va_RA s c ty := by
    intro k
    obtain ⟨c1, p1⟩ := ar_p (hg _ wa_I) (fun c h => h)
    by_cases hk : k < 10
    · rcases (by omega : k = 0 ∨ k = 1 ∨ k = 2 ∨ k = 3 ∨ k = 4 ∨ k = 5 ∨ k = 6 ∨ k = 7 ∨ k = 8 ∨ k = 9) with rfl | rfl | rfl | rfl | rfl | rfl | rfl | rfl | rfl | rfl
      · obtain ⟨c, p⟩ := ar_p (hg _ wa_B) (fun c h => h)
        exact ⟨c, fun ty h => by cases h; exact p⟩
      · exact ⟨c1, fun ty h => by cases h; exact p1⟩
      · obtain ⟨c, p⟩ := ar_p (hg _ wa_Z) (fun c h => h)
        exact ⟨c, fun ty h => by cases h; exact p⟩
      · obtain ⟨c, p⟩ := ar_o (ha RX0 (by unfold aoc; simp))
        exact ⟨c, fun ty h => by cases h; exact p⟩
      · obtain ⟨c, p⟩ := ar_o (ha RX1 (by unfold aoc; simp))
        exact ⟨c, fun ty h => by cases h; exact p⟩
      · obtain ⟨c, p⟩ := ar_o (ha RX4 (by unfold aoc; simp))
        exact ⟨c, fun ty h => by cases h; exact p⟩
      · obtain ⟨c, p⟩ := ar_o (ha RX5 (by unfold aoc; simp))
        exact ⟨c, fun ty h => by cases h; exact p⟩
      · obtain ⟨c, p⟩ := ar_o (ha RX6 (by unfold aoc; simp))
        exact ⟨c, fun ty h => by cases h; exact p⟩
      · obtain ⟨c, p⟩ := ar_o (ha RX8 (by unfold aoc; simp))
        exact ⟨c, fun ty h => by cases h; exact p⟩
      · obtain ⟨c, p⟩ := ar_o (ha RX10 (by unfold aoc; simp))
        exact ⟨c, fun ty h => by cases h; exact p⟩
    · refine ⟨c1, fun ty h => ?_⟩
      rw [List.getElem?_eq_none (show tyl.length ≤ k from Nat.not_lt.mp hk)] at h
      cases h
  obtain ⟨Y, hY⟩ := Classical.axiomOfChoice hty
  refine ⟨fun k => Y (k - 13), fun k ty h => ?_⟩
  show ArrOfT s (Y (13 + k - 13)) ty ∧ va_RA s (Y (13 + k - 13)) ty
  rw [Nat.add_sub_cancel_left]
  exact hY k ty h
set_option maxHeartbeats 4000000 in
theorem whole_start {p : Program} {e : Env} {s : State} {m : MethodId} {below : List Frame} {meth : Method} {c : Code} (l : Launch) {b N : Nat} {xs : Nat → Int32} (hL : N ≤ 3584) (C0 : lw_At p s m meth c b N xs) : W p l e room_1 s m #[Value.ref b] below meth c s.heap [] 0 0 (lw_Z below #[Value.ref b] s) (entryFrame m ([Value.ref b] : List Value).toArray 4) := by
  obtain ⟨hx, hb, hr, hml, hown, hts, hX, hbl, hlocks, hnm⟩ := C0
  have hg := gd_of hts
  obtain ⟨D, hD⟩ := cl_of hg
  obtain ⟨Y, hY⟩ := ty_of hg (fun C hC => hts _ (ao_in C hC))
  have hK : Kst (l, D, s.heap.size, Y, b, N, xs) s := by
    refine ⟨⟨hD, fun k q hq => ?_⟩, fun q hq => va_Nw.of rfl (hts _ (nwt_in q hq)), fun C hC => va_AO.of (hts _ (ao_in C hC))⟩
    by_cases hk : k < 10
    · rcases (by omega : k = 0 ∨ k = 1 ∨ k = 2 ∨ k = 3 ∨ k = 4 ∨ k = 5 ∨ k = 6 ∨ k = 7 ∨ k = 8 ∨ k = 9) with rfl | rfl | rfl | rfl | rfl | rfl | rfl | rfl | rfl | rfl
      all_goals
        cases hq
        first | exact hY 0 _ rfl | exact hY 1 _ rfl | exact hY 2 _ rfl | exact hY 3 _ rfl | exact hY 4 _ rfl | exact hY 5 _ rfl | exact hY 6 _ rfl | exact hY 7 _ rfl | exact hY 8 _ rfl | exact hY 9 _ rfl
    · rw [List.getElem?_eq_none (show (tys (l, D, s.heap.size, Y, b, N, xs)).length ≤ k from Nat.not_lt.mp hk)] at hq
      cases hq
  have hle := lv_entry ([Value.ref b]) (n := 4) (Nat.le_of_ble_eq_true rfl)
  rw [lg_entry_eq]
  have key := law_start (G := (l, D, s.heap.size, Y, b, N, xs)) hL p e s m #[Value.ref b] below meth c s.heap [] _ ⟨hx, hb, hr, hml, hown, hg, hlocks, hnm, hK, hX, hbl, Nat.le_refl _⟩ ⟨fun k q h => (by cases h), Nat.zero_le _⟩ va_S.rf hle rfl rfl
  exact w_conv key (fun t ht => mq_z rfl ht)
end
end R56
