section R47
variable {G : Gp} {I : Im} {L : Nat → Nat → Int64} {t : Nat}
section
variable {d1 d2 : Md} {args : List Value}
/-- a call of both: the component's answer, then the model's, which is the same -/
def TwI (G : Gp) (d1 d2 : Md) (args : List Value) (I : Im) (L : Nat → Nat → Int64) (t : Nat) : Prop := ∃ (v : Int32) (I1 : Im) (L1 : Nat → Nat → Int64) (t1 : Nat), Ca G d1 (.ref 0 :: args) (mk I L t) (Rs (.int v) (mk I1 L1 t1)) ∧ Ca G d2 (.ref 200 :: args) (mk I1 L1 t1) (InvP (.int v))
def TwL (G : Gp) (d1 d2 : Md) (args : List Value) (I : Im) (L : Nat → Nat → Int64) (t : Nat) : Prop := ∃ (v : Int64) (I1 : Im) (L1 : Nat → Nat → Int64) (t1 : Nat), Ca G d1 (.ref 0 :: args) (mk I L t) (Rs (.long v) (mk I1 L1 t1)) ∧ Ca G d2 (.ref 200 :: args) (mk I1 L1 t1) (InvP (.long v))
theorem twI {x : Int32 × Im} (f2 : Im → Int32 × Im) (hI : Inv I L t) (h1 : Ca G d1 (.ref 0 :: args) (mk I L t) (Rs (.int x.1) (mk x.2 L t))) (k : ∀ M, RelP I M → Same I M x (f2 M)) (h2 : ∀ M, RelP I M → Ca G d2 (.ref 200 :: args) (mk M L t) (Rs (.int (f2 M).1) (mk (f2 M).2 L t))) : TwI G d1 d2 args I L t := by
  have hr : RelP I x.2 := hI.1.cM (k I hI.1).2.2.1
  obtain ⟨k1, k2, -, k4⟩ := k _ hr
  refine ⟨_, _, _, _, h1, (h2 _ hr).weak ?_⟩
  intro r M hM
  obtain ⟨rfl, rfl⟩ := hM
  exact ⟨by rw [k1], _, _, _, rfl, k2.cC k4, hI.2.1, hI.2.2⟩
theorem twIL {x : Int32 × Im × (Nat → Nat → Int64)} (f2 : Im → Int32 × Im × (Nat → Nat → Int64)) (hI : Inv I L t) (h1 : Ca G d1 (.ref 0 :: args) (mk I L t) (Rs (.int x.1) (mk x.2.1 x.2.2 t))) (k : ∀ M, RelP I M → SameL I M x (f2 M)) (h2 : ∀ M, RelP I M → Ca G d2 (.ref 200 :: args) (mk M x.2.2 t) (Rs (.int (f2 M).1) (mk (f2 M).2.1 (f2 M).2.2 t))) : TwI G d1 d2 args I L t := by
  have hr : RelP I x.2.1 := hI.1.cM (k I hI.1).2.2.1
  obtain ⟨k1, k2, -, k4, k5⟩ := k _ hr
  refine ⟨_, _, _, _, h1, (h2 _ hr).weak ?_⟩
  intro r M hM
  obtain ⟨rfl, rfl⟩ := hM
  exact ⟨by rw [k1], _, _, _, rfl, k2.cC k4, k5, hI.2.2⟩
theorem T_row {a0 a1 : Int32} (hI : Inv I L t) : TwI G mdX11_row mdX12_row [.int a0, .int a1] I L t := twI (x := f_X11_row I a0 a1) (fun M => f_X12_row M a0 a1) hI (s_X11_row ) (fun M h => K_row h) (fun M h => s_X12_row )
theorem T_lay {a0 a1 a2 : Int32} (hI : Inv I L t) : TwI G mdX11_lay mdX12_lay [.int a0, .int a1, .int a2] I L t := twI (x := f_X11_lay I a0 a1 a2) (fun M => f_X12_lay M a0 a1 a2) hI (s_X11_lay (hRow := hI.1.hRow)) (fun M h => K_lay h) (fun M h => s_X12_lay (hSz := h.hSz))
theorem T_at {a0 a1 : Int32} (hI : Inv I L t) : TwI G mdX11_at mdX12_at [.int a0, .int a1] I L t := twI (x := f_X11_at I a0 a1) (fun M => f_X12_at M a0 a1) hI (s_X11_at (hRow := hI.1.hRow)) (fun M h => K_at h) (fun M h => s_X12_at (hSz := h.hSz))
theorem T_tear {a0 : Int32} (hI : Inv I L t) : TwI G mdX11_tear mdX12_tear [.int a0] I L t := twI (x := f_X11_tear I a0) (fun M => f_X12_tear M a0) hI (s_X11_tear ) (fun M h => K_tear h) (fun M h => s_X12_tear )
theorem T_copy {a0 a1 a2 a3 a4 : Int32} (hI : Inv I L t) : TwI G mdX11_copy mdX12_copy [.int a0, .int a1, .int a2, .int a3, .int a4] I L t := twI (x := f_X11_copy I a0 a1 a2 a3 a4) (fun M => f_X12_copy M a0 a1 a2 a3 a4) hI (s_X11_copy (hRow := hI.1.hRow)) (fun M h => K_copy h) (fun M h => s_X12_copy (hSz := h.hSz))
theorem T_mean {a0 : Int32} (hI : Inv I L t) : TwI G mdX11_mean mdX12_mean [.int a0] I L t := twI (x := f_X11_mean I a0) (fun M => f_X12_mean M a0) hI (s_X11_mean (hRow := hI.1.hRow)) (fun M h => K_mean h) (fun M h => s_X12_mean (hSz := h.hSz))
theorem T_text {a0 a1 : Int32} (hI : Inv I L t) : TwI G mdX11_text mdX12_text [.int a0, .int a1] I L t := twI (x := f_X11_text I a0 a1) (fun M => f_X12_text M a0 a1) hI (s_X11_text ) (fun M h => K_text h) (fun M h => s_X12_text )
theorem T_put {a0 a1 a2 : Int32} (hI : Inv I L t) : TwI G mdX11_put mdX12_put [.int a0, .int a1, .int a2] I L t := twI (x := f_X11_put I a0 a1 a2) (fun M => f_X12_put M a0 a1 a2) hI (s_X11_put (hTxt := hI.1.hTxt)) (fun M h => K_put h) (fun M h => s_X12_put (hT := h.hTz))
theorem T_about {a0 a1 : Int32} (hI : Inv I L t) : TwI G mdX11_about mdX12_about [.int a0, .int a1] I L t := twI (x := f_X11_about I a0 a1) (fun M => f_X12_about M a0 a1) hI (s_X11_about ) (fun M h => K_about h) (fun M h => s_X12_about )
theorem T_set {a0 a1 : Int32} (hI : Inv I L t) : TwI G mdX11_set mdX12_set [.int a0, .int a1] I L t := twI (x := f_X11_set I a0 a1) (fun M => f_X12_set M a0 a1) hI (s_X11_set ) (fun M h => K_set h) (fun M h => s_X12_set (hSm := h.hSm))
theorem T_ship {a0 a1 a2 a3 a4 a5 : Int32} (hI : Inv I L t) : TwI G mdX11_ship mdX12_ship [.int a0, .int a1, .int a2, .int a3, .int a4, .int a5] I L t := twI (x := f_X11_ship I a0 a1 a2 a3 a4 a5) (fun M => f_X12_ship M a0 a1 a2 a3 a4 a5) hI (s_X11_ship ) (fun M h => K_ship h) (fun M h => s_X12_ship )
theorem T_leave {a0 : Int32} (hI : Inv I L t) : TwI G mdX11_leave mdX12_leave [.int a0] I L t := twI (x := f_X11_leave I a0) (fun M => f_X12_leave M a0) hI (s_X11_leave ) (fun M h => K_leave h) (fun M h => s_X12_leave )
theorem T_night {a0 a1 : Int32} (hI : Inv I L t) : TwI G mdX11_night mdX12_night [.int a0, .int a1] I L t := twI (x := f_X11_night I a0 a1) (fun M => f_X12_night M a0 a1) hI (s_X11_night (hHar := hI.1.hHar) (hSea := hI.1.hSea) (hShp := hI.1.hShp)) (fun M h => K_night h) (fun M h => s_X12_night )
theorem T_go {a0 : Int32} (hI : Inv I L t) : TwI G mdX11_go mdX12_go [.int a0] I L t := twI (x := f_X11_go I a0) (fun M => f_X12_go M a0) hI (s_X11_go (hN := hI.1.nig.hN)) (fun M h => K_go h) (fun M h => s_X12_go (hW := (fun z => h.nig.hW z)))
theorem T_cell {a0 a1 : Int32} (hI : Inv I L t) : TwI G mdX11_cell mdX12_cell [.int a0, .int a1] I L t := twI (x := f_X11_cell I a0 a1) (fun M => f_X12_cell M a0 a1) hI (s_X11_cell (hN := hI.1.nig.hN)) (fun M h => K_cell h) (fun M h => s_X12_cell (hW := (fun z => h.nig.hW z)))
theorem T_rides {a0 a1 : Int32} (hI : Inv I L t) : TwI G mdX11_rides mdX12_rides [.int a0, .int a1] I L t := twI (x := f_X11_rides I a0 a1) (fun M => f_X12_rides M a0 a1) hI (s_X11_rides (hN := hI.1.nig.hN)) (fun M h => K_rides h) (fun M h => s_X12_rides )
theorem T_gauge {a0 a1 a2 : Int32} (hI : Inv I L t) : TwI G mdX11_gauge mdX12_gauge [.int a0, .int a1, .int a2] I L t := twI (x := f_X11_gauge I a0 a1 a2) (fun M => f_X12_gauge M a0 a1 a2) hI (s_X11_gauge (hN := hI.1.nig.hN)) (fun M h => K_gauge h) (fun M h => s_X12_gauge (hW := (fun z => h.nig.hW z)))
theorem T_keep {a0 : Int32} (hI : Inv I L t) : TwI G mdX11_keep mdX12_keep [.int a0] I L t := twI (x := f_X11_keep I a0) (fun M => f_X12_keep M a0) hI (s_X11_keep (hN := hI.1.nig.hN)) (fun M h => K_keep h) (fun M h => s_X12_keep )
theorem T_on {a0 : Int32} (hI : Inv I L t) : TwI G mdX11_on mdX12_on [.int a0] I L t := twI (x := f_X11_on I a0) (fun M => f_X12_on M a0) hI (s_X11_on (hK := (fun q hq => (hI.1.kep q hq).hN))) (fun M h => K_on h) (fun M h => s_X12_on )
theorem T_water (hI : Inv I L t) : TwI G mdX11_water mdX12_water [] I L t := twI (x := f_X11_water I) (fun M => f_X12_water M) hI (s_X11_water (hN := hI.1.nig.hN)) (fun M h => K_water h) (fun M h => s_X12_water (hW := (fun z => h.nig.hW z)))
theorem T_span {a0 : Int32} (hI : Inv I L t) : TwI G mdX11_span mdX12_span [.int a0] I L t := twI (x := f_X11_span I a0) (fun M => f_X12_span M a0) hI (s_X11_span (hRow := hI.1.hRow)) (fun M h => K_span h) (fun M h => s_X12_span (hSz := h.hSz))
theorem T_kind {a0 a1 a2 a3 : Int32} (hI : Inv I L t) : TwI G mdX11_kind mdX12_kind [.int a0, .int a1, .int a2, .int a3] I L t := twI (x := f_X11_kind I a0 a1 a2 a3) (fun M => f_X12_kind M a0 a1 a2 a3) hI (s_X11_kind (hHar := hI.1.hHar) (hC := hI.1.cal) (hM := hI.1.hHarM) (hShp := hI.1.hShp)) (fun M h => K_kind h) (fun M h => s_X12_kind (hH := h.hHm) (hSm := h.hSm) (hS := h.hSp))
theorem T_mark {a0 a1 a2 a3 a4 : Int32} (hI : Inv I L t) : TwI G mdX11_mark mdX12_mark [.int a0, .int a1, .int a2, .int a3, .int a4] I L t := twI (x := f_X11_mark I a0 a1 a2 a3 a4) (fun M => f_X12_mark M a0 a1 a2 a3 a4) hI (s_X11_mark (hHar := hI.1.hHar) (hC := hI.1.cal) (hM := hI.1.hHarM) (hShp := hI.1.hShp)) (fun M h => K_mark h) (fun M h => s_X12_mark (hH := h.hHm) (hSm := h.hSm) (hS := h.hSp))
theorem T_quiet {a0 a1 : Int32} (hI : Inv I L t) : TwI G mdX11_quiet mdX12_quiet [.int a0, .int a1] I L t := twI (x := f_X11_quiet I a0 a1) (fun M => f_X12_quiet M a0 a1) hI (s_X11_quiet (hHar := hI.1.hHar) (hSea := hI.1.hSea)) (fun M h => K_quiet h) (fun M h => s_X12_quiet (hH := h.hHm) (hS := h.hSb))
theorem T_still {a0 a1 : Int32} (hI : Inv I L t) : TwI G mdX11_still mdX12_still [.int a0, .int a1] I L t := twI (x := f_X11_still I a0 a1) (fun M => f_X12_still M a0 a1) hI (s_X11_still (hHar := hI.1.hHar) (hSea := hI.1.hSea)) (fun M h => K_still h) (fun M h => s_X12_still (hH := h.hHm) (hS := h.hSb))
theorem T_wakes {a0 : Int32} (hI : Inv I L t) : TwI G mdX11_wakes mdX12_wakes [.int a0] I L t := twI (x := f_X11_wakes I a0) (fun M => f_X12_wakes M a0) hI (s_X11_wakes (hHar := hI.1.hHar) (hSea := hI.1.hSea)) (fun M h => K_wakes h) (fun M h => s_X12_wakes (hH := h.hHm) (hS := h.hSb))
theorem T_pull {a0 a1 a2 : Int32} (hI : Inv I L t) : TwI G mdX11_pull mdX12_pull [.int a0, .int a1, .int a2] I L t := twI (x := f_X11_pull I a0 a1 a2) (fun M => f_X12_pull M a0 a1 a2) hI (s_X11_pull (hHar := hI.1.hHar) (hSea := hI.1.hSea) (hShp := hI.1.hShp)) (fun M h => K_pull h) (fun M h => s_X12_pull (hH := h.hHm) (hS := h.hSb) (hP := h.hSp))
theorem T_tight {a0 a1 a2 : Int32} (hI : Inv I L t) : TwI G mdX11_tight mdX12_tight [.int a0, .int a1, .int a2] I L t := twI (x := f_X11_tight I a0 a1 a2) (fun M => f_X12_tight M a0 a1 a2) hI (s_X11_tight (hHar := hI.1.hHar) (hSea := hI.1.hSea) (hShp := hI.1.hShp)) (fun M h => K_tight h) (fun M h => s_X12_tight (hH := h.hHm) (hS := h.hSb) (hP := h.hSp))
theorem T_where {a0 a1 a2 : Int32} (hI : Inv I L t) : TwI G mdX11_where mdX12_where [.int a0, .int a1, .int a2] I L t := twI (x := f_X11_where I a0 a1 a2) (fun M => f_X12_where M a0 a1 a2) hI (s_X11_where (hHar := hI.1.hHar) (hSea := hI.1.hSea) (hShp := hI.1.hShp)) (fun M h => K_where h) (fun M h => s_X12_where (hH := h.hHm) (hS := h.hSb) (hP := h.hSp))
theorem T_tonight {a0 a1 a2 : Int32} (hI : Inv I L t) : TwI G mdX11_tonight mdX12_tonight [.int a0, .int a1, .int a2] I L t := twI (x := f_X11_tonight I a0 a1 a2) (fun M => f_X12_tonight M a0 a1 a2) hI (s_X11_tonight (hHar := hI.1.hHar) (hSea := hI.1.hSea) (hShp := hI.1.hShp)) (fun M h => K_tonight h) (fun M h => s_X12_tonight (hH := h.hHm) (hS := h.hSb) (hP := h.hSp))
theorem T_work {a0 a1 a2 a3 : Int32} (hI : Inv I L t) : TwI G mdX11_work mdX12_work [.int a0, .int a1, .int a2, .int a3] I L t := twI (x := f_X11_work I a0 a1 a2 a3) (fun M => f_X12_work M a0 a1 a2 a3) hI (s_X11_work (hW := hI.1.hWrk)) (fun M h => K_work h) (fun M h => s_X12_work (hM := h.hWm))
theorem T_back {a0 : Int32} (hI : Inv I L t) : TwI G mdX11_back mdX12_back [.int a0] I L t := twI (x := f_X11_back I a0) (fun M => f_X12_back M a0) hI (s_X11_back ) (fun M h => K_back h) (fun M h => s_X12_back )
theorem T_does {a0 a1 a2 : Int32} (hI : Inv I L t) : TwI G mdX11_does mdX12_does [.int a0, .int a1, .int a2] I L t := twI (x := f_X11_does I a0 a1 a2) (fun M => f_X12_does M a0 a1 a2) hI (s_X11_does (hHar := hI.1.hHar) (hSea := hI.1.hSea) (hW := hI.1.hWrk)) (fun M h => K_does h) (fun M h => s_X12_does (hH := h.hHm) (hS := h.hSb) (hj := h.hWj) (hM := h.hWm))
theorem T_worse {a0 a1 : Int32} (hI : Inv I L t) : TwI G mdX11_worse mdX12_worse [.int a0, .int a1] I L t := twI (x := f_X11_worse I a0 a1) (fun M => f_X12_worse M a0 a1) hI (s_X11_worse (hHar := hI.1.hHar) (hSea := hI.1.hSea) (hW := hI.1.hWrk)) (fun M h => K_worse h) (fun M h => s_X12_worse (hH := h.hHm) (hS := h.hSb) (hj := h.hWj) (hM := h.hWm))
theorem T_least {a0 a1 a2 : Int32} (hI : Inv I L t) : TwI G mdX11_least mdX12_least [.int a0, .int a1, .int a2] I L t := twI (x := f_X11_least I a0 a1 a2) (fun M => f_X12_least M a0 a1 a2) hI (s_X11_least (hHar := hI.1.hHar) (hSea := hI.1.hSea) (hW := hI.1.hWrk)) (fun M h => K_least h) (fun M h => s_X12_least (hH := h.hHm) (hS := h.hSb) (hj := h.hWj) (hM := h.hWm))
theorem T_since {a0 a1 a2 a3 a4 : Int32} (hI : Inv I L t) : TwI G mdX11_since mdX12_since [.int a0, .int a1, .int a2, .int a3, .int a4] I L t := twI (x := f_X11_since I a0 a1 a2 a3 a4) (fun M => f_X12_since M a0 a1 a2 a3 a4) hI (s_X11_since (hHar := hI.1.hHar) (hSea := hI.1.hSea) (hRow := hI.1.hRow)) (fun M h => K_since h) (fun M h => s_X12_since (hH := h.hHm) (hS := h.hSb) (hSz := h.hSz))
theorem T_which {a0 a1 a2 : Int32} (hI : Inv I L t) : TwI G mdX11_which mdX12_which [.int a0, .int a1, .int a2] I L t := twI (x := f_X11_which I a0 a1 a2) (fun M => f_X12_which M a0 a1 a2) hI (s_X11_which (hHar := hI.1.hHar) (hSea := hI.1.hSea) (hRow := hI.1.hRow)) (fun M h => K_which h) (fun M h => s_X12_which (hH := h.hHm) (hS := h.hSb) (hSz := h.hSz))
theorem T_beat {a0 : Int32} (hI : Inv I L t) : TwI G mdX11_beat mdX12_beat [.int a0] I L t := twIL (x := f_X11_beat I L a0) (fun M => f_X12_beat M (f_X11_beat I L a0).2.2 a0) hI (s_X11_beat (hRow := hI.1.hRow)) (fun M h => K_beat h hI.2.1) (fun M h => s_X12_beat (hSz := h.hSz))
theorem T_ring {a0 a1 : Int32} (hI : Inv I L t) : TwI G mdX11_ring mdX12_ring [.int a0, .int a1] I L t := twIL (x := f_X11_ring I L a0 a1) (fun M => f_X12_ring M (f_X11_ring I L a0 a1).2.2 a0 a1) hI (s_X11_ring (hHar := hI.1.hHar) (hC := hI.1.cal)) (fun M h => K_ring h hI.2.1) (fun M h => s_X12_ring (hH := h.hHm))
theorem T_roll {a0 : Int32} (hI : Inv I L t) : TwI G mdX11_roll mdX12_roll [.int a0] I L t := twIL (x := f_X11_roll I L a0) (fun M => f_X12_roll M (f_X11_roll I L a0).2.2 a0) hI (s_X11_roll (hShp := hI.1.hShp)) (fun M h => K_roll h hI.2.1) (fun M h => s_X12_roll (hS := h.hSp))
theorem T_odds {a0 a1 : Int32} (hI : Inv I L t) : TwI G mdX11_odds mdX12_odds [.int a0, .int a1] I L t := twIL (x := f_X11_odds I L a0 a1) (fun M => f_X12_odds M (f_X11_odds I L a0 a1).2.2 a0 a1) hI (s_X11_odds (hHar := hI.1.hHar) (hSea := hI.1.hSea) (hShp := hI.1.hShp)) (fun M h => K_odds h hI.2.1) (fun M h => s_X12_odds (hH := h.hHm) (hS := h.hSb) (hP := h.hSp))
theorem T_count {w : Int32} (hI : Inv I L t) : TwI G mdX11_count mdX12_count [.int w] I L t := twI (x := (f_X11_count I w, I)) (fun M => f_X12_count M w) hI s_X11_count (fun M h => K_count h) (fun M h => s_X12_count)
theorem T_findings {f : Int32} (hI : Inv I L t) : TwI G mdX11_findings mdX12_findings [.int f] I L t := twI (x := (f_X11_findings I f, I)) (fun M => (f_X12_findings M f, M)) hI s_X11_findings (fun M h => K_findings h) (fun M h => s_X12_findings)
theorem T_finding (hI : Inv I L t) : TwI G mdX11_finding mdX12_finding [] I L t := twI (x := (f_X11_finding I, I)) (fun M => (f_X12_finding M, M)) hI s_X11_finding (fun M h => K_finding h) (fun M h => s_X12_finding)
theorem T_asked (hI : Inv I L t) : TwI G mdX11_asked mdX12_asked [] I L t := twI (x := (f_X11_asked I, I)) (fun M => (f_X12_asked M, M)) hI s_X11_asked (fun M h => K_asked h) (fun M h => s_X12_asked)
theorem T_upper (hI : Inv I L t) : TwL G mdX11_upper mdX12_upper [] I L t := by
  refine ⟨_, _, _, _, s_X11_upper, s_X12_upper.weak ?_⟩
  intro r M hM
  obtain ⟨rfl, rfl⟩ := hM
  exact ⟨by rw [show f_X12_upper L = f_X11_upper L from hI.2.1.1.symm], _, _, _, rfl, hI⟩
theorem T_lower (hI : Inv I L t) : TwL G mdX11_lower mdX12_lower [] I L t := by
  refine ⟨_, _, _, _, s_X11_lower, s_X12_lower.weak ?_⟩
  intro r M hM
  obtain ⟨rfl, rfl⟩ := hM
  exact ⟨by rw [show f_X12_lower L = f_X11_lower L from hI.2.1.2.symm], _, _, _, rfl, hI⟩
theorem T_digest (hI : Inv I L t) : TwL G mdX11_digest mdX12_digest [] I L t := by
  have h := hI.1
  have e : f_X11_digest I = f_digest I := dig_eq h
  refine ⟨_, _, _, _, s_X11_digest (hC := h.hHarC) (hSea := h.hSea) (hW := h.hWrk) (hN := h.nig.hN) (hRow := h.hRow) (hTxt := h.hTxt), (s_X12_digest h.hHn h.hSm h.hWm (fun z => ?_) h.hSz h.hTz).weak ?_⟩
  · obtain ⟨⟨n, mo, c, hN⟩, -⟩ := h.nig.th z
    exact ⟨n, hN.2.1.1.2, hN.2.1.2.1⟩
  · intro r M hM
    obtain ⟨rfl, rfl⟩ := hM
    refine ⟨by rw [e], _, _, _, rfl, ?_, ?_, hI.2.2⟩
    · exact (rel_lk h).cC (FrM.lk (M := I)).lo
    · unfold FrL hs
      rw [up2_off (by decide)]
      refine ⟨hI.2.1.1.trans ?_, hI.2.1.2.trans ?_⟩
      · unfold up2
        rw [if_neg (by decide)]
      · unfold up2
        rw [if_neg (by decide)]
end
end R47
