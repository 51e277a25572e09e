section M13
variable {G : Gp} {I : Im} {L : Nat → Nat → Int64} {t : Nat}
def HmS (I : Im) : Prop := ∀ q, q < 4 → ¬ I 207 q = 0 → ∃ n mo, 3 ≤ n ∧ n ≤ 16 ∧ mo < n ∧ I 208 (21 * q) = nI n ∧ I 208 (21 * q + 1) = nI mo
def SpS (I : Im) : Prop := ∀ q, q < 3 → ¬ I 214 q = 0 → (∃ j, j < 16 ∧ I 215 (5 * q) = nI j) ∧ ¬ 4 * I 215 (5 * q + 1) = 0
def riN1 (N0 H : Nat → Int32) (c : Nat) : Nat → Int32 := upn (wnd (upn (wnd N0 0 21 H) 21 0) 30 95 (fun _ => 0)) (31 + c) 1000
theorem riN1_f {N0 H : Nat → Int32} {c p : Nat} (hc : c < 16) (hp : p < 21) : riN1 N0 H c p = H p := by
  unfold riN1
  have e := wnd_in (N := N0) (g := H) (o := 0) hp
  rw [Nat.zero_add] at e
  rw [upn_n (by omega), wnd_out (by omega), upn_n (by omega), e]
theorem riN1_w {N0 H : Nat → Int32} {c n mo : Nat} (hc : c < 16) (h3 : 3 ≤ n) (hn : n ≤ 16) (hm : mo < n) (e0 : H 0 = nI n) (e1 : H 1 = nI mo) : WfN (riN1 N0 H c) n mo 0 := by
  refine ⟨⟨h3, hn⟩, (riN1_f hc (by decide)).trans e0, ⟨hm, (riN1_f hc (by decide)).trans e1⟩, ⟨by decide, ?_, fun i hi => absurd hi (by omega)⟩, fun s hs h => ?_⟩
  · unfold riN1
    rw [upn_n (by omega), wnd_out (by omega), upn_s]
    rfl
  · have e := wnd_in (N := upn (wnd N0 0 21 H) 21 0) (g := fun _ => (0 : Int32)) (o := 30) (k := 95) (j := 65 + 10 * s) (by omega)
    unfold riN1 at h
    rw [upn_n (by omega), show 95 + 10 * s = 30 + (65 + 10 * s) by omega, e] at h
    exact absurd h (by decide)
def rinN (I : Im) (q : Nat) (c : Nat) : Nat → Int32 := riN1 (rdw (lkI I 4) 500) (fun j => I 208 (21 * q + j)) c
def rinS (I : Im) (q c k : Nat) : Nat → Int32 := secI (rinN I q c) (I 208 (21 * q)).toNatClampNeg (I 208 (21 * q + 1)).toNatClampNeg 0 k
def rinI (I : Im) (q c k : Nat) : Im := nw (flw (up2 (lkI I 4) 200 26 400) 218 0 k (fun i => rinS I q c (i + 1) (31 + c))) 500 (rinS I q c k)
def lrI (I : Im) (q c : Nat) : Im := crM (rinI I q c 400) (mcN (rinI I q c 400 218) (0, I 200 28, I 200 29, 0, 0) (400 - 1))
set_option maxRecDepth 100000 in
set_option maxHeartbeats 4000000 in
theorem s_X12_layRing {y : Int32} {c n mo : Nat} (vy : vp_in y 4) (hc : c < 16) (h3 : 3 ≤ n) (hn : n ≤ 16) (hm : mo < n) (e0 : I 208 (21 * y.toNatClampNeg) = nI n) (e1 : I 208 (21 * y.toNatClampNeg + 1) = nI mo) : Ca G mdX12_layRing [.ref 200, .int y, .int (nI c)] (mk I L t) (Rv (mk (lrI I y.toNatClampNeg c) L t)) := by
  refine Ca.intro [some (.ref 200), some (.int y), some (.int (nI c)), none] (by decide) (Nat.le_of_ble_eq_true rfl) rfl rfl ?_
  refine ex_aload_n dX12_layRing_0 rfl ?_
  refine ex_iconst (v := 4) dX12_layRing_1 (by decide) ?_
  refine rx_cV (kd := 12) dX12_layRing_2 rfl lk_X12_167 rfl (by decide) (by first | assumption | rfl) ⟨⟨rfl, rfl⟩, by decide, by decide⟩ rfl (Nat.le_of_ble_eq_true rfl) rfl s_X12_look (Rv.k ?_)
  rw [← nw_rd (I := lkI I 4) (B := 500)]
  refine ex_aload_n dX12_layRing_5 rfl ?_
  refine ex_iload_n dX12_layRing_6 rfl ?_
  refine rx_cV (kd := 12) dX12_layRing_7 rfl lk_X12_171 rfl (by decide) (by first | assumption | rfl) ⟨⟨rfl, rfl⟩, by decide, by decide⟩ rfl (Nat.le_of_ble_eq_true rfl) rfl (s_X12_layHarbour vy lk_4 (by decide)) (Rv.k ?_)
  refine ex_aload_n dX12_layRing_10 rfl ?_
  refine ex_bipush (v := 21) dX12_layRing_11 (by decide) ?_
  refine ex_iconst (v := 0) dX12_layRing_13 (by decide) ?_
  refine rx_cV (kd := 12) dX12_layRing_14 rfl lk_X12_160 rfl (by decide) (by first | assumption | rfl) ⟨⟨rfl, rfl⟩, by decide, by decide⟩ rfl (Nat.le_of_ble_eq_true rfl) rfl (s_X12_put_ (p := 21) rfl (by decide) lk_4 (by decide)) (Rv.k ?_)
  refine ex_aload_n dX12_layRing_17 rfl ?_
  refine rx_cV (kd := 12) dX12_layRing_18 rfl lk_X12_177 rfl (by decide) (by first | assumption | rfl) ⟨⟨rfl, rfl⟩, by decide, by decide⟩ rfl (Nat.le_of_ble_eq_true rfl) rfl (s_X12_begins lk_4 (by decide)) (Rv.k ?_)
  refine ex_aload_n dX12_layRing_21 rfl ?_
  refine ex_bipush (v := 31) dX12_layRing_22 (by decide) ?_
  refine ex_iload_n dX12_layRing_24 rfl ?_
  refine ex_iadd dX12_layRing_25 ?_
  refine ex_sipush (v := 1000) dX12_layRing_26 (by decide) ?_
  refine rx_cV (kd := 12) dX12_layRing_29 rfl lk_X12_160 rfl (by decide) (by first | assumption | rfl) ⟨⟨rfl, rfl⟩, by decide, by decide⟩ rfl (Nat.le_of_ble_eq_true rfl) rfl (s_X12_put_ (p := 31 + c) (nI_add 31 c) (by omega) lk_4 (by decide)) (Rv.k ?_)
  refine ex_aload_n dX12_layRing_32 rfl ?_
  refine ex_sipush (v := 400) dX12_layRing_33 (by decide) ?_
  refine p_12_26 dX12_layRing_36 rfl wf_X12_241 (by first | assumption | rfl) ?_
  rw [nw_c (by decide)]
  refine ex_iconst (v := 0) dX12_layRing_39 (by decide) ?_
  refine st_i3 dX12_layRing_40 (by first | exact rfl | exact trivial) ?_
  have hw : WfN (rinN I y.toNatClampNeg c) (I 208 (21 * y.toNatClampNeg)).toNatClampNeg (I 208 (21 * y.toNatClampNeg + 1)).toNatClampNeg 0 := by
    rw [e0, e1, nI_clamp (by omega), nI_clamp (by omega)]
    exact riN1_w hc h3 hn hm e0 e1
  have key := loop_up (G := G) (d := mdX12_layRing) (pc := 41) (st := []) (uc := 0) (us := 0) (P := Rv (mk (lrI I y.toNatClampNeg c) L t)) 400 (fun k => mk (rinI I y.toNatClampNeg c k) L t) (fun k => [some (.ref 200), some (.int y), some (.int (nI c)), some (.int (nI k))]) ?_ ?_ 0 (Nat.zero_le _)
  · unfold rinI rinS at key
    rw [flw_0, secI_0] at key
    exact key
  · intro k hk ih
    unfold rinI rinS
    refine ex_iload_n dX12_layRing_41 rfl ?_
    refine ex_sipush (v := 400) dX12_layRing_42 (by decide) ?_
    refine ex_icmp_ge 72 dX12_layRing_45 (by decide) (fun h45 => ?_) (fun h45 => ?_)
    · exact absurd h45 (nI_ge hk (by decide))
    · skip
      refine ex_aload_n dX12_layRing_48 rfl ?_
      refine rx_cV (kd := 12) dX12_layRing_49 rfl lk_X12_220 rfl (by decide) (by first | assumption | rfl) ⟨⟨rfl, rfl⟩, by decide, by decide⟩ rfl (Nat.le_of_ble_eq_true rfl) rfl (s_X12_second (WfN_i hw k) (by rw [flw_off (by decide), u2_j (by decide)]; exact lk_4) (by decide)) (Rv.k ?_)
      refine ex_aload_n dX12_layRing_52 rfl ?_
      refine g_12_25 dX12_layRing_53 rfl wf_X12_63 (by first | assumption | rfl) (show Rt _ 200 25 = some 218 from rfl) ?_
      refine ex_iload_n dX12_layRing_56 rfl ?_
      refine ex_aload_n dX12_layRing_57 rfl ?_
      refine ex_bipush (v := 31) dX12_layRing_58 (by decide) ?_
      refine ex_iload_n dX12_layRing_60 rfl ?_
      refine ex_iadd dX12_layRing_61 ?_
      refine rx_cV (kd := 12) dX12_layRing_62 rfl lk_X12_183 rfl (by decide) (by first | assumption | rfl) ⟨⟨rfl, rfl⟩, by decide, by decide⟩ rfl (Nat.le_of_ble_eq_true rfl) rfl (s_X12_v (p := 31 + c) (nI_add 31 c) (by omega) (by rw [flw_off (by decide), u2_j (by decide)]; exact lk_4) (by decide)) (Rs.k ?_)
      refine rx_iast dX12_layRing_65 (by first | assumption | rfl) (vp_in_nI (by omega) (by decide)) ?_
      rw [nI_clamp (by omega), nw_c (by decide)]
      refine inc3 (v := _ + 1) dX12_layRing_66 (by rfl) (by first | exact rfl | exact trivial) ?_
      refine ex_goto 41 dX12_layRing_69 (by decide) ?_
      rw [nI_1]
      unfold rinI rinS at ih
      rw [← flw_s, Nat.zero_add, secI_s] at ih
      exact ih
  · skip
    refine ex_iload_n dX12_layRing_41 rfl ?_
    refine ex_sipush (v := 400) dX12_layRing_42 (by decide) ?_
    refine ex_icmp_ge 72 dX12_layRing_45 (by decide) (fun h45 => ?_) (fun h45 => ?_)
    · skip
      refine ex_aload_n dX12_layRing_72 rfl ?_
      refine rx_cV (kd := 12) dX12_layRing_73 rfl lk_X12_258 rfl (by decide) (by first | assumption | rfl) ⟨⟨rfl, rfl⟩, by decide, by decide⟩ rfl (Nat.le_of_ble_eq_true rfl) rfl (s_X12_crosses (m := 400) (by decide) (by unfold rinI; rw [nw_off (by decide), flw_off (by decide), u2_s]; rfl)) (Rv.k ?_)
      refine ex_vret dX12_layRing_76 rfl ⟨rfl, Nat.le_refl _⟩ ?_
      refine ⟨rfl, ?_⟩
      unfold lrI
      rw [show rinI I y.toNatClampNeg c 400 200 28 = I 200 28 by unfold rinI lkI; rw [nw_off (by decide), flw_off (by decide), u2_j (by decide), u2_j (by decide)], show rinI I y.toNatClampNeg c 400 200 29 = I 200 29 by unfold rinI lkI; rw [nw_off (by decide), flw_off (by decide), u2_j (by decide), u2_j (by decide)]]
    · exact absurd (by decide : nI 400 ≤ nI 400) h45
theorem s_lrG {y x : Int32} (vy : vp_in y 4) (vx : vp_in x 16) (hH : HmS I) (hy : ¬ I 207 y.toNatClampNeg = 0) : Ca G mdX12_layRing [.ref 200, .int y, .int x] (mk I L t) (Rv (mk (lrI I y.toNatClampNeg x.toNatClampNeg) L t)) := by
  obtain ⟨x1, x2⟩ := vpn vx
  obtain ⟨n, mo, h3, hn, hm, e0, e1⟩ := hH _ (vpn vy).1 hy
  have key := s_X12_layRing (G := G) (L := L) (t := t) vy x1 h3 hn hm e0 e1
  rw [← x2] at key
  exact key
theorem lr_G {q c : Nat} : CrGm (lrI I q c) := crGm (by decide)
def rlN (N : Nat → Int32) (a k : Nat) : Nat → Int32 :=
  match k with
  | 0 => N
  | k + 1 => mvN (rlN N a k) a 0
termination_by k
theorem rlN_0 {N : Nat → Int32} {a : Nat} : rlN N a 0 = N := by rw [rlN]
theorem rlN_s {N : Nat → Int32} {a k : Nat} : rlN N a (k + 1) = mvN (rlN N a k) a 0 := by rw [rlN]
theorem rlN_off {N : Nat → Int32} {a p : Nat} (h : p ≠ a + 6) (h2 : p ≠ a + 7) : ∀ k, rlN N a k p = N p := by
  intro k
  induction k with
  | zero => rw [rlN_0]
  | succ k ih => rw [rlN_s, mvN_off h h2, ih]
def rolN (I : Im) (s : Nat) : Nat → Int32 := upn (shN (wnd (rdw (lkI I 4) 500) 30 95 (fun _ => 0)) (95 + 10 * s) (fun j => I 215 (5 * s + j))) (95 + 10 * s + 6) (I 215 (5 * s + 3) + 100)
def rolI (I : Im) (s k : Nat) : Im := nw (flw (up2 (lkI I 4) 200 26 400) 218 0 k (fun i => rlN (rolN I s) (95 + 10 * s) (i + 1) (95 + 10 * s + 6))) 500 (rlN (rolN I s) (95 + 10 * s) k)
def loI (I : Im) (s : Nat) : Im := crM (rolI I s 400) (mcN (rolI I s 400 218) (0, I 200 28, I 200 29, 0, 0) (400 - 1))
theorem rolN_2 {s : Nat} : rolN I s (95 + 10 * s + 2) = I 215 (5 * s + 1) := by
  unfold rolN shN
  rw [upn_n (by omega), upn_n (by omega), upn_n (by omega), upn_n (by omega), upn_n (by omega), show 95 + 10 * s + 2 = 95 + 10 * s + 1 + 1 by omega, wnd_in (by decide)]
set_option maxRecDepth 100000 in
set_option maxHeartbeats 4000000 in
theorem s_X12_layRoll {s : Nat} (hs : s < 3) (hw : ¬ 4 * I 215 (5 * s + 1) = 0) : Ca G mdX12_layRoll [.ref 200, .int (nI s)] (mk I L t) (Rv (mk (loI I s) L t)) := by
  refine Ca.intro [some (.ref 200), some (.int (nI s)), none, none] (by decide) (Nat.le_of_ble_eq_true rfl) rfl rfl ?_
  refine ex_aload_n dX12_layRoll_0 rfl ?_
  refine ex_iconst (v := 4) dX12_layRoll_1 (by decide) ?_
  refine rx_cV (kd := 12) dX12_layRoll_2 rfl lk_X12_167 rfl (by decide) (by first | assumption | rfl) ⟨⟨rfl, rfl⟩, by decide, by decide⟩ rfl (Nat.le_of_ble_eq_true rfl) rfl s_X12_look (Rv.k ?_)
  rw [← nw_rd (I := lkI I 4) (B := 500)]
  refine ex_aload_n dX12_layRoll_5 rfl ?_
  refine rx_cV (kd := 12) dX12_layRoll_6 rfl lk_X12_177 rfl (by decide) (by first | assumption | rfl) ⟨⟨rfl, rfl⟩, by decide, by decide⟩ rfl (Nat.le_of_ble_eq_true rfl) rfl (s_X12_begins lk_4 (by decide)) (Rv.k ?_)
  refine ex_aload_n dX12_layRoll_9 rfl ?_
  refine ex_iload_n dX12_layRoll_10 rfl ?_
  refine rx_cV (kd := 12) dX12_layRoll_11 rfl lk_X12_180 rfl (by decide) (by first | assumption | rfl) ⟨⟨rfl, rfl⟩, by decide, by decide⟩ rfl (Nat.le_of_ble_eq_true rfl) rfl (s_X12_layShip hs lk_4 (by decide)) (Rv.k ?_)
  refine ex_iload_n dX12_layRoll_14 rfl ?_
  refine rx_cS dX12_layRoll_15 rfl lk_X12_164 ⟨⟨rfl, rfl⟩, by decide, by decide⟩ rfl (Nat.le_of_ble_eq_true rfl) rfl s_X12_rider (Rs.k ?_)
  refine st_i2 dX12_layRoll_18 (by first | exact rfl | exact trivial) ?_
  refine ex_aload_n dX12_layRoll_19 rfl ?_
  refine ex_iload_n dX12_layRoll_20 rfl ?_
  refine ex_bipush (v := 6) dX12_layRoll_21 (by decide) ?_
  refine ex_iadd dX12_layRoll_23 ?_
  refine ex_aload_n dX12_layRoll_24 rfl ?_
  refine g_12_21 dX12_layRoll_25 rfl wf_X12_54 (by first | assumption | rfl) (show Rt _ 200 21 = some 215 from rfl) ?_
  refine ex_iconst (v := 5) dX12_layRoll_28 (by decide) ?_
  refine ex_iload_n dX12_layRoll_29 rfl ?_
  refine ex_imul dX12_layRoll_30 ?_
  refine ex_iconst (v := 3) dX12_layRoll_31 (by decide) ?_
  refine ex_iadd dX12_layRoll_32 ?_
  refine rx_iald dX12_layRoll_33 (by first | assumption | rfl) (ixm (c := 5) (C := 5) (R := 3) rfl (vp_in_nI hs (by decide)) (i := 3) (by unfold vp_in; decide) (by decide)).1 ?_
  rw [nw_off (by decide), (ixm (c := 5) (C := 5) (R := 3) rfl (vp_in_nI hs (by decide)) (i := 3) (by unfold vp_in; decide) (by decide)).2, nI_clamp (by omega), lk_off (by decide)]
  refine ex_bipush (v := 100) dX12_layRoll_34 (by decide) ?_
  refine ex_iadd dX12_layRoll_36 ?_
  refine rx_cV (kd := 12) dX12_layRoll_37 rfl lk_X12_160 rfl (by decide) (by first | assumption | rfl) ⟨⟨rfl, rfl⟩, by decide, by decide⟩ rfl (Nat.le_of_ble_eq_true rfl) rfl (s_X12_put_ (p := 95 + 10 * s + 6) (nI_add _ 6) (by omega) lk_4 (by decide)) (Rv.k ?_)
  refine ex_aload_n dX12_layRoll_40 rfl ?_
  refine ex_sipush (v := 400) dX12_layRoll_41 (by decide) ?_
  refine p_12_26 dX12_layRoll_44 rfl wf_X12_241 (by first | assumption | rfl) ?_
  rw [nw_c (by decide)]
  refine ex_iconst (v := 0) dX12_layRoll_47 (by decide) ?_
  refine st_i3 dX12_layRoll_48 (by first | exact rfl | exact trivial) ?_
  have key := loop_up (G := G) (d := mdX12_layRoll) (pc := 49) (st := []) (uc := 0) (us := 0) (P := Rv (mk (loI I s) L t)) 400 (fun k => mk (rolI I s k) L t) (fun k => [some (.ref 200), some (.int (nI s)), some (.int (nI (95 + 10 * s))), some (.int (nI k))]) ?_ ?_ 0 (Nat.zero_le _)
  · unfold rolI at key
    rw [flw_0, rlN_0] at key
    exact key
  · intro k hk ih
    unfold rolI
    refine ex_iload_n dX12_layRoll_49 rfl ?_
    refine ex_sipush (v := 400) dX12_layRoll_50 (by decide) ?_
    refine ex_icmp_ge 82 dX12_layRoll_53 (by decide) (fun h53 => ?_) (fun h53 => ?_)
    · exact absurd h53 (nI_ge hk (by decide))
    · skip
      refine ex_aload_n dX12_layRoll_56 rfl ?_
      refine ex_iload_n dX12_layRoll_57 rfl ?_
      refine ex_iconst (v := 0) dX12_layRoll_58 (by decide) ?_
      refine rx_cV (kd := 12) dX12_layRoll_59 rfl lk_X12_214 rfl (by decide) (by first | assumption | rfl) ⟨⟨rfl, rfl⟩, by decide, by decide⟩ rfl (Nat.le_of_ble_eq_true rfl) rfl (s_X12_moves (by omega) (by omega) (by rw [rlN_off (by omega) (by omega), rolN_2]; exact hw) (by rw [flw_off (by decide), u2_j (by decide)]; exact lk_4) (by decide)) (Rv.k ?_)
      refine ex_aload_n dX12_layRoll_62 rfl ?_
      refine g_12_25 dX12_layRoll_63 rfl wf_X12_63 (by first | assumption | rfl) (show Rt _ 200 25 = some 218 from rfl) ?_
      refine ex_iload_n dX12_layRoll_66 rfl ?_
      refine ex_aload_n dX12_layRoll_67 rfl ?_
      refine ex_iload_n dX12_layRoll_68 rfl ?_
      refine ex_bipush (v := 6) dX12_layRoll_69 (by decide) ?_
      refine ex_iadd dX12_layRoll_71 ?_
      refine rx_cV (kd := 12) dX12_layRoll_72 rfl lk_X12_183 rfl (by decide) (by first | assumption | rfl) ⟨⟨rfl, rfl⟩, by decide, by decide⟩ rfl (Nat.le_of_ble_eq_true rfl) rfl (s_X12_v (p := 95 + 10 * s + 6) (nI_add _ 6) (by omega) (by rw [flw_off (by decide), u2_j (by decide)]; exact lk_4) (by decide)) (Rs.k ?_)
      refine rx_iast dX12_layRoll_75 (by first | assumption | rfl) (vp_in_nI (by omega) (by decide)) ?_
      rw [nI_clamp (by omega), nw_c (by decide)]
      refine inc3 (v := _ + 1) dX12_layRoll_76 (by rfl) (by first | exact rfl | exact trivial) ?_
      refine ex_goto 49 dX12_layRoll_79 (by decide) ?_
      rw [nI_1]
      unfold rolI at ih
      rw [← flw_s, Nat.zero_add, rlN_s] at ih
      exact ih
  · skip
    refine ex_iload_n dX12_layRoll_49 rfl ?_
    refine ex_sipush (v := 400) dX12_layRoll_50 (by decide) ?_
    refine ex_icmp_ge 82 dX12_layRoll_53 (by decide) (fun h53 => ?_) (fun h53 => ?_)
    · skip
      refine ex_aload_n dX12_layRoll_82 rfl ?_
      refine rx_cV (kd := 12) dX12_layRoll_83 rfl lk_X12_258 rfl (by decide) (by first | assumption | rfl) ⟨⟨rfl, rfl⟩, by decide, by decide⟩ rfl (Nat.le_of_ble_eq_true rfl) rfl (s_X12_crosses (m := 400) (by decide) (by unfold rolI; rw [nw_off (by decide), flw_off (by decide), u2_s]; rfl)) (Rv.k ?_)
      refine ex_vret dX12_layRoll_86 rfl ⟨rfl, Nat.le_refl _⟩ ?_
      refine ⟨rfl, ?_⟩
      unfold loI
      rw [show rolI I s 400 200 28 = I 200 28 by unfold rolI lkI; rw [nw_off (by decide), flw_off (by decide), u2_j (by decide), u2_j (by decide)], show rolI I s 400 200 29 = I 200 29 by unfold rolI lkI; rw [nw_off (by decide), flw_off (by decide), u2_j (by decide), u2_j (by decide)]]
    · exact absurd (by decide : nI 400 ≤ nI 400) h53
theorem s_loG {x : Int32} (vx : vp_in x 3) (hS : SpS I) (hx : ¬ I 214 x.toNatClampNeg = 0) : Ca G mdX12_layRoll [.ref 200, .int x] (mk I L t) (Rv (mk (loI I x.toNatClampNeg) L t)) := by
  obtain ⟨x1, x2⟩ := vpn vx
  have key := s_X12_layRoll (G := G) (L := L) (t := t) x1 (hS _ x1 hx).2
  rw [← x2] at key
  exact key
theorem lo_G {s : Nat} : CrGm (loI I s) := crGm (by decide)
def f_X12_ring (I : Im) (L : Nat → Nat → Int64) (k : Int32) (c : Int32) : Int32 × Im × (Nat → Nat → Int64) :=
  if (b2i (0 ≤ k ∧ k ≤ 3)) = 0 then
    ((-1), I, L)
  else
    if (b2i (0 ≤ c ∧ c ≤ 15)) = 0 then
      ((-1), I, L)
    else
      if (I 207 k.toNatClampNeg) = 0 then
        let I5 : Im := meI I 1
        ((-3), I5, L)
      else
        if c < (I 208 (21 * k).toNatClampNeg) then
          let I1 : Im := lrI I k.toNatClampNeg c.toNatClampNeg
          let I2 : Im := (f_X12_tellsBeat I1 L).2.1
          let L3 : Nat → Nat → Int64 := (f_X12_tellsBeat I1 L).2.2
          ((f_X12_tellsBeat I1 L).1, I2, L3)
        else
          let I4 : Im := meI I 2
          ((-3), I4, L)
set_option maxRecDepth 100000 in
set_option maxHeartbeats 4000000 in
theorem s_X12_ring  {k : Int32} {c : Int32} (hH : HmS I) : Ca G mdX12_ring [.ref 200, .int k, .int c] (mk I L t) (Rs (.int (f_X12_ring I L k c).1) (mk ((f_X12_ring I L k c).2.1) ((f_X12_ring I L k c).2.2) t)) := by
  refine Ca.intro [some (.ref 200), some (.int k), some (.int c)] (by decide) (Nat.le_of_ble_eq_true rfl) rfl rfl ?_
  refine ex_iload_n dX12_ring_0 rfl ?_
  refine rx_cS dX12_ring_1 rfl lk_X12_151 ⟨⟨rfl, rfl⟩, by decide, by decide⟩ rfl (Nat.le_of_ble_eq_true rfl) rfl s_X12_isPlace (Rs.k ?_)
  refine ex_if_eq 17 dX12_ring_4 (by decide) (fun h4 => ?_) (fun h4 => ?_)
  · skip
    refine ex_iconst (v := (-1)) dX12_ring_17 (by decide) ?_
    refine ex_iret dX12_ring_18 rfl rfl ⟨rfl, Nat.le_refl _⟩ ?_
    exact ⟨(by simp only [f_X12_ring, ↓eq_true h4, if_true, if_false, not_true_eq_false, not_false_eq_true]), (by simp only [f_X12_ring, ↓eq_true h4, if_true, if_false, not_true_eq_false, not_false_eq_true])⟩
  · have qk := (cl_lt (N := 4) (by decide) h4).1
    have vk := (cl_lt (N := 4) (by decide) h4).2
    refine ex_iload_n dX12_ring_7 rfl ?_
    refine ex_iconst (v := 0) dX12_ring_8 (by decide) ?_
    refine ex_bipush (v := 15) dX12_ring_9 (by decide) ?_
    refine rx_cS dX12_ring_11 rfl lk_X12_86 ⟨⟨rfl, rfl⟩, by decide, by decide⟩ rfl (Nat.le_of_ble_eq_true rfl) rfl s_X12_in (Rs.k ?_)
    refine ex_if_ne 19 dX12_ring_14 (by decide) (fun h14 => ?_) (fun h14 => ?_)
    · have qc := (cl_lt (N := 16) (by decide) h14).1
      have vc := (cl_lt (N := 16) (by decide) h14).2
      refine ex_aload_n dX12_ring_19 rfl ?_
      refine g_12_10 dX12_ring_20 rfl wf_X12_29 (by first | assumption | rfl) (show Rt _ 200 10 = some 207 from rfl) ?_
      refine ex_iload_n dX12_ring_23 rfl ?_
      refine rx_zald dX12_ring_24 (by first | assumption | rfl) (by first | assumption | (unfold vp_in; decide)) ?_
      refine ex_if_ne 34 dX12_ring_25 (by decide) (fun h25 => ?_) (fun h25 => ?_)
      · skip
        refine ex_iload_n dX12_ring_34 rfl ?_
        refine ex_aload_n dX12_ring_35 rfl ?_
        refine g_12_11 dX12_ring_36 rfl wf_X12_33 (by first | assumption | rfl) (show Rt _ 200 11 = some 208 from rfl) ?_
        refine ex_bipush (v := 21) dX12_ring_39 (by decide) ?_
        refine ex_iload_n dX12_ring_41 rfl ?_
        refine ex_imul dX12_ring_42 ?_
        refine rx_iald dX12_ring_43 (by first | assumption | rfl) (ixz (C := 21) (R := 4) rfl (by decide) vk (by decide)).1 ?_
        refine ex_icmp_lt 53 dX12_ring_44 (by decide) (fun h44 => ?_) (fun h44 => ?_)
        · skip
          refine ex_aload_n dX12_ring_53 rfl ?_
          refine ex_iload_n dX12_ring_54 rfl ?_
          refine ex_iload_n dX12_ring_55 rfl ?_
          refine rx_cV (kd := 12) dX12_ring_56 rfl lk_X12_268 rfl (by decide) (by first | assumption | rfl) ⟨⟨rfl, rfl⟩, by decide, by decide⟩ rfl (Nat.le_of_ble_eq_true rfl) rfl (s_lrG vk vc hH h25) (Rv.k ?_)
          refine ex_aload_n dX12_ring_59 rfl ?_
          refine rx_cV (kd := 12) dX12_ring_60 rfl lk_X12_264 rfl (by decide) (by first | assumption | rfl) ⟨⟨rfl, rfl⟩, by decide, by decide⟩ rfl (Nat.le_of_ble_eq_true rfl) rfl (s_X12_tellsBeat lr_G) (Rs.k ?_)
          refine ex_iret dX12_ring_63 rfl rfl ⟨rfl, Nat.le_refl _⟩ ?_
          exact ⟨(by simp only [f_X12_ring, ↓eq_false h4, ↓eq_false h14, ↓eq_false h25, ↓h44, if_true, if_false, not_true_eq_false, not_false_eq_true]), (by simp only [f_X12_ring, ↓eq_false h4, ↓eq_false h14, ↓eq_false h25, ↓h44, if_true, if_false, not_true_eq_false, not_false_eq_true])⟩
        · skip
          refine ex_aload_n dX12_ring_47 rfl ?_
          refine ex_iconst (v := 2) dX12_ring_48 (by decide) ?_
          refine rx_cV (kd := 12) dX12_ring_49 rfl lk_X12_100 rfl (by decide) (by first | assumption | rfl) ⟨⟨rfl, rfl⟩, by decide, by decide⟩ rfl (Nat.le_of_ble_eq_true rfl) rfl (s_X12_meets (by unfold vp_in; decide)) (Rs.k ?_)
          refine ex_iret dX12_ring_52 rfl rfl ⟨rfl, Nat.le_refl _⟩ ?_
          exact ⟨(by simp only [f_X12_ring, ↓eq_false h4, ↓eq_false h14, ↓eq_false h25, ↓h44, if_true, if_false, not_true_eq_false, not_false_eq_true]), (by simp only [f_X12_ring, ↓eq_false h4, ↓eq_false h14, ↓eq_false h25, ↓h44, if_true, if_false, not_true_eq_false, not_false_eq_true])⟩
      · skip
        refine ex_aload_n dX12_ring_28 rfl ?_
        refine ex_iconst (v := 1) dX12_ring_29 (by decide) ?_
        refine rx_cV (kd := 12) dX12_ring_30 rfl lk_X12_100 rfl (by decide) (by first | assumption | rfl) ⟨⟨rfl, rfl⟩, by decide, by decide⟩ rfl (Nat.le_of_ble_eq_true rfl) rfl (s_X12_meets (by unfold vp_in; decide)) (Rs.k ?_)
        refine ex_iret dX12_ring_33 rfl rfl ⟨rfl, Nat.le_refl _⟩ ?_
        exact ⟨(by simp only [f_X12_ring, ↓eq_false h4, ↓eq_false h14, ↓eq_true h25, if_true, if_false, not_true_eq_false, not_false_eq_true]), (by simp only [f_X12_ring, ↓eq_false h4, ↓eq_false h14, ↓eq_true h25, if_true, if_false, not_true_eq_false, not_false_eq_true])⟩
    · skip
      refine ex_iconst (v := (-1)) dX12_ring_17 (by decide) ?_
      refine ex_iret dX12_ring_18 rfl rfl ⟨rfl, Nat.le_refl _⟩ ?_
      exact ⟨(by simp only [f_X12_ring, ↓eq_false h4, ↓eq_true h14, if_true, if_false, not_true_eq_false, not_false_eq_true]), (by simp only [f_X12_ring, ↓eq_false h4, ↓eq_true h14, if_true, if_false, not_true_eq_false, not_false_eq_true])⟩
def f_X12_roll (I : Im) (L : Nat → Nat → Int64) (s : Int32) : Int32 × Im × (Nat → Nat → Int64) :=
  if (b2i (0 ≤ s ∧ s ≤ 2)) = 0 then
    ((-1), I, L)
  else
    if (I 214 s.toNatClampNeg) = 0 then
      ((-4), I, L)
    else
      let I1 : Im := loI I s.toNatClampNeg
      let I2 : Im := (f_X12_tellsBeat I1 L).2.1
      let L3 : Nat → Nat → Int64 := (f_X12_tellsBeat I1 L).2.2
      ((f_X12_tellsBeat I1 L).1, I2, L3)
set_option maxRecDepth 100000 in
set_option maxHeartbeats 4000000 in
theorem s_X12_roll  {s : Int32} (hS : SpS I) : Ca G mdX12_roll [.ref 200, .int s] (mk I L t) (Rs (.int (f_X12_roll I L s).1) (mk ((f_X12_roll I L s).2.1) ((f_X12_roll I L s).2.2) t)) := by
  refine Ca.intro [some (.ref 200), some (.int s)] (by decide) (Nat.le_of_ble_eq_true rfl) rfl rfl ?_
  refine ex_iload_n dX12_roll_0 rfl ?_
  refine rx_cS dX12_roll_1 rfl lk_X12_154 ⟨⟨rfl, rfl⟩, by decide, by decide⟩ rfl (Nat.le_of_ble_eq_true rfl) rfl s_X12_isShipTold (Rs.k ?_)
  refine ex_if_ne 9 dX12_roll_4 (by decide) (fun h4 => ?_) (fun h4 => ?_)
  · have qs := (cl_lt (N := 3) (by decide) h4).1
    have vs := (cl_lt (N := 3) (by decide) h4).2
    refine ex_aload_n dX12_roll_9 rfl ?_
    refine g_12_20 dX12_roll_10 rfl wf_X12_51 (by first | assumption | rfl) (show Rt _ 200 20 = some 214 from rfl) ?_
    refine ex_iload_n dX12_roll_13 rfl ?_
    refine rx_zald dX12_roll_14 (by first | assumption | rfl) (by first | assumption | (unfold vp_in; decide)) ?_
    refine ex_if_ne 21 dX12_roll_15 (by decide) (fun h15 => ?_) (fun h15 => ?_)
    · skip
      refine ex_aload_n dX12_roll_21 rfl ?_
      refine ex_iload_n dX12_roll_22 rfl ?_
      refine rx_cV (kd := 12) dX12_roll_23 rfl lk_X12_271 rfl (by decide) (by first | assumption | rfl) ⟨⟨rfl, rfl⟩, by decide, by decide⟩ rfl (Nat.le_of_ble_eq_true rfl) rfl (s_loG vs hS h15) (Rv.k ?_)
      refine ex_aload_n dX12_roll_26 rfl ?_
      refine rx_cV (kd := 12) dX12_roll_27 rfl lk_X12_264 rfl (by decide) (by first | assumption | rfl) ⟨⟨rfl, rfl⟩, by decide, by decide⟩ rfl (Nat.le_of_ble_eq_true rfl) rfl (s_X12_tellsBeat lo_G) (Rs.k ?_)
      refine ex_iret dX12_roll_30 rfl rfl ⟨rfl, Nat.le_refl _⟩ ?_
      exact ⟨(by simp only [f_X12_roll, ↓eq_false h4, ↓eq_false h15, if_true, if_false, not_true_eq_false, not_false_eq_true]), (by simp only [f_X12_roll, ↓eq_false h4, ↓eq_false h15, if_true, if_false, not_true_eq_false, not_false_eq_true])⟩
    · skip
      refine ex_bipush (v := (-4)) dX12_roll_18 (by decide) ?_
      refine ex_iret dX12_roll_20 rfl rfl ⟨rfl, Nat.le_refl _⟩ ?_
      exact ⟨(by simp only [f_X12_roll, ↓eq_false h4, ↓eq_true h15, if_true, if_false, not_true_eq_false, not_false_eq_true]), (by simp only [f_X12_roll, ↓eq_false h4, ↓eq_true h15, if_true, if_false, not_true_eq_false, not_false_eq_true])⟩
  · skip
    refine ex_iconst (v := (-1)) dX12_roll_7 (by decide) ?_
    refine ex_iret dX12_roll_8 rfl rfl ⟨rfl, Nat.le_refl _⟩ ?_
    exact ⟨(by simp only [f_X12_roll, ↓eq_true h4, if_true, if_false, not_true_eq_false, not_false_eq_true]), (by simp only [f_X12_roll, ↓eq_true h4, if_true, if_false, not_true_eq_false, not_false_eq_true])⟩
set_option maxRecDepth 100000 in
set_option maxHeartbeats 4000000 in
theorem s_X12_isLoud {k : Nat} (hk : k < 400) : Ca G mdX12_isLoud [.ref 200, .int (nI k)] (mk I L t) (Rs (.int (b2i (100 < I 218 k ∨ I 218 k < -100))) (mk I L t)) := by
  refine Ca.intro [some (.ref 200), some (.int (nI k))] (by decide) (Nat.le_of_ble_eq_true rfl) rfl rfl ?_
  refine ex_aload_n dX12_isLoud_0 rfl ?_
  refine g_12_25 dX12_isLoud_1 rfl wf_X12_63 (by first | assumption | rfl) (show Rt _ 200 25 = some 218 from rfl) ?_
  refine ex_iload_n dX12_isLoud_4 rfl ?_
  refine rx_iald dX12_isLoud_5 (by first | assumption | rfl) (vp_in_nI hk (by decide)) ?_
  rw [nI_clamp (by omega)]
  refine ex_bipush (v := 100) dX12_isLoud_6 (by decide) ?_
  refine ex_icmp_gt 22 dX12_isLoud_8 (by decide) (fun h8 => ?_) (fun h8 => ?_)
  · skip
    refine ex_iconst (v := 1) dX12_isLoud_22 (by decide) ?_
    refine ex_goto 27 dX12_isLoud_23 (by decide) ?_
    refine ex_iret dX12_isLoud_27 rfl rfl ⟨rfl, Nat.le_refl _⟩ ?_
    exact ⟨by first | exact b2i_t (Or.inl h8) | exact b2i_t (Or.inr (Int32.not_le.mp h19)) | exact b2i_f (fun z => z.elim (fun y => h8 y) (fun y => absurd y (Int32.not_lt.mpr h19))), rfl⟩
  · skip
    refine ex_aload_n dX12_isLoud_11 rfl ?_
    refine g_12_25 dX12_isLoud_12 rfl wf_X12_63 (by first | assumption | rfl) (show Rt _ 200 25 = some 218 from rfl) ?_
    refine ex_iload_n dX12_isLoud_15 rfl ?_
    refine rx_iald dX12_isLoud_16 (by first | assumption | rfl) (vp_in_nI hk (by decide)) ?_
    rw [nI_clamp (by omega)]
    refine ex_bipush (v := (-100)) dX12_isLoud_17 (by decide) ?_
    refine ex_icmp_ge 26 dX12_isLoud_19 (by decide) (fun h19 => ?_) (fun h19 => ?_)
    · skip
      refine ex_iconst (v := 0) dX12_isLoud_26 (by decide) ?_
      refine ex_iret dX12_isLoud_27 rfl rfl ⟨rfl, Nat.le_refl _⟩ ?_
      exact ⟨by first | exact b2i_t (Or.inl h8) | exact b2i_t (Or.inr (Int32.not_le.mp h19)) | exact b2i_f (fun z => z.elim (fun y => h8 y) (fun y => absurd y (Int32.not_lt.mpr h19))), rfl⟩
    · skip
      refine ex_iconst (v := 1) dX12_isLoud_22 (by decide) ?_
      refine ex_goto 27 dX12_isLoud_23 (by decide) ?_
      refine ex_iret dX12_isLoud_27 rfl rfl ⟨rfl, Nat.le_refl _⟩ ?_
      exact ⟨by first | exact b2i_t (Or.inl h8) | exact b2i_t (Or.inr (Int32.not_le.mp h19)) | exact b2i_f (fun z => z.elim (fun y => h8 y) (fun y => absurd y (Int32.not_lt.mpr h19))), rfl⟩
set_option maxRecDepth 100000 in
set_option maxHeartbeats 4000000 in
theorem s_X12_lastLoud  : Ca G mdX12_lastLoud [.ref 200] (mk I L t) (Rs (.int (nI (lastL (I 218) 400))) (mk I L t)) := by
  refine Ca.intro [some (.ref 200), none, none] (by decide) (Nat.le_of_ble_eq_true rfl) rfl rfl ?_
  refine ex_iconst (v := 0) dX12_lastLoud_0 (by decide) ?_
  refine st_i1 dX12_lastLoud_1 (by first | exact rfl | exact trivial) ?_
  refine ex_iconst (v := 0) dX12_lastLoud_2 (by decide) ?_
  refine st_i2 dX12_lastLoud_3 (by first | exact rfl | exact trivial) ?_
  refine loop_up (G := G) (d := mdX12_lastLoud) (pc := 4) (st := []) (uc := 0) (us := 0) (P := Rs (.int (nI (lastL (I 218) 400))) (mk I L t)) 400 (fun k => mk I L t) (fun k => [some (.ref 200), some (.int (nI (lastL (I 218) k))), some (.int (nI k))]) ?_ ?_ 0 (Nat.zero_le _)
  · intro k hk ih
    refine ex_iload_n dX12_lastLoud_4 rfl ?_
    refine ex_sipush (v := 400) dX12_lastLoud_5 (by decide) ?_
    refine ex_icmp_ge 33 dX12_lastLoud_8 (by decide) (fun h8 => ?_) (fun h8 => ?_)
    · exact absurd h8 (nI_ge hk (by decide))
    · skip
      refine ex_aload_n dX12_lastLoud_11 rfl ?_
      refine ex_iload_n dX12_lastLoud_12 rfl ?_
      refine rx_cV (kd := 12) dX12_lastLoud_13 rfl lk_X12_274 rfl (by decide) (by first | assumption | rfl) ⟨⟨rfl, rfl⟩, by decide, by decide⟩ rfl (Nat.le_of_ble_eq_true rfl) rfl (s_X12_isLoud hk) (Rs.k ?_)
      refine ex_if_eq 25 dX12_lastLoud_16 (by decide) (fun h16 => ?_) (fun h16 => ?_)
      · have hc : lastL (I 218) (k + 1) = lastL (I 218) k := if_neg (b2i_0.mp h16)
        refine ex_iload_n dX12_lastLoud_25 rfl ?_
        refine st_i1 dX12_lastLoud_26 (by first | exact rfl | exact trivial) ?_
        refine inc2 (v := _ + 1) dX12_lastLoud_27 (by rfl) (by first | exact rfl | exact trivial) ?_
        refine ex_goto 4 dX12_lastLoud_30 (by decide) ?_
        simp only [nI_1]
        rw [hc] at ih
        exact ih
      · have hc : lastL (I 218) (k + 1) = k + 1 := if_pos (b2i_n0.mp h16)
        refine ex_iload_n dX12_lastLoud_19 rfl ?_
        refine ex_iconst (v := 1) dX12_lastLoud_20 (by decide) ?_
        refine ex_iadd dX12_lastLoud_21 ?_
        refine ex_goto 26 dX12_lastLoud_22 (by decide) ?_
        refine st_i1 dX12_lastLoud_26 (by first | exact rfl | exact trivial) ?_
        refine inc2 (v := _ + 1) dX12_lastLoud_27 (by rfl) (by first | exact rfl | exact trivial) ?_
        refine ex_goto 4 dX12_lastLoud_30 (by decide) ?_
        simp only [nI_1]
        rw [hc] at ih
        exact ih
  · skip
    refine ex_iload_n dX12_lastLoud_4 rfl ?_
    refine ex_sipush (v := 400) dX12_lastLoud_5 (by decide) ?_
    refine ex_icmp_ge 33 dX12_lastLoud_8 (by decide) (fun h8 => ?_) (fun h8 => ?_)
    · skip
      refine ex_iload_n dX12_lastLoud_33 rfl ?_
      refine ex_iret dX12_lastLoud_34 rfl rfl ⟨rfl, Nat.le_refl _⟩ ?_
      exact ⟨rfl, rfl⟩
    · exact absurd (by decide : nI 400 ≤ nI 400) h8
def f_X12_kindOfRing (I : Im) (k : Int32) (c : Int32) : Int32 × Im :=
  if (b2i (0 ≤ k ∧ k ≤ 3)) = 0 then
    ((-1), I)
  else
    if (b2i (0 ≤ c ∧ c ≤ 15)) = 0 then
      ((-1), I)
    else
      if (I 207 k.toNatClampNeg) = 0 then
        let I4 : Im := meI I 1
        ((-3), I4)
      else
        if c < (I 208 (21 * k).toNatClampNeg) then
          let I1 : Im := lrI I k.toNatClampNeg c.toNatClampNeg
          if (b2i (2 ≤ I1 200 27)) = 0 then
            let I2 : Im := meI I1 4
            ((-3), I2)
          else
            if 300 < (nI (lastL (I1 218) 400)) then
              (1, I1)
            else
              (5, I1)
        else
          let I3 : Im := meI I 2
          ((-3), I3)
set_option maxRecDepth 100000 in
set_option maxHeartbeats 4000000 in
theorem s_X12_kindOfRing  {k : Int32} {c : Int32} (hH : HmS I) : Ca G mdX12_kindOfRing [.ref 200, .int k, .int c] (mk I L t) (Rs (.int (f_X12_kindOfRing I k c).1) (mk ((f_X12_kindOfRing I k c).2) L t)) := by
  refine Ca.intro [some (.ref 200), some (.int k), some (.int c)] (by decide) (Nat.le_of_ble_eq_true rfl) rfl rfl ?_
  refine ex_iload_n dX12_kindOfRing_0 rfl ?_
  refine rx_cS dX12_kindOfRing_1 rfl lk_X12_151 ⟨⟨rfl, rfl⟩, by decide, by decide⟩ rfl (Nat.le_of_ble_eq_true rfl) rfl s_X12_isPlace (Rs.k ?_)
  refine ex_if_eq 17 dX12_kindOfRing_4 (by decide) (fun h4 => ?_) (fun h4 => ?_)
  · skip
    refine ex_iconst (v := (-1)) dX12_kindOfRing_17 (by decide) ?_
    refine ex_iret dX12_kindOfRing_18 rfl rfl ⟨rfl, Nat.le_refl _⟩ ?_
    exact ⟨(by simp only [f_X12_kindOfRing, ↓eq_true h4, if_true, if_false, not_true_eq_false, not_false_eq_true]), (by simp only [f_X12_kindOfRing, ↓eq_true h4, if_true, if_false, not_true_eq_false, not_false_eq_true])⟩
  · have qk := (cl_lt (N := 4) (by decide) h4).1
    have vk := (cl_lt (N := 4) (by decide) h4).2
    refine ex_iload_n dX12_kindOfRing_7 rfl ?_
    refine ex_iconst (v := 0) dX12_kindOfRing_8 (by decide) ?_
    refine ex_bipush (v := 15) dX12_kindOfRing_9 (by decide) ?_
    refine rx_cS dX12_kindOfRing_11 rfl lk_X12_86 ⟨⟨rfl, rfl⟩, by decide, by decide⟩ rfl (Nat.le_of_ble_eq_true rfl) rfl s_X12_in (Rs.k ?_)
    refine ex_if_ne 19 dX12_kindOfRing_14 (by decide) (fun h14 => ?_) (fun h14 => ?_)
    · have qc := (cl_lt (N := 16) (by decide) h14).1
      have vc := (cl_lt (N := 16) (by decide) h14).2
      refine ex_aload_n dX12_kindOfRing_19 rfl ?_
      refine g_12_10 dX12_kindOfRing_20 rfl wf_X12_29 (by first | assumption | rfl) (show Rt _ 200 10 = some 207 from rfl) ?_
      refine ex_iload_n dX12_kindOfRing_23 rfl ?_
      refine rx_zald dX12_kindOfRing_24 (by first | assumption | rfl) (by first | assumption | (unfold vp_in; decide)) ?_
      refine ex_if_ne 34 dX12_kindOfRing_25 (by decide) (fun h25 => ?_) (fun h25 => ?_)
      · skip
        refine ex_iload_n dX12_kindOfRing_34 rfl ?_
        refine ex_aload_n dX12_kindOfRing_35 rfl ?_
        refine g_12_11 dX12_kindOfRing_36 rfl wf_X12_33 (by first | assumption | rfl) (show Rt _ 200 11 = some 208 from rfl) ?_
        refine ex_bipush (v := 21) dX12_kindOfRing_39 (by decide) ?_
        refine ex_iload_n dX12_kindOfRing_41 rfl ?_
        refine ex_imul dX12_kindOfRing_42 ?_
        refine rx_iald dX12_kindOfRing_43 (by first | assumption | rfl) (ixz (C := 21) (R := 4) rfl (by decide) vk (by decide)).1 ?_
        refine ex_icmp_lt 53 dX12_kindOfRing_44 (by decide) (fun h44 => ?_) (fun h44 => ?_)
        · skip
          refine ex_aload_n dX12_kindOfRing_53 rfl ?_
          refine ex_iload_n dX12_kindOfRing_54 rfl ?_
          refine ex_iload_n dX12_kindOfRing_55 rfl ?_
          refine rx_cV (kd := 12) dX12_kindOfRing_56 rfl lk_X12_268 rfl (by decide) (by first | assumption | rfl) ⟨⟨rfl, rfl⟩, by decide, by decide⟩ rfl (Nat.le_of_ble_eq_true rfl) rfl (s_lrG vk vc hH h25) (Rv.k ?_)
          refine ex_aload_n dX12_kindOfRing_59 rfl ?_
          refine rx_cV (kd := 12) dX12_kindOfRing_60 rfl lk_X12_250 rfl (by decide) (by first | assumption | rfl) ⟨⟨rfl, rfl⟩, by decide, by decide⟩ rfl (Nat.le_of_ble_eq_true rfl) rfl s_X12_isBeat (Rs.k ?_)
          refine ex_if_ne 74 dX12_kindOfRing_63 (by decide) (fun h63 => ?_) (fun h63 => ?_)
          · skip
            refine ex_aload_n dX12_kindOfRing_74 rfl ?_
            refine rx_cV (kd := 12) dX12_kindOfRing_75 rfl lk_X12_277 rfl (by decide) (by first | assumption | rfl) ⟨⟨rfl, rfl⟩, by decide, by decide⟩ rfl (Nat.le_of_ble_eq_true rfl) rfl s_X12_lastLoud (Rs.k ?_)
            refine ex_sipush (v := 300) dX12_kindOfRing_78 (by decide) ?_
            refine ex_icmp_gt 88 dX12_kindOfRing_81 (by decide) (fun h81 => ?_) (fun h81 => ?_)
            · skip
              refine ex_iconst (v := 1) dX12_kindOfRing_88 (by decide) ?_
              refine ex_iret dX12_kindOfRing_89 rfl rfl ⟨rfl, Nat.le_refl _⟩ ?_
              exact ⟨(by simp only [f_X12_kindOfRing, ↓eq_false h4, ↓eq_false h14, ↓eq_false h25, ↓h44, ↓eq_false h63, ↓h81, if_true, if_false, not_true_eq_false, not_false_eq_true]), (by simp only [f_X12_kindOfRing, ↓eq_false h4, ↓eq_false h14, ↓eq_false h25, ↓h44, ↓eq_false h63, ↓h81, if_true, if_false, not_true_eq_false, not_false_eq_true])⟩
            · skip
              refine ex_iconst (v := 5) dX12_kindOfRing_84 (by decide) ?_
              refine ex_goto 89 dX12_kindOfRing_85 (by decide) ?_
              refine ex_iret dX12_kindOfRing_89 rfl rfl ⟨rfl, Nat.le_refl _⟩ ?_
              exact ⟨(by simp only [f_X12_kindOfRing, ↓eq_false h4, ↓eq_false h14, ↓eq_false h25, ↓h44, ↓eq_false h63, ↓h81, if_true, if_false, not_true_eq_false, not_false_eq_true]), (by simp only [f_X12_kindOfRing, ↓eq_false h4, ↓eq_false h14, ↓eq_false h25, ↓h44, ↓eq_false h63, ↓h81, if_true, if_false, not_true_eq_false, not_false_eq_true])⟩
          · skip
            refine ex_aload_n dX12_kindOfRing_66 rfl ?_
            refine ex_iconst (v := 4) dX12_kindOfRing_67 (by decide) ?_
            refine rx_cV (kd := 12) dX12_kindOfRing_68 rfl lk_X12_100 rfl (by decide) (by first | assumption | rfl) ⟨⟨rfl, rfl⟩, by decide, by decide⟩ rfl (Nat.le_of_ble_eq_true rfl) rfl (s_X12_meets (by unfold vp_in; decide)) (Rs.k ?_)
            refine ex_goto 89 dX12_kindOfRing_71 (by decide) ?_
            refine ex_iret dX12_kindOfRing_89 rfl rfl ⟨rfl, Nat.le_refl _⟩ ?_
            exact ⟨(by simp only [f_X12_kindOfRing, ↓eq_false h4, ↓eq_false h14, ↓eq_false h25, ↓h44, ↓eq_true h63, if_true, if_false, not_true_eq_false, not_false_eq_true]), (by simp only [f_X12_kindOfRing, ↓eq_false h4, ↓eq_false h14, ↓eq_false h25, ↓h44, ↓eq_true h63, if_true, if_false, not_true_eq_false, not_false_eq_true])⟩
        · skip
          refine ex_aload_n dX12_kindOfRing_47 rfl ?_
          refine ex_iconst (v := 2) dX12_kindOfRing_48 (by decide) ?_
          refine rx_cV (kd := 12) dX12_kindOfRing_49 rfl lk_X12_100 rfl (by decide) (by first | assumption | rfl) ⟨⟨rfl, rfl⟩, by decide, by decide⟩ rfl (Nat.le_of_ble_eq_true rfl) rfl (s_X12_meets (by unfold vp_in; decide)) (Rs.k ?_)
          refine ex_iret dX12_kindOfRing_52 rfl rfl ⟨rfl, Nat.le_refl _⟩ ?_
          exact ⟨(by simp only [f_X12_kindOfRing, ↓eq_false h4, ↓eq_false h14, ↓eq_false h25, ↓h44, if_true, if_false, not_true_eq_false, not_false_eq_true]), (by simp only [f_X12_kindOfRing, ↓eq_false h4, ↓eq_false h14, ↓eq_false h25, ↓h44, if_true, if_false, not_true_eq_false, not_false_eq_true])⟩
      · skip
        refine ex_aload_n dX12_kindOfRing_28 rfl ?_
        refine ex_iconst (v := 1) dX12_kindOfRing_29 (by decide) ?_
        refine rx_cV (kd := 12) dX12_kindOfRing_30 rfl lk_X12_100 rfl (by decide) (by first | assumption | rfl) ⟨⟨rfl, rfl⟩, by decide, by decide⟩ rfl (Nat.le_of_ble_eq_true rfl) rfl (s_X12_meets (by unfold vp_in; decide)) (Rs.k ?_)
        refine ex_iret dX12_kindOfRing_33 rfl rfl ⟨rfl, Nat.le_refl _⟩ ?_
        exact ⟨(by simp only [f_X12_kindOfRing, ↓eq_false h4, ↓eq_false h14, ↓eq_true h25, if_true, if_false, not_true_eq_false, not_false_eq_true]), (by simp only [f_X12_kindOfRing, ↓eq_false h4, ↓eq_false h14, ↓eq_true h25, if_true, if_false, not_true_eq_false, not_false_eq_true])⟩
    · skip
      refine ex_iconst (v := (-1)) dX12_kindOfRing_17 (by decide) ?_
      refine ex_iret dX12_kindOfRing_18 rfl rfl ⟨rfl, Nat.le_refl _⟩ ?_
      exact ⟨(by simp only [f_X12_kindOfRing, ↓eq_false h4, ↓eq_true h14, if_true, if_false, not_true_eq_false, not_false_eq_true]), (by simp only [f_X12_kindOfRing, ↓eq_false h4, ↓eq_true h14, if_true, if_false, not_true_eq_false, not_false_eq_true])⟩
theorem mo_in {x : Int32} (vx : vp_in x 4) (hH : HmS I) (hx : ¬ I 207 x.toNatClampNeg = 0) : vp_in (I 208 (21 * x + 1).toNatClampNeg) 16 := by
  rw [(ixm (c := 21) (C := 21) (R := 4) rfl vx (i := 1) (by unfold vp_in; decide) (by decide)).2]
  obtain ⟨n, mo, h3, hn, hm, e0, e1⟩ := hH _ (vpn vx).1 hx
  rw [show I 208 (21 * x.toNatClampNeg + (1 : Int32).toNatClampNeg) = nI mo from e1]
  exact vp_in_nI (by omega) (by decide)
def f_X12_kindOfSet (I : Im) (z : Int32) (i : Int32) (k : Int32) : Int32 × Im :=
  if (b2i (0 ≤ z ∧ z ≤ 3)) = 0 then
    ((-1), I)
  else
    if (b2i (0 ≤ k ∧ k ≤ 3)) = 0 then
      ((-1), I)
    else
      if (I 209 z.toNatClampNeg) = 0 then
        let I1 : Im := meI I 1
        ((-3), I1)
      else
        if (I 207 k.toNatClampNeg) = 0 then
          let I4 : Im := meI I 1
          ((-3), I4)
        else
          if (b2i (0 ≤ i ∧ i ≤ ((I 210 z.toNatClampNeg) - 1))) = 0 then
            let I3 : Im := meI I 2
            ((-3), I3)
          else
            let I2 : Im := lrI I k.toNatClampNeg (I 208 ((21 * k) + 1).toNatClampNeg).toNatClampNeg
            if (b2i (2 ≤ I2 200 27)) = 0 then
              (2, I2)
            else
              if 2 < ((if (I2 211 ((8 * z) + (2 * i)).toNatClampNeg) < ((I2 200 29 - I2 200 28) / (I2 200 27 - 1)) then ((I2 200 29 - I2 200 28) / (I2 200 27 - 1)) - (I2 211 ((8 * z) + (2 * i)).toNatClampNeg) else (I2 211 ((8 * z) + (2 * i)).toNatClampNeg) - ((I2 200 29 - I2 200 28) / (I2 200 27 - 1)))) then
                (2, I2)
              else
                (4, I2)
set_option maxRecDepth 100000 in
set_option maxHeartbeats 4000000 in
theorem s_X12_kindOfSet  {z : Int32} {i : Int32} {k : Int32} (hH : HmS I) (hSm : SmS I) : Ca G mdX12_kindOfSet [.ref 200, .int z, .int i, .int k] (mk I L t) (Rs (.int (f_X12_kindOfSet I z i k).1) (mk ((f_X12_kindOfSet I z i k).2) L t)) := by
  refine Ca.intro [some (.ref 200), some (.int z), some (.int i), some (.int k)] (by decide) (Nat.le_of_ble_eq_true rfl) rfl rfl ?_
  refine ex_iload_n dX12_kindOfSet_0 rfl ?_
  refine rx_cS dX12_kindOfSet_1 rfl lk_X12_151 ⟨⟨rfl, rfl⟩, by decide, by decide⟩ rfl (Nat.le_of_ble_eq_true rfl) rfl s_X12_isPlace (Rs.k ?_)
  refine ex_if_eq 14 dX12_kindOfSet_4 (by decide) (fun h4 => ?_) (fun h4 => ?_)
  · skip
    refine ex_iconst (v := (-1)) dX12_kindOfSet_14 (by decide) ?_
    refine ex_iret dX12_kindOfSet_15 rfl rfl ⟨rfl, Nat.le_refl _⟩ ?_
    exact ⟨(by simp only [f_X12_kindOfSet, ↓eq_true h4, if_true, if_false, not_true_eq_false, not_false_eq_true]), (by simp only [f_X12_kindOfSet, ↓eq_true h4, if_true, if_false, not_true_eq_false, not_false_eq_true])⟩
  · have qz := (cl_lt (N := 4) (by decide) h4).1
    have vz := (cl_lt (N := 4) (by decide) h4).2
    refine ex_iload_n dX12_kindOfSet_7 rfl ?_
    refine rx_cS dX12_kindOfSet_8 rfl lk_X12_151 ⟨⟨rfl, rfl⟩, by decide, by decide⟩ rfl (Nat.le_of_ble_eq_true rfl) rfl s_X12_isPlace (Rs.k ?_)
    refine ex_if_ne 16 dX12_kindOfSet_11 (by decide) (fun h11 => ?_) (fun h11 => ?_)
    · have qk := (cl_lt (N := 4) (by decide) h11).1
      have vk := (cl_lt (N := 4) (by decide) h11).2
      refine ex_aload_n dX12_kindOfSet_16 rfl ?_
      refine g_12_12 dX12_kindOfSet_17 rfl wf_X12_36 (by first | assumption | rfl) (show Rt _ 200 12 = some 209 from rfl) ?_
      refine ex_iload_n dX12_kindOfSet_20 rfl ?_
      refine rx_zald dX12_kindOfSet_21 (by first | assumption | rfl) (by first | assumption | (unfold vp_in; decide)) ?_
      refine ex_if_eq 34 dX12_kindOfSet_22 (by decide) (fun h22 => ?_) (fun h22 => ?_)
      · skip
        refine ex_aload_n dX12_kindOfSet_34 rfl ?_
        refine ex_iconst (v := 1) dX12_kindOfSet_35 (by decide) ?_
        refine rx_cV (kd := 12) dX12_kindOfSet_36 rfl lk_X12_100 rfl (by decide) (by first | assumption | rfl) ⟨⟨rfl, rfl⟩, by decide, by decide⟩ rfl (Nat.le_of_ble_eq_true rfl) rfl (s_X12_meets (by unfold vp_in; decide)) (Rs.k ?_)
        refine ex_iret dX12_kindOfSet_39 rfl rfl ⟨rfl, Nat.le_refl _⟩ ?_
        exact ⟨(by simp only [f_X12_kindOfSet, ↓eq_false h4, ↓eq_false h11, ↓eq_true h22, if_true, if_false, not_true_eq_false, not_false_eq_true]), (by simp only [f_X12_kindOfSet, ↓eq_false h4, ↓eq_false h11, ↓eq_true h22, if_true, if_false, not_true_eq_false, not_false_eq_true])⟩
      · skip
        refine ex_aload_n dX12_kindOfSet_25 rfl ?_
        refine g_12_10 dX12_kindOfSet_26 rfl wf_X12_29 (by first | assumption | rfl) (show Rt _ 200 10 = some 207 from rfl) ?_
        refine ex_iload_n dX12_kindOfSet_29 rfl ?_
        refine rx_zald dX12_kindOfSet_30 (by first | assumption | rfl) (by first | assumption | (unfold vp_in; decide)) ?_
        refine ex_if_ne 40 dX12_kindOfSet_31 (by decide) (fun h31 => ?_) (fun h31 => ?_)
        · skip
          refine ex_iload_n dX12_kindOfSet_40 rfl ?_
          refine ex_iconst (v := 0) dX12_kindOfSet_41 (by decide) ?_
          refine ex_aload_n dX12_kindOfSet_42 rfl ?_
          refine g_12_13 dX12_kindOfSet_43 rfl wf_X12_39 (by first | assumption | rfl) (show Rt _ 200 13 = some 210 from rfl) ?_
          refine ex_iload_n dX12_kindOfSet_46 rfl ?_
          refine rx_iald dX12_kindOfSet_47 (by first | assumption | rfl) (by first | assumption | (unfold vp_in; decide)) ?_
          refine ex_iconst (v := 1) dX12_kindOfSet_48 (by decide) ?_
          refine ex_isub dX12_kindOfSet_49 ?_
          refine rx_cS dX12_kindOfSet_50 rfl lk_X12_86 ⟨⟨rfl, rfl⟩, by decide, by decide⟩ rfl (Nat.le_of_ble_eq_true rfl) rfl s_X12_in (Rs.k ?_)
          refine ex_if_ne 62 dX12_kindOfSet_53 (by decide) (fun h53 => ?_) (fun h53 => ?_)
          · have vi := in_s (N := 4) (by decide) (Or.inr (hSm _ qz)) h53
            refine ex_aload_n dX12_kindOfSet_62 rfl ?_
            refine ex_iload_n dX12_kindOfSet_63 rfl ?_
            refine ex_aload_n dX12_kindOfSet_64 rfl ?_
            refine g_12_11 dX12_kindOfSet_65 rfl wf_X12_33 (by first | assumption | rfl) (show Rt _ 200 11 = some 208 from rfl) ?_
            refine ex_bipush (v := 21) dX12_kindOfSet_68 (by decide) ?_
            refine ex_iload_n dX12_kindOfSet_70 rfl ?_
            refine ex_imul dX12_kindOfSet_71 ?_
            refine ex_iconst (v := 1) dX12_kindOfSet_72 (by decide) ?_
            refine ex_iadd dX12_kindOfSet_73 ?_
            refine rx_iald dX12_kindOfSet_74 (by first | assumption | rfl) (ixm (c := 21) (C := 21) (R := 4) rfl vk (i := 1) (by unfold vp_in; decide) (by decide)).1 ?_
            refine rx_cV (kd := 12) dX12_kindOfSet_75 rfl lk_X12_268 rfl (by decide) (by first | assumption | rfl) ⟨⟨rfl, rfl⟩, by decide, by decide⟩ rfl (Nat.le_of_ble_eq_true rfl) rfl (s_lrG vk (mo_in vk hH h31) hH h31) (Rv.k ?_)
            refine ex_aload_n dX12_kindOfSet_78 rfl ?_
            refine rx_cV (kd := 12) dX12_kindOfSet_79 rfl lk_X12_250 rfl (by decide) (by first | assumption | rfl) ⟨⟨rfl, rfl⟩, by decide, by decide⟩ rfl (Nat.le_of_ble_eq_true rfl) rfl s_X12_isBeat (Rs.k ?_)
            refine ex_if_eq 113 dX12_kindOfSet_82 (by decide) (fun h82 => ?_) (fun h82 => ?_)
            · skip
              refine ex_iconst (v := 2) dX12_kindOfSet_113 (by decide) ?_
              refine ex_iret dX12_kindOfSet_114 rfl rfl ⟨rfl, Nat.le_refl _⟩ ?_
              exact ⟨(by simp only [f_X12_kindOfSet, ↓eq_false h4, ↓eq_false h11, ↓eq_false h22, ↓eq_false h31, ↓eq_false h53, ↓eq_true h82, if_true, if_false, not_true_eq_false, not_false_eq_true]), (by simp only [f_X12_kindOfSet, ↓eq_false h4, ↓eq_false h11, ↓eq_false h22, ↓eq_false h31, ↓eq_false h53, ↓eq_true h82, if_true, if_false, not_true_eq_false, not_false_eq_true])⟩
            · skip
              refine ex_aload_n dX12_kindOfSet_85 rfl ?_
              refine g_12_14 dX12_kindOfSet_86 rfl wf_X12_42 (by first | assumption | rfl) (show Rt _ 200 14 = some 211 from rfl) ?_
              refine ex_bipush (v := 8) dX12_kindOfSet_89 (by decide) ?_
              refine ex_iload_n dX12_kindOfSet_91 rfl ?_
              refine ex_imul dX12_kindOfSet_92 ?_
              refine ex_iconst (v := 2) dX12_kindOfSet_93 (by decide) ?_
              refine ex_iload_n dX12_kindOfSet_94 rfl ?_
              refine ex_imul dX12_kindOfSet_95 ?_
              refine ex_iadd dX12_kindOfSet_96 ?_
              refine rx_iald dX12_kindOfSet_97 (by first | assumption | rfl) (ix8 vz vi).1 ?_
              refine ex_aload_n dX12_kindOfSet_98 rfl ?_
              refine rx_cV (kd := 12) dX12_kindOfSet_99 rfl lk_X12_280 rfl (by decide) (by first | assumption | rfl) ⟨⟨rfl, rfl⟩, by decide, by decide⟩ rfl (Nat.le_of_ble_eq_true rfl) rfl (s_X12_beatCut lr_G (b2i_n0.mp h82)) (Rs.k ?_)
              refine rx_cS dX12_kindOfSet_102 rfl lk_X12_283 ⟨⟨rfl, rfl⟩, by decide, by decide⟩ rfl (Nat.le_of_ble_eq_true rfl) rfl s_X12_far (Rs.k ?_)
              refine ex_iconst (v := 2) dX12_kindOfSet_105 (by decide) ?_
              refine ex_icmp_gt 113 dX12_kindOfSet_106 (by decide) (fun h106 => ?_) (fun h106 => ?_)
              · skip
                refine ex_iconst (v := 2) dX12_kindOfSet_113 (by decide) ?_
                refine ex_iret dX12_kindOfSet_114 rfl rfl ⟨rfl, Nat.le_refl _⟩ ?_
                exact ⟨(by simp only [f_X12_kindOfSet, ↓eq_false h4, ↓eq_false h11, ↓eq_false h22, ↓eq_false h31, ↓eq_false h53, ↓eq_false h82, ↓h106, if_true, if_false, not_true_eq_false, not_false_eq_true]), (by simp only [f_X12_kindOfSet, ↓eq_false h4, ↓eq_false h11, ↓eq_false h22, ↓eq_false h31, ↓eq_false h53, ↓eq_false h82, ↓h106, if_true, if_false, not_true_eq_false, not_false_eq_true])⟩
              · skip
                refine ex_iconst (v := 4) dX12_kindOfSet_109 (by decide) ?_
                refine ex_goto 114 dX12_kindOfSet_110 (by decide) ?_
                refine ex_iret dX12_kindOfSet_114 rfl rfl ⟨rfl, Nat.le_refl _⟩ ?_
                exact ⟨(by simp only [f_X12_kindOfSet, ↓eq_false h4, ↓eq_false h11, ↓eq_false h22, ↓eq_false h31, ↓eq_false h53, ↓eq_false h82, ↓h106, if_true, if_false, not_true_eq_false, not_false_eq_true]), (by simp only [f_X12_kindOfSet, ↓eq_false h4, ↓eq_false h11, ↓eq_false h22, ↓eq_false h31, ↓eq_false h53, ↓eq_false h82, ↓h106, if_true, if_false, not_true_eq_false, not_false_eq_true])⟩
          · skip
            refine ex_aload_n dX12_kindOfSet_56 rfl ?_
            refine ex_iconst (v := 2) dX12_kindOfSet_57 (by decide) ?_
            refine rx_cV (kd := 12) dX12_kindOfSet_58 rfl lk_X12_100 rfl (by decide) (by first | assumption | rfl) ⟨⟨rfl, rfl⟩, by decide, by decide⟩ rfl (Nat.le_of_ble_eq_true rfl) rfl (s_X12_meets (by unfold vp_in; decide)) (Rs.k ?_)
            refine ex_iret dX12_kindOfSet_61 rfl rfl ⟨rfl, Nat.le_refl _⟩ ?_
            exact ⟨(by simp only [f_X12_kindOfSet, ↓eq_false h4, ↓eq_false h11, ↓eq_false h22, ↓eq_false h31, ↓eq_true h53, if_true, if_false, not_true_eq_false, not_false_eq_true]), (by simp only [f_X12_kindOfSet, ↓eq_false h4, ↓eq_false h11, ↓eq_false h22, ↓eq_false h31, ↓eq_true h53, if_true, if_false, not_true_eq_false, not_false_eq_true])⟩
        · skip
          refine ex_aload_n dX12_kindOfSet_34 rfl ?_
          refine ex_iconst (v := 1) dX12_kindOfSet_35 (by decide) ?_
          refine rx_cV (kd := 12) dX12_kindOfSet_36 rfl lk_X12_100 rfl (by decide) (by first | assumption | rfl) ⟨⟨rfl, rfl⟩, by decide, by decide⟩ rfl (Nat.le_of_ble_eq_true rfl) rfl (s_X12_meets (by unfold vp_in; decide)) (Rs.k ?_)
          refine ex_iret dX12_kindOfSet_39 rfl rfl ⟨rfl, Nat.le_refl _⟩ ?_
          exact ⟨(by simp only [f_X12_kindOfSet, ↓eq_false h4, ↓eq_false h11, ↓eq_false h22, ↓eq_true h31, if_true, if_false, not_true_eq_false, not_false_eq_true]), (by simp only [f_X12_kindOfSet, ↓eq_false h4, ↓eq_false h11, ↓eq_false h22, ↓eq_true h31, if_true, if_false, not_true_eq_false, not_false_eq_true])⟩
    · skip
      refine ex_iconst (v := (-1)) dX12_kindOfSet_14 (by decide) ?_
      refine ex_iret dX12_kindOfSet_15 rfl rfl ⟨rfl, Nat.le_refl _⟩ ?_
      exact ⟨(by simp only [f_X12_kindOfSet, ↓eq_false h4, ↓eq_true h11, if_true, if_false, not_true_eq_false, not_false_eq_true]), (by simp only [f_X12_kindOfSet, ↓eq_false h4, ↓eq_true h11, if_true, if_false, not_true_eq_false, not_false_eq_true])⟩
def f_X12_kindOfRoll (I : Im) (s : Int32) : Int32 × Im :=
  if (b2i (0 ≤ s ∧ s ≤ 2)) = 0 then
    ((-1), I)
  else
    if (I 214 s.toNatClampNeg) = 0 then
      ((-4), I)
    else
      let I1 : Im := loI I s.toNatClampNeg
      if (b2i (2 ≤ I1 200 27)) = 0 then
        let I2 : Im := meI I1 4
        ((-3), I2)
      else
        (3, I1)
set_option maxRecDepth 100000 in
set_option maxHeartbeats 4000000 in
theorem s_X12_kindOfRoll  {s : Int32} (hS : SpS I) : Ca G mdX12_kindOfRoll [.ref 200, .int s] (mk I L t) (Rs (.int (f_X12_kindOfRoll I s).1) (mk ((f_X12_kindOfRoll I s).2) L t)) := by
  refine Ca.intro [some (.ref 200), some (.int s)] (by decide) (Nat.le_of_ble_eq_true rfl) rfl rfl ?_
  refine ex_iload_n dX12_kindOfRoll_0 rfl ?_
  refine rx_cS dX12_kindOfRoll_1 rfl lk_X12_154 ⟨⟨rfl, rfl⟩, by decide, by decide⟩ rfl (Nat.le_of_ble_eq_true rfl) rfl s_X12_isShipTold (Rs.k ?_)
  refine ex_if_ne 9 dX12_kindOfRoll_4 (by decide) (fun h4 => ?_) (fun h4 => ?_)
  · have qs := (cl_lt (N := 3) (by decide) h4).1
    have vs := (cl_lt (N := 3) (by decide) h4).2
    refine ex_aload_n dX12_kindOfRoll_9 rfl ?_
    refine g_12_20 dX12_kindOfRoll_10 rfl wf_X12_51 (by first | assumption | rfl) (show Rt _ 200 20 = some 214 from rfl) ?_
    refine ex_iload_n dX12_kindOfRoll_13 rfl ?_
    refine rx_zald dX12_kindOfRoll_14 (by first | assumption | rfl) (by first | assumption | (unfold vp_in; decide)) ?_
    refine ex_if_ne 21 dX12_kindOfRoll_15 (by decide) (fun h15 => ?_) (fun h15 => ?_)
    · skip
      refine ex_aload_n dX12_kindOfRoll_21 rfl ?_
      refine ex_iload_n dX12_kindOfRoll_22 rfl ?_
      refine rx_cV (kd := 12) dX12_kindOfRoll_23 rfl lk_X12_271 rfl (by decide) (by first | assumption | rfl) ⟨⟨rfl, rfl⟩, by decide, by decide⟩ rfl (Nat.le_of_ble_eq_true rfl) rfl (s_loG vs hS h15) (Rv.k ?_)
      refine ex_aload_n dX12_kindOfRoll_26 rfl ?_
      refine rx_cV (kd := 12) dX12_kindOfRoll_27 rfl lk_X12_250 rfl (by decide) (by first | assumption | rfl) ⟨⟨rfl, rfl⟩, by decide, by decide⟩ rfl (Nat.le_of_ble_eq_true rfl) rfl s_X12_isBeat (Rs.k ?_)
      refine ex_if_eq 37 dX12_kindOfRoll_30 (by decide) (fun h30 => ?_) (fun h30 => ?_)
      · skip
        refine ex_aload_n dX12_kindOfRoll_37 rfl ?_
        refine ex_iconst (v := 4) dX12_kindOfRoll_38 (by decide) ?_
        refine rx_cV (kd := 12) dX12_kindOfRoll_39 rfl lk_X12_100 rfl (by decide) (by first | assumption | rfl) ⟨⟨rfl, rfl⟩, by decide, by decide⟩ rfl (Nat.le_of_ble_eq_true rfl) rfl (s_X12_meets (by unfold vp_in; decide)) (Rs.k ?_)
        refine ex_iret dX12_kindOfRoll_42 rfl rfl ⟨rfl, Nat.le_refl _⟩ ?_
        exact ⟨(by simp only [f_X12_kindOfRoll, ↓eq_false h4, ↓eq_false h15, ↓eq_true h30, if_true, if_false, not_true_eq_false, not_false_eq_true]), (by simp only [f_X12_kindOfRoll, ↓eq_false h4, ↓eq_false h15, ↓eq_true h30, if_true, if_false, not_true_eq_false, not_false_eq_true])⟩
      · skip
        refine ex_iconst (v := 3) dX12_kindOfRoll_33 (by decide) ?_
        refine ex_goto 42 dX12_kindOfRoll_34 (by decide) ?_
        refine ex_iret dX12_kindOfRoll_42 rfl rfl ⟨rfl, Nat.le_refl _⟩ ?_
        exact ⟨(by simp only [f_X12_kindOfRoll, ↓eq_false h4, ↓eq_false h15, ↓eq_false h30, if_true, if_false, not_true_eq_false, not_false_eq_true]), (by simp only [f_X12_kindOfRoll, ↓eq_false h4, ↓eq_false h15, ↓eq_false h30, if_true, if_false, not_true_eq_false, not_false_eq_true])⟩
    · skip
      refine ex_bipush (v := (-4)) dX12_kindOfRoll_18 (by decide) ?_
      refine ex_iret dX12_kindOfRoll_20 rfl rfl ⟨rfl, Nat.le_refl _⟩ ?_
      exact ⟨(by simp only [f_X12_kindOfRoll, ↓eq_false h4, ↓eq_true h15, if_true, if_false, not_true_eq_false, not_false_eq_true]), (by simp only [f_X12_kindOfRoll, ↓eq_false h4, ↓eq_true h15, if_true, if_false, not_true_eq_false, not_false_eq_true])⟩
  · skip
    refine ex_iconst (v := (-1)) dX12_kindOfRoll_7 (by decide) ?_
    refine ex_iret dX12_kindOfRoll_8 rfl rfl ⟨rfl, Nat.le_refl _⟩ ?_
    exact ⟨(by simp only [f_X12_kindOfRoll, ↓eq_true h4, if_true, if_false, not_true_eq_false, not_false_eq_true]), (by simp only [f_X12_kindOfRoll, ↓eq_true h4, if_true, if_false, not_true_eq_false, not_false_eq_true])⟩
def f_X12_kindOf (I : Im) (w : Int32) (a : Int32) (i : Int32) (c : Int32) : Int32 × Im :=
  if w = 0 then
    let I3 : Im := (f_X12_kindOfRing I a i).2
    ((f_X12_kindOfRing I a i).1, I3)
  else
    if w = 1 then
      let I2 : Im := (f_X12_kindOfSet I a i c).2
      ((f_X12_kindOfSet I a i c).1, I2)
    else
      if w = 2 then
        let I1 : Im := (f_X12_kindOfRoll I a).2
        ((f_X12_kindOfRoll I a).1, I1)
      else
        ((-1), I)
set_option maxRecDepth 100000 in
set_option maxHeartbeats 4000000 in
theorem s_X12_kindOf  {w : Int32} {a : Int32} {i : Int32} {c : Int32} (hH : HmS I) (hSm : SmS I) (hS : SpS I) : Ca G mdX12_kindOf [.ref 200, .int w, .int a, .int i, .int c] (mk I L t) (Rs (.int (f_X12_kindOf I w a i c).1) (mk ((f_X12_kindOf I w a i c).2) L t)) := by
  refine Ca.intro [some (.ref 200), some (.int w), some (.int a), some (.int i), some (.int c)] (by decide) (Nat.le_of_ble_eq_true rfl) rfl rfl ?_
  refine ex_iload_n dX12_kindOf_0 rfl ?_
  refine ex_if_ne 13 dX12_kindOf_1 (by decide) (fun h1 => ?_) (fun h1 => ?_)
  · skip
    refine ex_iload_n dX12_kindOf_13 rfl ?_
    refine ex_iconst (v := 1) dX12_kindOf_14 (by decide) ?_
    refine ex_icmp_ne 29 dX12_kindOf_15 (by decide) (fun h15 => ?_) (fun h15 => ?_)
    · skip
      refine ex_iload_n dX12_kindOf_29 rfl ?_
      refine ex_iconst (v := 2) dX12_kindOf_30 (by decide) ?_
      refine ex_icmp_ne 42 dX12_kindOf_31 (by decide) (fun h31 => ?_) (fun h31 => ?_)
      · skip
        refine ex_iconst (v := (-1)) dX12_kindOf_42 (by decide) ?_
        refine ex_iret dX12_kindOf_43 rfl rfl ⟨rfl, Nat.le_refl _⟩ ?_
        exact ⟨(by simp only [f_X12_kindOf, ↓eq_false h1, ↓eq_false h15, ↓eq_false h31, if_true, if_false, not_true_eq_false, not_false_eq_true]), (by simp only [f_X12_kindOf, ↓eq_false h1, ↓eq_false h15, ↓eq_false h31, if_true, if_false, not_true_eq_false, not_false_eq_true])⟩
      · skip
        refine ex_aload_n dX12_kindOf_34 rfl ?_
        refine ex_iload_n dX12_kindOf_35 rfl ?_
        refine rx_cV (kd := 12) dX12_kindOf_36 rfl lk_X12_292 rfl (by decide) (by first | assumption | rfl) ⟨⟨rfl, rfl⟩, by decide, by decide⟩ rfl (Nat.le_of_ble_eq_true rfl) rfl (s_X12_kindOfRoll hS) (Rs.k ?_)
        refine ex_goto 43 dX12_kindOf_39 (by decide) ?_
        refine ex_iret dX12_kindOf_43 rfl rfl ⟨rfl, Nat.le_refl _⟩ ?_
        exact ⟨(by simp only [f_X12_kindOf, ↓eq_false h1, ↓eq_false h15, ↓eq_true h31, if_true, if_false, not_true_eq_false, not_false_eq_true]), (by simp only [f_X12_kindOf, ↓eq_false h1, ↓eq_false h15, ↓eq_true h31, if_true, if_false, not_true_eq_false, not_false_eq_true])⟩
    · skip
      refine ex_aload_n dX12_kindOf_18 rfl ?_
      refine ex_iload_n dX12_kindOf_19 rfl ?_
      refine ex_iload_n dX12_kindOf_20 rfl ?_
      refine ex_iload dX12_kindOf_21 rfl ?_
      refine rx_cV (kd := 12) dX12_kindOf_23 rfl lk_X12_289 rfl (by decide) (by first | assumption | rfl) ⟨⟨rfl, rfl⟩, by decide, by decide⟩ rfl (Nat.le_of_ble_eq_true rfl) rfl (s_X12_kindOfSet hH hSm) (Rs.k ?_)
      refine ex_goto 43 dX12_kindOf_26 (by decide) ?_
      refine ex_iret dX12_kindOf_43 rfl rfl ⟨rfl, Nat.le_refl _⟩ ?_
      exact ⟨(by simp only [f_X12_kindOf, ↓eq_false h1, ↓eq_true h15, if_true, if_false, not_true_eq_false, not_false_eq_true]), (by simp only [f_X12_kindOf, ↓eq_false h1, ↓eq_true h15, if_true, if_false, not_true_eq_false, not_false_eq_true])⟩
  · skip
    refine ex_aload_n dX12_kindOf_4 rfl ?_
    refine ex_iload_n dX12_kindOf_5 rfl ?_
    refine ex_iload_n dX12_kindOf_6 rfl ?_
    refine rx_cV (kd := 12) dX12_kindOf_7 rfl lk_X12_286 rfl (by decide) (by first | assumption | rfl) ⟨⟨rfl, rfl⟩, by decide, by decide⟩ rfl (Nat.le_of_ble_eq_true rfl) rfl (s_X12_kindOfRing hH) (Rs.k ?_)
    refine ex_goto 43 dX12_kindOf_10 (by decide) ?_
    refine ex_iret dX12_kindOf_43 rfl rfl ⟨rfl, Nat.le_refl _⟩ ?_
    exact ⟨(by simp only [f_X12_kindOf, ↓eq_true h1, if_true, if_false, not_true_eq_false, not_false_eq_true]), (by simp only [f_X12_kindOf, ↓eq_true h1, if_true, if_false, not_true_eq_false, not_false_eq_true])⟩
def f_X12_kind (I : Im) (w : Int32) (a : Int32) (i : Int32) (c : Int32) : Int32 × Im :=
  let I1 : Im := (f_X12_kindOf I w a i c).2
  ((f_X12_kindOf I w a i c).1, I1)
set_option maxRecDepth 100000 in
set_option maxHeartbeats 4000000 in
theorem s_X12_kind  {w : Int32} {a : Int32} {i : Int32} {c : Int32} (hH : HmS I) (hSm : SmS I) (hS : SpS I) : Ca G mdX12_kind [.ref 200, .int w, .int a, .int i, .int c] (mk I L t) (Rs (.int (f_X12_kind I w a i c).1) (mk ((f_X12_kind I w a i c).2) L t)) := by
  refine Ca.intro [some (.ref 200), some (.int w), some (.int a), some (.int i), some (.int c)] (by decide) (Nat.le_of_ble_eq_true rfl) rfl rfl ?_
  refine ex_aload_n dX12_kind_0 rfl ?_
  refine ex_iload_n dX12_kind_1 rfl ?_
  refine ex_iload_n dX12_kind_2 rfl ?_
  refine ex_iload_n dX12_kind_3 rfl ?_
  refine ex_iload dX12_kind_4 rfl ?_
  refine rx_cV (kd := 12) dX12_kind_6 rfl lk_X12_295 rfl (by decide) (by first | assumption | rfl) ⟨⟨rfl, rfl⟩, by decide, by decide⟩ rfl (Nat.le_of_ble_eq_true rfl) rfl (s_X12_kindOf hH hSm hS) (Rs.k ?_)
  refine ex_iret dX12_kind_9 rfl rfl ⟨rfl, Nat.le_refl _⟩ ?_
  exact ⟨(by simp only [f_X12_kind, if_true, if_false, not_true_eq_false, not_false_eq_true]), (by simp only [f_X12_kind, if_true, if_false, not_true_eq_false, not_false_eq_true])⟩
end M13
