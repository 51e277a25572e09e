section M8
variable {G : Gp} {I : Im} {L : Nat → Nat → Int64} {t : Nat}
def upn (N : Nat → Int32) (p : Nat) (y : Int32) : Nat → Int32 := fun q => if q = p then y else N q
theorem upn_s {N : Nat → Int32} {p : Nat} {y : Int32} : upn N p y p = y := if_pos rfl
theorem upn_n {N : Nat → Int32} {p q : Nat} {y : Int32} (h : q ≠ p) : upn N p y q = N q := if_neg h
def wnd (N : Nat → Int32) (o k : Nat) (g : Nat → Int32) : Nat → Int32 := fun p => if o ≤ p ∧ p < o + k then g (p - o) else N p
theorem wnd_0 {N g : Nat → Int32} {o : Nat} : wnd N o 0 g = N := by
  funext p
  exact if_neg (by omega)
theorem wnd_s {N g : Nat → Int32} {o k : Nat} : upn (wnd N o k g) (o + k) (g k) = wnd N o (k + 1) g := by
  funext p
  unfold upn wnd
  by_cases h : p = o + k
  · rw [if_pos h, if_pos (by omega), h, Nat.add_sub_cancel_left]
  · rw [if_neg h]
    by_cases h2 : o ≤ p ∧ p < o + k
    · rw [if_pos h2, if_pos (by omega)]
    · rw [if_neg h2, if_neg (by omega)]
theorem wnd_out {N g : Nat → Int32} {o k p : Nat} (h : p < o ∨ o + k ≤ p) : wnd N o k g p = N p := if_neg (by omega)
theorem wnd_in {N g : Nat → Int32} {o k j : Nat} (h : j < k) : wnd N o k g (o + j) = g j := by
  unfold wnd
  rw [if_pos (by omega), Nat.add_sub_cancel_left]
def nw (I : Im) (B : Nat) (N : Nat → Int32) : Im := flw I 217 B 125 N
theorem nw_off {B e : Nat} {N : Nat → Int32} (h : e ≠ 217) : nw I B N e = I e := flw_off h
theorem nw_in {B p : Nat} {N : Nat → Int32} (h : p < 125) : nw I B N 217 (B + p) = N p := flw_in h
theorem nw_up {B p : Nat} {N : Nat → Int32} {y : Int32} (hp : p < 125) : up2 (nw I B N) 217 (B + p) y = nw I B (upn N p y) := by
  funext e j
  unfold nw up2 flw upn
  by_cases h : e = 217 ∧ j = B + p
  · rw [if_pos h, if_pos (by omega), if_pos (by omega)]
  · rw [if_neg h]
    by_cases h2 : e = 217 ∧ B ≤ j ∧ j < B + 125
    · rw [if_pos h2, if_pos h2, if_neg (by omega)]
    · rw [if_neg h2, if_neg h2]
theorem nw_id {B : Nat} : nw I B (fun p => I 217 (B + p)) = I := by
  funext e j
  unfold nw flw
  split
  · next h =>
    obtain ⟨rfl, h1, h2⟩ := h
    show I 217 (B + (j - B)) = I 217 j
    rw [Nat.add_sub_cancel' h1]
  · rfl
theorem nw_nw {B : Nat} {N M : Nat → Int32} : nw (nw I B N) B M = nw I B M := by
  funext e j
  unfold nw flw
  split
  · rfl
  · rfl
theorem nw_ext {B : Nat} {N M : Nat → Int32} (h : ∀ p, p < 125 → N p = M p) : nw I B N = nw I B M := by
  funext e j
  unfold nw flw
  split
  · next q => exact h _ (by omega)
  · rfl
set_option maxRecDepth 100000 in
set_option maxHeartbeats 4000000 in
theorem s_X12_v {B p : Nat} {N : Nat → Int32} {x : Int32} (hx : x = nI p) (hp : p < 125) (hb : I 200 24 = nI B) (hB : B ≤ 500) : Ca G mdX12_v [.ref 200, .int x] (mk (nw I B N) L t) (Rs (.int (N p)) (mk (nw I B N) L t)) := by
  refine Ca.intro [some (.ref 200), some (.int x)] (by decide) (Nat.le_of_ble_eq_true rfl) rfl rfl ?_
  refine ex_aload_n dX12_v_0 rfl ?_
  refine g_12_23 dX12_v_1 rfl wf_X12_60 (by first | assumption | rfl) (show Rt _ 200 23 = some 217 from rfl) ?_
  refine ex_aload_n dX12_v_4 rfl ?_
  refine g_12_24 dX12_v_5 rfl wf_X12_157 (by first | assumption | rfl) ?_
  refine ex_iload_n dX12_v_8 rfl ?_
  refine ex_iadd dX12_v_9 ?_
  refine rx_iald dX12_v_10 (by first | assumption | rfl) (by rw [nw_off (by decide), hb, hx, nI_add]; exact vp_in_nI (by omega) (by decide)) ?_
  refine ex_iret dX12_v_11 rfl rfl ⟨rfl, Nat.le_refl _⟩ ?_
  refine ⟨?_, rfl⟩
  rw [nw_off (e := 200) (by decide), hb, hx, nI_add, nI_clamp (by omega), nw_in hp]
set_option maxRecDepth 100000 in
set_option maxHeartbeats 4000000 in
theorem s_X12_put_ {B p : Nat} {N : Nat → Int32} {x y : Int32} (hx : x = nI p) (hp : p < 125) (hb : I 200 24 = nI B) (hB : B ≤ 500) : Ca G mdX12_put_ [.ref 200, .int x, .int y] (mk (nw I B N) L t) (Rv (mk (nw I B (upn N p y)) L t)) := by
  refine Ca.intro [some (.ref 200), some (.int x), some (.int y)] (by decide) (Nat.le_of_ble_eq_true rfl) rfl rfl ?_
  refine ex_aload_n dX12_put__0 rfl ?_
  refine g_12_23 dX12_put__1 rfl wf_X12_60 (by first | assumption | rfl) (show Rt _ 200 23 = some 217 from rfl) ?_
  refine ex_aload_n dX12_put__4 rfl ?_
  refine g_12_24 dX12_put__5 rfl wf_X12_157 (by first | assumption | rfl) ?_
  refine ex_iload_n dX12_put__8 rfl ?_
  refine ex_iadd dX12_put__9 ?_
  refine ex_iload_n dX12_put__10 rfl ?_
  refine rx_iast dX12_put__11 (by first | assumption | rfl) (by rw [nw_off (by decide), hb, hx, nI_add]; exact vp_in_nI (by omega) (by decide)) ?_
  refine ex_vret dX12_put__12 rfl ⟨rfl, Nat.le_refl _⟩ ?_
  refine ⟨rfl, ?_⟩
  rw [nw_off (by decide), hb, hx, nI_add, nI_clamp (by omega), nw_up hp]
set_option maxRecDepth 100000 in
set_option maxHeartbeats 4000000 in
theorem s_X12_rider {s : Nat} : Ca G mdX12_rider [.int (nI s)] (mk I L t) (Rs (.int (nI (95 + 10 * s))) (mk I L t)) := by
  refine Ca.intro [some (.int (nI s))] (by decide) (Nat.le_of_ble_eq_true rfl) rfl rfl ?_
  refine ex_bipush (v := 95) dX12_rider_0 (by decide) ?_
  refine ex_bipush (v := 10) dX12_rider_2 (by decide) ?_
  refine ex_iload_n dX12_rider_4 rfl ?_
  refine ex_imul dX12_rider_5 ?_
  refine ex_iadd dX12_rider_6 ?_
  refine ex_iret dX12_rider_7 rfl rfl ⟨rfl, Nat.le_refl _⟩ ?_
  refine ⟨?_, rfl⟩
  rw [show (10 : Int32) = nI 10 from rfl, show (95 : Int32) = nI 95 from rfl, pk_mul, nI_add]
set_option maxRecDepth 100000 in
set_option maxHeartbeats 4000000 in
theorem s_X12_layHarbour {B : Nat} {N : Nat → Int32} {y : Int32} (vy : vp_in y 4) (hb : I 200 24 = nI B) (hB : B ≤ 500) : Ca G mdX12_layHarbour [.ref 200, .int y] (mk (nw I B N) L t) (Rv (mk (nw I B (wnd N 0 21 (fun j => I 208 (21 * y.toNatClampNeg + j)))) L t)) := by
  refine Ca.intro [some (.ref 200), some (.int y), none] (by decide) (Nat.le_of_ble_eq_true rfl) rfl rfl ?_
  refine ex_iconst (v := 0) dX12_layHarbour_0 (by decide) ?_
  refine st_i2 dX12_layHarbour_1 (by first | exact rfl | exact trivial) ?_
  have key := loop_up (G := G) (d := mdX12_layHarbour) (pc := 2) (st := []) (uc := 0) (us := 0) (P := Rv (mk (nw I B (wnd N 0 21 (fun j => I 208 (21 * y.toNatClampNeg + j)))) L t)) 21 (fun k => mk (nw I B (wnd N 0 k (fun j => I 208 (21 * y.toNatClampNeg + j)))) L t) (fun k => [some (.ref 200), some (.int y), some (.int (nI k))]) ?_ ?_ 0 (Nat.zero_le _)
  · rw [wnd_0] at key
    exact key
  · intro k hk ih
    refine ex_iload_n dX12_layHarbour_2 rfl ?_
    refine ex_bipush (v := 21) dX12_layHarbour_3 (by decide) ?_
    refine ex_icmp_ge 30 dX12_layHarbour_5 (by decide) (fun h5 => ?_) (fun h5 => ?_)
    · exact absurd h5 (nI_ge hk (by decide))
    · skip
      refine ex_aload_n dX12_layHarbour_8 rfl ?_
      refine ex_iload_n dX12_layHarbour_9 rfl ?_
      refine ex_aload_n dX12_layHarbour_10 rfl ?_
      refine g_12_11 dX12_layHarbour_11 rfl wf_X12_33 (by first | assumption | rfl) (show Rt _ 200 11 = some 208 from rfl) ?_
      refine ex_bipush (v := 21) dX12_layHarbour_14 (by decide) ?_
      refine ex_iload_n dX12_layHarbour_16 rfl ?_
      refine ex_imul dX12_layHarbour_17 ?_
      refine ex_iload_n dX12_layHarbour_18 rfl ?_
      refine ex_iadd dX12_layHarbour_19 ?_
      refine rx_iald dX12_layHarbour_20 (by first | assumption | rfl) (ixm (c := 21) (C := 21) (R := 4) rfl vy (vp_in_nI hk (by decide)) (by decide)).1 ?_
      rw [nw_off (by decide), (ixm (c := 21) (C := 21) (R := 4) rfl vy (vp_in_nI hk (by decide)) (by decide)).2, nI_clamp (by omega)]
      refine rx_cV (kd := 12) dX12_layHarbour_21 rfl lk_X12_160 rfl (by decide) (by first | assumption | rfl) ⟨⟨rfl, rfl⟩, by decide, by decide⟩ rfl (Nat.le_of_ble_eq_true rfl) rfl (s_X12_put_ (p := 0 + k) (by rw [Nat.zero_add]) (by omega) hb hB) (Rv.k ?_)
      refine inc2 (v := _ + 1) dX12_layHarbour_24 (by rfl) (by first | exact rfl | exact trivial) ?_
      refine ex_goto 2 dX12_layHarbour_27 (by decide) ?_
      rw [nI_1]
      rw [← wnd_s] at ih
      exact ih
  · skip
    refine ex_iload_n dX12_layHarbour_2 rfl ?_
    refine ex_bipush (v := 21) dX12_layHarbour_3 (by decide) ?_
    refine ex_icmp_ge 30 dX12_layHarbour_5 (by decide) (fun h5 => ?_) (fun h5 => ?_)
    · skip
      refine ex_vret dX12_layHarbour_30 rfl ⟨rfl, Nat.le_refl _⟩ ?_
      exact ⟨rfl, rfl⟩
    · exact absurd (by decide : nI 21 ≤ nI 21) h5
set_option maxRecDepth 100000 in
set_option maxHeartbeats 4000000 in
theorem s_X12_laySea {B : Nat} {N : Nat → Int32} {y : Int32} (vy : vp_in y 4) (hb : I 200 24 = nI B) (hB : B ≤ 500) : Ca G mdX12_laySea [.ref 200, .int y] (mk (nw I B N) L t) (Rv (mk (nw I B (wnd (upn N 21 (I 210 y.toNatClampNeg)) 22 8 (fun j => I 211 (8 * y.toNatClampNeg + j)))) L t)) := by
  refine Ca.intro [some (.ref 200), some (.int y), none] (by decide) (Nat.le_of_ble_eq_true rfl) rfl rfl ?_
  refine ex_aload_n dX12_laySea_0 rfl ?_
  refine ex_bipush (v := 21) dX12_laySea_1 (by decide) ?_
  refine ex_aload_n dX12_laySea_3 rfl ?_
  refine g_12_13 dX12_laySea_4 rfl wf_X12_39 (by first | assumption | rfl) (show Rt _ 200 13 = some 210 from rfl) ?_
  refine ex_iload_n dX12_laySea_7 rfl ?_
  refine rx_iald dX12_laySea_8 (by first | assumption | rfl) vy ?_
  rw [nw_off (by decide)]
  refine rx_cV (kd := 12) dX12_laySea_9 rfl lk_X12_160 rfl (by decide) (by first | assumption | rfl) ⟨⟨rfl, rfl⟩, by decide, by decide⟩ rfl (Nat.le_of_ble_eq_true rfl) rfl (s_X12_put_ (p := 21) rfl (by omega) hb hB) (Rv.k ?_)
  refine ex_iconst (v := 0) dX12_laySea_12 (by decide) ?_
  refine st_i2 dX12_laySea_13 (by first | exact rfl | exact trivial) ?_
  have key := loop_up (G := G) (d := mdX12_laySea) (pc := 14) (st := []) (uc := 0) (us := 0) (P := Rv (mk (nw I B (wnd (upn N 21 (I 210 y.toNatClampNeg)) 22 8 (fun j => I 211 (8 * y.toNatClampNeg + j)))) L t)) 8 (fun k => mk (nw I B (wnd (upn N 21 (I 210 y.toNatClampNeg)) 22 k (fun j => I 211 (8 * y.toNatClampNeg + j)))) L t) (fun k => [some (.ref 200), some (.int y), some (.int (nI k))]) ?_ ?_ 0 (Nat.zero_le _)
  · rw [wnd_0] at key
    exact key
  · intro k hk ih
    refine ex_iload_n dX12_laySea_14 rfl ?_
    refine ex_bipush (v := 8) dX12_laySea_15 (by decide) ?_
    refine ex_icmp_ge 45 dX12_laySea_17 (by decide) (fun h17 => ?_) (fun h17 => ?_)
    · exact absurd h17 (nI_ge hk (by decide))
    · skip
      refine ex_aload_n dX12_laySea_20 rfl ?_
      refine ex_bipush (v := 22) dX12_laySea_21 (by decide) ?_
      refine ex_iload_n dX12_laySea_23 rfl ?_
      refine ex_iadd dX12_laySea_24 ?_
      refine ex_aload_n dX12_laySea_25 rfl ?_
      refine g_12_14 dX12_laySea_26 rfl wf_X12_42 (by first | assumption | rfl) (show Rt _ 200 14 = some 211 from rfl) ?_
      refine ex_bipush (v := 8) dX12_laySea_29 (by decide) ?_
      refine ex_iload_n dX12_laySea_31 rfl ?_
      refine ex_imul dX12_laySea_32 ?_
      refine ex_iload_n dX12_laySea_33 rfl ?_
      refine ex_iadd dX12_laySea_34 ?_
      refine rx_iald dX12_laySea_35 (by first | assumption | rfl) (ixm (c := 8) (C := 8) (R := 4) rfl vy (vp_in_nI hk (by decide)) (by decide)).1 ?_
      rw [nw_off (by decide), (ixm (c := 8) (C := 8) (R := 4) rfl vy (vp_in_nI hk (by decide)) (by decide)).2, nI_clamp (by omega)]
      refine rx_cV (kd := 12) dX12_laySea_36 rfl lk_X12_160 rfl (by decide) (by first | assumption | rfl) ⟨⟨rfl, rfl⟩, by decide, by decide⟩ rfl (Nat.le_of_ble_eq_true rfl) rfl (s_X12_put_ (p := 22 + k) (nI_add 22 k) (by omega) hb hB) (Rv.k ?_)
      refine inc2 (v := _ + 1) dX12_laySea_39 (by rfl) (by first | exact rfl | exact trivial) ?_
      refine ex_goto 14 dX12_laySea_42 (by decide) ?_
      rw [nI_1]
      rw [← wnd_s] at ih
      exact ih
  · skip
    refine ex_iload_n dX12_laySea_14 rfl ?_
    refine ex_bipush (v := 8) dX12_laySea_15 (by decide) ?_
    refine ex_icmp_ge 45 dX12_laySea_17 (by decide) (fun h17 => ?_) (fun h17 => ?_)
    · skip
      refine ex_vret dX12_laySea_45 rfl ⟨rfl, Nat.le_refl _⟩ ?_
      exact ⟨rfl, rfl⟩
    · exact absurd (by decide : nI 8 ≤ nI 8) h17
set_option maxRecDepth 100000 in
set_option maxHeartbeats 4000000 in
theorem s_X12_begins {B : Nat} {N : Nat → Int32} (hb : I 200 24 = nI B) (hB : B ≤ 500) : Ca G mdX12_begins [.ref 200] (mk (nw I B N) L t) (Rv (mk (nw I B (wnd N 30 95 (fun _ => 0))) L t)) := by
  refine Ca.intro [some (.ref 200), none] (by decide) (Nat.le_of_ble_eq_true rfl) rfl rfl ?_
  refine ex_bipush (v := 30) dX12_begins_0 (by decide) ?_
  refine st_i1 dX12_begins_2 (by first | exact rfl | exact trivial) ?_
  have key := loop_up (G := G) (d := mdX12_begins) (pc := 3) (st := []) (uc := 0) (us := 0) (P := Rv (mk (nw I B (wnd N 30 95 (fun _ => 0))) L t)) 95 (fun k => mk (nw I B (wnd N 30 k (fun _ => 0))) L t) (fun k => [some (.ref 200), some (.int (nI (30 + k)))]) ?_ ?_ 0 (Nat.zero_le _)
  · rw [wnd_0] at key
    exact key
  · intro k hk ih
    refine ex_iload_n dX12_begins_3 rfl ?_
    refine ex_bipush (v := 125) dX12_begins_4 (by decide) ?_
    refine ex_icmp_ge 21 dX12_begins_6 (by decide) (fun h6 => ?_) (fun h6 => ?_)
    · exact absurd h6 (nI_ge (b := 125) (by omega) (by decide))
    · skip
      refine ex_aload_n dX12_begins_9 rfl ?_
      refine ex_iload_n dX12_begins_10 rfl ?_
      refine ex_iconst (v := 0) dX12_begins_11 (by decide) ?_
      refine rx_cV (kd := 12) dX12_begins_12 rfl lk_X12_160 rfl (by decide) (by first | assumption | rfl) ⟨⟨rfl, rfl⟩, by decide, by decide⟩ rfl (Nat.le_of_ble_eq_true rfl) rfl (s_X12_put_ (p := 30 + k) rfl (by omega) hb hB) (Rv.k ?_)
      refine inc1 (v := _ + 1) dX12_begins_15 (by rfl) (by first | exact rfl | exact trivial) ?_
      refine ex_goto 3 dX12_begins_18 (by decide) ?_
      rw [nI_1]
      rw [← wnd_s] at ih
      exact ih
  · skip
    refine ex_iload_n dX12_begins_3 rfl ?_
    refine ex_bipush (v := 125) dX12_begins_4 (by decide) ?_
    refine ex_icmp_ge 21 dX12_begins_6 (by decide) (fun h6 => ?_) (fun h6 => ?_)
    · skip
      refine ex_vret dX12_begins_21 rfl ⟨rfl, Nat.le_refl _⟩ ?_
      exact ⟨rfl, rfl⟩
    · exact absurd (by decide : nI 125 ≤ nI (30 + 95)) h6
def shN (N : Nat → Int32) (a : Nat) (C : Nat → Int32) : Nat → Int32 := upn (upn (upn (upn (wnd (upn N a 1) (a + 1) 5 C) (a + 6) 0) (a + 7) 0) (a + 8) 0) (a + 9) (-9)
set_option maxRecDepth 100000 in
set_option maxHeartbeats 4000000 in
theorem s_X12_layShip {B : Nat} {N : Nat → Int32} {s : Nat} (hs : s < 3) (hb : I 200 24 = nI B) (hB : B ≤ 500) : Ca G mdX12_layShip [.ref 200, .int (nI s)] (mk (nw I B N) L t) (Rv (mk (nw I B (shN N (95 + 10 * s) (fun j => I 215 (5 * s + j)))) L t)) := by
  refine Ca.intro [some (.ref 200), some (.int (nI s)), none, none] (by decide) (Nat.le_of_ble_eq_true rfl) rfl rfl ?_
  refine ex_iload_n dX12_layShip_0 rfl ?_
  refine rx_cS dX12_layShip_1 rfl lk_X12_164 ⟨⟨rfl, rfl⟩, by decide, by decide⟩ rfl (Nat.le_of_ble_eq_true rfl) rfl s_X12_rider (Rs.k ?_)
  refine st_i2 dX12_layShip_4 (by first | exact rfl | exact trivial) ?_
  refine ex_aload_n dX12_layShip_5 rfl ?_
  refine ex_iload_n dX12_layShip_6 rfl ?_
  refine ex_iconst (v := 1) dX12_layShip_7 (by decide) ?_
  refine rx_cV (kd := 12) dX12_layShip_8 rfl lk_X12_160 rfl (by decide) (by first | assumption | rfl) ⟨⟨rfl, rfl⟩, by decide, by decide⟩ rfl (Nat.le_of_ble_eq_true rfl) rfl (s_X12_put_ (p := (95 + 10 * s)) rfl (by omega) hb hB) (Rv.k ?_)
  refine ex_iconst (v := 0) dX12_layShip_11 (by decide) ?_
  refine st_i3 dX12_layShip_12 (by first | exact rfl | exact trivial) ?_
  have key := loop_up (G := G) (d := mdX12_layShip) (pc := 13) (st := []) (uc := 0) (us := 0) (P := Rv (mk (nw I B (shN N (95 + 10 * s) (fun j => I 215 (5 * s + j)))) L t)) 5 (fun k => mk (nw I B (wnd (upn N (95 + 10 * s) 1) ((95 + 10 * s) + 1) k (fun j => I 215 (5 * s + j)))) L t) (fun k => [some (.ref 200), some (.int (nI s)), some (.int (nI (95 + 10 * s))), some (.int (nI k))]) ?_ ?_ 0 (Nat.zero_le _)
  · rw [wnd_0] at key
    exact key
  · intro k hk ih
    refine ex_iload_n dX12_layShip_13 rfl ?_
    refine ex_iconst (v := 5) dX12_layShip_14 (by decide) ?_
    refine ex_icmp_ge 43 dX12_layShip_15 (by decide) (fun h15 => ?_) (fun h15 => ?_)
    · exact absurd h15 (nI_ge hk (by decide))
    · skip
      refine ex_aload_n dX12_layShip_18 rfl ?_
      refine ex_iload_n dX12_layShip_19 rfl ?_
      refine ex_iconst (v := 1) dX12_layShip_20 (by decide) ?_
      refine ex_iadd dX12_layShip_21 ?_
      refine ex_iload_n dX12_layShip_22 rfl ?_
      refine ex_iadd dX12_layShip_23 ?_
      refine ex_aload_n dX12_layShip_24 rfl ?_
      refine g_12_21 dX12_layShip_25 rfl wf_X12_54 (by first | assumption | rfl) (show Rt _ 200 21 = some 215 from rfl) ?_
      refine ex_iconst (v := 5) dX12_layShip_28 (by decide) ?_
      refine ex_iload_n dX12_layShip_29 rfl ?_
      refine ex_imul dX12_layShip_30 ?_
      refine ex_iload_n dX12_layShip_31 rfl ?_
      refine ex_iadd dX12_layShip_32 ?_
      refine rx_iald dX12_layShip_33 (by first | assumption | rfl) (ixm (c := 5) (C := 5) (R := 3) rfl (vp_in_nI hs (by decide)) (vp_in_nI hk (by decide)) (by decide)).1 ?_
      rw [nw_off (by decide), (ixm (c := 5) (C := 5) (R := 3) rfl (vp_in_nI hs (by decide)) (vp_in_nI hk (by decide)) (by decide)).2, nI_clamp (by omega), nI_clamp (by omega)]
      refine rx_cV (kd := 12) dX12_layShip_34 rfl lk_X12_160 rfl (by decide) (by first | assumption | rfl) ⟨⟨rfl, rfl⟩, by decide, by decide⟩ rfl (Nat.le_of_ble_eq_true rfl) rfl (s_X12_put_ (p := (95 + 10 * s) + 1 + k) (by rw [nI_1, nI_add]) (by omega) hb hB) (Rv.k ?_)
      refine inc3 (v := _ + 1) dX12_layShip_37 (by rfl) (by first | exact rfl | exact trivial) ?_
      refine ex_goto 13 dX12_layShip_40 (by decide) ?_
      rw [nI_1]
      rw [← wnd_s] at ih
      exact ih
  · skip
    refine ex_iload_n dX12_layShip_13 rfl ?_
    refine ex_iconst (v := 5) dX12_layShip_14 (by decide) ?_
    refine ex_icmp_ge 43 dX12_layShip_15 (by decide) (fun h15 => ?_) (fun h15 => ?_)
    · skip
      refine ex_aload_n dX12_layShip_43 rfl ?_
      refine ex_iload_n dX12_layShip_44 rfl ?_
      refine ex_bipush (v := 6) dX12_layShip_45 (by decide) ?_
      refine ex_iadd dX12_layShip_47 ?_
      refine ex_iconst (v := 0) dX12_layShip_48 (by decide) ?_
      refine rx_cV (kd := 12) dX12_layShip_49 rfl lk_X12_160 rfl (by decide) (by first | assumption | rfl) ⟨⟨rfl, rfl⟩, by decide, by decide⟩ rfl (Nat.le_of_ble_eq_true rfl) rfl (s_X12_put_ (p := (95 + 10 * s) + 6) (nI_add _ 6) (by omega) hb hB) (Rv.k ?_)
      refine ex_aload_n dX12_layShip_52 rfl ?_
      refine ex_iload_n dX12_layShip_53 rfl ?_
      refine ex_bipush (v := 7) dX12_layShip_54 (by decide) ?_
      refine ex_iadd dX12_layShip_56 ?_
      refine ex_iconst (v := 0) dX12_layShip_57 (by decide) ?_
      refine rx_cV (kd := 12) dX12_layShip_58 rfl lk_X12_160 rfl (by decide) (by first | assumption | rfl) ⟨⟨rfl, rfl⟩, by decide, by decide⟩ rfl (Nat.le_of_ble_eq_true rfl) rfl (s_X12_put_ (p := (95 + 10 * s) + 7) (nI_add _ 7) (by omega) hb hB) (Rv.k ?_)
      refine ex_aload_n dX12_layShip_61 rfl ?_
      refine ex_iload_n dX12_layShip_62 rfl ?_
      refine ex_bipush (v := 8) dX12_layShip_63 (by decide) ?_
      refine ex_iadd dX12_layShip_65 ?_
      refine ex_iconst (v := 0) dX12_layShip_66 (by decide) ?_
      refine rx_cV (kd := 12) dX12_layShip_67 rfl lk_X12_160 rfl (by decide) (by first | assumption | rfl) ⟨⟨rfl, rfl⟩, by decide, by decide⟩ rfl (Nat.le_of_ble_eq_true rfl) rfl (s_X12_put_ (p := (95 + 10 * s) + 8) (nI_add _ 8) (by omega) hb hB) (Rv.k ?_)
      refine ex_aload_n dX12_layShip_70 rfl ?_
      refine ex_iload_n dX12_layShip_71 rfl ?_
      refine ex_bipush (v := 9) dX12_layShip_72 (by decide) ?_
      refine ex_iadd dX12_layShip_74 ?_
      refine ex_bipush (v := (-9)) dX12_layShip_75 (by decide) ?_
      refine rx_cV (kd := 12) dX12_layShip_77 rfl lk_X12_160 rfl (by decide) (by first | assumption | rfl) ⟨⟨rfl, rfl⟩, by decide, by decide⟩ rfl (Nat.le_of_ble_eq_true rfl) rfl (s_X12_put_ (p := (95 + 10 * s) + 9) (nI_add _ 9) (by omega) hb hB) (Rv.k ?_)
      refine ex_vret dX12_layShip_80 rfl ⟨rfl, Nat.le_refl _⟩ ?_
      exact ⟨rfl, rfl⟩
    · exact absurd (by decide : nI 5 ≤ nI 5) h15
def pm1 (s b a : Int32) : Int32 := if s - s / b * b < b / 2 then a else -a
def puN (N : Nat → Int32) (s : Int32) : Nat → Int32
  | 0 => 0
  | k + 1 => puN N s k + pm1 s (N (22 + 2 * k)) (N (23 + 2 * k))
set_option maxRecDepth 100000 in
set_option maxHeartbeats 4000000 in
theorem s_X12_pushAt {B : Nat} {N : Nat → Int32} {x : Int32} {c : Nat} (hc : c ≤ 4) (h21 : N 21 = nI c) (hbt : ∀ i, i < c → ¬ N (22 + 2 * i) = 0) (hb : I 200 24 = nI B) (hB : B ≤ 500) : Ca G mdX12_pushAt [.ref 200, .int x] (mk (nw I B N) L t) (Rs (.int (puN N x c)) (mk (nw I B N) L t)) := by
  refine Ca.intro [some (.ref 200), some (.int x), none, none, none, none] (by decide) (Nat.le_of_ble_eq_true rfl) rfl rfl ?_
  refine ex_iconst (v := 0) dX12_pushAt_0 (by decide) ?_
  refine st_i2 dX12_pushAt_1 (by first | exact rfl | exact trivial) ?_
  refine ex_iconst (v := 0) dX12_pushAt_2 (by decide) ?_
  refine st_i3 dX12_pushAt_3 (by first | exact rfl | exact trivial) ?_
  refine loop_up (G := G) (d := mdX12_pushAt) (pc := 4) (st := []) (uc := 0) (us := 0) (P := Rs (.int (puN N x c)) (mk (nw I B N) L t)) c (fun k => mk (nw I B N) L t) (fun k => [some (.ref 200), some (.int x), some (.int (puN N x k)), some (.int (nI k)), none, none]) ?_ ?_ 0 (Nat.zero_le _)
  · intro k hk ih
    refine ex_iload_n dX12_pushAt_4 rfl ?_
    refine ex_aload_n dX12_pushAt_5 rfl ?_
    refine ex_bipush (v := 21) dX12_pushAt_6 (by decide) ?_
    refine rx_cV (kd := 12) dX12_pushAt_8 rfl lk_X12_183 rfl (by decide) (by first | assumption | rfl) ⟨⟨rfl, rfl⟩, by decide, by decide⟩ rfl (Nat.le_of_ble_eq_true rfl) rfl (s_X12_v (p := 21) rfl (by omega) hb hB) (Rs.k ?_)
    rw [h21]
    refine ex_icmp_ge 66 dX12_pushAt_11 (by decide) (fun h11 => ?_) (fun h11 => ?_)
    · exact absurd h11 (nI_ge hk (by omega))
    · skip
      refine ex_aload_n dX12_pushAt_14 rfl ?_
      refine ex_bipush (v := 22) dX12_pushAt_15 (by decide) ?_
      refine ex_iconst (v := 2) dX12_pushAt_17 (by decide) ?_
      refine ex_iload_n dX12_pushAt_18 rfl ?_
      refine ex_imul dX12_pushAt_19 ?_
      refine ex_iadd dX12_pushAt_20 ?_
      refine rx_cV (kd := 12) dX12_pushAt_21 rfl lk_X12_183 rfl (by decide) (by first | assumption | rfl) ⟨⟨rfl, rfl⟩, by decide, by decide⟩ rfl (Nat.le_of_ble_eq_true rfl) rfl (s_X12_v (p := 22 + 2 * k) (by rw [show (22 : Int32) = nI 22 from rfl, show (2 : Int32) = nI 2 from rfl, pk_mul, nI_add]) (by omega) hb hB) (Rs.k ?_)
      refine st_i4 dX12_pushAt_24 (by first | exact rfl | exact trivial) ?_
      refine ex_aload_n dX12_pushAt_26 rfl ?_
      refine ex_bipush (v := 23) dX12_pushAt_27 (by decide) ?_
      refine ex_iconst (v := 2) dX12_pushAt_29 (by decide) ?_
      refine ex_iload_n dX12_pushAt_30 rfl ?_
      refine ex_imul dX12_pushAt_31 ?_
      refine ex_iadd dX12_pushAt_32 ?_
      refine rx_cV (kd := 12) dX12_pushAt_33 rfl lk_X12_183 rfl (by decide) (by first | assumption | rfl) ⟨⟨rfl, rfl⟩, by decide, by decide⟩ rfl (Nat.le_of_ble_eq_true rfl) rfl (s_X12_v (p := 23 + 2 * k) (by rw [show (23 : Int32) = nI 23 from rfl, show (2 : Int32) = nI 2 from rfl, pk_mul, nI_add]) (by omega) hb hB) (Rs.k ?_)
      refine st_i5 dX12_pushAt_36 (by first | exact rfl | exact trivial) ?_
      refine ex_iload_n dX12_pushAt_38 rfl ?_
      refine ex_iload_n dX12_pushAt_39 rfl ?_
      refine ex_iload dX12_pushAt_40 rfl ?_
      refine ex_irem dX12_pushAt_42 (hbt k hk) ?_
      refine ex_iload dX12_pushAt_43 rfl ?_
      refine ex_iconst (v := 2) dX12_pushAt_45 (by decide) ?_
      refine ex_idiv dX12_pushAt_46 (by decide) ?_
      refine ex_icmp_ge 55 dX12_pushAt_47 (by decide) (fun h47 => ?_) (fun h47 => ?_)
      · have hw : puN N x (k + 1) = puN N x k + (-N (23 + 2 * k)) := congrArg (puN N x k + ·) (if_neg (Int32.not_lt.mpr h47))
        refine ex_iload dX12_pushAt_55 rfl ?_
        refine ex_ineg dX12_pushAt_57 ?_
        refine ex_iadd dX12_pushAt_58 ?_
        refine st_i2 dX12_pushAt_59 (by first | exact rfl | exact trivial) ?_
        refine inc3 (v := _ + 1) dX12_pushAt_60 (by rfl) (by first | exact rfl | exact trivial) ?_
        refine ex_goto 4 dX12_pushAt_63 (by decide) ?_
        refine fg4 (fg5 ?_)
        rw [nI_1]
        rw [hw] at ih
        exact ih
      · have hw : puN N x (k + 1) = puN N x k + N (23 + 2 * k) := congrArg (puN N x k + ·) (if_pos (Int32.not_le.mp h47))
        refine ex_iload dX12_pushAt_50 rfl ?_
        refine ex_goto 58 dX12_pushAt_52 (by decide) ?_
        refine ex_iadd dX12_pushAt_58 ?_
        refine st_i2 dX12_pushAt_59 (by first | exact rfl | exact trivial) ?_
        refine inc3 (v := _ + 1) dX12_pushAt_60 (by rfl) (by first | exact rfl | exact trivial) ?_
        refine ex_goto 4 dX12_pushAt_63 (by decide) ?_
        refine fg4 (fg5 ?_)
        rw [nI_1]
        rw [hw] at ih
        exact ih
  · skip
    refine ex_iload_n dX12_pushAt_4 rfl ?_
    refine ex_aload_n dX12_pushAt_5 rfl ?_
    refine ex_bipush (v := 21) dX12_pushAt_6 (by decide) ?_
    refine rx_cV (kd := 12) dX12_pushAt_8 rfl lk_X12_183 rfl (by decide) (by first | assumption | rfl) ⟨⟨rfl, rfl⟩, by decide, by decide⟩ rfl (Nat.le_of_ble_eq_true rfl) rfl (s_X12_v (p := 21) rfl (by omega) hb hB) (Rs.k ?_)
    refine ex_icmp_ge 66 dX12_pushAt_11 (by decide) (fun h11 => ?_) (fun h11 => ?_)
    · skip
      refine ex_iload_n dX12_pushAt_66 rfl ?_
      refine ex_iret dX12_pushAt_67 rfl rfl ⟨rfl, Nat.le_refl _⟩ ?_
      exact ⟨rfl, rfl⟩
    · exact absurd (by rw [h21]; exact Int32.le_refl _) h11
def flE (N : Nat → Int32) (k : Nat) : Int32 := N (47 + k) + (N (31 + k) - N (31 + k + 1)) * (if N (5 + k) < N (5 + k + 1) then N (5 + k) else N (5 + k + 1)) / 16
def flV (N : Nat → Int32) (k : Nat) : Int32 := if b2i (N 4 >>> (nI k &&& 31) &&& 1 = 1) = 0 then flE N k - flE N k * N 3 / 64 else 0
def fTo (N : Nat → Int32) (k : Nat) : Int32 := if k = 0 then 0 else N (47 + (k - 1))
def fFr (N : Nat → Int32) (n k : Nat) : Int32 := if k + 1 < n then N (47 + k) else 0
set_option maxRecDepth 100000 in
set_option maxHeartbeats 4000000 in
theorem s_X12_flows {B : Nat} {N : Nat → Int32} {n : Nat} (hn3 : 3 ≤ n) (hn16 : n ≤ 16) (hn : N 0 = nI n) (hb : I 200 24 = nI B) (hB : B ≤ 500) : Ca G mdX12_flows [.ref 200] (mk (nw I B N) L t) (Rv (mk (nw I B (wnd N 47 (n - 1) (flV N))) L t)) := by
  refine Ca.intro [some (.ref 200), none, none] (by decide) (Nat.le_of_ble_eq_true rfl) rfl rfl ?_
  refine ex_iconst (v := 0) dX12_flows_0 (by decide) ?_
  refine st_i1 dX12_flows_1 (by first | exact rfl | exact trivial) ?_
  have key := loop_up (G := G) (d := mdX12_flows) (pc := 2) (st := []) (uc := 0) (us := 0) (P := Rv (mk (nw I B (wnd N 47 (n - 1) (flV N))) L t)) (n - 1) (fun k => mk (nw I B (wnd N 47 k (flV N))) L t) (fun k => [some (.ref 200), some (.int (nI k)), none]) ?_ ?_ 0 (Nat.zero_le _)
  · rw [wnd_0] at key
    exact key
  · intro k hk ih
    refine ex_iload_n dX12_flows_2 rfl ?_
    refine ex_iconst (v := 1) dX12_flows_3 (by decide) ?_
    refine ex_iadd dX12_flows_4 ?_
    refine ex_aload_n dX12_flows_5 rfl ?_
    refine ex_iconst (v := 0) dX12_flows_6 (by decide) ?_
    refine rx_cV (kd := 12) dX12_flows_7 rfl lk_X12_183 rfl (by decide) (by first | assumption | rfl) ⟨⟨rfl, rfl⟩, by decide, by decide⟩ rfl (Nat.le_of_ble_eq_true rfl) rfl (s_X12_v (p := 0) rfl (by omega) hb hB) (Rs.k ?_)
    rw [wnd_out (by omega), hn]
    refine ex_icmp_ge 107 dX12_flows_10 (by decide) (fun h10 => ?_) (fun h10 => ?_)
    · exact absurd h10 (by rw [nI_1]; exact nI_ge (by omega) (by omega))
    · skip
      refine ex_iconst (v := 0) dX12_flows_13 (by decide) ?_
      refine st_i2 dX12_flows_14 (by first | exact rfl | exact trivial) ?_
      refine ex_aload_n dX12_flows_15 rfl ?_
      refine ex_iconst (v := 4) dX12_flows_16 (by decide) ?_
      refine rx_cV (kd := 12) dX12_flows_17 rfl lk_X12_183 rfl (by decide) (by first | assumption | rfl) ⟨⟨rfl, rfl⟩, by decide, by decide⟩ rfl (Nat.le_of_ble_eq_true rfl) rfl (s_X12_v (p := 4) rfl (by omega) hb hB) (Rs.k ?_)
      rw [wnd_out (by omega)]
      refine ex_iload_n dX12_flows_20 rfl ?_
      refine rx_cS dX12_flows_21 rfl lk_X12_186 ⟨⟨rfl, rfl⟩, by decide, by decide⟩ rfl (Nat.le_of_ble_eq_true rfl) rfl s_X12_has (Rs.k ?_)
      refine ex_if_ne 92 dX12_flows_24 (by decide) (fun h24 => ?_) (fun h24 => ?_)
      · have hv : flV N k = 0 := if_neg h24
        refine ex_aload_n dX12_flows_92 rfl ?_
        refine ex_bipush (v := 47) dX12_flows_93 (by decide) ?_
        refine ex_iload_n dX12_flows_95 rfl ?_
        refine ex_iadd dX12_flows_96 ?_
        refine ex_iload_n dX12_flows_97 rfl ?_
        refine rx_cV (kd := 12) dX12_flows_98 rfl lk_X12_160 rfl (by decide) (by first | assumption | rfl) ⟨⟨rfl, rfl⟩, by decide, by decide⟩ rfl (Nat.le_of_ble_eq_true rfl) rfl (s_X12_put_ (p := 47 + k) (nI_add 47 k) (by omega) hb hB) (Rv.k ?_)
        refine inc1 (v := _ + 1) dX12_flows_101 (by rfl) (by first | exact rfl | exact trivial) ?_
        refine ex_goto 2 dX12_flows_104 (by decide) ?_
        refine fg2 ?_
        rw [nI_1]
        rw [← wnd_s, hv] at ih
        exact ih
      · have hv : flV N k = flE N k - flE N k * N 3 / 64 := if_pos h24
        refine ex_aload_n dX12_flows_27 rfl ?_
        refine ex_bipush (v := 47) dX12_flows_28 (by decide) ?_
        refine ex_iload_n dX12_flows_30 rfl ?_
        refine ex_iadd dX12_flows_31 ?_
        refine rx_cV (kd := 12) dX12_flows_32 rfl lk_X12_183 rfl (by decide) (by first | assumption | rfl) ⟨⟨rfl, rfl⟩, by decide, by decide⟩ rfl (Nat.le_of_ble_eq_true rfl) rfl (s_X12_v (p := 47 + k) (nI_add 47 k) (by omega) hb hB) (Rs.k ?_)
        rw [wnd_out (by omega)]
        refine ex_aload_n dX12_flows_35 rfl ?_
        refine ex_bipush (v := 31) dX12_flows_36 (by decide) ?_
        refine ex_iload_n dX12_flows_38 rfl ?_
        refine ex_iadd dX12_flows_39 ?_
        refine rx_cV (kd := 12) dX12_flows_40 rfl lk_X12_183 rfl (by decide) (by first | assumption | rfl) ⟨⟨rfl, rfl⟩, by decide, by decide⟩ rfl (Nat.le_of_ble_eq_true rfl) rfl (s_X12_v (p := 31 + k) (nI_add 31 k) (by omega) hb hB) (Rs.k ?_)
        rw [wnd_out (by omega)]
        refine ex_aload_n dX12_flows_43 rfl ?_
        refine ex_bipush (v := 31) dX12_flows_44 (by decide) ?_
        refine ex_iload_n dX12_flows_46 rfl ?_
        refine ex_iadd dX12_flows_47 ?_
        refine ex_iconst (v := 1) dX12_flows_48 (by decide) ?_
        refine ex_iadd dX12_flows_49 ?_
        refine rx_cV (kd := 12) dX12_flows_50 rfl lk_X12_183 rfl (by decide) (by first | assumption | rfl) ⟨⟨rfl, rfl⟩, by decide, by decide⟩ rfl (Nat.le_of_ble_eq_true rfl) rfl (s_X12_v (p := 31 + k + 1) (by rw [show (31 : Int32) = nI 31 from rfl, nI_add, nI_1]) (by omega) hb hB) (Rs.k ?_)
        rw [wnd_out (by omega)]
        refine ex_isub dX12_flows_53 ?_
        refine ex_aload_n dX12_flows_54 rfl ?_
        refine ex_iconst (v := 5) dX12_flows_55 (by decide) ?_
        refine ex_iload_n dX12_flows_56 rfl ?_
        refine ex_iadd dX12_flows_57 ?_
        refine rx_cV (kd := 12) dX12_flows_58 rfl lk_X12_183 rfl (by decide) (by first | assumption | rfl) ⟨⟨rfl, rfl⟩, by decide, by decide⟩ rfl (Nat.le_of_ble_eq_true rfl) rfl (s_X12_v (p := 5 + k) (nI_add 5 k) (by omega) hb hB) (Rs.k ?_)
        rw [wnd_out (by omega)]
        refine ex_aload_n dX12_flows_61 rfl ?_
        refine ex_iconst (v := 5) dX12_flows_62 (by decide) ?_
        refine ex_iload_n dX12_flows_63 rfl ?_
        refine ex_iadd dX12_flows_64 ?_
        refine ex_iconst (v := 1) dX12_flows_65 (by decide) ?_
        refine ex_iadd dX12_flows_66 ?_
        refine rx_cV (kd := 12) dX12_flows_67 rfl lk_X12_183 rfl (by decide) (by first | assumption | rfl) ⟨⟨rfl, rfl⟩, by decide, by decide⟩ rfl (Nat.le_of_ble_eq_true rfl) rfl (s_X12_v (p := 5 + k + 1) (by rw [show (5 : Int32) = nI 5 from rfl, nI_add, nI_1]) (by omega) hb hB) (Rs.k ?_)
        rw [wnd_out (by omega)]
        refine rx_cS dX12_flows_70 rfl lk_X12_189 ⟨⟨rfl, rfl⟩, by decide, by decide⟩ rfl (Nat.le_of_ble_eq_true rfl) rfl s_X12_lesser (Rs.k ?_)
        refine ex_imul dX12_flows_73 ?_
        refine ex_bipush (v := 16) dX12_flows_74 (by decide) ?_
        refine ex_idiv dX12_flows_76 (by decide) ?_
        refine ex_iadd dX12_flows_77 ?_
        refine st_i2 dX12_flows_78 (by first | exact rfl | exact trivial) ?_
        refine ex_iload_n dX12_flows_79 rfl ?_
        refine ex_iload_n dX12_flows_80 rfl ?_
        refine ex_aload_n dX12_flows_81 rfl ?_
        refine ex_iconst (v := 3) dX12_flows_82 (by decide) ?_
        refine rx_cV (kd := 12) dX12_flows_83 rfl lk_X12_183 rfl (by decide) (by first | assumption | rfl) ⟨⟨rfl, rfl⟩, by decide, by decide⟩ rfl (Nat.le_of_ble_eq_true rfl) rfl (s_X12_v (p := 3) rfl (by omega) hb hB) (Rs.k ?_)
        rw [wnd_out (by omega)]
        refine ex_imul dX12_flows_86 ?_
        refine ex_bipush (v := 64) dX12_flows_87 (by decide) ?_
        refine ex_idiv dX12_flows_89 (by decide) ?_
        refine ex_isub dX12_flows_90 ?_
        refine st_i2 dX12_flows_91 (by first | exact rfl | exact trivial) ?_
        refine ex_aload_n dX12_flows_92 rfl ?_
        refine ex_bipush (v := 47) dX12_flows_93 (by decide) ?_
        refine ex_iload_n dX12_flows_95 rfl ?_
        refine ex_iadd dX12_flows_96 ?_
        refine ex_iload_n dX12_flows_97 rfl ?_
        refine rx_cV (kd := 12) dX12_flows_98 rfl lk_X12_160 rfl (by decide) (by first | assumption | rfl) ⟨⟨rfl, rfl⟩, by decide, by decide⟩ rfl (Nat.le_of_ble_eq_true rfl) rfl (s_X12_put_ (p := 47 + k) (nI_add 47 k) (by omega) hb hB) (Rv.k ?_)
        refine inc1 (v := _ + 1) dX12_flows_101 (by rfl) (by first | exact rfl | exact trivial) ?_
        refine ex_goto 2 dX12_flows_104 (by decide) ?_
        refine fg2 ?_
        rw [nI_1]
        rw [← wnd_s, hv] at ih
        exact ih
  · skip
    refine ex_iload_n dX12_flows_2 rfl ?_
    refine ex_iconst (v := 1) dX12_flows_3 (by decide) ?_
    refine ex_iadd dX12_flows_4 ?_
    refine ex_aload_n dX12_flows_5 rfl ?_
    refine ex_iconst (v := 0) dX12_flows_6 (by decide) ?_
    refine rx_cV (kd := 12) dX12_flows_7 rfl lk_X12_183 rfl (by decide) (by first | assumption | rfl) ⟨⟨rfl, rfl⟩, by decide, by decide⟩ rfl (Nat.le_of_ble_eq_true rfl) rfl (s_X12_v (p := 0) rfl (by omega) hb hB) (Rs.k ?_)
    rw [wnd_out (by omega), hn]
    refine ex_icmp_ge 107 dX12_flows_10 (by decide) (fun h10 => ?_) (fun h10 => ?_)
    · skip
      refine ex_vret dX12_flows_107 rfl ⟨rfl, Nat.le_refl _⟩ ?_
      exact ⟨rfl, rfl⟩
    · exact absurd (by rw [nI_1, show n - 1 + 1 = n by omega]; exact Int32.le_refl _) h10
set_option maxRecDepth 100000 in
set_option maxHeartbeats 4000000 in
theorem s_X12_flowTo {B : Nat} {N : Nat → Int32} {k : Nat} (hk : k ≤ 16) (hb : I 200 24 = nI B) (hB : B ≤ 500) : Ca G mdX12_flowTo [.ref 200, .int (nI k)] (mk (nw I B N) L t) (Rs (.int (fTo N k)) (mk (nw I B N) L t)) := by
  refine Ca.intro [some (.ref 200), some (.int (nI k))] (by decide) (Nat.le_of_ble_eq_true rfl) rfl rfl ?_
  refine ex_iload_n dX12_flowTo_0 rfl ?_
  refine ex_if_le 17 dX12_flowTo_1 (by decide) (fun h1 => ?_) (fun h1 => ?_)
  · have k0 : k = 0 := by
      have := (nI_leI (b := 0) (by omega) (by decide)).mp h1
      omega
    refine ex_iconst (v := 0) dX12_flowTo_17 (by decide) ?_
    refine ex_iret dX12_flowTo_18 rfl rfl ⟨rfl, Nat.le_refl _⟩ ?_
    exact ⟨by unfold fTo; first | rw [if_pos k0] | rw [if_neg k0], rfl⟩
  · have k0 : ¬ k = 0 := fun z => h1 (by rw [z]; decide)
    refine ex_aload_n dX12_flowTo_4 rfl ?_
    refine ex_bipush (v := 47) dX12_flowTo_5 (by decide) ?_
    refine ex_iload_n dX12_flowTo_7 rfl ?_
    refine ex_iadd dX12_flowTo_8 ?_
    refine ex_iconst (v := 1) dX12_flowTo_9 (by decide) ?_
    refine ex_isub dX12_flowTo_10 ?_
    refine rx_cV (kd := 12) dX12_flowTo_11 rfl lk_X12_183 rfl (by decide) (by first | assumption | rfl) ⟨⟨rfl, rfl⟩, by decide, by decide⟩ rfl (Nat.le_of_ble_eq_true rfl) rfl (s_X12_v (p := 47 + (k - 1)) (by obtain ⟨j, rfl⟩ : ∃ j, k = j + 1 := ⟨k - 1, by omega⟩; rw [show (47 : Int32) = nI 47 from rfl, nI_add, ← Nat.add_assoc, nI_pred]; rfl) (by omega) hb hB) (Rs.k ?_)
    refine ex_goto 18 dX12_flowTo_14 (by decide) ?_
    refine ex_iret dX12_flowTo_18 rfl rfl ⟨rfl, Nat.le_refl _⟩ ?_
    exact ⟨by unfold fTo; first | rw [if_pos k0] | rw [if_neg k0], rfl⟩
set_option maxRecDepth 100000 in
set_option maxHeartbeats 4000000 in
theorem s_X12_flowFrom {B : Nat} {N : Nat → Int32} {k : Nat} (hk : k ≤ 16) {n : Nat} (hn16 : n ≤ 16) (hn : N 0 = nI n) (hb : I 200 24 = nI B) (hB : B ≤ 500) : Ca G mdX12_flowFrom [.ref 200, .int (nI k)] (mk (nw I B N) L t) (Rs (.int (fFr N n k)) (mk (nw I B N) L t)) := by
  refine Ca.intro [some (.ref 200), some (.int (nI k))] (by decide) (Nat.le_of_ble_eq_true rfl) rfl rfl ?_
  refine ex_iload_n dX12_flowFrom_0 rfl ?_
  refine ex_iconst (v := 1) dX12_flowFrom_1 (by decide) ?_
  refine ex_iadd dX12_flowFrom_2 ?_
  refine ex_aload_n dX12_flowFrom_3 rfl ?_
  refine ex_iconst (v := 0) dX12_flowFrom_4 (by decide) ?_
  refine rx_cV (kd := 12) dX12_flowFrom_5 rfl lk_X12_183 rfl (by decide) (by first | assumption | rfl) ⟨⟨rfl, rfl⟩, by decide, by decide⟩ rfl (Nat.le_of_ble_eq_true rfl) rfl (s_X12_v (p := 0) rfl (by omega) hb hB) (Rs.k ?_)
  rw [hn]
  refine ex_icmp_ge 22 dX12_flowFrom_8 (by decide) (fun h8 => ?_) (fun h8 => ?_)
  · rw [nI_1] at h8
    have k0 : ¬ k + 1 < n := Nat.not_lt.mpr ((nI_leI (by omega) (by omega)).mp h8)
    refine ex_iconst (v := 0) dX12_flowFrom_22 (by decide) ?_
    refine ex_iret dX12_flowFrom_23 rfl rfl ⟨rfl, Nat.le_refl _⟩ ?_
    exact ⟨by unfold fFr; first | rw [if_pos k0] | rw [if_neg k0], rfl⟩
  · rw [nI_1] at h8
    have k0 : k + 1 < n := Nat.not_le.mp (fun z => h8 (nI_le z (by omega)))
    refine ex_aload_n dX12_flowFrom_11 rfl ?_
    refine ex_bipush (v := 47) dX12_flowFrom_12 (by decide) ?_
    refine ex_iload_n dX12_flowFrom_14 rfl ?_
    refine ex_iadd dX12_flowFrom_15 ?_
    refine rx_cV (kd := 12) dX12_flowFrom_16 rfl lk_X12_183 rfl (by decide) (by first | assumption | rfl) ⟨⟨rfl, rfl⟩, by decide, by decide⟩ rfl (Nat.le_of_ble_eq_true rfl) rfl (s_X12_v (p := 47 + k) (nI_add 47 k) (by omega) hb hB) (Rs.k ?_)
    refine ex_goto 23 dX12_flowFrom_19 (by decide) ?_
    refine ex_iret dX12_flowFrom_23 rfl rfl ⟨rfl, Nat.le_refl _⟩ ?_
    exact ⟨by unfold fFr; first | rw [if_pos k0] | rw [if_neg k0], rfl⟩
def htV (N : Nat → Int32) (n k : Nat) : Int32 := N (31 + k) + fTo N k - fFr N n k
theorem fTo_w {N g : Nat → Int32} {k j : Nat} (h : k ≤ 16) : fTo (wnd N 31 k g) j = fTo N j := by
  unfold fTo
  rw [wnd_out (by omega)]
theorem fFr_w {N g : Nat → Int32} {n k j : Nat} (h : k ≤ 16) : fFr (wnd N 31 k g) n j = fFr N n j := by
  unfold fFr
  rw [wnd_out (by omega)]
def htN (N : Nat → Int32) (n mo : Nat) (push : Int32) : Nat → Int32 := upn (wnd N 31 n (htV N n)) (31 + mo) (wnd N 31 n (htV N n) (31 + mo) + (push - wnd N 31 n (htV N n) (31 + mo)) * N 2 / 16)
set_option maxRecDepth 100000 in
set_option maxHeartbeats 4000000 in
theorem s_X12_heights {B : Nat} {N : Nat → Int32} {x : Int32} {n : Nat} (hn3 : 3 ≤ n) (hn16 : n ≤ 16) (hn : N 0 = nI n) {mo : Nat} (hmo : mo < n) (hm : N 1 = nI mo) (hb : I 200 24 = nI B) (hB : B ≤ 500) : Ca G mdX12_heights [.ref 200, .int x] (mk (nw I B N) L t) (Rv (mk (nw I B (htN N n mo x)) L t)) := by
  refine Ca.intro [some (.ref 200), some (.int x), none] (by decide) (Nat.le_of_ble_eq_true rfl) rfl rfl ?_
  refine ex_iconst (v := 0) dX12_heights_0 (by decide) ?_
  refine st_i2 dX12_heights_1 (by first | exact rfl | exact trivial) ?_
  have key := loop_up (G := G) (d := mdX12_heights) (pc := 2) (st := []) (uc := 0) (us := 0) (P := Rv (mk (nw I B (htN N n mo x)) L t)) n (fun k => mk (nw I B (wnd N 31 k (htV N n))) L t) (fun k => [some (.ref 200), some (.int x), some (.int (nI k))]) ?_ ?_ 0 (Nat.zero_le _)
  · rw [wnd_0] at key
    exact key
  · intro k hk ih
    refine ex_iload_n dX12_heights_2 rfl ?_
    refine ex_aload_n dX12_heights_3 rfl ?_
    refine ex_iconst (v := 0) dX12_heights_4 (by decide) ?_
    refine rx_cV (kd := 12) dX12_heights_5 rfl lk_X12_183 rfl (by decide) (by first | assumption | rfl) ⟨⟨rfl, rfl⟩, by decide, by decide⟩ rfl (Nat.le_of_ble_eq_true rfl) rfl (s_X12_v (p := 0) rfl (by omega) hb hB) (Rs.k ?_)
    rw [wnd_out (by omega), hn]
    refine ex_icmp_ge 45 dX12_heights_8 (by decide) (fun h8 => ?_) (fun h8 => ?_)
    · exact absurd h8 (nI_ge hk (by omega))
    · skip
      refine ex_aload_n dX12_heights_11 rfl ?_
      refine ex_bipush (v := 31) dX12_heights_12 (by decide) ?_
      refine ex_iload_n dX12_heights_14 rfl ?_
      refine ex_iadd dX12_heights_15 ?_
      refine ex_aload_n dX12_heights_16 rfl ?_
      refine ex_bipush (v := 31) dX12_heights_17 (by decide) ?_
      refine ex_iload_n dX12_heights_19 rfl ?_
      refine ex_iadd dX12_heights_20 ?_
      refine rx_cV (kd := 12) dX12_heights_21 rfl lk_X12_183 rfl (by decide) (by first | assumption | rfl) ⟨⟨rfl, rfl⟩, by decide, by decide⟩ rfl (Nat.le_of_ble_eq_true rfl) rfl (s_X12_v (p := 31 + k) (nI_add 31 k) (by omega) hb hB) (Rs.k ?_)
      rw [wnd_out (by omega)]
      refine ex_aload_n dX12_heights_24 rfl ?_
      refine ex_iload_n dX12_heights_25 rfl ?_
      refine rx_cV (kd := 12) dX12_heights_26 rfl lk_X12_192 rfl (by decide) (by first | assumption | rfl) ⟨⟨rfl, rfl⟩, by decide, by decide⟩ rfl (Nat.le_of_ble_eq_true rfl) rfl (s_X12_flowTo (by omega) hb hB) (Rs.k ?_)
      rw [fTo_w (by omega)]
      refine ex_iadd dX12_heights_29 ?_
      refine ex_aload_n dX12_heights_30 rfl ?_
      refine ex_iload_n dX12_heights_31 rfl ?_
      refine rx_cV (kd := 12) dX12_heights_32 rfl lk_X12_195 rfl (by decide) (by first | assumption | rfl) ⟨⟨rfl, rfl⟩, by decide, by decide⟩ rfl (Nat.le_of_ble_eq_true rfl) rfl (s_X12_flowFrom (by omega) hn16 (by rw [wnd_out (by omega)]; exact hn) hb hB) (Rs.k ?_)
      rw [fFr_w (by omega)]
      refine ex_isub dX12_heights_35 ?_
      refine rx_cV (kd := 12) dX12_heights_36 rfl lk_X12_160 rfl (by decide) (by first | assumption | rfl) ⟨⟨rfl, rfl⟩, by decide, by decide⟩ rfl (Nat.le_of_ble_eq_true rfl) rfl (s_X12_put_ (p := 31 + k) (nI_add 31 k) (by omega) hb hB) (Rv.k ?_)
      refine inc2 (v := _ + 1) dX12_heights_39 (by rfl) (by first | exact rfl | exact trivial) ?_
      refine ex_goto 2 dX12_heights_42 (by decide) ?_
      rw [nI_1]
      rw [← wnd_s] at ih
      exact ih
  · skip
    refine ex_iload_n dX12_heights_2 rfl ?_
    refine ex_aload_n dX12_heights_3 rfl ?_
    refine ex_iconst (v := 0) dX12_heights_4 (by decide) ?_
    refine rx_cV (kd := 12) dX12_heights_5 rfl lk_X12_183 rfl (by decide) (by first | assumption | rfl) ⟨⟨rfl, rfl⟩, by decide, by decide⟩ rfl (Nat.le_of_ble_eq_true rfl) rfl (s_X12_v (p := 0) rfl (by omega) hb hB) (Rs.k ?_)
    rw [wnd_out (by omega), hn]
    refine ex_icmp_ge 45 dX12_heights_8 (by decide) (fun h8 => ?_) (fun h8 => ?_)
    · skip
      refine ex_bipush (v := 31) dX12_heights_45 (by decide) ?_
      refine ex_aload_n dX12_heights_47 rfl ?_
      refine ex_iconst (v := 1) dX12_heights_48 (by decide) ?_
      refine rx_cV (kd := 12) dX12_heights_49 rfl lk_X12_183 rfl (by decide) (by first | assumption | rfl) ⟨⟨rfl, rfl⟩, by decide, by decide⟩ rfl (Nat.le_of_ble_eq_true rfl) rfl (s_X12_v (p := 1) rfl (by omega) hb hB) (Rs.k ?_)
      rw [wnd_out (by omega), hm]
      refine ex_iadd dX12_heights_52 ?_
      refine st_i2 dX12_heights_53 (by first | exact rfl | exact trivial) ?_
      refine ex_aload_n dX12_heights_54 rfl ?_
      refine ex_iload_n dX12_heights_55 rfl ?_
      refine ex_aload_n dX12_heights_56 rfl ?_
      refine ex_iload_n dX12_heights_57 rfl ?_
      refine rx_cV (kd := 12) dX12_heights_58 rfl lk_X12_183 rfl (by decide) (by first | assumption | rfl) ⟨⟨rfl, rfl⟩, by decide, by decide⟩ rfl (Nat.le_of_ble_eq_true rfl) rfl (s_X12_v (p := 31 + mo) (nI_add 31 mo) (by omega) hb hB) (Rs.k ?_)
      refine ex_iload_n dX12_heights_61 rfl ?_
      refine ex_aload_n dX12_heights_62 rfl ?_
      refine ex_iload_n dX12_heights_63 rfl ?_
      refine rx_cV (kd := 12) dX12_heights_64 rfl lk_X12_183 rfl (by decide) (by first | assumption | rfl) ⟨⟨rfl, rfl⟩, by decide, by decide⟩ rfl (Nat.le_of_ble_eq_true rfl) rfl (s_X12_v (p := 31 + mo) (nI_add 31 mo) (by omega) hb hB) (Rs.k ?_)
      refine ex_isub dX12_heights_67 ?_
      refine ex_aload_n dX12_heights_68 rfl ?_
      refine ex_iconst (v := 2) dX12_heights_69 (by decide) ?_
      refine rx_cV (kd := 12) dX12_heights_70 rfl lk_X12_183 rfl (by decide) (by first | assumption | rfl) ⟨⟨rfl, rfl⟩, by decide, by decide⟩ rfl (Nat.le_of_ble_eq_true rfl) rfl (s_X12_v (p := 2) rfl (by omega) hb hB) (Rs.k ?_)
      rw [wnd_out (by omega)]
      refine ex_imul dX12_heights_73 ?_
      refine ex_bipush (v := 16) dX12_heights_74 (by decide) ?_
      refine ex_idiv dX12_heights_76 (by decide) ?_
      refine ex_iadd dX12_heights_77 ?_
      refine rx_cV (kd := 12) dX12_heights_78 rfl lk_X12_160 rfl (by decide) (by first | assumption | rfl) ⟨⟨rfl, rfl⟩, by decide, by decide⟩ rfl (Nat.le_of_ble_eq_true rfl) rfl (s_X12_put_ (p := 31 + mo) (nI_add 31 mo) (by omega) hb hB) (Rv.k ?_)
      refine ex_vret dX12_heights_81 rfl ⟨rfl, Nat.le_refl _⟩ ?_
      exact ⟨rfl, rfl⟩
    · exact absurd (Int32.le_refl _) h8
def f_X12_strainOf (p : Int32) (g : Int32) (s : Int32) : Int32 :=
  if 0 ≤ p then
    if (p - s) ≤ 0 then
      0
    else
      g * (p - s)
  else
    if ((-p) - s) ≤ 0 then
      0
    else
      g * ((-p) - s)
set_option maxRecDepth 100000 in
set_option maxHeartbeats 4000000 in
theorem s_X12_strainOf  {p : Int32} {g : Int32} {s : Int32}  : Ca G mdX12_strainOf [.int p, .int g, .int s] (mk I L t) (Rs (.int (f_X12_strainOf p g s)) (mk I L t)) := by
  refine Ca.intro [some (.int p), some (.int g), some (.int s), none] (by decide) (Nat.le_of_ble_eq_true rfl) rfl rfl ?_
  refine ex_iload_n dX12_strainOf_0 rfl ?_
  refine ex_if_ge 9 dX12_strainOf_1 (by decide) (fun h1 => ?_) (fun h1 => ?_)
  · skip
    refine ex_iload_n dX12_strainOf_9 rfl ?_
    refine ex_iload_n dX12_strainOf_10 rfl ?_
    refine ex_isub dX12_strainOf_11 ?_
    refine st_i3 dX12_strainOf_12 (by first | exact rfl | exact trivial) ?_
    refine ex_iload_n dX12_strainOf_13 rfl ?_
    refine ex_if_le 23 dX12_strainOf_14 (by decide) (fun h14 => ?_) (fun h14 => ?_)
    · skip
      refine ex_iconst (v := 0) dX12_strainOf_23 (by decide) ?_
      refine ex_iret dX12_strainOf_24 rfl rfl ⟨rfl, Nat.le_refl _⟩ ?_
      exact ⟨(by simp only [f_X12_strainOf, ↓h1, ↓h14, if_true, if_false, not_true_eq_false, not_false_eq_true]), rfl⟩
    · skip
      refine ex_iload_n dX12_strainOf_17 rfl ?_
      refine ex_iload_n dX12_strainOf_18 rfl ?_
      refine ex_imul dX12_strainOf_19 ?_
      refine ex_goto 24 dX12_strainOf_20 (by decide) ?_
      refine ex_iret dX12_strainOf_24 rfl rfl ⟨rfl, Nat.le_refl _⟩ ?_
      exact ⟨(by simp only [f_X12_strainOf, ↓h1, ↓h14, if_true, if_false, not_true_eq_false, not_false_eq_true]), rfl⟩
  · skip
    refine ex_iload_n dX12_strainOf_4 rfl ?_
    refine ex_ineg dX12_strainOf_5 ?_
    refine ex_goto 10 dX12_strainOf_6 (by decide) ?_
    refine ex_iload_n dX12_strainOf_10 rfl ?_
    refine ex_isub dX12_strainOf_11 ?_
    refine st_i3 dX12_strainOf_12 (by first | exact rfl | exact trivial) ?_
    refine ex_iload_n dX12_strainOf_13 rfl ?_
    refine ex_if_le 23 dX12_strainOf_14 (by decide) (fun h14 => ?_) (fun h14 => ?_)
    · skip
      refine ex_iconst (v := 0) dX12_strainOf_23 (by decide) ?_
      refine ex_iret dX12_strainOf_24 rfl rfl ⟨rfl, Nat.le_refl _⟩ ?_
      exact ⟨(by simp only [f_X12_strainOf, ↓h1, ↓h14, if_true, if_false, not_true_eq_false, not_false_eq_true]), rfl⟩
    · skip
      refine ex_iload_n dX12_strainOf_17 rfl ?_
      refine ex_iload_n dX12_strainOf_18 rfl ?_
      refine ex_imul dX12_strainOf_19 ?_
      refine ex_goto 24 dX12_strainOf_20 (by decide) ?_
      refine ex_iret dX12_strainOf_24 rfl rfl ⟨rfl, Nat.le_refl _⟩ ?_
      exact ⟨(by simp only [f_X12_strainOf, ↓h1, ↓h14, if_true, if_false, not_true_eq_false, not_false_eq_true]), rfl⟩
end M8
