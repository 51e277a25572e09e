section M10
variable {G : Gp} {I : Im} {L : Nat → Nat → Int64} {t : Nat}
def rdw (I : Im) (B : Nat) : Nat → Int32 := fun p => I 217 (B + p)
theorem nw_rd {B : Nat} : nw I B (rdw I B) = I := nw_id
theorem rdw_nw {B : Nat} {N : Nat → Int32} {p : Nat} (h : p < 125) : rdw (nw I B N) B p = N p := nw_in h
theorem s_v0 {B : Nat} {x : Int32} (vx : vp_in x 125) (hb : I 200 24 = nI B) (hB : B ≤ 500) : Ca G mdX12_v [.ref 200, .int x] (mk I L t) (Rs (.int (I 217 (B + x.toNatClampNeg))) (mk I L t)) := by
  obtain ⟨h1, h2⟩ := vpn vx
  have key := s_X12_v (G := G) (I := I) (L := L) (t := t) (N := rdw I B) h2 h1 hb hB
  rw [nw_rd] at key
  exact key
theorem s_put0 {B : Nat} {x y : Int32} (vx : vp_in x 125) (hb : I 200 24 = nI B) (hB : B ≤ 500) : Ca G mdX12_put_ [.ref 200, .int x, .int y] (mk I L t) (Rv (mk (up2 I 217 (B + x.toNatClampNeg) y) L t)) := by
  obtain ⟨h1, h2⟩ := vpn vx
  have key := s_X12_put_ (G := G) (I := I) (L := L) (t := t) (N := rdw I B) (y := y) h2 h1 hb hB
  rw [← nw_up h1, nw_rd] at key
  exact key
def secI (N : Nat → Int32) (n mo c k : Nat) : Nat → Int32 :=
  match k with
  | 0 => N
  | k + 1 => secN (secI N n mo c k) n mo c
termination_by k
theorem secI_0 {N : Nat → Int32} {n mo c : Nat} : secI N n mo c 0 = N := by rw [secI]
theorem secI_s {N : Nat → Int32} {n mo c k : Nat} : secI N n mo c (k + 1) = secN (secI N n mo c k) n mo c := by rw [secI]
theorem WfN_i {N : Nat → Int32} {n mo c : Nat} (h : WfN N n mo c) : ∀ k, WfN (secI N n mo c k) n mo c := by
  intro k
  induction k with
  | zero => rw [secI_0]; exact h
  | succ k ih => rw [secI_s]; exact WfN_s ih
def WfS (I : Im) (B : Nat) : Prop := WfN (rdw I B) (I 217 B).toNatClampNeg (I 217 (B + 1)).toNatClampNeg (I 217 (B + 21)).toNatClampNeg
def goW (I : Im) (B k : Nat) : Im := nw I B (secI (rdw I B) (I 217 B).toNatClampNeg (I 217 (B + 1)).toNatClampNeg (I 217 (B + 21)).toNatClampNeg k)
def lkI (I : Im) (x : Int32) : Im := up2 I 200 24 (125 * x)
theorem lk_off {x : Int32} {e : Nat} (h : e ≠ 200) : lkI I x e = I e := up2_off h
theorem lk_0 : lkI I 0 200 24 = nI 0 := by
  unfold lkI
  rw [u2_s]
  rfl
theorem lk_4 : lkI I 4 200 24 = nI 500 := by
  unfold lkI
  rw [u2_s]
  rfl
theorem WfS_of {J : Im} {B : Nat} (e : J 217 = I 217) (h : WfS I B) : WfS J B := by
  unfold WfS rdw at h ⊢
  rw [e]
  exact h
theorem goW_off {B k e : Nat} (h : e ≠ 217) : goW I B k e = I e := nw_off h
theorem goW_0 {B : Nat} : goW I B 0 = I := by
  unfold goW
  rw [secI_0, nw_rd]
theorem goW_f {B k p : Nat} (h : WfS I B) (hp : p < 30) : goW I B k 217 (B + p) = I 217 (B + p) := by
  unfold goW
  rw [nw_in (by omega)]
  induction k with
  | zero => rw [secI_0]; rfl
  | succ k ih => rw [secI_s, secN_c h.1.2 h.2.2.1.1 hp, ih]
set_option maxRecDepth 100000 in
set_option maxHeartbeats 4000000 in
theorem s_X12_look {x : Int32} : Ca G mdX12_look [.ref 200, .int x] (mk I L t) (Rv (mk (lkI I x) L t)) := by
  refine Ca.intro [some (.ref 200), some (.int x)] (by decide) (Nat.le_of_ble_eq_true rfl) rfl rfl ?_
  refine ex_aload_n dX12_look_0 rfl ?_
  refine ex_bipush (v := 125) dX12_look_1 (by decide) ?_
  refine ex_iload_n dX12_look_3 rfl ?_
  refine ex_imul dX12_look_4 ?_
  refine p_12_24 dX12_look_5 rfl wf_X12_157 (by first | assumption | rfl) ?_
  refine ex_vret dX12_look_8 rfl ⟨rfl, Nat.le_refl _⟩ ?_
  exact ⟨rfl, rfl⟩
set_option maxRecDepth 100000 in
set_option maxHeartbeats 4000000 in
theorem lm_go {P : Option Value → Mem → Prop} {N : Nat → Int32} {n mo c m : Nat} (hm : m < 2 ^ 31) (hw : WfN N n mo c) (hb : I 200 24 = nI 0) (kont : Ex G mdX12_go 64 [some (.ref 200), some (.int (nI m)), some (.int (nI m))] [] (mk (nw I 0 (secI N n mo c m)) L t) 0 0 P) : Ex G mdX12_go 49 [some (.ref 200), some (.int (nI m)), some (.int (nI 0))] [] (mk (nw I 0 (secI N n mo c 0)) L t) 0 0 P := by
  refine loop_up (G := G) (d := mdX12_go) (pc := 49) (st := []) (uc := 0) (us := 0) (P := P) m (fun k => mk (nw I 0 (secI N n mo c k)) L t) (fun k => [some (.ref 200), some (.int (nI m)), some (.int (nI k))]) ?_ ?_ 0 (Nat.zero_le _)
  · intro k hk ih
    refine ex_iload_n dX12_go_49 rfl ?_
    refine ex_iload_n dX12_go_50 rfl ?_
    refine ex_icmp_ge 64 dX12_go_51 (by decide) (fun h51 => ?_) (fun h51 => ?_)
    · exact absurd h51 (nI_ge hk (by omega))
    · skip
      refine ex_aload_n dX12_go_54 rfl ?_
      refine rx_cV (kd := 12) dX12_go_55 rfl lk_X12_220 rfl (by decide) (by first | assumption | rfl) ⟨⟨rfl, rfl⟩, by decide, by decide⟩ rfl (Nat.le_of_ble_eq_true rfl) rfl (s_X12_second (WfN_i hw k) hb (by decide)) (Rv.k ?_)
      refine inc2 (v := _ + 1) dX12_go_58 (by rfl) (by first | exact rfl | exact trivial) ?_
      refine ex_goto 49 dX12_go_61 (by decide) ?_
      rw [nI_1]
      rw [secI_s] at ih
      exact ih
  · skip
    refine ex_iload_n dX12_go_49 rfl ?_
    refine ex_iload_n dX12_go_50 rfl ?_
    refine ex_icmp_ge 64 dX12_go_51 (by decide) (fun h51 => ?_) (fun h51 => ?_)
    · skip
      exact kont
    · exact absurd (Int32.le_refl _) h51
theorem lm_go0 {P : Option Value → Mem → Prop} {y : Int32} (h0 : 0 ≤ y) (hw : WfS I 0) (hb : I 200 24 = nI 0) (kont : Ex G mdX12_go 64 [some (.ref 200), some (.int y), none] [] (mk (goW I 0 y.toNatClampNeg) L t) 0 0 P) : Ex G mdX12_go 49 [some (.ref 200), some (.int y), some (.int 0)] [] (mk I L t) 0 0 P := by
  obtain ⟨m, hm, rfl⟩ := nI_of (Int32.not_lt.mpr h0)
  rw [nI_clamp hm] at kont
  have h := lm_go (G := G) (I := I) (L := L) hm hw hb (P := P) (fg2 kont)
  rw [secI_0, nw_rd] at h
  exact h
def f_X12_go (I : Im) (n : Int32) : Int32 × Im :=
  if (b2i (0 ≤ n ∧ n ≤ 400)) = 0 then
    ((-1), I)
  else
    if (I 216 (0 : Int32).toNatClampNeg) = 0 then
      ((-4), I)
    else
      let I1 : Im := lkI I 0
      if ((I1 217 (0 + (30 : Int32).toNatClampNeg)) + n) ≤ 10000 then
        let I2 : Im := goW I1 0 n.toNatClampNeg
        (I2 217 (0 + (30 : Int32).toNatClampNeg), I2)
      else
        ((-6), I1)
set_option maxRecDepth 100000 in
set_option maxHeartbeats 4000000 in
theorem s_X12_go  {n : Int32} (hW : ¬ I 216 0 = 0 → WfS I 0) : Ca G mdX12_go [.ref 200, .int n] (mk I L t) (Rs (.int (f_X12_go I n).1) (mk ((f_X12_go I n).2) L t)) := by
  refine Ca.intro [some (.ref 200), some (.int n), none] (by decide) (Nat.le_of_ble_eq_true rfl) rfl rfl ?_
  refine ex_iload_n dX12_go_0 rfl ?_
  refine ex_iconst (v := 0) dX12_go_1 (by decide) ?_
  refine ex_sipush (v := 400) dX12_go_2 (by decide) ?_
  refine rx_cS dX12_go_5 rfl lk_X12_86 ⟨⟨rfl, rfl⟩, by decide, by decide⟩ rfl (Nat.le_of_ble_eq_true rfl) rfl s_X12_in (Rs.k ?_)
  refine ex_if_ne 13 dX12_go_8 (by decide) (fun h8 => ?_) (fun h8 => ?_)
  · have n0 := b2i_n0.mp h8
    refine ex_aload_n dX12_go_13 rfl ?_
    refine g_12_22 dX12_go_14 rfl wf_X12_57 (by first | assumption | rfl) (show Rt _ 200 22 = some 216 from rfl) ?_
    refine ex_iconst (v := 0) dX12_go_17 (by decide) ?_
    refine rx_zald dX12_go_18 (by first | assumption | rfl) (by first | assumption | (unfold vp_in; decide)) ?_
    refine ex_if_ne 25 dX12_go_19 (by decide) (fun h19 => ?_) (fun h19 => ?_)
    · skip
      refine ex_aload_n dX12_go_25 rfl ?_
      refine ex_iconst (v := 0) dX12_go_26 (by decide) ?_
      refine rx_cV (kd := 12) dX12_go_27 rfl lk_X12_167 rfl (by decide) (by first | assumption | rfl) ⟨⟨rfl, rfl⟩, by decide, by decide⟩ rfl (Nat.le_of_ble_eq_true rfl) rfl s_X12_look (Rv.k ?_)
      refine ex_aload_n dX12_go_30 rfl ?_
      refine ex_bipush (v := 30) dX12_go_31 (by decide) ?_
      refine rx_cV (kd := 12) dX12_go_33 rfl lk_X12_183 rfl (by decide) (by first | assumption | rfl) ⟨⟨rfl, rfl⟩, by decide, by decide⟩ rfl (Nat.le_of_ble_eq_true rfl) rfl (s_v0 (B := 0) (by unfold vp_in; decide) lk_0 (by decide)) (Rs.k ?_)
      refine ex_iload_n dX12_go_36 rfl ?_
      refine ex_iadd dX12_go_37 ?_
      refine ex_sipush (v := 10000) dX12_go_38 (by decide) ?_
      refine ex_icmp_le 47 dX12_go_41 (by decide) (fun h41 => ?_) (fun h41 => ?_)
      · skip
        refine ex_iconst (v := 0) dX12_go_47 (by decide) ?_
        refine st_i2 dX12_go_48 (by first | exact rfl | exact trivial) ?_
        refine (lm_go0 n0.1 (WfS_of (lk_off (by decide)) (hW h19)) lk_0) ?_
        refine ex_aload_n dX12_go_64 rfl ?_
        refine ex_bipush (v := 30) dX12_go_65 (by decide) ?_
        refine rx_cV (kd := 12) dX12_go_67 rfl lk_X12_183 rfl (by decide) (by first | assumption | rfl) ⟨⟨rfl, rfl⟩, by decide, by decide⟩ rfl (Nat.le_of_ble_eq_true rfl) rfl (s_v0 (B := 0) (by unfold vp_in; decide) ((congrFun (goW_off (by decide)) 24).trans lk_0) (by decide)) (Rs.k ?_)
        refine ex_iret dX12_go_70 rfl rfl ⟨rfl, Nat.le_refl _⟩ ?_
        exact ⟨(by simp only [f_X12_go, ↓eq_false h8, ↓eq_false h19, ↓h41, if_true, if_false, not_true_eq_false, not_false_eq_true]), (by simp only [f_X12_go, ↓eq_false h8, ↓eq_false h19, ↓h41, if_true, if_false, not_true_eq_false, not_false_eq_true])⟩
      · skip
        refine ex_bipush (v := (-6)) dX12_go_44 (by decide) ?_
        refine ex_iret dX12_go_46 rfl rfl ⟨rfl, Nat.le_refl _⟩ ?_
        exact ⟨(by simp only [f_X12_go, ↓eq_false h8, ↓eq_false h19, ↓h41, if_true, if_false, not_true_eq_false, not_false_eq_true]), (by simp only [f_X12_go, ↓eq_false h8, ↓eq_false h19, ↓h41, if_true, if_false, not_true_eq_false, not_false_eq_true])⟩
    · skip
      refine ex_bipush (v := (-4)) dX12_go_22 (by decide) ?_
      refine ex_iret dX12_go_24 rfl rfl ⟨rfl, Nat.le_refl _⟩ ?_
      exact ⟨(by simp only [f_X12_go, ↓eq_false h8, ↓eq_true h19, if_true, if_false, not_true_eq_false, not_false_eq_true]), (by simp only [f_X12_go, ↓eq_false h8, ↓eq_true h19, if_true, if_false, not_true_eq_false, not_false_eq_true])⟩
  · skip
    refine ex_iconst (v := (-1)) dX12_go_11 (by decide) ?_
    refine ex_iret dX12_go_12 rfl rfl ⟨rfl, Nat.le_refl _⟩ ?_
    exact ⟨(by simp only [f_X12_go, ↓eq_true h8, if_true, if_false, not_true_eq_false, not_false_eq_true]), (by simp only [f_X12_go, ↓eq_true h8, if_true, if_false, not_true_eq_false, not_false_eq_true])⟩
theorem s_ff0 {B : Nat} {x : Int32} (vx : vp_in x 16) (hn : ∃ n, n ≤ 16 ∧ I 217 B = nI n) (hb : I 200 24 = nI B) (hB : B ≤ 500) : Ca G mdX12_flowFrom [.ref 200, .int x] (mk I L t) (Rs (.int (fFr (rdw I B) (I 217 B).toNatClampNeg x.toNatClampNeg)) (mk I L t)) := by
  obtain ⟨h1, h2⟩ := vpn vx
  obtain ⟨n, hn, e⟩ := hn
  have key := s_X12_flowFrom (G := G) (I := I) (L := L) (t := t) (N := rdw I B) (k := x.toNatClampNeg) (by omega) hn e hb hB
  rw [nw_rd, ← h2] at key
  rw [e, nI_clamp (by omega)]
  exact key
theorem s_range0 {B : Nat} {x : Int32} (vx : vp_in x 16) (hb : I 200 24 = nI B) (hB : B ≤ 500) : Ca G mdX12_range [.ref 200, .int x] (mk I L t) (Rs (.int (I 217 (B + (79 + x.toNatClampNeg)) - I 217 (B + (63 + x.toNatClampNeg)))) (mk I L t)) := by
  obtain ⟨h1, h2⟩ := vpn vx
  have key := s_X12_range (G := G) (I := I) (L := L) (t := t) (N := rdw I B) (k := x.toNatClampNeg) h1 hb hB
  rw [nw_rd, ← h2] at key
  exact key
theorem vpa {x : Int32} {c N M : Nat} {C : Int32} (hc : C = nI c) (h : vp_in x N) (hM : c + N ≤ M) (h31 : M < 2 ^ 31) : vp_in (C + x) M := by
  obtain ⟨h1, h2⟩ := vpn h
  rw [hc, h2, nI_add]
  exact vp_in_nI (by omega) h31
theorem wfs_n {B : Nat} (h : WfS I B) : ∃ n, n ≤ 16 ∧ I 217 B = nI n := ⟨_, h.1.2, h.2.1⟩
def f_X12_cell (I : Im) (k : Int32) (w : Int32) : Int32 × Im :=
  if (b2i (0 ≤ k ∧ k ≤ 15)) = 0 then
    ((-1), I)
  else
    if (b2i (0 ≤ w ∧ w ≤ 2)) = 0 then
      ((-1), I)
    else
      if (I 216 (0 : Int32).toNatClampNeg) = 0 then
        ((-4), I)
      else
        let I1 : Im := lkI I 0
        if k < (I1 217 (0 + (0 : Int32).toNatClampNeg)) then
          if w = 0 then
            let I4 : Im := up2 I1 200 2 (I1 217 (0 + ((31 + k) : Int32).toNatClampNeg))
            (1, I4)
          else
            if w = 1 then
              let I3 : Im := up2 I1 200 2 (fFr (rdw I1 0) (I1 217 0).toNatClampNeg k.toNatClampNeg)
              (1, I3)
            else
              let I2 : Im := up2 I1 200 2 (I1 217 (0 + (79 + k.toNatClampNeg)) - I1 217 (0 + (63 + k.toNatClampNeg)))
              (1, I2)
        else
          let I5 : Im := meI I1 2
          ((-3), I5)
set_option maxRecDepth 100000 in
set_option maxHeartbeats 4000000 in
theorem s_X12_cell  {k : Int32} {w : Int32} (hW : ¬ I 216 0 = 0 → WfS I 0) : Ca G mdX12_cell [.ref 200, .int k, .int w] (mk I L t) (Rs (.int (f_X12_cell I k w).1) (mk ((f_X12_cell I k w).2) L t)) := by
  refine Ca.intro [some (.ref 200), some (.int k), some (.int w)] (by decide) (Nat.le_of_ble_eq_true rfl) rfl rfl ?_
  refine ex_iload_n dX12_cell_0 rfl ?_
  refine ex_iconst (v := 0) dX12_cell_1 (by decide) ?_
  refine ex_bipush (v := 15) dX12_cell_2 (by decide) ?_
  refine rx_cS dX12_cell_4 rfl lk_X12_86 ⟨⟨rfl, rfl⟩, by decide, by decide⟩ rfl (Nat.le_of_ble_eq_true rfl) rfl s_X12_in (Rs.k ?_)
  refine ex_if_eq 19 dX12_cell_7 (by decide) (fun h7 => ?_) (fun h7 => ?_)
  · skip
    refine ex_iconst (v := (-1)) dX12_cell_19 (by decide) ?_
    refine ex_iret dX12_cell_20 rfl rfl ⟨rfl, Nat.le_refl _⟩ ?_
    exact ⟨(by simp only [f_X12_cell, ↓eq_true h7, if_true, if_false, not_true_eq_false, not_false_eq_true]), (by simp only [f_X12_cell, ↓eq_true h7, if_true, if_false, not_true_eq_false, not_false_eq_true])⟩
  · have qk := (cl_lt (N := 16) (by decide) h7).1
    have vk := (cl_lt (N := 16) (by decide) h7).2
    refine ex_iload_n dX12_cell_10 rfl ?_
    refine ex_iconst (v := 0) dX12_cell_11 (by decide) ?_
    refine ex_iconst (v := 2) dX12_cell_12 (by decide) ?_
    refine rx_cS dX12_cell_13 rfl lk_X12_86 ⟨⟨rfl, rfl⟩, by decide, by decide⟩ rfl (Nat.le_of_ble_eq_true rfl) rfl s_X12_in (Rs.k ?_)
    refine ex_if_ne 21 dX12_cell_16 (by decide) (fun h16 => ?_) (fun h16 => ?_)
    · skip
      refine ex_aload_n dX12_cell_21 rfl ?_
      refine g_12_22 dX12_cell_22 rfl wf_X12_57 (by first | assumption | rfl) (show Rt _ 200 22 = some 216 from rfl) ?_
      refine ex_iconst (v := 0) dX12_cell_25 (by decide) ?_
      refine rx_zald dX12_cell_26 (by first | assumption | rfl) (by first | assumption | (unfold vp_in; decide)) ?_
      refine ex_if_ne 33 dX12_cell_27 (by decide) (fun h27 => ?_) (fun h27 => ?_)
      · skip
        refine ex_aload_n dX12_cell_33 rfl ?_
        refine ex_iconst (v := 0) dX12_cell_34 (by decide) ?_
        refine rx_cV (kd := 12) dX12_cell_35 rfl lk_X12_167 rfl (by decide) (by first | assumption | rfl) ⟨⟨rfl, rfl⟩, by decide, by decide⟩ rfl (Nat.le_of_ble_eq_true rfl) rfl s_X12_look (Rv.k ?_)
        refine ex_iload_n dX12_cell_38 rfl ?_
        refine ex_aload_n dX12_cell_39 rfl ?_
        refine ex_iconst (v := 0) dX12_cell_40 (by decide) ?_
        refine rx_cV (kd := 12) dX12_cell_41 rfl lk_X12_183 rfl (by decide) (by first | assumption | rfl) ⟨⟨rfl, rfl⟩, by decide, by decide⟩ rfl (Nat.le_of_ble_eq_true rfl) rfl (s_v0 (B := 0) (by unfold vp_in; decide) lk_0 (by decide)) (Rs.k ?_)
        refine ex_icmp_lt 53 dX12_cell_44 (by decide) (fun h44 => ?_) (fun h44 => ?_)
        · skip
          refine ex_aload_n dX12_cell_53 rfl ?_
          refine ex_iload_n dX12_cell_54 rfl ?_
          refine ex_if_ne 69 dX12_cell_55 (by decide) (fun h55 => ?_) (fun h55 => ?_)
          · skip
            refine ex_iload_n dX12_cell_69 rfl ?_
            refine ex_iconst (v := 1) dX12_cell_70 (by decide) ?_
            refine ex_icmp_ne 82 dX12_cell_71 (by decide) (fun h71 => ?_) (fun h71 => ?_)
            · skip
              refine ex_aload_n dX12_cell_82 rfl ?_
              refine ex_iload_n dX12_cell_83 rfl ?_
              refine rx_cV (kd := 12) dX12_cell_84 rfl lk_X12_223 rfl (by decide) (by first | assumption | rfl) ⟨⟨rfl, rfl⟩, by decide, by decide⟩ rfl (Nat.le_of_ble_eq_true rfl) rfl (s_range0 (B := 0) vk lk_0 (by decide)) (Rs.k ?_)
              refine ex_iconst (v := 1) dX12_cell_87 (by decide) ?_
              refine rx_cV (kd := 12) dX12_cell_88 rfl lk_X12_108 rfl (by decide) (by first | assumption | rfl) ⟨⟨rfl, rfl⟩, by decide, by decide⟩ rfl (Nat.le_of_ble_eq_true rfl) rfl s_X12_tells (Rs.k ?_)
              refine ex_iret dX12_cell_91 rfl rfl ⟨rfl, Nat.le_refl _⟩ ?_
              exact ⟨(by simp only [f_X12_cell, ↓eq_false h7, ↓eq_false h16, ↓eq_false h27, ↓h44, ↓eq_false h55, ↓eq_false h71, if_true, if_false, not_true_eq_false, not_false_eq_true]), (by simp only [f_X12_cell, ↓eq_false h7, ↓eq_false h16, ↓eq_false h27, ↓h44, ↓eq_false h55, ↓eq_false h71, if_true, if_false, not_true_eq_false, not_false_eq_true])⟩
            · skip
              refine ex_aload_n dX12_cell_74 rfl ?_
              refine ex_iload_n dX12_cell_75 rfl ?_
              refine rx_cV (kd := 12) dX12_cell_76 rfl lk_X12_195 rfl (by decide) (by first | assumption | rfl) ⟨⟨rfl, rfl⟩, by decide, by decide⟩ rfl (Nat.le_of_ble_eq_true rfl) rfl (s_ff0 (B := 0) vk (wfs_n (WfS_of (lk_off (by decide)) (hW h27))) lk_0 (by decide)) (Rs.k ?_)
              refine ex_goto 87 dX12_cell_79 (by decide) ?_
              refine ex_iconst (v := 1) dX12_cell_87 (by decide) ?_
              refine rx_cV (kd := 12) dX12_cell_88 rfl lk_X12_108 rfl (by decide) (by first | assumption | rfl) ⟨⟨rfl, rfl⟩, by decide, by decide⟩ rfl (Nat.le_of_ble_eq_true rfl) rfl s_X12_tells (Rs.k ?_)
              refine ex_iret dX12_cell_91 rfl rfl ⟨rfl, Nat.le_refl _⟩ ?_
              exact ⟨(by simp only [f_X12_cell, ↓eq_false h7, ↓eq_false h16, ↓eq_false h27, ↓h44, ↓eq_false h55, ↓eq_true h71, if_true, if_false, not_true_eq_false, not_false_eq_true]), (by simp only [f_X12_cell, ↓eq_false h7, ↓eq_false h16, ↓eq_false h27, ↓h44, ↓eq_false h55, ↓eq_true h71, if_true, if_false, not_true_eq_false, not_false_eq_true])⟩
          · skip
            refine ex_aload_n dX12_cell_58 rfl ?_
            refine ex_bipush (v := 31) dX12_cell_59 (by decide) ?_
            refine ex_iload_n dX12_cell_61 rfl ?_
            refine ex_iadd dX12_cell_62 ?_
            refine rx_cV (kd := 12) dX12_cell_63 rfl lk_X12_183 rfl (by decide) (by first | assumption | rfl) ⟨⟨rfl, rfl⟩, by decide, by decide⟩ rfl (Nat.le_of_ble_eq_true rfl) rfl (s_v0 (B := 0) (vpa (C := 31) (c := 31) rfl vk (by decide) (by decide)) lk_0 (by decide)) (Rs.k ?_)
            refine ex_goto 87 dX12_cell_66 (by decide) ?_
            refine ex_iconst (v := 1) dX12_cell_87 (by decide) ?_
            refine rx_cV (kd := 12) dX12_cell_88 rfl lk_X12_108 rfl (by decide) (by first | assumption | rfl) ⟨⟨rfl, rfl⟩, by decide, by decide⟩ rfl (Nat.le_of_ble_eq_true rfl) rfl s_X12_tells (Rs.k ?_)
            refine ex_iret dX12_cell_91 rfl rfl ⟨rfl, Nat.le_refl _⟩ ?_
            exact ⟨(by simp only [f_X12_cell, ↓eq_false h7, ↓eq_false h16, ↓eq_false h27, ↓h44, ↓eq_true h55, if_true, if_false, not_true_eq_false, not_false_eq_true]), (by simp only [f_X12_cell, ↓eq_false h7, ↓eq_false h16, ↓eq_false h27, ↓h44, ↓eq_true h55, if_true, if_false, not_true_eq_false, not_false_eq_true])⟩
        · skip
          refine ex_aload_n dX12_cell_47 rfl ?_
          refine ex_iconst (v := 2) dX12_cell_48 (by decide) ?_
          refine rx_cV (kd := 12) dX12_cell_49 rfl lk_X12_100 rfl (by decide) (by first | assumption | rfl) ⟨⟨rfl, rfl⟩, by decide, by decide⟩ rfl (Nat.le_of_ble_eq_true rfl) rfl (s_X12_meets (by unfold vp_in; decide)) (Rs.k ?_)
          refine ex_iret dX12_cell_52 rfl rfl ⟨rfl, Nat.le_refl _⟩ ?_
          exact ⟨(by simp only [f_X12_cell, ↓eq_false h7, ↓eq_false h16, ↓eq_false h27, ↓h44, if_true, if_false, not_true_eq_false, not_false_eq_true]), (by simp only [f_X12_cell, ↓eq_false h7, ↓eq_false h16, ↓eq_false h27, ↓h44, if_true, if_false, not_true_eq_false, not_false_eq_true])⟩
      · skip
        refine ex_bipush (v := (-4)) dX12_cell_30 (by decide) ?_
        refine ex_iret dX12_cell_32 rfl rfl ⟨rfl, Nat.le_refl _⟩ ?_
        exact ⟨(by simp only [f_X12_cell, ↓eq_false h7, ↓eq_false h16, ↓eq_true h27, if_true, if_false, not_true_eq_false, not_false_eq_true]), (by simp only [f_X12_cell, ↓eq_false h7, ↓eq_false h16, ↓eq_true h27, if_true, if_false, not_true_eq_false, not_false_eq_true])⟩
    · skip
      refine ex_iconst (v := (-1)) dX12_cell_19 (by decide) ?_
      refine ex_iret dX12_cell_20 rfl rfl ⟨rfl, Nat.le_refl _⟩ ?_
      exact ⟨(by simp only [f_X12_cell, ↓eq_false h7, ↓eq_true h16, if_true, if_false, not_true_eq_false, not_false_eq_true]), (by simp only [f_X12_cell, ↓eq_false h7, ↓eq_true h16, if_true, if_false, not_true_eq_false, not_false_eq_true])⟩
theorem s_rt0 {B : Nat} {x w : Int32} (vx : vp_in x 3) (vw : vp_in w 4) (hb : I 200 24 = nI B) (hB : B ≤ 500) : Ca G mdX12_ridesTells [.ref 200, .int x, .int w] (mk I L t) (Rs (.int (I 217 (B + (95 + 10 * x.toNatClampNeg + 6 + w.toNatClampNeg)))) (mk I L t)) := by
  obtain ⟨h1, h2⟩ := vpn vx
  obtain ⟨w1, w2⟩ := vpn vw
  generalize hq : x.toNatClampNeg = q at h1 h2 ⊢
  generalize hj : w.toNatClampNeg = j at w1 w2 ⊢
  subst h2 w2
  refine Ca.intro [some (.ref 200), some (.int (nI q)), some (.int (nI j))] (by decide) (Nat.le_of_ble_eq_true rfl) rfl rfl ?_
  refine ex_aload_n dX12_ridesTells_0 rfl ?_
  refine ex_iload_n dX12_ridesTells_1 rfl ?_
  refine rx_cS dX12_ridesTells_2 rfl lk_X12_164 ⟨⟨rfl, rfl⟩, by decide, by decide⟩ rfl (Nat.le_of_ble_eq_true rfl) rfl s_X12_rider (Rs.k ?_)
  refine ex_bipush (v := 6) dX12_ridesTells_5 (by decide) ?_
  refine ex_iadd dX12_ridesTells_7 ?_
  refine ex_iload_n dX12_ridesTells_8 rfl ?_
  refine ex_iadd dX12_ridesTells_9 ?_
  refine rx_cV (kd := 12) dX12_ridesTells_10 rfl lk_X12_183 rfl (by decide) (by first | assumption | rfl) ⟨⟨rfl, rfl⟩, by decide, by decide⟩ rfl (Nat.le_of_ble_eq_true rfl) rfl (s_v0 (B := B) (x := nI (95 + 10 * q) + 6 + nI j) (by rw [show (6 : Int32) = nI 6 from rfl, nI_add, nI_add]; exact vp_in_nI (by omega) (by decide)) hb hB) (Rs.k ?_)
  refine ex_iret dX12_ridesTells_13 rfl rfl ⟨rfl, Nat.le_refl _⟩ ?_
  refine ⟨?_, rfl⟩
  rw [show (6 : Int32) = nI 6 from rfl, nI_add, nI_add, nI_clamp (by omega)]
theorem s_rid0 {x : Int32} (vx : vp_in x 3) : Ca G mdX12_rider [.int x] (mk I L t) (Rs (.int (nI (95 + 10 * x.toNatClampNeg))) (mk I L t)) := by
  obtain ⟨h1, h2⟩ := vpn vx
  have key := s_X12_rider (G := G) (I := I) (L := L) (t := t) (s := x.toNatClampNeg)
  rw [← h2] at key
  exact key
theorem v_rid {x : Int32} (vx : vp_in x 3) : vp_in (nI (95 + 10 * x.toNatClampNeg)) 125 := vp_in_nI (by have := (vpn vx).1; omega) (by decide)
def f_X12_rides (I : Im) (s : Int32) (w : Int32) : Int32 × Im :=
  if (b2i (0 ≤ s ∧ s ≤ 2)) = 0 then
    ((-1), I)
  else
    if (b2i (0 ≤ w ∧ w ≤ 3)) = 0 then
      ((-1), I)
    else
      let I1 : Im := lkI I 0
      if (I1 216 (0 : Int32).toNatClampNeg) = 0 then
        ((-4), I1)
      else
        if (I1 217 (0 + ((nI (95 + 10 * s.toNatClampNeg)) : Int32).toNatClampNeg)) = 1 then
          let I2 : Im := up2 I1 200 2 (I1 217 (0 + (95 + 10 * s.toNatClampNeg + 6 + w.toNatClampNeg)))
          (1, I2)
        else
          ((-4), I1)
set_option maxRecDepth 100000 in
set_option maxHeartbeats 4000000 in
theorem s_X12_rides  {s : Int32} {w : Int32}  : Ca G mdX12_rides [.ref 200, .int s, .int w] (mk I L t) (Rs (.int (f_X12_rides I s w).1) (mk ((f_X12_rides I s w).2) L t)) := by
  refine Ca.intro [some (.ref 200), some (.int s), some (.int w)] (by decide) (Nat.le_of_ble_eq_true rfl) rfl rfl ?_
  refine ex_iload_n dX12_rides_0 rfl ?_
  refine rx_cS dX12_rides_1 rfl lk_X12_154 ⟨⟨rfl, rfl⟩, by decide, by decide⟩ rfl (Nat.le_of_ble_eq_true rfl) rfl s_X12_isShipTold (Rs.k ?_)
  refine ex_if_eq 16 dX12_rides_4 (by decide) (fun h4 => ?_) (fun h4 => ?_)
  · skip
    refine ex_iconst (v := (-1)) dX12_rides_16 (by decide) ?_
    refine ex_iret dX12_rides_17 rfl rfl ⟨rfl, Nat.le_refl _⟩ ?_
    exact ⟨(by simp only [f_X12_rides, ↓eq_true h4, if_true, if_false, not_true_eq_false, not_false_eq_true]), (by simp only [f_X12_rides, ↓eq_true h4, if_true, if_false, not_true_eq_false, not_false_eq_true])⟩
  · have qs := (cl_lt (N := 3) (by decide) h4).1
    have vs := (cl_lt (N := 3) (by decide) h4).2
    refine ex_iload_n dX12_rides_7 rfl ?_
    refine ex_iconst (v := 0) dX12_rides_8 (by decide) ?_
    refine ex_iconst (v := 3) dX12_rides_9 (by decide) ?_
    refine rx_cS dX12_rides_10 rfl lk_X12_86 ⟨⟨rfl, rfl⟩, by decide, by decide⟩ rfl (Nat.le_of_ble_eq_true rfl) rfl s_X12_in (Rs.k ?_)
    refine ex_if_ne 18 dX12_rides_13 (by decide) (fun h13 => ?_) (fun h13 => ?_)
    · have qw := (cl_lt (N := 4) (by decide) h13).1
      have vw := (cl_lt (N := 4) (by decide) h13).2
      refine ex_aload_n dX12_rides_18 rfl ?_
      refine ex_iconst (v := 0) dX12_rides_19 (by decide) ?_
      refine rx_cV (kd := 12) dX12_rides_20 rfl lk_X12_167 rfl (by decide) (by first | assumption | rfl) ⟨⟨rfl, rfl⟩, by decide, by decide⟩ rfl (Nat.le_of_ble_eq_true rfl) rfl s_X12_look (Rv.k ?_)
      refine ex_aload_n dX12_rides_23 rfl ?_
      refine g_12_22 dX12_rides_24 rfl wf_X12_57 (by first | assumption | rfl) (show Rt _ 200 22 = some 216 from rfl) ?_
      refine ex_iconst (v := 0) dX12_rides_27 (by decide) ?_
      refine rx_zald dX12_rides_28 (by first | assumption | rfl) (by first | assumption | (unfold vp_in; decide)) ?_
      refine ex_if_eq 58 dX12_rides_29 (by decide) (fun h29 => ?_) (fun h29 => ?_)
      · skip
        refine ex_bipush (v := (-4)) dX12_rides_58 (by decide) ?_
        refine ex_iret dX12_rides_60 rfl rfl ⟨rfl, Nat.le_refl _⟩ ?_
        exact ⟨(by simp only [f_X12_rides, ↓eq_false h4, ↓eq_false h13, ↓eq_true h29, if_true, if_false, not_true_eq_false, not_false_eq_true]), (by simp only [f_X12_rides, ↓eq_false h4, ↓eq_false h13, ↓eq_true h29, if_true, if_false, not_true_eq_false, not_false_eq_true])⟩
      · skip
        refine ex_aload_n dX12_rides_32 rfl ?_
        refine ex_iload_n dX12_rides_33 rfl ?_
        refine rx_cS dX12_rides_34 rfl lk_X12_164 ⟨⟨rfl, rfl⟩, by decide, by decide⟩ rfl (Nat.le_of_ble_eq_true rfl) rfl (s_rid0 vs) (Rs.k ?_)
        refine rx_cV (kd := 12) dX12_rides_37 rfl lk_X12_183 rfl (by decide) (by first | assumption | rfl) ⟨⟨rfl, rfl⟩, by decide, by decide⟩ rfl (Nat.le_of_ble_eq_true rfl) rfl (s_v0 (B := 0) (v_rid vs) lk_0 (by decide)) (Rs.k ?_)
        refine ex_iconst (v := 1) dX12_rides_40 (by decide) ?_
        refine ex_icmp_ne 58 dX12_rides_41 (by decide) (fun h41 => ?_) (fun h41 => ?_)
        · skip
          refine ex_bipush (v := (-4)) dX12_rides_58 (by decide) ?_
          refine ex_iret dX12_rides_60 rfl rfl ⟨rfl, Nat.le_refl _⟩ ?_
          exact ⟨(by simp only [f_X12_rides, ↓eq_false h4, ↓eq_false h13, ↓eq_false h29, ↓eq_false h41, if_true, if_false, not_true_eq_false, not_false_eq_true]), (by simp only [f_X12_rides, ↓eq_false h4, ↓eq_false h13, ↓eq_false h29, ↓eq_false h41, if_true, if_false, not_true_eq_false, not_false_eq_true])⟩
        · skip
          refine ex_aload_n dX12_rides_44 rfl ?_
          refine ex_aload_n dX12_rides_45 rfl ?_
          refine ex_iload_n dX12_rides_46 rfl ?_
          refine ex_iload_n dX12_rides_47 rfl ?_
          refine rx_cV (kd := 12) dX12_rides_48 rfl lk_X12_226 rfl (by decide) (by first | assumption | rfl) ⟨⟨rfl, rfl⟩, by decide, by decide⟩ rfl (Nat.le_of_ble_eq_true rfl) rfl (s_rt0 (B := 0) vs vw lk_0 (by decide)) (Rs.k ?_)
          refine ex_iconst (v := 1) dX12_rides_51 (by decide) ?_
          refine rx_cV (kd := 12) dX12_rides_52 rfl lk_X12_108 rfl (by decide) (by first | assumption | rfl) ⟨⟨rfl, rfl⟩, by decide, by decide⟩ rfl (Nat.le_of_ble_eq_true rfl) rfl s_X12_tells (Rs.k ?_)
          refine ex_goto 60 dX12_rides_55 (by decide) ?_
          refine ex_iret dX12_rides_60 rfl rfl ⟨rfl, Nat.le_refl _⟩ ?_
          exact ⟨(by simp only [f_X12_rides, ↓eq_false h4, ↓eq_false h13, ↓eq_false h29, ↓eq_true h41, if_true, if_false, not_true_eq_false, not_false_eq_true]), (by simp only [f_X12_rides, ↓eq_false h4, ↓eq_false h13, ↓eq_false h29, ↓eq_true h41, if_true, if_false, not_true_eq_false, not_false_eq_true])⟩
    · skip
      refine ex_iconst (v := (-1)) dX12_rides_16 (by decide) ?_
      refine ex_iret dX12_rides_17 rfl rfl ⟨rfl, Nat.le_refl _⟩ ?_
      exact ⟨(by simp only [f_X12_rides, ↓eq_false h4, ↓eq_true h13, if_true, if_false, not_true_eq_false, not_false_eq_true]), (by simp only [f_X12_rides, ↓eq_false h4, ↓eq_true h13, if_true, if_false, not_true_eq_false, not_false_eq_true])⟩
set_option maxRecDepth 100000 in
set_option maxHeartbeats 4000000 in
theorem s_X12_copyNight {a b : Nat} (ha : a < 5) (hb : b < 5) (hab : a ≠ b) : Ca G mdX12_copyNight [.ref 200, .int (nI a), .int (nI b)] (mk I L t) (Rv (mk (flw I 217 (125 * b) 125 (fun i => I 217 (125 * a + i))) L t)) := by
  refine Ca.intro [some (.ref 200), some (.int (nI a)), some (.int (nI b)), none] (by decide) (Nat.le_of_ble_eq_true rfl) rfl rfl ?_
  refine ex_iconst (v := 0) dX12_copyNight_0 (by decide) ?_
  refine st_i3 dX12_copyNight_1 (by first | exact rfl | exact trivial) ?_
  have key := loop_up (G := G) (d := mdX12_copyNight) (pc := 2) (st := []) (uc := 0) (us := 0) (P := Rv (mk (flw I 217 (125 * b) 125 (fun i => I 217 (125 * a + i))) L t)) 125 (fun k => mk (flw I 217 (125 * b) k (fun i => I 217 (125 * a + i))) L t) (fun k => [some (.ref 200), some (.int (nI a)), some (.int (nI b)), some (.int (nI k))]) ?_ ?_ 0 (Nat.zero_le _)
  · rw [flw_0] at key
    exact key
  · intro k hk ih
    refine ex_iload_n dX12_copyNight_2 rfl ?_
    refine ex_bipush (v := 125) dX12_copyNight_3 (by decide) ?_
    refine ex_icmp_ge 36 dX12_copyNight_5 (by decide) (fun h5 => ?_) (fun h5 => ?_)
    · exact absurd h5 (nI_ge hk (by decide))
    · skip
      refine ex_aload_n dX12_copyNight_8 rfl ?_
      refine g_12_23 dX12_copyNight_9 rfl wf_X12_60 (by first | assumption | rfl) (show Rt _ 200 23 = some 217 from rfl) ?_
      refine ex_bipush (v := 125) dX12_copyNight_12 (by decide) ?_
      refine ex_iload_n dX12_copyNight_14 rfl ?_
      refine ex_imul dX12_copyNight_15 ?_
      refine ex_iload_n dX12_copyNight_16 rfl ?_
      refine ex_iadd dX12_copyNight_17 ?_
      refine ex_aload_n dX12_copyNight_18 rfl ?_
      refine g_12_23 dX12_copyNight_19 rfl wf_X12_60 (by first | assumption | rfl) (show Rt _ 200 23 = some 217 from rfl) ?_
      refine ex_bipush (v := 125) dX12_copyNight_22 (by decide) ?_
      refine ex_iload_n dX12_copyNight_24 rfl ?_
      refine ex_imul dX12_copyNight_25 ?_
      refine ex_iload_n dX12_copyNight_26 rfl ?_
      refine ex_iadd dX12_copyNight_27 ?_
      refine rx_iald dX12_copyNight_28 (by first | assumption | rfl) (ixm (c := 125) (C := 125) (R := 5) rfl (vp_in_nI ha (by decide)) (vp_in_nI hk (by decide)) (by decide)).1 ?_
      rw [(ixm (c := 125) (C := 125) (R := 5) rfl (vp_in_nI ha (by decide)) (vp_in_nI hk (by decide)) (by decide)).2, nI_clamp (show a < 2 ^ 31 by omega), nI_clamp (show k < 2 ^ 31 by omega), flw_out (by omega)]
      refine rx_iast dX12_copyNight_29 (by first | assumption | rfl) (ixm (c := 125) (C := 125) (R := 5) rfl (vp_in_nI hb (by decide)) (vp_in_nI hk (by decide)) (by decide)).1 ?_
      refine inc3 (v := _ + 1) dX12_copyNight_30 (by rfl) (by first | exact rfl | exact trivial) ?_
      refine ex_goto 2 dX12_copyNight_33 (by decide) ?_
      rw [(ixm (c := 125) (C := 125) (R := 5) rfl (vp_in_nI hb (by decide)) (vp_in_nI hk (by decide)) (by decide)).2, nI_clamp (show b < 2 ^ 31 by omega), nI_clamp (show k < 2 ^ 31 by omega), nI_1]
      rw [← flw_s] at ih
      exact ih
  · skip
    refine ex_iload_n dX12_copyNight_2 rfl ?_
    refine ex_bipush (v := 125) dX12_copyNight_3 (by decide) ?_
    refine ex_icmp_ge 36 dX12_copyNight_5 (by decide) (fun h5 => ?_) (fun h5 => ?_)
    · skip
      refine ex_vret dX12_copyNight_36 rfl ⟨rfl, Nat.le_refl _⟩ ?_
      exact ⟨rfl, rfl⟩
    · exact absurd (by decide : nI 125 ≤ nI 125) h5
def cnI (I : Im) (a b : Nat) : Im := flw I 217 (125 * b) 125 (fun i => I 217 (125 * a + i))
theorem s_cn {x y : Int32} (vx : vp_in x 5) (vy : vp_in y 5) (h : ¬ x.toNatClampNeg = y.toNatClampNeg) : Ca G mdX12_copyNight [.ref 200, .int x, .int y] (mk I L t) (Rv (mk (cnI I x.toNatClampNeg y.toNatClampNeg) L t)) := by
  obtain ⟨h1, h2⟩ := vpn vx
  obtain ⟨g1, g2⟩ := vpn vy
  have key := s_X12_copyNight (G := G) (I := I) (L := L) (t := t) h1 g1 h
  rw [← h2, ← g2] at key
  exact key
theorem tn1 {k : Int32} (vk : vp_in k 3) : (1 + k).toNatClampNeg = 1 + k.toNatClampNeg := by
  obtain ⟨h1, h2⟩ := vpn vk
  rw [show (1 + k).toNatClampNeg = (nI 1 + nI k.toNatClampNeg).toNatClampNeg by rw [← h2]; rfl, nI_add, nI_clamp (by omega)]
def f_X12_keep (I : Im) (k : Int32) : Int32 × Im :=
  if (b2i (0 ≤ k ∧ k ≤ 2)) = 0 then
    ((-1), I)
  else
    if (I 216 (0 : Int32).toNatClampNeg) = 0 then
      ((-4), I)
    else
      let I1 : Im := cnI I (0 : Int32).toNatClampNeg ((1 + k) : Int32).toNatClampNeg
      let I2 : Im := up2 I1 216 (1 + k).toNatClampNeg 1
      let I3 : Im := lkI I2 0
      (I3 217 (0 + (30 : Int32).toNatClampNeg), I3)
set_option maxRecDepth 100000 in
set_option maxHeartbeats 4000000 in
theorem s_X12_keep  {k : Int32}  : Ca G mdX12_keep [.ref 200, .int k] (mk I L t) (Rs (.int (f_X12_keep I k).1) (mk ((f_X12_keep I k).2) L t)) := by
  refine Ca.intro [some (.ref 200), some (.int k)] (by decide) (Nat.le_of_ble_eq_true rfl) rfl rfl ?_
  refine ex_iload_n dX12_keep_0 rfl ?_
  refine ex_iconst (v := 0) dX12_keep_1 (by decide) ?_
  refine ex_iconst (v := 2) dX12_keep_2 (by decide) ?_
  refine rx_cS dX12_keep_3 rfl lk_X12_86 ⟨⟨rfl, rfl⟩, by decide, by decide⟩ rfl (Nat.le_of_ble_eq_true rfl) rfl s_X12_in (Rs.k ?_)
  refine ex_if_ne 11 dX12_keep_6 (by decide) (fun h6 => ?_) (fun h6 => ?_)
  · have qk := (cl_lt (N := 3) (by decide) h6).1
    have vk := (cl_lt (N := 3) (by decide) h6).2
    refine ex_aload_n dX12_keep_11 rfl ?_
    refine g_12_22 dX12_keep_12 rfl wf_X12_57 (by first | assumption | rfl) (show Rt _ 200 22 = some 216 from rfl) ?_
    refine ex_iconst (v := 0) dX12_keep_15 (by decide) ?_
    refine rx_zald dX12_keep_16 (by first | assumption | rfl) (by first | assumption | (unfold vp_in; decide)) ?_
    refine ex_if_ne 23 dX12_keep_17 (by decide) (fun h17 => ?_) (fun h17 => ?_)
    · skip
      refine ex_aload_n dX12_keep_23 rfl ?_
      refine ex_iconst (v := 0) dX12_keep_24 (by decide) ?_
      refine ex_iconst (v := 1) dX12_keep_25 (by decide) ?_
      refine ex_iload_n dX12_keep_26 rfl ?_
      refine ex_iadd dX12_keep_27 ?_
      refine rx_cV (kd := 12) dX12_keep_28 rfl lk_X12_229 rfl (by decide) (by first | assumption | rfl) ⟨⟨rfl, rfl⟩, by decide, by decide⟩ rfl (Nat.le_of_ble_eq_true rfl) rfl (s_cn (by unfold vp_in; decide) (vpa (C := 1) (c := 1) rfl vk (by decide) (by decide)) (by rw [tn1 vk]; exact fun z => absurd z (by show ¬ 0 = _; omega))) (Rv.k ?_)
      refine ex_aload_n dX12_keep_31 rfl ?_
      refine g_12_22 dX12_keep_32 rfl wf_X12_57 (by first | assumption | rfl) (show Rt _ 200 22 = some 216 from rfl) ?_
      refine ex_iconst (v := 1) dX12_keep_35 (by decide) ?_
      refine ex_iload_n dX12_keep_36 rfl ?_
      refine ex_iadd dX12_keep_37 ?_
      refine ex_iconst (v := 1) dX12_keep_38 (by decide) ?_
      refine rx_zast dX12_keep_39 (by first | assumption | rfl) (vpa (C := 1) (c := 1) rfl vk (by decide) (by decide)) rfl ?_
      refine ex_aload_n dX12_keep_40 rfl ?_
      refine ex_iconst (v := 0) dX12_keep_41 (by decide) ?_
      refine rx_cV (kd := 12) dX12_keep_42 rfl lk_X12_167 rfl (by decide) (by first | assumption | rfl) ⟨⟨rfl, rfl⟩, by decide, by decide⟩ rfl (Nat.le_of_ble_eq_true rfl) rfl s_X12_look (Rv.k ?_)
      refine ex_aload_n dX12_keep_45 rfl ?_
      refine ex_bipush (v := 30) dX12_keep_46 (by decide) ?_
      refine rx_cV (kd := 12) dX12_keep_48 rfl lk_X12_183 rfl (by decide) (by first | assumption | rfl) ⟨⟨rfl, rfl⟩, by decide, by decide⟩ rfl (Nat.le_of_ble_eq_true rfl) rfl (s_v0 (B := 0) (by unfold vp_in; decide) lk_0 (by decide)) (Rs.k ?_)
      refine ex_iret dX12_keep_51 rfl rfl ⟨rfl, Nat.le_refl _⟩ ?_
      exact ⟨(by simp only [f_X12_keep, ↓eq_false h6, ↓eq_false h17, if_true, if_false, not_true_eq_false, not_false_eq_true]), (by simp only [f_X12_keep, ↓eq_false h6, ↓eq_false h17, if_true, if_false, not_true_eq_false, not_false_eq_true])⟩
    · skip
      refine ex_bipush (v := (-4)) dX12_keep_20 (by decide) ?_
      refine ex_iret dX12_keep_22 rfl rfl ⟨rfl, Nat.le_refl _⟩ ?_
      exact ⟨(by simp only [f_X12_keep, ↓eq_false h6, ↓eq_true h17, if_true, if_false, not_true_eq_false, not_false_eq_true]), (by simp only [f_X12_keep, ↓eq_false h6, ↓eq_true h17, if_true, if_false, not_true_eq_false, not_false_eq_true])⟩
  · skip
    refine ex_iconst (v := (-1)) dX12_keep_9 (by decide) ?_
    refine ex_iret dX12_keep_10 rfl rfl ⟨rfl, Nat.le_refl _⟩ ?_
    exact ⟨(by simp only [f_X12_keep, ↓eq_true h6, if_true, if_false, not_true_eq_false, not_false_eq_true]), (by simp only [f_X12_keep, ↓eq_true h6, if_true, if_false, not_true_eq_false, not_false_eq_true])⟩
def f_X12_on (I : Im) (k : Int32) : Int32 × Im :=
  if (b2i (0 ≤ k ∧ k ≤ 2)) = 0 then
    ((-1), I)
  else
    if (I 216 (1 + k).toNatClampNeg) = 0 then
      let I4 : Im := meI I 1
      ((-3), I4)
    else
      let I1 : Im := cnI I ((1 + k) : Int32).toNatClampNeg (0 : Int32).toNatClampNeg
      let I2 : Im := up2 I1 216 (0 : Int32).toNatClampNeg 1
      let I3 : Im := lkI I2 0
      (I3 217 (0 + (30 : Int32).toNatClampNeg), I3)
set_option maxRecDepth 100000 in
set_option maxHeartbeats 4000000 in
theorem s_X12_on  {k : Int32}  : Ca G mdX12_on [.ref 200, .int k] (mk I L t) (Rs (.int (f_X12_on I k).1) (mk ((f_X12_on I k).2) L t)) := by
  refine Ca.intro [some (.ref 200), some (.int k)] (by decide) (Nat.le_of_ble_eq_true rfl) rfl rfl ?_
  refine ex_iload_n dX12_on_0 rfl ?_
  refine ex_iconst (v := 0) dX12_on_1 (by decide) ?_
  refine ex_iconst (v := 2) dX12_on_2 (by decide) ?_
  refine rx_cS dX12_on_3 rfl lk_X12_86 ⟨⟨rfl, rfl⟩, by decide, by decide⟩ rfl (Nat.le_of_ble_eq_true rfl) rfl s_X12_in (Rs.k ?_)
  refine ex_if_ne 11 dX12_on_6 (by decide) (fun h6 => ?_) (fun h6 => ?_)
  · have qk := (cl_lt (N := 3) (by decide) h6).1
    have vk := (cl_lt (N := 3) (by decide) h6).2
    refine ex_aload_n dX12_on_11 rfl ?_
    refine g_12_22 dX12_on_12 rfl wf_X12_57 (by first | assumption | rfl) (show Rt _ 200 22 = some 216 from rfl) ?_
    refine ex_iconst (v := 1) dX12_on_15 (by decide) ?_
    refine ex_iload_n dX12_on_16 rfl ?_
    refine ex_iadd dX12_on_17 ?_
    refine rx_zald dX12_on_18 (by first | assumption | rfl) (vpa (C := 1) (c := 1) rfl vk (by decide) (by decide)) ?_
    refine ex_if_ne 28 dX12_on_19 (by decide) (fun h19 => ?_) (fun h19 => ?_)
    · skip
      refine ex_aload_n dX12_on_28 rfl ?_
      refine ex_iconst (v := 1) dX12_on_29 (by decide) ?_
      refine ex_iload_n dX12_on_30 rfl ?_
      refine ex_iadd dX12_on_31 ?_
      refine ex_iconst (v := 0) dX12_on_32 (by decide) ?_
      refine rx_cV (kd := 12) dX12_on_33 rfl lk_X12_229 rfl (by decide) (by first | assumption | rfl) ⟨⟨rfl, rfl⟩, by decide, by decide⟩ rfl (Nat.le_of_ble_eq_true rfl) rfl (s_cn (vpa (C := 1) (c := 1) rfl vk (by decide) (by decide)) (by unfold vp_in; decide) (by rw [tn1 vk]; exact fun z => absurd z (by show ¬ _ = 0; omega))) (Rv.k ?_)
      refine ex_aload_n dX12_on_36 rfl ?_
      refine g_12_22 dX12_on_37 rfl wf_X12_57 (by first | assumption | rfl) (show Rt _ 200 22 = some 216 from rfl) ?_
      refine ex_iconst (v := 0) dX12_on_40 (by decide) ?_
      refine ex_iconst (v := 1) dX12_on_41 (by decide) ?_
      refine rx_zast dX12_on_42 (by first | assumption | rfl) (by first | assumption | (unfold vp_in; decide)) rfl ?_
      refine ex_aload_n dX12_on_43 rfl ?_
      refine ex_iconst (v := 0) dX12_on_44 (by decide) ?_
      refine rx_cV (kd := 12) dX12_on_45 rfl lk_X12_167 rfl (by decide) (by first | assumption | rfl) ⟨⟨rfl, rfl⟩, by decide, by decide⟩ rfl (Nat.le_of_ble_eq_true rfl) rfl s_X12_look (Rv.k ?_)
      refine ex_aload_n dX12_on_48 rfl ?_
      refine ex_bipush (v := 30) dX12_on_49 (by decide) ?_
      refine rx_cV (kd := 12) dX12_on_51 rfl lk_X12_183 rfl (by decide) (by first | assumption | rfl) ⟨⟨rfl, rfl⟩, by decide, by decide⟩ rfl (Nat.le_of_ble_eq_true rfl) rfl (s_v0 (B := 0) (by unfold vp_in; decide) lk_0 (by decide)) (Rs.k ?_)
      refine ex_iret dX12_on_54 rfl rfl ⟨rfl, Nat.le_refl _⟩ ?_
      exact ⟨(by simp only [f_X12_on, ↓eq_false h6, ↓eq_false h19, if_true, if_false, not_true_eq_false, not_false_eq_true]), (by simp only [f_X12_on, ↓eq_false h6, ↓eq_false h19, if_true, if_false, not_true_eq_false, not_false_eq_true])⟩
    · skip
      refine ex_aload_n dX12_on_22 rfl ?_
      refine ex_iconst (v := 1) dX12_on_23 (by decide) ?_
      refine rx_cV (kd := 12) dX12_on_24 rfl lk_X12_100 rfl (by decide) (by first | assumption | rfl) ⟨⟨rfl, rfl⟩, by decide, by decide⟩ rfl (Nat.le_of_ble_eq_true rfl) rfl (s_X12_meets (by unfold vp_in; decide)) (Rs.k ?_)
      refine ex_iret dX12_on_27 rfl rfl ⟨rfl, Nat.le_refl _⟩ ?_
      exact ⟨(by simp only [f_X12_on, ↓eq_false h6, ↓eq_true h19, if_true, if_false, not_true_eq_false, not_false_eq_true]), (by simp only [f_X12_on, ↓eq_false h6, ↓eq_true h19, if_true, if_false, not_true_eq_false, not_false_eq_true])⟩
  · skip
    refine ex_iconst (v := (-1)) dX12_on_9 (by decide) ?_
    refine ex_iret dX12_on_10 rfl rfl ⟨rfl, Nat.le_refl _⟩ ?_
    exact ⟨(by simp only [f_X12_on, ↓eq_true h6, if_true, if_false, not_true_eq_false, not_false_eq_true]), (by simp only [f_X12_on, ↓eq_true h6, if_true, if_false, not_true_eq_false, not_false_eq_true])⟩
set_option maxRecDepth 100000 in
set_option maxHeartbeats 4000000 in
theorem lm_wat {P : Option Value → Mem → Prop} {n : Nat} (hn16 : n ≤ 16) (hn : I 217 0 = nI n) (hb : I 200 24 = nI 0) (kont : Ex G mdX12_water 47 [some (.ref 200), some (.int (sumI (fun j => I 217 (31 + j)) n)), some (.int (nI n))] [] (mk I L t) 0 0 P) : Ex G mdX12_water 21 [some (.ref 200), some (.int (sumI (fun j => I 217 (31 + j)) 0)), some (.int (nI 0))] [] (mk I L t) 0 0 P := by
  refine loop_up (G := G) (d := mdX12_water) (pc := 21) (st := []) (uc := 0) (us := 0) (P := P) n (fun k => mk I L t) (fun k => [some (.ref 200), some (.int (sumI (fun j => I 217 (31 + j)) k)), some (.int (nI k))]) ?_ ?_ 0 (Nat.zero_le _)
  · intro k hk ih
    refine ex_iload_n dX12_water_21 rfl ?_
    refine ex_aload_n dX12_water_22 rfl ?_
    refine ex_iconst (v := 0) dX12_water_23 (by decide) ?_
    refine rx_cV (kd := 12) dX12_water_24 rfl lk_X12_183 rfl (by decide) (by first | assumption | rfl) ⟨⟨rfl, rfl⟩, by decide, by decide⟩ rfl (Nat.le_of_ble_eq_true rfl) rfl (s_v0 (B := 0) (by unfold vp_in; decide) hb (by decide)) (Rs.k ?_)
    rw [show I 217 (0 + (0 : Int32).toNatClampNeg) = nI n from hn]
    refine ex_icmp_ge 47 dX12_water_27 (by decide) (fun h27 => ?_) (fun h27 => ?_)
    · exact absurd h27 (nI_ge hk (by omega))
    · skip
      refine ex_iload_n dX12_water_30 rfl ?_
      refine ex_aload_n dX12_water_31 rfl ?_
      refine ex_bipush (v := 31) dX12_water_32 (by decide) ?_
      refine ex_iload_n dX12_water_34 rfl ?_
      refine ex_iadd dX12_water_35 ?_
      refine rx_cV (kd := 12) dX12_water_36 rfl lk_X12_183 rfl (by decide) (by first | assumption | rfl) ⟨⟨rfl, rfl⟩, by decide, by decide⟩ rfl (Nat.le_of_ble_eq_true rfl) rfl (s_v0 (B := 0) (vpa (C := 31) (c := 31) rfl (vp_in_nI (show k < 16 by omega) (by decide)) (by decide) (by decide)) hb (by decide)) (Rs.k ?_)
      rw [show (31 : Int32) = nI 31 from rfl, nI_add, nI_clamp (by omega), Nat.zero_add]
      refine ex_iadd dX12_water_39 ?_
      refine st_i1 dX12_water_40 (by first | exact rfl | exact trivial) ?_
      refine inc2 (v := _ + 1) dX12_water_41 (by rfl) (by first | exact rfl | exact trivial) ?_
      refine ex_goto 21 dX12_water_44 (by decide) ?_
      rw [nI_1]
      exact ih
  · skip
    refine ex_iload_n dX12_water_21 rfl ?_
    refine ex_aload_n dX12_water_22 rfl ?_
    refine ex_iconst (v := 0) dX12_water_23 (by decide) ?_
    refine rx_cV (kd := 12) dX12_water_24 rfl lk_X12_183 rfl (by decide) (by first | assumption | rfl) ⟨⟨rfl, rfl⟩, by decide, by decide⟩ rfl (Nat.le_of_ble_eq_true rfl) rfl (s_v0 (B := 0) (by unfold vp_in; decide) hb (by decide)) (Rs.k ?_)
    refine ex_icmp_ge 47 dX12_water_27 (by decide) (fun h27 => ?_) (fun h27 => ?_)
    · skip
      exact kont
    · exact absurd (by rw [show I 217 (0 + (0 : Int32).toNatClampNeg) = nI n from hn]; exact Int32.le_refl _) h27
theorem lm_wat0 {P : Option Value → Mem → Prop} (hn : ∃ n, n ≤ 16 ∧ I 217 0 = nI n) (hb : I 200 24 = nI 0) (kont : Ex G mdX12_water 47 [some (.ref 200), some (.int (sumI (fun j => I 217 (31 + j)) (I 217 0).toNatClampNeg)), none] [] (mk I L t) 0 0 P) : Ex G mdX12_water 21 [some (.ref 200), some (.int 0), some (.int 0)] [] (mk I L t) 0 0 P := by
  obtain ⟨n, hn, e⟩ := hn
  rw [e, nI_clamp (by omega)] at kont
  exact lm_wat (G := G) (I := I) (L := L) hn e hb (P := P) (fg2 kont)
def f_X12_water (I : Im) : Int32 × Im :=
  if (I 216 (0 : Int32).toNatClampNeg) = 0 then
    ((-4), I)
  else
    let I1 : Im := lkI I 0
    let I2 : Im := up2 I1 200 2 (sumI (fun j => I1 217 (31 + j)) (I1 217 0).toNatClampNeg)
    (1, I2)
set_option maxRecDepth 100000 in
set_option maxHeartbeats 4000000 in
theorem s_X12_water  (hW : ¬ I 216 0 = 0 → WfS I 0) : Ca G mdX12_water [.ref 200] (mk I L t) (Rs (.int (f_X12_water I).1) (mk ((f_X12_water I).2) L t)) := by
  refine Ca.intro [some (.ref 200), none, none] (by decide) (Nat.le_of_ble_eq_true rfl) rfl rfl ?_
  refine ex_aload_n dX12_water_0 rfl ?_
  refine g_12_22 dX12_water_1 rfl wf_X12_57 (by first | assumption | rfl) (show Rt _ 200 22 = some 216 from rfl) ?_
  refine ex_iconst (v := 0) dX12_water_4 (by decide) ?_
  refine rx_zald dX12_water_5 (by first | assumption | rfl) (by first | assumption | (unfold vp_in; decide)) ?_
  refine ex_if_ne 12 dX12_water_6 (by decide) (fun h6 => ?_) (fun h6 => ?_)
  · skip
    refine ex_aload_n dX12_water_12 rfl ?_
    refine ex_iconst (v := 0) dX12_water_13 (by decide) ?_
    refine rx_cV (kd := 12) dX12_water_14 rfl lk_X12_167 rfl (by decide) (by first | assumption | rfl) ⟨⟨rfl, rfl⟩, by decide, by decide⟩ rfl (Nat.le_of_ble_eq_true rfl) rfl s_X12_look (Rv.k ?_)
    refine ex_iconst (v := 0) dX12_water_17 (by decide) ?_
    refine st_i1 dX12_water_18 (by first | exact rfl | exact trivial) ?_
    refine ex_iconst (v := 0) dX12_water_19 (by decide) ?_
    refine st_i2 dX12_water_20 (by first | exact rfl | exact trivial) ?_
    refine (lm_wat0 (wfs_n (WfS_of (lk_off (by decide)) (hW h6))) lk_0) ?_
    refine ex_aload_n dX12_water_47 rfl ?_
    refine ex_iload_n dX12_water_48 rfl ?_
    refine ex_iconst (v := 1) dX12_water_49 (by decide) ?_
    refine rx_cV (kd := 12) dX12_water_50 rfl lk_X12_108 rfl (by decide) (by first | assumption | rfl) ⟨⟨rfl, rfl⟩, by decide, by decide⟩ rfl (Nat.le_of_ble_eq_true rfl) rfl s_X12_tells (Rs.k ?_)
    refine ex_iret dX12_water_53 rfl rfl ⟨rfl, Nat.le_refl _⟩ ?_
    exact ⟨(by simp only [f_X12_water, ↓eq_false h6, if_true, if_false, not_true_eq_false, not_false_eq_true]), (by simp only [f_X12_water, ↓eq_false h6, if_true, if_false, not_true_eq_false, not_false_eq_true])⟩
  · skip
    refine ex_bipush (v := (-4)) dX12_water_9 (by decide) ?_
    refine ex_iret dX12_water_11 rfl rfl ⟨rfl, Nat.le_refl _⟩ ?_
    exact ⟨(by simp only [f_X12_water, ↓eq_true h6, if_true, if_false, not_true_eq_false, not_false_eq_true]), (by simp only [f_X12_water, ↓eq_true h6, if_true, if_false, not_true_eq_false, not_false_eq_true])⟩
end M10
