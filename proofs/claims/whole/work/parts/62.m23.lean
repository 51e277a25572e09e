section M23
variable {G : Gp} {I : Im} {L : Nat → Nat → Int64} {t : Nat}
def nhN (I : Im) (N : Nat → Int32) (k : Nat) : Nat → Int32 :=
  match k with
  | 0 => N
  | k + 1 => if I 214 k = 0 then nhN I N k else shN (nhN I N k) (95 + 10 * k) (fun j => I 215 (5 * k + j))
termination_by k
theorem nhN_0 {N : Nat → Int32} : nhN I N 0 = N := by rw [nhN]
theorem nhN_s {N : Nat → Int32} {k : Nat} : nhN I N (k + 1) = if I 214 k = 0 then nhN I N k else shN (nhN I N k) (95 + 10 * k) (fun j => I 215 (5 * k + j)) := by rw [nhN]
theorem lay_e0 {J : Im} {N0 : Nat → Int32} {q z : Nat} : nw J 0 (wnd (wnd (upn (wnd N0 0 21 (fun j => J 208 (21 * q + j))) 21 (J 210 z)) 22 8 (fun j => J 211 (8 * z + j))) 30 95 (fun _ => 0)) = nw J 0 (wkM J q z) := by
  apply nw_ext
  intro p hp
  rw [← wkM_e (N0 := N0)]
  unfold wbN
  by_cases h4 : p < 30
  · rw [wnd_out (o := 30) (by omega), wnd_out (o := 30) (by omega)]
    by_cases h3 : 22 ≤ p
    · have e : ∀ M : Nat → Int32, wnd M 22 8 (fun j => J 211 (8 * z + j)) p = J 211 (8 * z + (p - 22)) := fun M => by
        have e := wnd_in (N := M) (g := fun j => J 211 (8 * z + j)) (o := 22) (k := 8) (j := p - 22) (by omega)
        rw [show 22 + (p - 22) = p by omega] at e
        exact e
      rw [e, e]
    · rw [wnd_out (by omega), wnd_out (by omega)]
      by_cases h2 : p = 21
      · subst h2
        rw [upn_s, upn_s]
      · rw [upn_n h2, upn_n h2]
        exact (if_pos hp).symm
  · have e : ∀ M : Nat → Int32, wnd M 30 95 (fun _ => (0 : Int32)) p = 0 := fun M => by
      have e := wnd_in (N := M) (g := fun _ => (0 : Int32)) (o := 30) (k := 95) (j := p - 30) (by omega)
      rw [show 30 + (p - 30) = p by omega] at e
      exact e
    rw [e, e]
set_option maxRecDepth 100000 in
set_option maxHeartbeats 4000000 in
theorem lm_nh2 {P : Option Value → Mem → Prop} {N : Nat → Int32} {y z : Int32} (hb : I 200 24 = nI 0) (kont : Ex G mdX12_night 131 [some (.ref 200), some (.int y), some (.int z), some (.int (nI 3))] [] (mk (nw I 0 (nhN I N 3)) L t) 0 0 P) : Ex G mdX12_night 106 [some (.ref 200), some (.int y), some (.int z), some (.int (nI 0))] [] (mk (nw I 0 (nhN I N 0)) L t) 0 0 P := by
  refine loop_up (G := G) (d := mdX12_night) (pc := 106) (st := []) (uc := 0) (us := 0) (P := P) 3 (fun k => mk (nw I 0 (nhN I N k)) L t) (fun k => [some (.ref 200), some (.int y), some (.int z), some (.int (nI k))]) ?_ ?_ 0 (Nat.zero_le _)
  · intro k hk ih
    refine ex_iload_n dX12_night_106 rfl ?_
    refine ex_iconst (v := 3) dX12_night_107 (by decide) ?_
    refine ex_icmp_ge 131 dX12_night_108 (by decide) (fun h108 => ?_) (fun h108 => ?_)
    · exact absurd h108 (nI_ge hk (by decide))
    · skip
      refine ex_aload_n dX12_night_111 rfl ?_
      refine g_12_20 dX12_night_112 rfl wf_X12_51 (by first | assumption | rfl) (show Rt _ 200 20 = some 214 from rfl) ?_
      refine ex_iload_n dX12_night_115 rfl ?_
      refine rx_zald dX12_night_116 (by first | assumption | rfl) (vp_in_nI hk (by decide)) ?_
      rw [nI_clamp (by omega), nw_off (by decide)]
      refine ex_if_eq 125 dX12_night_117 (by decide) (fun h117 => ?_) (fun h117 => ?_)
      · have hc : nhN I N (k + 1) = nhN I N k := nhN_s.trans (if_pos h117)
        refine inc3 (v := _ + 1) dX12_night_125 (by rfl) (by first | exact rfl | exact trivial) ?_
        refine ex_goto 106 dX12_night_128 (by decide) ?_
        rw [nI_1]
        rw [hc] at ih
        exact ih
      · have hc : nhN I N (k + 1) = shN (nhN I N k) (95 + 10 * k) (fun j => I 215 (5 * k + j)) := nhN_s.trans (if_neg h117)
        refine ex_aload_n dX12_night_120 rfl ?_
        refine ex_iload_n dX12_night_121 rfl ?_
        refine rx_cV (kd := 12) dX12_night_122 rfl lk_X12_180 rfl (by decide) (by first | assumption | rfl) ⟨⟨rfl, rfl⟩, by decide, by decide⟩ rfl (Nat.le_of_ble_eq_true rfl) rfl (s_X12_layShip hk hb (by decide)) (Rv.k ?_)
        refine inc3 (v := _ + 1) dX12_night_125 (by rfl) (by first | exact rfl | exact trivial) ?_
        refine ex_goto 106 dX12_night_128 (by decide) ?_
        rw [nI_1]
        rw [hc] at ih
        exact ih
  · skip
    refine ex_iload_n dX12_night_106 rfl ?_
    refine ex_iconst (v := 3) dX12_night_107 (by decide) ?_
    refine ex_icmp_ge 131 dX12_night_108 (by decide) (fun h108 => ?_) (fun h108 => ?_)
    · skip
      exact kont
    · exact absurd (by decide : nI 3 ≤ nI 3) h108
def niW (I : Im) (q z : Nat) : Im := up2 (nw (lkI I 0) 0 (nhN I (wkM I q z) 3)) 216 0 1
theorem nhN_c {J : Im} {N : Nat → Int32} (h4 : J 214 = I 214) (h5 : J 215 = I 215) : ∀ k, nhN J N k = nhN I N k := by
  intro k
  induction k with
  | zero => rw [nhN_0, nhN_0]
  | succ k ih => rw [nhN_s, nhN_s, ih, h4, h5]
theorem nhN_o {N : Nat → Int32} {p : Nat} (h : p < 95) : ∀ k, nhN I N k p = N p := by
  intro k
  induction k with
  | zero => rw [nhN_0]
  | succ k ih =>
    rw [nhN_s]
    split
    · exact ih
    · unfold shN
      rw [upn_n (by omega), upn_n (by omega), upn_n (by omega), upn_n (by omega), wnd_out (by omega), upn_n (by omega), ih]
set_option maxRecDepth 100000 in
set_option maxHeartbeats 4000000 in
theorem lm_nit {y z : Int32} {x : Option Value} (vy : vp_in y 4) (vz : vp_in z 4) : Ex G mdX12_night 85 [some (.ref 200), some (.int y), some (.int z), none] [] (mk I L t) 0 0 (Rs (.int (I 208 (21 * y.toNatClampNeg))) (mk (niW I y.toNatClampNeg z.toNatClampNeg) L t)) := by
  refine ex_aload_n dX12_night_85 rfl ?_
  refine ex_iconst (v := 0) dX12_night_86 (by decide) ?_
  refine rx_cV (kd := 12) dX12_night_87 rfl lk_X12_167 rfl (by decide) (by first | assumption | rfl) ⟨⟨rfl, rfl⟩, by decide, by decide⟩ rfl (Nat.le_of_ble_eq_true rfl) rfl s_X12_look (Rv.k ?_)
  rw [← nw_rd (I := lkI I 0) (B := 0)]
  refine ex_aload_n dX12_night_90 rfl ?_
  refine ex_iload_n dX12_night_91 rfl ?_
  refine rx_cV (kd := 12) dX12_night_92 rfl lk_X12_171 rfl (by decide) (by first | assumption | rfl) ⟨⟨rfl, rfl⟩, by decide, by decide⟩ rfl (Nat.le_of_ble_eq_true rfl) rfl (s_X12_layHarbour vy lk_0 (by decide)) (Rv.k ?_)
  refine ex_aload_n dX12_night_95 rfl ?_
  refine ex_iload_n dX12_night_96 rfl ?_
  refine rx_cV (kd := 12) dX12_night_97 rfl lk_X12_174 rfl (by decide) (by first | assumption | rfl) ⟨⟨rfl, rfl⟩, by decide, by decide⟩ rfl (Nat.le_of_ble_eq_true rfl) rfl (s_X12_laySea vz lk_0 (by decide)) (Rv.k ?_)
  refine ex_aload_n dX12_night_100 rfl ?_
  refine rx_cV (kd := 12) dX12_night_101 rfl lk_X12_177 rfl (by decide) (by first | assumption | rfl) ⟨⟨rfl, rfl⟩, by decide, by decide⟩ rfl (Nat.le_of_ble_eq_true rfl) rfl (s_X12_begins lk_0 (by decide)) (Rv.k ?_)
  rw [lay_e0]
  refine ex_iconst (v := 0) dX12_night_104 (by decide) ?_
  refine st_i3 dX12_night_105 (by first | exact rfl | exact trivial) ?_
  have key := lm_nh2 (G := G) (I := lkI I 0) (L := L) (t := t) (N := wkM (lkI I 0) y.toNatClampNeg z.toNatClampNeg) (y := y) (z := z) (P := Rs (.int (I 208 (21 * y.toNatClampNeg))) (mk (niW I y.toNatClampNeg z.toNatClampNeg) L t)) lk_0 ?_
  · rw [nhN_0] at key
    exact key
  refine fg3 ?_
  refine ex_aload_n dX12_night_131 rfl ?_
  refine g_12_22 dX12_night_132 rfl wf_X12_57 (by first | assumption | rfl) (show Rt _ 200 22 = some 216 from rfl) ?_
  refine ex_iconst (v := 0) dX12_night_135 (by decide) ?_
  refine ex_iconst (v := 1) dX12_night_136 (by decide) ?_
  refine rx_zast dX12_night_137 (by first | assumption | rfl) (by first | assumption | (unfold vp_in; decide)) rfl ?_
  refine ex_aload_n dX12_night_138 rfl ?_
  refine ex_iconst (v := 0) dX12_night_139 (by decide) ?_
  refine rx_cV (kd := 12) dX12_night_140 rfl lk_X12_183 rfl (by decide) (by first | assumption | rfl) ⟨⟨rfl, rfl⟩, by decide, by decide⟩ rfl (Nat.le_of_ble_eq_true rfl) rfl (s_v0 (B := 0) (by unfold vp_in; decide) ((congrFun (up2_off (by decide)) 24).trans ((congrFun (nw_off (by decide)) 24).trans lk_0)) (by decide)) (Rs.k ?_)
  refine ex_iret dX12_night_143 rfl rfl ⟨rfl, Nat.le_refl _⟩ ?_
  refine ⟨?_, ?_⟩
  · rw [up2_off (by decide), show 0 + (0 : Int32).toNatClampNeg = 0 + 0 from rfl, nw_in (by decide), nhN_o (by decide), wkM_c (I := I) (lk_off (by decide)) (lk_off (by decide)) (lk_off (by decide))]
    exact congrArg (fun e => some (Value.int e)) (show wkM I y.toNatClampNeg z.toNatClampNeg 0 = I 208 (21 * y.toNatClampNeg) from if_pos (by decide))
  · unfold niW
    rw [nhN_c (I := I) (lk_off (by decide)) (lk_off (by decide)), wkM_c (I := I) (lk_off (by decide)) (lk_off (by decide)) (lk_off (by decide))]
    rfl
abbrev nbad (I : Im) (n : Int32) (s : Nat) : Prop := ¬ I 214 s = 0 ∧ ¬ I 215 (5 * s) < n
def f_X12_night (I : Im) (k z : Int32) : Int32 × Im := if b2i (0 ≤ k ∧ k ≤ 3) = 0 ∨ b2i (0 ≤ z ∧ z ≤ 3) = 0 then (-1, I) else if I 207 k.toNatClampNeg = 0 ∨ I 209 z.toNatClampNeg = 0 then (-3, meI I 1) else if nbad I (I 208 (21 * k.toNatClampNeg)) 0 ∨ nbad I (I 208 (21 * k.toNatClampNeg)) 1 ∨ nbad I (I 208 (21 * k.toNatClampNeg)) 2 then (-4, I) else (I 208 (21 * k.toNatClampNeg), niW I k.toNatClampNeg z.toNatClampNeg)
set_option maxRecDepth 100000 in
set_option maxHeartbeats 4000000 in
theorem s_X12_night {k z : Int32} : Ca G mdX12_night [.ref 200, .int k, .int z] (mk I L t) (Rs (.int (f_X12_night I k z).1) (mk (f_X12_night I k z).2 L t)) := by
  refine Ca.intro [some (.ref 200), some (.int k), some (.int z), none] (by decide) (Nat.le_of_ble_eq_true rfl) rfl rfl ?_
  refine ex_iload_n dX12_night_0 rfl ?_
  refine rx_cS dX12_night_1 rfl lk_X12_151 ⟨⟨rfl, rfl⟩, by decide, by decide⟩ rfl (Nat.le_of_ble_eq_true rfl) rfl s_X12_isPlace (Rs.k ?_)
  refine ex_if_eq 14 dX12_night_4 (by decide) (fun h4 => ?_) (fun h4 => ?_)
  · have hF : (f_X12_night I k z) = (-1, I) := if_pos (Or.inl h4)
    refine ex_iconst (v := (-1)) dX12_night_14 (by decide) ?_
    refine ex_iret dX12_night_15 rfl rfl ⟨rfl, Nat.le_refl _⟩ ?_
    exact ⟨by rw [hF], by rw [hF]⟩
  · have qk := (cl_lt (N := 4) (by decide) h4).1
    have vk := (cl_lt (N := 4) (by decide) h4).2
    refine ex_iload_n dX12_night_7 rfl ?_
    refine rx_cS dX12_night_8 rfl lk_X12_151 ⟨⟨rfl, rfl⟩, by decide, by decide⟩ rfl (Nat.le_of_ble_eq_true rfl) rfl s_X12_isPlace (Rs.k ?_)
    refine ex_if_ne 16 dX12_night_11 (by decide) (fun h11 => ?_) (fun h11 => ?_)
    · have qz := (cl_lt (N := 4) (by decide) h11).1
      have vz := (cl_lt (N := 4) (by decide) h11).2
      refine ex_aload_n dX12_night_16 rfl ?_
      refine g_12_10 dX12_night_17 rfl wf_X12_29 (by first | assumption | rfl) (show Rt _ 200 10 = some 207 from rfl) ?_
      refine ex_iload_n dX12_night_20 rfl ?_
      refine rx_zald dX12_night_21 (by first | assumption | rfl) (by first | assumption | (unfold vp_in; decide)) ?_
      refine ex_if_eq 34 dX12_night_22 (by decide) (fun h22 => ?_) (fun h22 => ?_)
      · have hF : (f_X12_night I k z) = (-3, meI I 1) := (if_neg (fun q => q.elim h4 h11)).trans (if_pos (Or.inl h22))
        refine ex_aload_n dX12_night_34 rfl ?_
        refine ex_iconst (v := 1) dX12_night_35 (by decide) ?_
        refine rx_cV (kd := 12) dX12_night_36 rfl lk_X12_100 rfl (by decide) (by first | assumption | rfl) ⟨⟨rfl, rfl⟩, by decide, by decide⟩ rfl (Nat.le_of_ble_eq_true rfl) rfl (s_X12_meets (by unfold vp_in; decide)) (Rs.k ?_)
        refine ex_iret dX12_night_39 rfl rfl ⟨rfl, Nat.le_refl _⟩ ?_
        exact ⟨by rw [hF], by rw [hF]⟩
      · skip
        refine ex_aload_n dX12_night_25 rfl ?_
        refine g_12_12 dX12_night_26 rfl wf_X12_36 (by first | assumption | rfl) (show Rt _ 200 12 = some 209 from rfl) ?_
        refine ex_iload_n dX12_night_29 rfl ?_
        refine rx_zald dX12_night_30 (by first | assumption | rfl) (by first | assumption | (unfold vp_in; decide)) ?_
        refine ex_if_ne 40 dX12_night_31 (by decide) (fun h31 => ?_) (fun h31 => ?_)
        · have hF0 : (f_X12_night I k z) = (if nbad I (I 208 (21 * k.toNatClampNeg)) 0 ∨ nbad I (I 208 (21 * k.toNatClampNeg)) 1 ∨ nbad I (I 208 (21 * k.toNatClampNeg)) 2 then (-4, I) else (I 208 (21 * k.toNatClampNeg), niW I k.toNatClampNeg z.toNatClampNeg)) := (if_neg (fun q => q.elim h4 h11)).trans (if_neg (fun q => q.elim h22 h31))
          refine ex_iconst (v := 0) dX12_night_40 (by decide) ?_
          refine st_i3 dX12_night_41 (by first | exact rfl | exact trivial) ?_
          refine ex_iload_n dX12_night_42 rfl ?_
          refine ex_iconst (v := 3) dX12_night_43 (by decide) ?_
          refine ex_icmp_ge 85 dX12_night_44 (by decide) (fun h44 => ?_) (fun h44 => ?_)
          · exact absurd h44 (by decide)
          · skip
            refine ex_aload_n dX12_night_47 rfl ?_
            refine g_12_20 dX12_night_48 rfl wf_X12_51 (by first | assumption | rfl) (show Rt _ 200 20 = some 214 from rfl) ?_
            refine ex_iload_n dX12_night_51 rfl ?_
            refine rx_zald dX12_night_52 (by first | assumption | rfl) (by first | assumption | (unfold vp_in; decide)) ?_
            rw [show ((0 : Int32)).toNatClampNeg = 0 from rfl]
            refine ex_if_eq 79 dX12_night_53 (by decide) (fun h53 => ?_) (fun h53 => ?_)
            · have n0 : ¬ nbad I (I 208 (21 * k.toNatClampNeg)) 0 := fun q => q.1 h53
              refine inc3 (v := _ + 1) dX12_night_79 (by rfl) (by first | exact rfl | exact trivial) ?_
              refine ex_goto 42 dX12_night_82 (by decide) ?_
              refine ex_iload_n dX12_night_42 rfl ?_
              refine ex_iconst (v := 3) dX12_night_43 (by decide) ?_
              refine ex_icmp_ge 85 dX12_night_44 (by decide) (fun h44 => ?_) (fun h44 => ?_)
              · exact absurd h44 (by decide)
              · skip
                refine ex_aload_n dX12_night_47 rfl ?_
                refine g_12_20 dX12_night_48 rfl wf_X12_51 (by first | assumption | rfl) (show Rt _ 200 20 = some 214 from rfl) ?_
                refine ex_iload_n dX12_night_51 rfl ?_
                refine rx_zald dX12_night_52 (by first | assumption | rfl) (by first | assumption | (unfold vp_in; decide)) ?_
                rw [show ((0 : Int32) + 1).toNatClampNeg = 1 from rfl]
                refine ex_if_eq 79 dX12_night_53 (by decide) (fun h53 => ?_) (fun h53 => ?_)
                · have n1 : ¬ nbad I (I 208 (21 * k.toNatClampNeg)) 1 := fun q => q.1 h53
                  refine inc3 (v := _ + 1) dX12_night_79 (by rfl) (by first | exact rfl | exact trivial) ?_
                  refine ex_goto 42 dX12_night_82 (by decide) ?_
                  refine ex_iload_n dX12_night_42 rfl ?_
                  refine ex_iconst (v := 3) dX12_night_43 (by decide) ?_
                  refine ex_icmp_ge 85 dX12_night_44 (by decide) (fun h44 => ?_) (fun h44 => ?_)
                  · exact absurd h44 (by decide)
                  · skip
                    refine ex_aload_n dX12_night_47 rfl ?_
                    refine g_12_20 dX12_night_48 rfl wf_X12_51 (by first | assumption | rfl) (show Rt _ 200 20 = some 214 from rfl) ?_
                    refine ex_iload_n dX12_night_51 rfl ?_
                    refine rx_zald dX12_night_52 (by first | assumption | rfl) (by first | assumption | (unfold vp_in; decide)) ?_
                    rw [show ((0 : Int32) + 1 + 1).toNatClampNeg = 2 from rfl]
                    refine ex_if_eq 79 dX12_night_53 (by decide) (fun h53 => ?_) (fun h53 => ?_)
                    · have n2 : ¬ nbad I (I 208 (21 * k.toNatClampNeg)) 2 := fun q => q.1 h53
                      refine inc3 (v := _ + 1) dX12_night_79 (by rfl) (by first | exact rfl | exact trivial) ?_
                      refine ex_goto 42 dX12_night_82 (by decide) ?_
                      refine ex_iload_n dX12_night_42 rfl ?_
                      refine ex_iconst (v := 3) dX12_night_43 (by decide) ?_
                      refine ex_icmp_ge 85 dX12_night_44 (by decide) (fun h44 => ?_) (fun h44 => ?_)
                      · skip
                        rw [hF0.trans (if_neg (fun q => q.elim n0 (fun q => q.elim n1 n2)))]
                        exact fg3 (lm_nit (x := none) vk vz)
                      · exact absurd (by decide) h44
                    · skip
                      refine ex_aload_n dX12_night_56 rfl ?_
                      refine g_12_21 dX12_night_57 rfl wf_X12_54 (by first | assumption | rfl) (show Rt _ 200 21 = some 215 from rfl) ?_
                      refine ex_iconst (v := 5) dX12_night_60 (by decide) ?_
                      refine ex_iload_n dX12_night_61 rfl ?_
                      refine ex_imul dX12_night_62 ?_
                      refine rx_iald dX12_night_63 (by first | assumption | rfl) (by first | assumption | (unfold vp_in; decide)) ?_
                      rw [show (5 * ((0 : Int32) + 1 + 1)).toNatClampNeg = 5 * 2 from rfl]
                      refine ex_aload_n dX12_night_64 rfl ?_
                      refine g_12_11 dX12_night_65 rfl wf_X12_33 (by first | assumption | rfl) (show Rt _ 200 11 = some 208 from rfl) ?_
                      refine ex_bipush (v := 21) dX12_night_68 (by decide) ?_
                      refine ex_iload_n dX12_night_70 rfl ?_
                      refine ex_imul dX12_night_71 ?_
                      refine rx_iald dX12_night_72 (by first | assumption | rfl) (ixz (c := 21) (C := 21) (R := 4) rfl (by decide) vk (by decide)).1 ?_
                      rw [(ixz (c := 21) (C := 21) (R := 4) rfl (by decide) vk (by decide)).2]
                      refine ex_icmp_lt 79 dX12_night_73 (by decide) (fun h73 => ?_) (fun h73 => ?_)
                      · have n2 : ¬ nbad I (I 208 (21 * k.toNatClampNeg)) 2 := fun q => q.2 h73
                        refine inc3 (v := _ + 1) dX12_night_79 (by rfl) (by first | exact rfl | exact trivial) ?_
                        refine ex_goto 42 dX12_night_82 (by decide) ?_
                        refine ex_iload_n dX12_night_42 rfl ?_
                        refine ex_iconst (v := 3) dX12_night_43 (by decide) ?_
                        refine ex_icmp_ge 85 dX12_night_44 (by decide) (fun h44 => ?_) (fun h44 => ?_)
                        · skip
                          rw [hF0.trans (if_neg (fun q => q.elim n0 (fun q => q.elim n1 n2)))]
                          exact fg3 (lm_nit (x := none) vk vz)
                        · exact absurd (by decide) h44
                      · have hF := hF0.trans (if_pos (Or.inr (Or.inr ⟨h53, h73⟩)))
                        refine ex_bipush (v := (-4)) dX12_night_76 (by decide) ?_
                        refine ex_iret dX12_night_78 rfl rfl ⟨rfl, Nat.le_refl _⟩ ?_
                        exact ⟨by rw [hF], by rw [hF]⟩
                · skip
                  refine ex_aload_n dX12_night_56 rfl ?_
                  refine g_12_21 dX12_night_57 rfl wf_X12_54 (by first | assumption | rfl) (show Rt _ 200 21 = some 215 from rfl) ?_
                  refine ex_iconst (v := 5) dX12_night_60 (by decide) ?_
                  refine ex_iload_n dX12_night_61 rfl ?_
                  refine ex_imul dX12_night_62 ?_
                  refine rx_iald dX12_night_63 (by first | assumption | rfl) (by first | assumption | (unfold vp_in; decide)) ?_
                  rw [show (5 * ((0 : Int32) + 1)).toNatClampNeg = 5 * 1 from rfl]
                  refine ex_aload_n dX12_night_64 rfl ?_
                  refine g_12_11 dX12_night_65 rfl wf_X12_33 (by first | assumption | rfl) (show Rt _ 200 11 = some 208 from rfl) ?_
                  refine ex_bipush (v := 21) dX12_night_68 (by decide) ?_
                  refine ex_iload_n dX12_night_70 rfl ?_
                  refine ex_imul dX12_night_71 ?_
                  refine rx_iald dX12_night_72 (by first | assumption | rfl) (ixz (c := 21) (C := 21) (R := 4) rfl (by decide) vk (by decide)).1 ?_
                  rw [(ixz (c := 21) (C := 21) (R := 4) rfl (by decide) vk (by decide)).2]
                  refine ex_icmp_lt 79 dX12_night_73 (by decide) (fun h73 => ?_) (fun h73 => ?_)
                  · have n1 : ¬ nbad I (I 208 (21 * k.toNatClampNeg)) 1 := fun q => q.2 h73
                    refine inc3 (v := _ + 1) dX12_night_79 (by rfl) (by first | exact rfl | exact trivial) ?_
                    refine ex_goto 42 dX12_night_82 (by decide) ?_
                    refine ex_iload_n dX12_night_42 rfl ?_
                    refine ex_iconst (v := 3) dX12_night_43 (by decide) ?_
                    refine ex_icmp_ge 85 dX12_night_44 (by decide) (fun h44 => ?_) (fun h44 => ?_)
                    · exact absurd h44 (by decide)
                    · skip
                      refine ex_aload_n dX12_night_47 rfl ?_
                      refine g_12_20 dX12_night_48 rfl wf_X12_51 (by first | assumption | rfl) (show Rt _ 200 20 = some 214 from rfl) ?_
                      refine ex_iload_n dX12_night_51 rfl ?_
                      refine rx_zald dX12_night_52 (by first | assumption | rfl) (by first | assumption | (unfold vp_in; decide)) ?_
                      rw [show ((0 : Int32) + 1 + 1).toNatClampNeg = 2 from rfl]
                      refine ex_if_eq 79 dX12_night_53 (by decide) (fun h53 => ?_) (fun h53 => ?_)
                      · have n2 : ¬ nbad I (I 208 (21 * k.toNatClampNeg)) 2 := fun q => q.1 h53
                        refine inc3 (v := _ + 1) dX12_night_79 (by rfl) (by first | exact rfl | exact trivial) ?_
                        refine ex_goto 42 dX12_night_82 (by decide) ?_
                        refine ex_iload_n dX12_night_42 rfl ?_
                        refine ex_iconst (v := 3) dX12_night_43 (by decide) ?_
                        refine ex_icmp_ge 85 dX12_night_44 (by decide) (fun h44 => ?_) (fun h44 => ?_)
                        · skip
                          rw [hF0.trans (if_neg (fun q => q.elim n0 (fun q => q.elim n1 n2)))]
                          exact fg3 (lm_nit (x := none) vk vz)
                        · exact absurd (by decide) h44
                      · skip
                        refine ex_aload_n dX12_night_56 rfl ?_
                        refine g_12_21 dX12_night_57 rfl wf_X12_54 (by first | assumption | rfl) (show Rt _ 200 21 = some 215 from rfl) ?_
                        refine ex_iconst (v := 5) dX12_night_60 (by decide) ?_
                        refine ex_iload_n dX12_night_61 rfl ?_
                        refine ex_imul dX12_night_62 ?_
                        refine rx_iald dX12_night_63 (by first | assumption | rfl) (by first | assumption | (unfold vp_in; decide)) ?_
                        rw [show (5 * ((0 : Int32) + 1 + 1)).toNatClampNeg = 5 * 2 from rfl]
                        refine ex_aload_n dX12_night_64 rfl ?_
                        refine g_12_11 dX12_night_65 rfl wf_X12_33 (by first | assumption | rfl) (show Rt _ 200 11 = some 208 from rfl) ?_
                        refine ex_bipush (v := 21) dX12_night_68 (by decide) ?_
                        refine ex_iload_n dX12_night_70 rfl ?_
                        refine ex_imul dX12_night_71 ?_
                        refine rx_iald dX12_night_72 (by first | assumption | rfl) (ixz (c := 21) (C := 21) (R := 4) rfl (by decide) vk (by decide)).1 ?_
                        rw [(ixz (c := 21) (C := 21) (R := 4) rfl (by decide) vk (by decide)).2]
                        refine ex_icmp_lt 79 dX12_night_73 (by decide) (fun h73 => ?_) (fun h73 => ?_)
                        · have n2 : ¬ nbad I (I 208 (21 * k.toNatClampNeg)) 2 := fun q => q.2 h73
                          refine inc3 (v := _ + 1) dX12_night_79 (by rfl) (by first | exact rfl | exact trivial) ?_
                          refine ex_goto 42 dX12_night_82 (by decide) ?_
                          refine ex_iload_n dX12_night_42 rfl ?_
                          refine ex_iconst (v := 3) dX12_night_43 (by decide) ?_
                          refine ex_icmp_ge 85 dX12_night_44 (by decide) (fun h44 => ?_) (fun h44 => ?_)
                          · skip
                            rw [hF0.trans (if_neg (fun q => q.elim n0 (fun q => q.elim n1 n2)))]
                            exact fg3 (lm_nit (x := none) vk vz)
                          · exact absurd (by decide) h44
                        · have hF := hF0.trans (if_pos (Or.inr (Or.inr ⟨h53, h73⟩)))
                          refine ex_bipush (v := (-4)) dX12_night_76 (by decide) ?_
                          refine ex_iret dX12_night_78 rfl rfl ⟨rfl, Nat.le_refl _⟩ ?_
                          exact ⟨by rw [hF], by rw [hF]⟩
                  · have hF := hF0.trans (if_pos (Or.inr (Or.inl ⟨h53, h73⟩)))
                    refine ex_bipush (v := (-4)) dX12_night_76 (by decide) ?_
                    refine ex_iret dX12_night_78 rfl rfl ⟨rfl, Nat.le_refl _⟩ ?_
                    exact ⟨by rw [hF], by rw [hF]⟩
            · skip
              refine ex_aload_n dX12_night_56 rfl ?_
              refine g_12_21 dX12_night_57 rfl wf_X12_54 (by first | assumption | rfl) (show Rt _ 200 21 = some 215 from rfl) ?_
              refine ex_iconst (v := 5) dX12_night_60 (by decide) ?_
              refine ex_iload_n dX12_night_61 rfl ?_
              refine ex_imul dX12_night_62 ?_
              refine rx_iald dX12_night_63 (by first | assumption | rfl) (by first | assumption | (unfold vp_in; decide)) ?_
              rw [show (5 * ((0 : Int32))).toNatClampNeg = 5 * 0 from rfl]
              refine ex_aload_n dX12_night_64 rfl ?_
              refine g_12_11 dX12_night_65 rfl wf_X12_33 (by first | assumption | rfl) (show Rt _ 200 11 = some 208 from rfl) ?_
              refine ex_bipush (v := 21) dX12_night_68 (by decide) ?_
              refine ex_iload_n dX12_night_70 rfl ?_
              refine ex_imul dX12_night_71 ?_
              refine rx_iald dX12_night_72 (by first | assumption | rfl) (ixz (c := 21) (C := 21) (R := 4) rfl (by decide) vk (by decide)).1 ?_
              rw [(ixz (c := 21) (C := 21) (R := 4) rfl (by decide) vk (by decide)).2]
              refine ex_icmp_lt 79 dX12_night_73 (by decide) (fun h73 => ?_) (fun h73 => ?_)
              · have n0 : ¬ nbad I (I 208 (21 * k.toNatClampNeg)) 0 := fun q => q.2 h73
                refine inc3 (v := _ + 1) dX12_night_79 (by rfl) (by first | exact rfl | exact trivial) ?_
                refine ex_goto 42 dX12_night_82 (by decide) ?_
                refine ex_iload_n dX12_night_42 rfl ?_
                refine ex_iconst (v := 3) dX12_night_43 (by decide) ?_
                refine ex_icmp_ge 85 dX12_night_44 (by decide) (fun h44 => ?_) (fun h44 => ?_)
                · exact absurd h44 (by decide)
                · skip
                  refine ex_aload_n dX12_night_47 rfl ?_
                  refine g_12_20 dX12_night_48 rfl wf_X12_51 (by first | assumption | rfl) (show Rt _ 200 20 = some 214 from rfl) ?_
                  refine ex_iload_n dX12_night_51 rfl ?_
                  refine rx_zald dX12_night_52 (by first | assumption | rfl) (by first | assumption | (unfold vp_in; decide)) ?_
                  rw [show ((0 : Int32) + 1).toNatClampNeg = 1 from rfl]
                  refine ex_if_eq 79 dX12_night_53 (by decide) (fun h53 => ?_) (fun h53 => ?_)
                  · have n1 : ¬ nbad I (I 208 (21 * k.toNatClampNeg)) 1 := fun q => q.1 h53
                    refine inc3 (v := _ + 1) dX12_night_79 (by rfl) (by first | exact rfl | exact trivial) ?_
                    refine ex_goto 42 dX12_night_82 (by decide) ?_
                    refine ex_iload_n dX12_night_42 rfl ?_
                    refine ex_iconst (v := 3) dX12_night_43 (by decide) ?_
                    refine ex_icmp_ge 85 dX12_night_44 (by decide) (fun h44 => ?_) (fun h44 => ?_)
                    · exact absurd h44 (by decide)
                    · skip
                      refine ex_aload_n dX12_night_47 rfl ?_
                      refine g_12_20 dX12_night_48 rfl wf_X12_51 (by first | assumption | rfl) (show Rt _ 200 20 = some 214 from rfl) ?_
                      refine ex_iload_n dX12_night_51 rfl ?_
                      refine rx_zald dX12_night_52 (by first | assumption | rfl) (by first | assumption | (unfold vp_in; decide)) ?_
                      rw [show ((0 : Int32) + 1 + 1).toNatClampNeg = 2 from rfl]
                      refine ex_if_eq 79 dX12_night_53 (by decide) (fun h53 => ?_) (fun h53 => ?_)
                      · have n2 : ¬ nbad I (I 208 (21 * k.toNatClampNeg)) 2 := fun q => q.1 h53
                        refine inc3 (v := _ + 1) dX12_night_79 (by rfl) (by first | exact rfl | exact trivial) ?_
                        refine ex_goto 42 dX12_night_82 (by decide) ?_
                        refine ex_iload_n dX12_night_42 rfl ?_
                        refine ex_iconst (v := 3) dX12_night_43 (by decide) ?_
                        refine ex_icmp_ge 85 dX12_night_44 (by decide) (fun h44 => ?_) (fun h44 => ?_)
                        · skip
                          rw [hF0.trans (if_neg (fun q => q.elim n0 (fun q => q.elim n1 n2)))]
                          exact fg3 (lm_nit (x := none) vk vz)
                        · exact absurd (by decide) h44
                      · skip
                        refine ex_aload_n dX12_night_56 rfl ?_
                        refine g_12_21 dX12_night_57 rfl wf_X12_54 (by first | assumption | rfl) (show Rt _ 200 21 = some 215 from rfl) ?_
                        refine ex_iconst (v := 5) dX12_night_60 (by decide) ?_
                        refine ex_iload_n dX12_night_61 rfl ?_
                        refine ex_imul dX12_night_62 ?_
                        refine rx_iald dX12_night_63 (by first | assumption | rfl) (by first | assumption | (unfold vp_in; decide)) ?_
                        rw [show (5 * ((0 : Int32) + 1 + 1)).toNatClampNeg = 5 * 2 from rfl]
                        refine ex_aload_n dX12_night_64 rfl ?_
                        refine g_12_11 dX12_night_65 rfl wf_X12_33 (by first | assumption | rfl) (show Rt _ 200 11 = some 208 from rfl) ?_
                        refine ex_bipush (v := 21) dX12_night_68 (by decide) ?_
                        refine ex_iload_n dX12_night_70 rfl ?_
                        refine ex_imul dX12_night_71 ?_
                        refine rx_iald dX12_night_72 (by first | assumption | rfl) (ixz (c := 21) (C := 21) (R := 4) rfl (by decide) vk (by decide)).1 ?_
                        rw [(ixz (c := 21) (C := 21) (R := 4) rfl (by decide) vk (by decide)).2]
                        refine ex_icmp_lt 79 dX12_night_73 (by decide) (fun h73 => ?_) (fun h73 => ?_)
                        · have n2 : ¬ nbad I (I 208 (21 * k.toNatClampNeg)) 2 := fun q => q.2 h73
                          refine inc3 (v := _ + 1) dX12_night_79 (by rfl) (by first | exact rfl | exact trivial) ?_
                          refine ex_goto 42 dX12_night_82 (by decide) ?_
                          refine ex_iload_n dX12_night_42 rfl ?_
                          refine ex_iconst (v := 3) dX12_night_43 (by decide) ?_
                          refine ex_icmp_ge 85 dX12_night_44 (by decide) (fun h44 => ?_) (fun h44 => ?_)
                          · skip
                            rw [hF0.trans (if_neg (fun q => q.elim n0 (fun q => q.elim n1 n2)))]
                            exact fg3 (lm_nit (x := none) vk vz)
                          · exact absurd (by decide) h44
                        · have hF := hF0.trans (if_pos (Or.inr (Or.inr ⟨h53, h73⟩)))
                          refine ex_bipush (v := (-4)) dX12_night_76 (by decide) ?_
                          refine ex_iret dX12_night_78 rfl rfl ⟨rfl, Nat.le_refl _⟩ ?_
                          exact ⟨by rw [hF], by rw [hF]⟩
                  · skip
                    refine ex_aload_n dX12_night_56 rfl ?_
                    refine g_12_21 dX12_night_57 rfl wf_X12_54 (by first | assumption | rfl) (show Rt _ 200 21 = some 215 from rfl) ?_
                    refine ex_iconst (v := 5) dX12_night_60 (by decide) ?_
                    refine ex_iload_n dX12_night_61 rfl ?_
                    refine ex_imul dX12_night_62 ?_
                    refine rx_iald dX12_night_63 (by first | assumption | rfl) (by first | assumption | (unfold vp_in; decide)) ?_
                    rw [show (5 * ((0 : Int32) + 1)).toNatClampNeg = 5 * 1 from rfl]
                    refine ex_aload_n dX12_night_64 rfl ?_
                    refine g_12_11 dX12_night_65 rfl wf_X12_33 (by first | assumption | rfl) (show Rt _ 200 11 = some 208 from rfl) ?_
                    refine ex_bipush (v := 21) dX12_night_68 (by decide) ?_
                    refine ex_iload_n dX12_night_70 rfl ?_
                    refine ex_imul dX12_night_71 ?_
                    refine rx_iald dX12_night_72 (by first | assumption | rfl) (ixz (c := 21) (C := 21) (R := 4) rfl (by decide) vk (by decide)).1 ?_
                    rw [(ixz (c := 21) (C := 21) (R := 4) rfl (by decide) vk (by decide)).2]
                    refine ex_icmp_lt 79 dX12_night_73 (by decide) (fun h73 => ?_) (fun h73 => ?_)
                    · have n1 : ¬ nbad I (I 208 (21 * k.toNatClampNeg)) 1 := fun q => q.2 h73
                      refine inc3 (v := _ + 1) dX12_night_79 (by rfl) (by first | exact rfl | exact trivial) ?_
                      refine ex_goto 42 dX12_night_82 (by decide) ?_
                      refine ex_iload_n dX12_night_42 rfl ?_
                      refine ex_iconst (v := 3) dX12_night_43 (by decide) ?_
                      refine ex_icmp_ge 85 dX12_night_44 (by decide) (fun h44 => ?_) (fun h44 => ?_)
                      · exact absurd h44 (by decide)
                      · skip
                        refine ex_aload_n dX12_night_47 rfl ?_
                        refine g_12_20 dX12_night_48 rfl wf_X12_51 (by first | assumption | rfl) (show Rt _ 200 20 = some 214 from rfl) ?_
                        refine ex_iload_n dX12_night_51 rfl ?_
                        refine rx_zald dX12_night_52 (by first | assumption | rfl) (by first | assumption | (unfold vp_in; decide)) ?_
                        rw [show ((0 : Int32) + 1 + 1).toNatClampNeg = 2 from rfl]
                        refine ex_if_eq 79 dX12_night_53 (by decide) (fun h53 => ?_) (fun h53 => ?_)
                        · have n2 : ¬ nbad I (I 208 (21 * k.toNatClampNeg)) 2 := fun q => q.1 h53
                          refine inc3 (v := _ + 1) dX12_night_79 (by rfl) (by first | exact rfl | exact trivial) ?_
                          refine ex_goto 42 dX12_night_82 (by decide) ?_
                          refine ex_iload_n dX12_night_42 rfl ?_
                          refine ex_iconst (v := 3) dX12_night_43 (by decide) ?_
                          refine ex_icmp_ge 85 dX12_night_44 (by decide) (fun h44 => ?_) (fun h44 => ?_)
                          · skip
                            rw [hF0.trans (if_neg (fun q => q.elim n0 (fun q => q.elim n1 n2)))]
                            exact fg3 (lm_nit (x := none) vk vz)
                          · exact absurd (by decide) h44
                        · skip
                          refine ex_aload_n dX12_night_56 rfl ?_
                          refine g_12_21 dX12_night_57 rfl wf_X12_54 (by first | assumption | rfl) (show Rt _ 200 21 = some 215 from rfl) ?_
                          refine ex_iconst (v := 5) dX12_night_60 (by decide) ?_
                          refine ex_iload_n dX12_night_61 rfl ?_
                          refine ex_imul dX12_night_62 ?_
                          refine rx_iald dX12_night_63 (by first | assumption | rfl) (by first | assumption | (unfold vp_in; decide)) ?_
                          rw [show (5 * ((0 : Int32) + 1 + 1)).toNatClampNeg = 5 * 2 from rfl]
                          refine ex_aload_n dX12_night_64 rfl ?_
                          refine g_12_11 dX12_night_65 rfl wf_X12_33 (by first | assumption | rfl) (show Rt _ 200 11 = some 208 from rfl) ?_
                          refine ex_bipush (v := 21) dX12_night_68 (by decide) ?_
                          refine ex_iload_n dX12_night_70 rfl ?_
                          refine ex_imul dX12_night_71 ?_
                          refine rx_iald dX12_night_72 (by first | assumption | rfl) (ixz (c := 21) (C := 21) (R := 4) rfl (by decide) vk (by decide)).1 ?_
                          rw [(ixz (c := 21) (C := 21) (R := 4) rfl (by decide) vk (by decide)).2]
                          refine ex_icmp_lt 79 dX12_night_73 (by decide) (fun h73 => ?_) (fun h73 => ?_)
                          · have n2 : ¬ nbad I (I 208 (21 * k.toNatClampNeg)) 2 := fun q => q.2 h73
                            refine inc3 (v := _ + 1) dX12_night_79 (by rfl) (by first | exact rfl | exact trivial) ?_
                            refine ex_goto 42 dX12_night_82 (by decide) ?_
                            refine ex_iload_n dX12_night_42 rfl ?_
                            refine ex_iconst (v := 3) dX12_night_43 (by decide) ?_
                            refine ex_icmp_ge 85 dX12_night_44 (by decide) (fun h44 => ?_) (fun h44 => ?_)
                            · skip
                              rw [hF0.trans (if_neg (fun q => q.elim n0 (fun q => q.elim n1 n2)))]
                              exact fg3 (lm_nit (x := none) vk vz)
                            · exact absurd (by decide) h44
                          · have hF := hF0.trans (if_pos (Or.inr (Or.inr ⟨h53, h73⟩)))
                            refine ex_bipush (v := (-4)) dX12_night_76 (by decide) ?_
                            refine ex_iret dX12_night_78 rfl rfl ⟨rfl, Nat.le_refl _⟩ ?_
                            exact ⟨by rw [hF], by rw [hF]⟩
                    · have hF := hF0.trans (if_pos (Or.inr (Or.inl ⟨h53, h73⟩)))
                      refine ex_bipush (v := (-4)) dX12_night_76 (by decide) ?_
                      refine ex_iret dX12_night_78 rfl rfl ⟨rfl, Nat.le_refl _⟩ ?_
                      exact ⟨by rw [hF], by rw [hF]⟩
              · have hF := hF0.trans (if_pos (Or.inl ⟨h53, h73⟩))
                refine ex_bipush (v := (-4)) dX12_night_76 (by decide) ?_
                refine ex_iret dX12_night_78 rfl rfl ⟨rfl, Nat.le_refl _⟩ ?_
                exact ⟨by rw [hF], by rw [hF]⟩
        · have hF : (f_X12_night I k z) = (-3, meI I 1) := (if_neg (fun q => q.elim h4 h11)).trans (if_pos (Or.inr h31))
          refine ex_aload_n dX12_night_34 rfl ?_
          refine ex_iconst (v := 1) dX12_night_35 (by decide) ?_
          refine rx_cV (kd := 12) dX12_night_36 rfl lk_X12_100 rfl (by decide) (by first | assumption | rfl) ⟨⟨rfl, rfl⟩, by decide, by decide⟩ rfl (Nat.le_of_ble_eq_true rfl) rfl (s_X12_meets (by unfold vp_in; decide)) (Rs.k ?_)
          refine ex_iret dX12_night_39 rfl rfl ⟨rfl, Nat.le_refl _⟩ ?_
          exact ⟨by rw [hF], by rw [hF]⟩
    · have hF : (f_X12_night I k z) = (-1, I) := if_pos (Or.inr h11)
      refine ex_iconst (v := (-1)) dX12_night_14 (by decide) ?_
      refine ex_iret dX12_night_15 rfl rfl ⟨rfl, Nat.le_refl _⟩ ?_
      exact ⟨by rw [hF], by rw [hF]⟩
end M23
