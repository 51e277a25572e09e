section M3
variable {G : Gp} {I : Im} {L : Nat → Nat → Int64} {t : Nat}
theorem numN_b {f : Nat → Int32} {p : Nat} : p ≤ numN f p ∧ numN f p ≤ p + 2 := by
  unfold numN
  repeat' split
  all_goals omega
theorem TqS_of {J : Im} {q m : Nat} (h5 : J 205 = I 205) (h6 : J 206 = I 206) (h : TqS I q m) : TqS J q m := by
  unfold TqS
  rw [h5, h6]
  exact h
abbrev rcOk (f : Nat → Int32) (p : Nat) : Prop := f p = 99 ∧ numOk f (p + 1) 3 16
def rcP (f : Nat → Int32) (p : Nat) : Nat := if f p = 99 then numN f (p + 1) else p
def rcI (I : Im) (f : Nat → Int32) (p : Nat) : Im := if rcOk f p then up2 I 212 0 (numW f (p + 1)) else I
section
variable {f : Nat → Int32} {p : Nat} {x : Int32}
theorem rcA (c : ¬ f p = 99) : Rx (.int (b2i (rcOk f p))) (rcI I f p) (rcP f p) L t (some (.int 0)) (mk (rm I p x) L t) := by
  have n : ¬ rcOk f p := fun z => c z.1
  unfold rcI rcP
  rw [if_neg n, if_neg c]
  exact ⟨b2i_f n, x, rfl⟩
theorem rcB (c : f p = 99) (d : ¬ numOk f (p + 1) 3 16) : Rx (.int (b2i (rcOk f p))) (rcI I f p) (rcP f p) L t (some (.int 0)) (mk (rm I (numN f (p + 1)) x) L t) := by
  have n : ¬ rcOk f p := fun z => d z.2
  unfold rcI rcP
  rw [if_neg n, if_pos c]
  exact ⟨b2i_f n, x, rfl⟩
theorem rcC (c : f p = 99) (d : numOk f (p + 1) 3 16) : Rx (.int (b2i (rcOk f p))) (rcI I f p) (rcP f p) L t (some (.int 1)) (mk (up2 (rm I (numN f (p + 1)) (numV f (p + 1))) 212 (0 : Int32).toNatClampNeg (numV f (p + 1))) L t) := by
  have n : rcOk f p := ⟨c, d⟩
  unfold rcI rcP
  rw [if_pos n, if_pos c, rm_c (by decide)]
  refine ⟨b2i_t n, numV f (p + 1), ?_⟩
  unfold numV
  rw [if_pos d.1]
  rfl
theorem numR_ok {lo hi : Int32} (c : numOk f p lo hi) (h0 : 0 ≤ lo) : numR f p lo hi = numW f p ∧ ¬ numR f p lo hi < 0 := by
  have e : numR f p lo hi = numW f p := if_pos c
  refine ⟨e, ?_⟩
  rw [e]
  exact Int32.not_lt.mpr (Int32.le_trans h0 c.2.1)
theorem numR_no {lo hi : Int32} (c : ¬ numOk f p lo hi) : numR f p lo hi < 0 := by
  have e : numR f p lo hi = -1 := if_neg c
  rw [e]
  decide
end
set_option maxRecDepth 100000 in
set_option maxHeartbeats 4000000 in
theorem s_X12_readsCells {q m p : Nat} {x : Int32} (h : TqS I q m) (hp : p < 2 ^ 29) : Ca G mdX12_readsCells [.ref 200, .int (nI q)] (mk (rm I p x) L t) (Rx (.int (b2i (rcOk (byF (I 206) q m) p))) (rcI I (byF (I 206) q m) p) (rcP (byF (I 206) q m) p) L t) := by
  refine Ca.intro [some (.ref 200), some (.int (nI q))] (by decide) (Nat.le_of_ble_eq_true rfl) rfl rfl ?_
  refine ex_aload_n dX12_readsCells_0 rfl ?_
  refine ex_iload_n dX12_readsCells_1 rfl ?_
  refine ex_bipush (v := 99) dX12_readsCells_2 (by decide) ?_
  refine rx_cV (kd := 12) dX12_readsCells_4 rfl lk_X12_123 rfl (by decide) (by first | assumption | rfl) ⟨⟨rfl, rfl⟩, by decide, by decide⟩ rfl (Nat.le_of_ble_eq_true rfl) rfl (s_X12_sign h (by omega)) (Rs.k ?_)
  refine ex_if_eq 21 dX12_readsCells_7 (by decide) (fun h7 => ?_) (fun h7 => ?_)
  · rw [if_neg (b2i_0.mp h7)]
    refine ex_iconst (v := 0) dX12_readsCells_21 (by decide) ?_
    refine ex_iret dX12_readsCells_22 rfl rfl ⟨rfl, Nat.le_refl _⟩ ?_
    first | exact rcC (b2i_n0.mp h7) (b2i_n0.mp h18) | exact rcB (b2i_n0.mp h7) (b2i_0.mp h18) | exact rcA (b2i_0.mp h7)
  · rw [if_pos (b2i_n0.mp h7)]
    refine ex_aload_n dX12_readsCells_10 rfl ?_
    refine ex_iload_n dX12_readsCells_11 rfl ?_
    refine ex_iconst (v := 3) dX12_readsCells_12 (by decide) ?_
    refine ex_bipush (v := 16) dX12_readsCells_13 (by decide) ?_
    refine rx_cV (kd := 12) dX12_readsCells_15 rfl lk_X12_127 rfl (by decide) (by first | assumption | rfl) ⟨⟨rfl, rfl⟩, by decide, by decide⟩ rfl (Nat.le_of_ble_eq_true rfl) rfl (s_X12_number h (by omega)) (Rs.k ?_)
    refine ex_if_ne 23 dX12_readsCells_18 (by decide) (fun h18 => ?_) (fun h18 => ?_)
    · skip
      refine ex_aload_n dX12_readsCells_23 rfl ?_
      refine g_12_18 dX12_readsCells_24 rfl wf_X12_45 (by first | assumption | rfl) (show Rt _ 200 18 = some 212 from rfl) ?_
      refine ex_iconst (v := 0) dX12_readsCells_27 (by decide) ?_
      refine ex_aload_n dX12_readsCells_28 rfl ?_
      refine g_12_16 dX12_readsCells_29 rfl wf_X12_120 (by first | assumption | rfl) ?_
      rw [rm_x]
      refine rx_iast dX12_readsCells_32 (by first | assumption | rfl) (by first | assumption | (unfold vp_in; decide)) ?_
      refine ex_iconst (v := 1) dX12_readsCells_33 (by decide) ?_
      refine ex_iret dX12_readsCells_34 rfl rfl ⟨rfl, Nat.le_refl _⟩ ?_
      first | exact rcC (b2i_n0.mp h7) (b2i_n0.mp h18) | exact rcB (b2i_n0.mp h7) (b2i_0.mp h18) | exact rcA (b2i_0.mp h7)
    · skip
      refine ex_iconst (v := 0) dX12_readsCells_21 (by decide) ?_
      refine ex_iret dX12_readsCells_22 rfl rfl ⟨rfl, Nat.le_refl _⟩ ?_
      first | exact rcC (b2i_n0.mp h7) (b2i_n0.mp h18) | exact rcB (b2i_n0.mp h7) (b2i_0.mp h18) | exact rcA (b2i_0.mp h7)
def itM (J : Im) (x : It) : Im := if x.2.2.1 = 1 then up2 J 212 (5 + x.2.2.2.1).toNatClampNeg x.2.2.2.2 else if x.2.2.1 = 2 then up2 J 212 4 (J 212 4 ||| 1 <<< (x.2.2.2.1 &&& 31)) else if x.2.2.1 = 3 then up2 (up2 J 212 1 x.2.2.2.1) 212 2 x.2.2.2.2 else if x.2.2.1 = 4 then up2 J 212 3 x.2.2.2.2 else J
def RxI (I : Im) (x : It) (L : Nat → Nat → Int64) (t : Nat) : Option Value → Mem → Prop := Rx (.int (b2i (x.1 = true))) (itM I x) x.2.1 L t
section
variable {f : Nat → Int32} {p p1 kd : Nat} {x a b : Int32}
theorem riF : RxI I (false, p, 0, 0, 0) L t (some (.int 0)) (mk (rm I p x) L t) := ⟨by rw [b2i_0.mpr (fun z => Bool.noConfusion z)], x, rfl⟩
theorem ri1 : RxI I (true, p, 1, a, b) L t (some (.int 1)) (mk (up2 (rm I p x) 212 (5 + a).toNatClampNeg b) L t) := ⟨by rw [b2i_1 (by rfl)], x, by rw [rm_c (by decide)]; rfl⟩
theorem ri2 : RxI I (true, p, 2, a, 0) L t (some (.int 1)) (mk (up2 (rm I p x) 212 4 (rm I p x 212 4 ||| 1 <<< (a &&& 31))) L t) := ⟨by rw [b2i_1 (by rfl)], x, by rw [rm_c (by decide), rm_off (by decide)]; rfl⟩
theorem ri3 : RxI I (true, p, 3, a, b) L t (some (.int 1)) (mk (up2 (up2 (rm I p x) 212 1 a) 212 2 b) L t) := ⟨by rw [b2i_1 (by rfl)], x, by rw [rm_c (by decide), rm_c (by decide)]; rfl⟩
theorem ri4 : RxI I (true, p, 4, 0, b) L t (some (.int 1)) (mk (up2 (rm I p x) 212 3 b) L t) := ⟨by rw [b2i_1 (by rfl)], x, by rw [rm_c (by decide)]; rfl⟩
theorem itK1 {hi lo : Int32} (d : ¬ numOk f p 0 hi) : itK f p hi lo kd = (false, numN f p, 0, 0, 0) := if_pos (numR_no d)
theorem itK2 {hi lo : Int32} (d : numOk f p 0 hi) (e : ¬ f (numN f p) = 58) : itK f p hi lo kd = (false, numN f p, 0, 0, 0) := (if_neg (numR_ok d (by decide)).2).trans (if_pos e)
theorem itK3 {hi lo : Int32} (d : numOk f p 0 hi) (e : f (numN f p) = 58) (g : ¬ figOk f (numN f p + 1) lo) : itK f p hi lo kd = (false, numN f p + 1, 0, 0, 0) := (if_neg (numR_ok d (by decide)).2).trans ((if_neg (fun z => z e)).trans (if_neg g))
theorem itK4 {hi lo : Int32} (d : numOk f p 0 hi) (e : f (numN f p) = 58) (g : figOk f (numN f p + 1) lo) : itK f p hi lo kd = (true, numN f p + 2, kd, numW f p, f (numN f p + 1) - 48) := by
  refine (if_neg (numR_ok d (by decide)).2).trans ((if_neg (fun z => z e)).trans ((if_pos g).trans ?_))
  rw [(numR_ok d (by decide)).1]
theorem itW1 {hi : Int32} (d : ¬ numOk f p 0 hi) : itW f p hi = (false, numN f p, 0, 0, 0) := if_pos (numR_no d)
theorem itW2 {hi : Int32} (d : numOk f p 0 hi) : itW f p hi = (true, numN f p, 2, numW f p, 0) := by
  refine (if_neg (numR_ok d (by decide)).2).trans ?_
  rw [(numR_ok d (by decide)).1]
theorem numV_ok {lo hi : Int32} (d : numOk f p lo hi) : numV f p = numW f p := if_pos d.1
theorem k_in {n : Nat} (hn : n ≤ 16) (hn3 : 3 ≤ n) (d : numOk f p 0 (nI (n - 1))) : vp_in (5 + numW f p) 21 := by
  have h1 := d.2.1
  obtain ⟨j, hj, e⟩ := nI_of (Int32.not_lt.mpr h1)
  have h2 := d.2.2
  rw [e] at h2 ⊢
  have h3 := (nI_leI hj (by omega)).mp h2
  rw [show (5 : Int32) = nI 5 from rfl, nI_add]
  exact vp_in_nI (by omega) (by decide)
end
set_option maxRecDepth 100000 in
set_option maxHeartbeats 4000000 in
theorem s_readsItemD {q m p : Nat} {x : Int32} (h : TqS I q m) (hp : p < 2 ^ 29) {n : Nat} (hn3 : 3 ≤ n) (hn : n ≤ 16) (hR : I 212 0 = nI n) (e : (byF (I 206) q m) p = 100) : Ca G mdX12_readsItem [.ref 200, .int (nI q)] (mk (rm I p x) L t) (RxI I (itm (byF (I 206) q m) n p) L t) := by
  refine Ca.intro [some (.ref 200), some (.int (nI q)), none, none, none] (by decide) (Nat.le_of_ble_eq_true rfl) rfl rfl ?_
  have e1 : nI n - 1 = nI (n - 1) := by
    obtain ⟨k, rfl⟩ : ∃ k, n = k + 1 := ⟨n - 1, by omega⟩
    exact nI_pred k
  have e2 : nI (n - 1) - 1 = nI (n - 2) := by
    obtain ⟨k, rfl⟩ : ∃ k, n = k + 2 := ⟨n - 2, by omega⟩
    exact nI_pred k
  have en := numN_b (f := (byF (I 206) q m)) (p := p + 1)
  rw [show itm (byF (I 206) q m) n p = itK (byF (I 206) q m) (p + 1) (nI (n - 1)) 1 1 from if_pos e]
  refine ex_aload_n dX12_readsItem_0 rfl ?_
  refine ex_iload_n dX12_readsItem_1 rfl ?_
  refine ex_aload_n dX12_readsItem_2 rfl ?_
  refine g_12_15 dX12_readsItem_3 rfl wf_X12_114 (by first | assumption | rfl) ?_
  rw [rm_p]
  refine rx_cV (kd := 12) dX12_readsItem_6 rfl lk_X12_117 rfl (by decide) (by first | assumption | rfl) ⟨⟨rfl, rfl⟩, by decide, by decide⟩ rfl (Nat.le_of_ble_eq_true rfl) rfl (s_X12_byteAt h.1 h.2.1 (by rw [rm_off (by decide)]; exact h.2.2.1) (by omega)) (Rs.k ?_)
  rw [rm_off (by decide), e]
  refine st_i2 dX12_readsItem_9 (by first | exact rfl | exact trivial) ?_
  refine ex_aload_n dX12_readsItem_10 rfl ?_
  refine g_12_18 dX12_readsItem_11 rfl wf_X12_45 (by first | assumption | rfl) (show Rt _ 200 18 = some 212 from rfl) ?_
  refine ex_iconst (v := 0) dX12_readsItem_14 (by decide) ?_
  refine rx_iald dX12_readsItem_15 (by first | assumption | rfl) (by first | assumption | (unfold vp_in; decide)) ?_
  rw [rm_off (by decide), show I 212 (0 : Int32).toNatClampNeg = nI n from hR]
  refine ex_iconst (v := 1) dX12_readsItem_16 (by decide) ?_
  refine ex_isub dX12_readsItem_17 ?_
  rw [e1]
  refine st_i3 dX12_readsItem_18 (by first | exact rfl | exact trivial) ?_
  refine ex_iload_n dX12_readsItem_19 rfl ?_
  refine ex_bipush (v := 100) dX12_readsItem_20 (by decide) ?_
  refine ex_icmp_eq 45 dX12_readsItem_22 (by decide) (fun h22 => ?_) (fun h22 => ?_)
  · skip
    refine ex_aload_n dX12_readsItem_45 rfl ?_
    refine ex_dup dX12_readsItem_46 rfl ?_
    refine g_12_15 dX12_readsItem_47 rfl wf_X12_114 (by first | assumption | rfl) ?_
    rw [rm_p]
    refine ex_iconst (v := 1) dX12_readsItem_50 (by decide) ?_
    refine ex_iadd dX12_readsItem_51 ?_
    refine p_12_15 dX12_readsItem_52 rfl wf_X12_114 (by first | assumption | rfl) ?_
    rw [nI_1, rm_wp]
    refine ex_iload_n dX12_readsItem_55 rfl ?_
    refine ex_bipush (v := 114) dX12_readsItem_56 (by decide) ?_
    refine ex_icmp_ne 96 dX12_readsItem_58 (by decide) (fun h58 => ?_) (fun h58 => ?_)
    · skip
      refine ex_aload_n dX12_readsItem_96 rfl ?_
      refine ex_iload_n dX12_readsItem_97 rfl ?_
      refine ex_iconst (v := 0) dX12_readsItem_98 (by decide) ?_
      refine ex_iload_n dX12_readsItem_99 rfl ?_
      refine ex_bipush (v := 119) dX12_readsItem_100 (by decide) ?_
      refine ex_icmp_ne 111 dX12_readsItem_102 (by decide) (fun h102 => ?_) (fun h102 => ?_)
      · skip
        refine ex_iload_n dX12_readsItem_111 rfl ?_
        refine rx_cV (kd := 12) dX12_readsItem_112 rfl lk_X12_127 rfl (by decide) (by first | assumption | rfl) ⟨⟨rfl, rfl⟩, by decide, by decide⟩ rfl (Nat.le_of_ble_eq_true rfl) rfl (s_X12_number h (by omega)) (Rs.k ?_)
        refine ex_if_ne 120 dX12_readsItem_115 (by decide) (fun h115 => ?_) (fun h115 => ?_)
        · have hk := numV_ok (b2i_n0.mp h115)
          refine ex_aload_n dX12_readsItem_120 rfl ?_
          refine g_12_16 dX12_readsItem_121 rfl wf_X12_120 (by first | assumption | rfl) ?_
          rw [rm_x, hk]
          refine st_i4 dX12_readsItem_124 (by first | exact rfl | exact trivial) ?_
          refine ex_iload_n dX12_readsItem_126 rfl ?_
          refine ex_bipush (v := 119) dX12_readsItem_127 (by decide) ?_
          refine ex_icmp_ne 147 dX12_readsItem_129 (by decide) (fun h129 => ?_) (fun h129 => ?_)
          · skip
            refine ex_aload_n dX12_readsItem_147 rfl ?_
            refine ex_iload_n dX12_readsItem_148 rfl ?_
            refine ex_bipush (v := 58) dX12_readsItem_149 (by decide) ?_
            refine rx_cV (kd := 12) dX12_readsItem_151 rfl lk_X12_123 rfl (by decide) (by first | assumption | rfl) ⟨⟨rfl, rfl⟩, by decide, by decide⟩ rfl (Nat.le_of_ble_eq_true rfl) rfl (s_X12_sign h (by omega)) (Rs.k ?_)
            refine ex_if_eq 176 dX12_readsItem_154 (by decide) (fun h154 => ?_) (fun h154 => ?_)
            · rw [if_neg (b2i_0.mp h154)]
              refine ex_iconst (v := 0) dX12_readsItem_176 (by decide) ?_
              refine ex_iret dX12_readsItem_177 rfl rfl ⟨rfl, Nat.le_refl _⟩ ?_
              first | (rw [itK4 (b2i_n0.mp h115) (b2i_n0.mp h154) (b2i_n0.mp h173)]; exact ri1) | (rw [itK3 (b2i_n0.mp h115) (b2i_n0.mp h154) (b2i_0.mp h173)]; exact riF) | (rw [itK2 (b2i_n0.mp h115) (b2i_0.mp h154)]; exact riF) | (rw [itK1 (b2i_0.mp h115)]; exact riF)
            · rw [if_pos (b2i_n0.mp h154)]
              refine ex_aload_n dX12_readsItem_157 rfl ?_
              refine ex_iload_n dX12_readsItem_158 rfl ?_
              refine ex_iload_n dX12_readsItem_159 rfl ?_
              refine ex_bipush (v := 100) dX12_readsItem_160 (by decide) ?_
              refine ex_icmp_ne 169 dX12_readsItem_162 (by decide) (fun h162 => ?_) (fun h162 => ?_)
              · exact absurd h162 (by decide)
              · skip
                refine ex_iconst (v := 1) dX12_readsItem_165 (by decide) ?_
                refine ex_goto 170 dX12_readsItem_166 (by decide) ?_
                refine rx_cV (kd := 12) dX12_readsItem_170 rfl lk_X12_130 rfl (by decide) (by first | assumption | rfl) ⟨⟨rfl, rfl⟩, by decide, by decide⟩ rfl (Nat.le_of_ble_eq_true rfl) rfl (s_X12_figure h (by omega)) (Rs.k ?_)
                refine ex_if_ne 178 dX12_readsItem_173 (by decide) (fun h173 => ?_) (fun h173 => ?_)
                · rw [if_pos (b2i_n0.mp h173)]
                  refine ex_iload_n dX12_readsItem_178 rfl ?_
                  refine ex_bipush (v := 100) dX12_readsItem_179 (by decide) ?_
                  refine ex_icmp_ne 200 dX12_readsItem_181 (by decide) (fun h181 => ?_) (fun h181 => ?_)
                  · exact absurd h181 (by decide)
                  · skip
                    refine ex_aload_n dX12_readsItem_184 rfl ?_
                    refine g_12_18 dX12_readsItem_185 rfl wf_X12_45 (by first | assumption | rfl) (show Rt _ 200 18 = some 212 from rfl) ?_
                    refine ex_iconst (v := 5) dX12_readsItem_188 (by decide) ?_
                    refine ex_iload dX12_readsItem_189 rfl ?_
                    refine ex_iadd dX12_readsItem_191 ?_
                    refine ex_aload_n dX12_readsItem_192 rfl ?_
                    refine g_12_16 dX12_readsItem_193 rfl wf_X12_120 (by first | assumption | rfl) ?_
                    rw [rm_x]
                    refine rx_iast dX12_readsItem_196 (by first | assumption | rfl) (k_in hn hn3 (b2i_n0.mp h115)) ?_
                    refine ex_goto 218 dX12_readsItem_197 (by decide) ?_
                    refine ex_iconst (v := 1) dX12_readsItem_218 (by decide) ?_
                    refine ex_iret dX12_readsItem_219 rfl rfl ⟨rfl, Nat.le_refl _⟩ ?_
                    first | (rw [itK4 (b2i_n0.mp h115) (b2i_n0.mp h154) (b2i_n0.mp h173)]; exact ri1) | (rw [itK3 (b2i_n0.mp h115) (b2i_n0.mp h154) (b2i_0.mp h173)]; exact riF) | (rw [itK2 (b2i_n0.mp h115) (b2i_0.mp h154)]; exact riF) | (rw [itK1 (b2i_0.mp h115)]; exact riF)
                · rw [if_neg (b2i_0.mp h173)]
                  refine ex_iconst (v := 0) dX12_readsItem_176 (by decide) ?_
                  refine ex_iret dX12_readsItem_177 rfl rfl ⟨rfl, Nat.le_refl _⟩ ?_
                  first | (rw [itK4 (b2i_n0.mp h115) (b2i_n0.mp h154) (b2i_n0.mp h173)]; exact ri1) | (rw [itK3 (b2i_n0.mp h115) (b2i_n0.mp h154) (b2i_0.mp h173)]; exact riF) | (rw [itK2 (b2i_n0.mp h115) (b2i_0.mp h154)]; exact riF) | (rw [itK1 (b2i_0.mp h115)]; exact riF)
          · exact absurd h129 (by decide)
        · skip
          refine ex_iconst (v := 0) dX12_readsItem_118 (by decide) ?_
          refine ex_iret dX12_readsItem_119 rfl rfl ⟨rfl, Nat.le_refl _⟩ ?_
          first | (rw [itK4 (b2i_n0.mp h115) (b2i_n0.mp h154) (b2i_n0.mp h173)]; exact ri1) | (rw [itK3 (b2i_n0.mp h115) (b2i_n0.mp h154) (b2i_0.mp h173)]; exact riF) | (rw [itK2 (b2i_n0.mp h115) (b2i_0.mp h154)]; exact riF) | (rw [itK1 (b2i_0.mp h115)]; exact riF)
      · exact absurd h102 (by decide)
    · exact absurd h58 (by decide)
  · exact absurd h22 (by decide)
set_option maxRecDepth 100000 in
set_option maxHeartbeats 4000000 in
theorem s_readsItemM {q m p : Nat} {x : Int32} (h : TqS I q m) (hp : p < 2 ^ 29) {n : Nat} (hn3 : 3 ≤ n) (hn : n ≤ 16) (hR : I 212 0 = nI n) (e : (byF (I 206) q m) p = 109) : Ca G mdX12_readsItem [.ref 200, .int (nI q)] (mk (rm I p x) L t) (RxI I (itm (byF (I 206) q m) n p) L t) := by
  refine Ca.intro [some (.ref 200), some (.int (nI q)), none, none, none] (by decide) (Nat.le_of_ble_eq_true rfl) rfl rfl ?_
  have e1 : nI n - 1 = nI (n - 1) := by
    obtain ⟨k, rfl⟩ : ∃ k, n = k + 1 := ⟨n - 1, by omega⟩
    exact nI_pred k
  have e2 : nI (n - 1) - 1 = nI (n - 2) := by
    obtain ⟨k, rfl⟩ : ∃ k, n = k + 2 := ⟨n - 2, by omega⟩
    exact nI_pred k
  have en := numN_b (f := (byF (I 206) q m)) (p := p + 1)
  rw [show itm (byF (I 206) q m) n p = itK (byF (I 206) q m) (p + 1) (nI (n - 1)) 0 3 from (if_neg (fun z => absurd (e.symm.trans z) (by decide))).trans ((if_neg (fun z => absurd (e.symm.trans z) (by decide))).trans (if_pos e))]
  refine ex_aload_n dX12_readsItem_0 rfl ?_
  refine ex_iload_n dX12_readsItem_1 rfl ?_
  refine ex_aload_n dX12_readsItem_2 rfl ?_
  refine g_12_15 dX12_readsItem_3 rfl wf_X12_114 (by first | assumption | rfl) ?_
  rw [rm_p]
  refine rx_cV (kd := 12) dX12_readsItem_6 rfl lk_X12_117 rfl (by decide) (by first | assumption | rfl) ⟨⟨rfl, rfl⟩, by decide, by decide⟩ rfl (Nat.le_of_ble_eq_true rfl) rfl (s_X12_byteAt h.1 h.2.1 (by rw [rm_off (by decide)]; exact h.2.2.1) (by omega)) (Rs.k ?_)
  rw [rm_off (by decide), e]
  refine st_i2 dX12_readsItem_9 (by first | exact rfl | exact trivial) ?_
  refine ex_aload_n dX12_readsItem_10 rfl ?_
  refine g_12_18 dX12_readsItem_11 rfl wf_X12_45 (by first | assumption | rfl) (show Rt _ 200 18 = some 212 from rfl) ?_
  refine ex_iconst (v := 0) dX12_readsItem_14 (by decide) ?_
  refine rx_iald dX12_readsItem_15 (by first | assumption | rfl) (by first | assumption | (unfold vp_in; decide)) ?_
  rw [rm_off (by decide), show I 212 (0 : Int32).toNatClampNeg = nI n from hR]
  refine ex_iconst (v := 1) dX12_readsItem_16 (by decide) ?_
  refine ex_isub dX12_readsItem_17 ?_
  rw [e1]
  refine st_i3 dX12_readsItem_18 (by first | exact rfl | exact trivial) ?_
  refine ex_iload_n dX12_readsItem_19 rfl ?_
  refine ex_bipush (v := 100) dX12_readsItem_20 (by decide) ?_
  refine ex_icmp_eq 45 dX12_readsItem_22 (by decide) (fun h22 => ?_) (fun h22 => ?_)
  · exact absurd h22 (by decide)
  · skip
    refine ex_iload_n dX12_readsItem_25 rfl ?_
    refine ex_bipush (v := 119) dX12_readsItem_26 (by decide) ?_
    refine ex_icmp_eq 45 dX12_readsItem_28 (by decide) (fun h28 => ?_) (fun h28 => ?_)
    · exact absurd h28 (by decide)
    · skip
      refine ex_iload_n dX12_readsItem_31 rfl ?_
      refine ex_bipush (v := 109) dX12_readsItem_32 (by decide) ?_
      refine ex_icmp_eq 45 dX12_readsItem_34 (by decide) (fun h34 => ?_) (fun h34 => ?_)
      · skip
        refine ex_aload_n dX12_readsItem_45 rfl ?_
        refine ex_dup dX12_readsItem_46 rfl ?_
        refine g_12_15 dX12_readsItem_47 rfl wf_X12_114 (by first | assumption | rfl) ?_
        rw [rm_p]
        refine ex_iconst (v := 1) dX12_readsItem_50 (by decide) ?_
        refine ex_iadd dX12_readsItem_51 ?_
        refine p_12_15 dX12_readsItem_52 rfl wf_X12_114 (by first | assumption | rfl) ?_
        rw [nI_1, rm_wp]
        refine ex_iload_n dX12_readsItem_55 rfl ?_
        refine ex_bipush (v := 114) dX12_readsItem_56 (by decide) ?_
        refine ex_icmp_ne 96 dX12_readsItem_58 (by decide) (fun h58 => ?_) (fun h58 => ?_)
        · skip
          refine ex_aload_n dX12_readsItem_96 rfl ?_
          refine ex_iload_n dX12_readsItem_97 rfl ?_
          refine ex_iconst (v := 0) dX12_readsItem_98 (by decide) ?_
          refine ex_iload_n dX12_readsItem_99 rfl ?_
          refine ex_bipush (v := 119) dX12_readsItem_100 (by decide) ?_
          refine ex_icmp_ne 111 dX12_readsItem_102 (by decide) (fun h102 => ?_) (fun h102 => ?_)
          · skip
            refine ex_iload_n dX12_readsItem_111 rfl ?_
            refine rx_cV (kd := 12) dX12_readsItem_112 rfl lk_X12_127 rfl (by decide) (by first | assumption | rfl) ⟨⟨rfl, rfl⟩, by decide, by decide⟩ rfl (Nat.le_of_ble_eq_true rfl) rfl (s_X12_number h (by omega)) (Rs.k ?_)
            refine ex_if_ne 120 dX12_readsItem_115 (by decide) (fun h115 => ?_) (fun h115 => ?_)
            · have hk := numV_ok (b2i_n0.mp h115)
              refine ex_aload_n dX12_readsItem_120 rfl ?_
              refine g_12_16 dX12_readsItem_121 rfl wf_X12_120 (by first | assumption | rfl) ?_
              rw [rm_x, hk]
              refine st_i4 dX12_readsItem_124 (by first | exact rfl | exact trivial) ?_
              refine ex_iload_n dX12_readsItem_126 rfl ?_
              refine ex_bipush (v := 119) dX12_readsItem_127 (by decide) ?_
              refine ex_icmp_ne 147 dX12_readsItem_129 (by decide) (fun h129 => ?_) (fun h129 => ?_)
              · skip
                refine ex_aload_n dX12_readsItem_147 rfl ?_
                refine ex_iload_n dX12_readsItem_148 rfl ?_
                refine ex_bipush (v := 58) dX12_readsItem_149 (by decide) ?_
                refine rx_cV (kd := 12) dX12_readsItem_151 rfl lk_X12_123 rfl (by decide) (by first | assumption | rfl) ⟨⟨rfl, rfl⟩, by decide, by decide⟩ rfl (Nat.le_of_ble_eq_true rfl) rfl (s_X12_sign h (by omega)) (Rs.k ?_)
                refine ex_if_eq 176 dX12_readsItem_154 (by decide) (fun h154 => ?_) (fun h154 => ?_)
                · rw [if_neg (b2i_0.mp h154)]
                  refine ex_iconst (v := 0) dX12_readsItem_176 (by decide) ?_
                  refine ex_iret dX12_readsItem_177 rfl rfl ⟨rfl, Nat.le_refl _⟩ ?_
                  first | (rw [itK4 (b2i_n0.mp h115) (b2i_n0.mp h154) (b2i_n0.mp h173)]; exact ri3) | (rw [itK3 (b2i_n0.mp h115) (b2i_n0.mp h154) (b2i_0.mp h173)]; exact riF) | (rw [itK2 (b2i_n0.mp h115) (b2i_0.mp h154)]; exact riF) | (rw [itK1 (b2i_0.mp h115)]; exact riF)
                · rw [if_pos (b2i_n0.mp h154)]
                  refine ex_aload_n dX12_readsItem_157 rfl ?_
                  refine ex_iload_n dX12_readsItem_158 rfl ?_
                  refine ex_iload_n dX12_readsItem_159 rfl ?_
                  refine ex_bipush (v := 100) dX12_readsItem_160 (by decide) ?_
                  refine ex_icmp_ne 169 dX12_readsItem_162 (by decide) (fun h162 => ?_) (fun h162 => ?_)
                  · skip
                    refine ex_iconst (v := 0) dX12_readsItem_169 (by decide) ?_
                    refine rx_cV (kd := 12) dX12_readsItem_170 rfl lk_X12_130 rfl (by decide) (by first | assumption | rfl) ⟨⟨rfl, rfl⟩, by decide, by decide⟩ rfl (Nat.le_of_ble_eq_true rfl) rfl (s_X12_figure h (by omega)) (Rs.k ?_)
                    refine ex_if_ne 178 dX12_readsItem_173 (by decide) (fun h173 => ?_) (fun h173 => ?_)
                    · rw [if_pos (b2i_n0.mp h173)]
                      refine ex_iload_n dX12_readsItem_178 rfl ?_
                      refine ex_bipush (v := 100) dX12_readsItem_179 (by decide) ?_
                      refine ex_icmp_ne 200 dX12_readsItem_181 (by decide) (fun h181 => ?_) (fun h181 => ?_)
                      · skip
                        refine ex_aload_n dX12_readsItem_200 rfl ?_
                        refine g_12_18 dX12_readsItem_201 rfl wf_X12_45 (by first | assumption | rfl) (show Rt _ 200 18 = some 212 from rfl) ?_
                        refine ex_iconst (v := 1) dX12_readsItem_204 (by decide) ?_
                        refine ex_iload dX12_readsItem_205 rfl ?_
                        refine rx_iast dX12_readsItem_207 (by first | assumption | rfl) (by first | assumption | (unfold vp_in; decide)) ?_
                        refine ex_aload_n dX12_readsItem_208 rfl ?_
                        refine g_12_18 dX12_readsItem_209 rfl wf_X12_45 (by first | assumption | rfl) (show Rt _ 200 18 = some 212 from rfl) ?_
                        refine ex_iconst (v := 2) dX12_readsItem_212 (by decide) ?_
                        refine ex_aload_n dX12_readsItem_213 rfl ?_
                        refine g_12_16 dX12_readsItem_214 rfl wf_X12_120 (by first | assumption | rfl) ?_
                        rw [up2_off (by decide), rm_x]
                        refine rx_iast dX12_readsItem_217 (by first | assumption | rfl) (by first | assumption | (unfold vp_in; decide)) ?_
                        refine ex_iconst (v := 1) dX12_readsItem_218 (by decide) ?_
                        refine ex_iret dX12_readsItem_219 rfl rfl ⟨rfl, Nat.le_refl _⟩ ?_
                        first | (rw [itK4 (b2i_n0.mp h115) (b2i_n0.mp h154) (b2i_n0.mp h173)]; exact ri3) | (rw [itK3 (b2i_n0.mp h115) (b2i_n0.mp h154) (b2i_0.mp h173)]; exact riF) | (rw [itK2 (b2i_n0.mp h115) (b2i_0.mp h154)]; exact riF) | (rw [itK1 (b2i_0.mp h115)]; exact riF)
                      · exact absurd h181 (by decide)
                    · rw [if_neg (b2i_0.mp h173)]
                      refine ex_iconst (v := 0) dX12_readsItem_176 (by decide) ?_
                      refine ex_iret dX12_readsItem_177 rfl rfl ⟨rfl, Nat.le_refl _⟩ ?_
                      first | (rw [itK4 (b2i_n0.mp h115) (b2i_n0.mp h154) (b2i_n0.mp h173)]; exact ri3) | (rw [itK3 (b2i_n0.mp h115) (b2i_n0.mp h154) (b2i_0.mp h173)]; exact riF) | (rw [itK2 (b2i_n0.mp h115) (b2i_0.mp h154)]; exact riF) | (rw [itK1 (b2i_0.mp h115)]; exact riF)
                  · exact absurd h162 (by decide)
              · exact absurd h129 (by decide)
            · skip
              refine ex_iconst (v := 0) dX12_readsItem_118 (by decide) ?_
              refine ex_iret dX12_readsItem_119 rfl rfl ⟨rfl, Nat.le_refl _⟩ ?_
              first | (rw [itK4 (b2i_n0.mp h115) (b2i_n0.mp h154) (b2i_n0.mp h173)]; exact ri3) | (rw [itK3 (b2i_n0.mp h115) (b2i_n0.mp h154) (b2i_0.mp h173)]; exact riF) | (rw [itK2 (b2i_n0.mp h115) (b2i_0.mp h154)]; exact riF) | (rw [itK1 (b2i_0.mp h115)]; exact riF)
          · exact absurd h102 (by decide)
        · exact absurd h58 (by decide)
      · exact absurd h34 (by decide)
set_option maxRecDepth 100000 in
set_option maxHeartbeats 4000000 in
theorem s_readsItemW {q m p : Nat} {x : Int32} (h : TqS I q m) (hp : p < 2 ^ 29) {n : Nat} (hn3 : 3 ≤ n) (hn : n ≤ 16) (hR : I 212 0 = nI n) (e : (byF (I 206) q m) p = 119) : Ca G mdX12_readsItem [.ref 200, .int (nI q)] (mk (rm I p x) L t) (RxI I (itm (byF (I 206) q m) n p) L t) := by
  refine Ca.intro [some (.ref 200), some (.int (nI q)), none, none, none] (by decide) (Nat.le_of_ble_eq_true rfl) rfl rfl ?_
  have e1 : nI n - 1 = nI (n - 1) := by
    obtain ⟨k, rfl⟩ : ∃ k, n = k + 1 := ⟨n - 1, by omega⟩
    exact nI_pred k
  have e2 : nI (n - 1) - 1 = nI (n - 2) := by
    obtain ⟨k, rfl⟩ : ∃ k, n = k + 2 := ⟨n - 2, by omega⟩
    exact nI_pred k
  have en := numN_b (f := (byF (I 206) q m)) (p := p + 1)
  rw [show itm (byF (I 206) q m) n p = itW (byF (I 206) q m) (p + 1) (nI (n - 2)) from (if_neg (fun z => absurd (e.symm.trans z) (by decide))).trans (if_pos e)]
  refine ex_aload_n dX12_readsItem_0 rfl ?_
  refine ex_iload_n dX12_readsItem_1 rfl ?_
  refine ex_aload_n dX12_readsItem_2 rfl ?_
  refine g_12_15 dX12_readsItem_3 rfl wf_X12_114 (by first | assumption | rfl) ?_
  rw [rm_p]
  refine rx_cV (kd := 12) dX12_readsItem_6 rfl lk_X12_117 rfl (by decide) (by first | assumption | rfl) ⟨⟨rfl, rfl⟩, by decide, by decide⟩ rfl (Nat.le_of_ble_eq_true rfl) rfl (s_X12_byteAt h.1 h.2.1 (by rw [rm_off (by decide)]; exact h.2.2.1) (by omega)) (Rs.k ?_)
  rw [rm_off (by decide), e]
  refine st_i2 dX12_readsItem_9 (by first | exact rfl | exact trivial) ?_
  refine ex_aload_n dX12_readsItem_10 rfl ?_
  refine g_12_18 dX12_readsItem_11 rfl wf_X12_45 (by first | assumption | rfl) (show Rt _ 200 18 = some 212 from rfl) ?_
  refine ex_iconst (v := 0) dX12_readsItem_14 (by decide) ?_
  refine rx_iald dX12_readsItem_15 (by first | assumption | rfl) (by first | assumption | (unfold vp_in; decide)) ?_
  rw [rm_off (by decide), show I 212 (0 : Int32).toNatClampNeg = nI n from hR]
  refine ex_iconst (v := 1) dX12_readsItem_16 (by decide) ?_
  refine ex_isub dX12_readsItem_17 ?_
  rw [e1]
  refine st_i3 dX12_readsItem_18 (by first | exact rfl | exact trivial) ?_
  refine ex_iload_n dX12_readsItem_19 rfl ?_
  refine ex_bipush (v := 100) dX12_readsItem_20 (by decide) ?_
  refine ex_icmp_eq 45 dX12_readsItem_22 (by decide) (fun h22 => ?_) (fun h22 => ?_)
  · exact absurd h22 (by decide)
  · skip
    refine ex_iload_n dX12_readsItem_25 rfl ?_
    refine ex_bipush (v := 119) dX12_readsItem_26 (by decide) ?_
    refine ex_icmp_eq 45 dX12_readsItem_28 (by decide) (fun h28 => ?_) (fun h28 => ?_)
    · skip
      refine ex_aload_n dX12_readsItem_45 rfl ?_
      refine ex_dup dX12_readsItem_46 rfl ?_
      refine g_12_15 dX12_readsItem_47 rfl wf_X12_114 (by first | assumption | rfl) ?_
      rw [rm_p]
      refine ex_iconst (v := 1) dX12_readsItem_50 (by decide) ?_
      refine ex_iadd dX12_readsItem_51 ?_
      refine p_12_15 dX12_readsItem_52 rfl wf_X12_114 (by first | assumption | rfl) ?_
      rw [nI_1, rm_wp]
      refine ex_iload_n dX12_readsItem_55 rfl ?_
      refine ex_bipush (v := 114) dX12_readsItem_56 (by decide) ?_
      refine ex_icmp_ne 96 dX12_readsItem_58 (by decide) (fun h58 => ?_) (fun h58 => ?_)
      · skip
        refine ex_aload_n dX12_readsItem_96 rfl ?_
        refine ex_iload_n dX12_readsItem_97 rfl ?_
        refine ex_iconst (v := 0) dX12_readsItem_98 (by decide) ?_
        refine ex_iload_n dX12_readsItem_99 rfl ?_
        refine ex_bipush (v := 119) dX12_readsItem_100 (by decide) ?_
        refine ex_icmp_ne 111 dX12_readsItem_102 (by decide) (fun h102 => ?_) (fun h102 => ?_)
        · exact absurd h102 (by decide)
        · skip
          refine ex_iload_n dX12_readsItem_105 rfl ?_
          refine ex_iconst (v := 1) dX12_readsItem_106 (by decide) ?_
          refine ex_isub dX12_readsItem_107 ?_
          rw [e2]
          refine ex_goto 112 dX12_readsItem_108 (by decide) ?_
          refine rx_cV (kd := 12) dX12_readsItem_112 rfl lk_X12_127 rfl (by decide) (by first | assumption | rfl) ⟨⟨rfl, rfl⟩, by decide, by decide⟩ rfl (Nat.le_of_ble_eq_true rfl) rfl (s_X12_number h (by omega)) (Rs.k ?_)
          refine ex_if_ne 120 dX12_readsItem_115 (by decide) (fun h115 => ?_) (fun h115 => ?_)
          · have hk := numV_ok (b2i_n0.mp h115)
            refine ex_aload_n dX12_readsItem_120 rfl ?_
            refine g_12_16 dX12_readsItem_121 rfl wf_X12_120 (by first | assumption | rfl) ?_
            rw [rm_x, hk]
            refine st_i4 dX12_readsItem_124 (by first | exact rfl | exact trivial) ?_
            refine ex_iload_n dX12_readsItem_126 rfl ?_
            refine ex_bipush (v := 119) dX12_readsItem_127 (by decide) ?_
            refine ex_icmp_ne 147 dX12_readsItem_129 (by decide) (fun h129 => ?_) (fun h129 => ?_)
            · exact absurd h129 (by decide)
            · skip
              refine ex_aload_n dX12_readsItem_132 rfl ?_
              refine g_12_18 dX12_readsItem_133 rfl wf_X12_45 (by first | assumption | rfl) (show Rt _ 200 18 = some 212 from rfl) ?_
              refine ex_iconst (v := 4) dX12_readsItem_136 (by decide) ?_
              refine ex_dup2 dX12_readsItem_137 rfl rfl ?_
              refine rx_iald dX12_readsItem_138 (by first | assumption | rfl) (by first | assumption | (unfold vp_in; decide)) ?_
              refine ex_iconst (v := 1) dX12_readsItem_139 (by decide) ?_
              refine ex_iload dX12_readsItem_140 rfl ?_
              refine ex_ishl dX12_readsItem_142 ?_
              refine ex_ior dX12_readsItem_143 ?_
              refine rx_iast dX12_readsItem_144 (by first | assumption | rfl) (by first | assumption | (unfold vp_in; decide)) ?_
              refine ex_iconst (v := 1) dX12_readsItem_145 (by decide) ?_
              refine ex_iret dX12_readsItem_146 rfl rfl ⟨rfl, Nat.le_refl _⟩ ?_
              first | (rw [itW2 (b2i_n0.mp h115)]; exact ri2) | (rw [itW1 (b2i_0.mp h115)]; exact riF)
          · skip
            refine ex_iconst (v := 0) dX12_readsItem_118 (by decide) ?_
            refine ex_iret dX12_readsItem_119 rfl rfl ⟨rfl, Nat.le_refl _⟩ ?_
            first | (rw [itW2 (b2i_n0.mp h115)]; exact ri2) | (rw [itW1 (b2i_0.mp h115)]; exact riF)
      · exact absurd h58 (by decide)
    · exact absurd h28 (by decide)
set_option maxRecDepth 100000 in
set_option maxHeartbeats 4000000 in
theorem s_readsItemR {q m p : Nat} {x : Int32} (h : TqS I q m) (hp : p < 2 ^ 29) {n : Nat} (hn3 : 3 ≤ n) (hn : n ≤ 16) (hR : I 212 0 = nI n) (e : (byF (I 206) q m) p = 114) : Ca G mdX12_readsItem [.ref 200, .int (nI q)] (mk (rm I p x) L t) (RxI I (itm (byF (I 206) q m) n p) L t) := by
  refine Ca.intro [some (.ref 200), some (.int (nI q)), none, none, none] (by decide) (Nat.le_of_ble_eq_true rfl) rfl rfl ?_
  have e1 : nI n - 1 = nI (n - 1) := by
    obtain ⟨k, rfl⟩ : ∃ k, n = k + 1 := ⟨n - 1, by omega⟩
    exact nI_pred k
  have e2 : nI (n - 1) - 1 = nI (n - 2) := by
    obtain ⟨k, rfl⟩ : ∃ k, n = k + 2 := ⟨n - 2, by omega⟩
    exact nI_pred k
  have en := numN_b (f := (byF (I 206) q m)) (p := p + 1)
  rw [show itm (byF (I 206) q m) n p = itR (byF (I 206) q m) (p + 1) from (if_neg (fun z => absurd (e.symm.trans z) (by decide))).trans ((if_neg (fun z => absurd (e.symm.trans z) (by decide))).trans ((if_neg (fun z => absurd (e.symm.trans z) (by decide))).trans (if_pos e)))]
  refine ex_aload_n dX12_readsItem_0 rfl ?_
  refine ex_iload_n dX12_readsItem_1 rfl ?_
  refine ex_aload_n dX12_readsItem_2 rfl ?_
  refine g_12_15 dX12_readsItem_3 rfl wf_X12_114 (by first | assumption | rfl) ?_
  rw [rm_p]
  refine rx_cV (kd := 12) dX12_readsItem_6 rfl lk_X12_117 rfl (by decide) (by first | assumption | rfl) ⟨⟨rfl, rfl⟩, by decide, by decide⟩ rfl (Nat.le_of_ble_eq_true rfl) rfl (s_X12_byteAt h.1 h.2.1 (by rw [rm_off (by decide)]; exact h.2.2.1) (by omega)) (Rs.k ?_)
  rw [rm_off (by decide), e]
  refine st_i2 dX12_readsItem_9 (by first | exact rfl | exact trivial) ?_
  refine ex_aload_n dX12_readsItem_10 rfl ?_
  refine g_12_18 dX12_readsItem_11 rfl wf_X12_45 (by first | assumption | rfl) (show Rt _ 200 18 = some 212 from rfl) ?_
  refine ex_iconst (v := 0) dX12_readsItem_14 (by decide) ?_
  refine rx_iald dX12_readsItem_15 (by first | assumption | rfl) (by first | assumption | (unfold vp_in; decide)) ?_
  rw [rm_off (by decide), show I 212 (0 : Int32).toNatClampNeg = nI n from hR]
  refine ex_iconst (v := 1) dX12_readsItem_16 (by decide) ?_
  refine ex_isub dX12_readsItem_17 ?_
  rw [e1]
  refine st_i3 dX12_readsItem_18 (by first | exact rfl | exact trivial) ?_
  refine ex_iload_n dX12_readsItem_19 rfl ?_
  refine ex_bipush (v := 100) dX12_readsItem_20 (by decide) ?_
  refine ex_icmp_eq 45 dX12_readsItem_22 (by decide) (fun h22 => ?_) (fun h22 => ?_)
  · exact absurd h22 (by decide)
  · skip
    refine ex_iload_n dX12_readsItem_25 rfl ?_
    refine ex_bipush (v := 119) dX12_readsItem_26 (by decide) ?_
    refine ex_icmp_eq 45 dX12_readsItem_28 (by decide) (fun h28 => ?_) (fun h28 => ?_)
    · exact absurd h28 (by decide)
    · skip
      refine ex_iload_n dX12_readsItem_31 rfl ?_
      refine ex_bipush (v := 109) dX12_readsItem_32 (by decide) ?_
      refine ex_icmp_eq 45 dX12_readsItem_34 (by decide) (fun h34 => ?_) (fun h34 => ?_)
      · exact absurd h34 (by decide)
      · skip
        refine ex_iload_n dX12_readsItem_37 rfl ?_
        refine ex_bipush (v := 114) dX12_readsItem_38 (by decide) ?_
        refine ex_icmp_eq 45 dX12_readsItem_40 (by decide) (fun h40 => ?_) (fun h40 => ?_)
        · skip
          refine ex_aload_n dX12_readsItem_45 rfl ?_
          refine ex_dup dX12_readsItem_46 rfl ?_
          refine g_12_15 dX12_readsItem_47 rfl wf_X12_114 (by first | assumption | rfl) ?_
          rw [rm_p]
          refine ex_iconst (v := 1) dX12_readsItem_50 (by decide) ?_
          refine ex_iadd dX12_readsItem_51 ?_
          refine p_12_15 dX12_readsItem_52 rfl wf_X12_114 (by first | assumption | rfl) ?_
          rw [nI_1, rm_wp]
          refine ex_iload_n dX12_readsItem_55 rfl ?_
          refine ex_bipush (v := 114) dX12_readsItem_56 (by decide) ?_
          refine ex_icmp_ne 96 dX12_readsItem_58 (by decide) (fun h58 => ?_) (fun h58 => ?_)
          · exact absurd h58 (by decide)
          · skip
            refine ex_aload_n dX12_readsItem_61 rfl ?_
            refine ex_iload_n dX12_readsItem_62 rfl ?_
            refine ex_iconst (v := 0) dX12_readsItem_63 (by decide) ?_
            refine rx_cV (kd := 12) dX12_readsItem_64 rfl lk_X12_130 rfl (by decide) (by first | assumption | rfl) ⟨⟨rfl, rfl⟩, by decide, by decide⟩ rfl (Nat.le_of_ble_eq_true rfl) rfl (s_X12_figure h (by omega)) (Rs.k ?_)
            refine st_i4 dX12_readsItem_67 (by first | exact rfl | exact trivial) ?_
            refine ex_aload_n dX12_readsItem_69 rfl ?_
            refine g_12_18 dX12_readsItem_70 rfl wf_X12_45 (by first | assumption | rfl) (show Rt _ 200 18 = some 212 from rfl) ?_
            refine ex_iconst (v := 3) dX12_readsItem_73 (by decide) ?_
            refine ex_iload dX12_readsItem_74 rfl ?_
            refine ex_if_eq 86 dX12_readsItem_76 (by decide) (fun h76 => ?_) (fun h76 => ?_)
            · rw [if_neg (b2i_0.mp h76)]
              refine ex_aload_n dX12_readsItem_86 rfl ?_
              refine g_12_18 dX12_readsItem_87 rfl wf_X12_45 (by first | assumption | rfl) (show Rt _ 200 18 = some 212 from rfl) ?_
              refine ex_iconst (v := 3) dX12_readsItem_90 (by decide) ?_
              refine rx_iald dX12_readsItem_91 (by first | assumption | rfl) (by first | assumption | (unfold vp_in; decide)) ?_
              refine rx_iast dX12_readsItem_92 (by first | assumption | rfl) (by first | assumption | (unfold vp_in; decide)) ?_
              refine ex_iload dX12_readsItem_93 rfl ?_
              refine ex_iret dX12_readsItem_95 rfl (nb2i _) ⟨rfl, Nat.le_refl _⟩ ?_
              first | (rw [show itR (byF (I 206) q m) (p + 1) = (true, p + 2, 4, 0, (byF (I 206) q m) (p + 1) - 48) from if_pos (b2i_n0.mp h76), b2i_1 (b2i_n0.mp h76)]; exact ri4) | (rw [show itR (byF (I 206) q m) (p + 1) = (false, p + 1, 0, 0, 0) from if_neg (b2i_0.mp h76), h76, ← up2_id rfl]; exact riF)
            · rw [if_pos (b2i_n0.mp h76)]
              refine ex_aload_n dX12_readsItem_79 rfl ?_
              refine g_12_16 dX12_readsItem_80 rfl wf_X12_120 (by first | assumption | rfl) ?_
              rw [rm_x]
              refine ex_goto 92 dX12_readsItem_83 (by decide) ?_
              refine rx_iast dX12_readsItem_92 (by first | assumption | rfl) (by first | assumption | (unfold vp_in; decide)) ?_
              refine ex_iload dX12_readsItem_93 rfl ?_
              refine ex_iret dX12_readsItem_95 rfl (nb2i _) ⟨rfl, Nat.le_refl _⟩ ?_
              first | (rw [show itR (byF (I 206) q m) (p + 1) = (true, p + 2, 4, 0, (byF (I 206) q m) (p + 1) - 48) from if_pos (b2i_n0.mp h76), b2i_1 (b2i_n0.mp h76)]; exact ri4) | (rw [show itR (byF (I 206) q m) (p + 1) = (false, p + 1, 0, 0, 0) from if_neg (b2i_0.mp h76), h76, ← up2_id rfl]; exact riF)
        · exact absurd h40 (by decide)
set_option maxRecDepth 100000 in
set_option maxHeartbeats 4000000 in
theorem s_readsItemN {q m p : Nat} {x : Int32} (h : TqS I q m) (hp : p < 2 ^ 29) {n : Nat} (hn3 : 3 ≤ n) (hn : n ≤ 16) (hR : I 212 0 = nI n) (n1 : ¬ (byF (I 206) q m) p = 100) (n2 : ¬ (byF (I 206) q m) p = 119) (n3 : ¬ (byF (I 206) q m) p = 109) (n4 : ¬ (byF (I 206) q m) p = 114) : Ca G mdX12_readsItem [.ref 200, .int (nI q)] (mk (rm I p x) L t) (RxI I (itm (byF (I 206) q m) n p) L t) := by
  refine Ca.intro [some (.ref 200), some (.int (nI q)), none, none, none] (by decide) (Nat.le_of_ble_eq_true rfl) rfl rfl ?_
  have e1 : nI n - 1 = nI (n - 1) := by
    obtain ⟨k, rfl⟩ : ∃ k, n = k + 1 := ⟨n - 1, by omega⟩
    exact nI_pred k
  have e2 : nI (n - 1) - 1 = nI (n - 2) := by
    obtain ⟨k, rfl⟩ : ∃ k, n = k + 2 := ⟨n - 2, by omega⟩
    exact nI_pred k
  have en := numN_b (f := (byF (I 206) q m)) (p := p + 1)
  rw [show itm (byF (I 206) q m) n p = (false, p, 0, 0, 0) from (if_neg n1).trans ((if_neg n2).trans ((if_neg n3).trans (if_neg n4)))]
  refine ex_aload_n dX12_readsItem_0 rfl ?_
  refine ex_iload_n dX12_readsItem_1 rfl ?_
  refine ex_aload_n dX12_readsItem_2 rfl ?_
  refine g_12_15 dX12_readsItem_3 rfl wf_X12_114 (by first | assumption | rfl) ?_
  rw [rm_p]
  refine rx_cV (kd := 12) dX12_readsItem_6 rfl lk_X12_117 rfl (by decide) (by first | assumption | rfl) ⟨⟨rfl, rfl⟩, by decide, by decide⟩ rfl (Nat.le_of_ble_eq_true rfl) rfl (s_X12_byteAt h.1 h.2.1 (by rw [rm_off (by decide)]; exact h.2.2.1) (by omega)) (Rs.k ?_)
  rw [rm_off (by decide)]
  refine st_i2 dX12_readsItem_9 (by first | exact rfl | exact trivial) ?_
  refine ex_aload_n dX12_readsItem_10 rfl ?_
  refine g_12_18 dX12_readsItem_11 rfl wf_X12_45 (by first | assumption | rfl) (show Rt _ 200 18 = some 212 from rfl) ?_
  refine ex_iconst (v := 0) dX12_readsItem_14 (by decide) ?_
  refine rx_iald dX12_readsItem_15 (by first | assumption | rfl) (by first | assumption | (unfold vp_in; decide)) ?_
  rw [rm_off (by decide), show I 212 (0 : Int32).toNatClampNeg = nI n from hR]
  refine ex_iconst (v := 1) dX12_readsItem_16 (by decide) ?_
  refine ex_isub dX12_readsItem_17 ?_
  rw [e1]
  refine st_i3 dX12_readsItem_18 (by first | exact rfl | exact trivial) ?_
  refine ex_iload_n dX12_readsItem_19 rfl ?_
  refine ex_bipush (v := 100) dX12_readsItem_20 (by decide) ?_
  refine ex_icmp_eq 45 dX12_readsItem_22 (by decide) (fun h22 => ?_) (fun h22 => ?_)
  · exact absurd h22 n1
  · skip
    refine ex_iload_n dX12_readsItem_25 rfl ?_
    refine ex_bipush (v := 119) dX12_readsItem_26 (by decide) ?_
    refine ex_icmp_eq 45 dX12_readsItem_28 (by decide) (fun h28 => ?_) (fun h28 => ?_)
    · exact absurd h28 n2
    · skip
      refine ex_iload_n dX12_readsItem_31 rfl ?_
      refine ex_bipush (v := 109) dX12_readsItem_32 (by decide) ?_
      refine ex_icmp_eq 45 dX12_readsItem_34 (by decide) (fun h34 => ?_) (fun h34 => ?_)
      · exact absurd h34 n3
      · skip
        refine ex_iload_n dX12_readsItem_37 rfl ?_
        refine ex_bipush (v := 114) dX12_readsItem_38 (by decide) ?_
        refine ex_icmp_eq 45 dX12_readsItem_40 (by decide) (fun h40 => ?_) (fun h40 => ?_)
        · exact absurd h40 n4
        · skip
          refine ex_iconst (v := 0) dX12_readsItem_43 (by decide) ?_
          refine ex_iret dX12_readsItem_44 rfl rfl ⟨rfl, Nat.le_refl _⟩ ?_
          exact riF
theorem s_X12_readsItem {q m p : Nat} {x : Int32} (h : TqS I q m) (hp : p < 2 ^ 29) {n : Nat} (hn3 : 3 ≤ n) (hn : n ≤ 16) (hR : I 212 0 = nI n) : Ca G mdX12_readsItem [.ref 200, .int (nI q)] (mk (rm I p x) L t) (RxI I (itm (byF (I 206) q m) n p) L t) := by
  by_cases c1 : (byF (I 206) q m) p = 100
  · exact s_readsItemD h hp hn3 hn hR c1
  by_cases c2 : (byF (I 206) q m) p = 119
  · exact s_readsItemW h hp hn3 hn hR c2
  by_cases c3 : (byF (I 206) q m) p = 109
  · exact s_readsItemM h hp hn3 hn hR c3
  by_cases c4 : (byF (I 206) q m) p = 114
  · exact s_readsItemR h hp hn3 hn hR c4
  exact s_readsItemN h hp hn3 hn hR c1 c2 c3 c4
end M3
