theorem nb2i (p : Prop) [Decidable p] : narrow .boolean (.int (b2i p)) = .int (b2i p) := by
  unfold b2i
  split <;> rfl
theorem b2i_t {p : Prop} [Decidable p] (h : p) : some (Value.int 1) = some (Value.int (b2i p)) := by simp [b2i, h]
theorem b2i_f {p : Prop} [Decidable p] (h : ¬ p) : some (Value.int 0) = some (Value.int (b2i p)) := by simp [b2i, h]
section S1
variable {G : Gp} {I : Nat → Nat → Int32} {L : Nat → Nat → Int64} {t : Nat}
set_option maxRecDepth 100000 in
set_option maxHeartbeats 4000000 in
theorem s_X11_within {v lo hi : Int32} : Ca G mdX11_within [.int v, .int lo, .int hi] (mk I L t) (Rs (.int (b2i (lo ≤ v ∧ v ≤ hi))) (mk I L t)) := by
  refine Ca.intro [some (.int v), some (.int lo), some (.int hi)] (by decide) (Nat.le_of_ble_eq_true rfl) rfl rfl ?_
  refine ex_iload_n dX11_within_0 rfl ?_
  refine ex_iload_n dX11_within_1 rfl ?_
  refine ex_icmp_lt 14 dX11_within_2 (by decide) (fun h2 => ?_) (fun h2 => ?_)
  · skip
    refine ex_iconst (v := 0) dX11_within_14 (by decide) ?_
    refine ex_iret dX11_within_15 rfl rfl ⟨rfl, Nat.le_refl _⟩ ?_
    exact ⟨by first | exact b2i_t (by grind) | exact b2i_f (by grind), rfl⟩
  · skip
    refine ex_iload_n dX11_within_5 rfl ?_
    refine ex_iload_n dX11_within_6 rfl ?_
    refine ex_icmp_gt 14 dX11_within_7 (by decide) (fun h7 => ?_) (fun h7 => ?_)
    · skip
      refine ex_iconst (v := 0) dX11_within_14 (by decide) ?_
      refine ex_iret dX11_within_15 rfl rfl ⟨rfl, Nat.le_refl _⟩ ?_
      exact ⟨by first | exact b2i_t (by grind) | exact b2i_f (by grind), rfl⟩
    · skip
      refine ex_iconst (v := 1) dX11_within_10 (by decide) ?_
      refine ex_goto 15 dX11_within_11 (by decide) ?_
      refine ex_iret dX11_within_15 rfl rfl ⟨rfl, Nat.le_refl _⟩ ?_
      exact ⟨by first | exact b2i_t (by grind) | exact b2i_f (by grind), rfl⟩
set_option maxRecDepth 100000 in
set_option maxHeartbeats 4000000 in
theorem s_X11_isRow {r : Int32} : Ca G mdX11_isRow [.int r] (mk I L t) (Rs (.int (b2i (0 ≤ r ∧ r ≤ 5))) (mk I L t)) := by
  refine Ca.intro [some (.int r)] (by decide) (Nat.le_of_ble_eq_true rfl) rfl rfl ?_
  refine ex_iload_n dX11_isRow_0 rfl ?_
  refine ex_iconst (v := 0) dX11_isRow_1 (by decide) ?_
  refine ex_iconst (v := 5) dX11_isRow_2 (by decide) ?_
  refine rx_cS dX11_isRow_3 rfl lk_X11_117 ⟨⟨rfl, rfl⟩, by decide, by decide⟩ rfl (Nat.le_of_ble_eq_true rfl) rfl s_X11_within (Rs.k ?_)
  refine ex_iret dX11_isRow_6 rfl (nb2i _) ⟨rfl, Nat.le_refl _⟩ ?_
  exact ⟨rfl, rfl⟩
set_option maxRecDepth 100000 in
set_option maxHeartbeats 4000000 in
theorem s_X0_hasCell {a : Nat} {k : Int32} (ha : K0 a = (0, 7)) : Ca G mdX0_hasCell [.ref a, .int k] (mk I L t) (Rs (.int (b2i (0 ≤ k ∧ k < I a 2 ∧ k < 16))) (mk I L t)) := by
  refine Ca.intro [some (.ref a), some (.int k)] (by decide) (Nat.le_of_ble_eq_true rfl) rfl rfl ?_
  refine ex_iload_n dX0_hasCell_0 rfl ?_
  refine ex_if_lt 22 dX0_hasCell_1 (by decide) (fun h1 => ?_) (fun h1 => ?_)
  · skip
    refine ex_iconst (v := 0) dX0_hasCell_22 (by decide) ?_
    refine ex_iret dX0_hasCell_23 rfl rfl ⟨rfl, Nat.le_refl _⟩ ?_
    exact ⟨by first | exact b2i_t (by grind) | exact b2i_f (by grind), rfl⟩
  · skip
    refine ex_iload_n dX0_hasCell_4 rfl ?_
    refine ex_aload_n dX0_hasCell_5 rfl ?_
    refine rx_gI (kd := 0) (j := 2) dX0_hasCell_6 rfl rfl inX0 (by decide) (by decide) wf_X0_19 rfl (by first | rfl | assumption) ?_
    refine ex_icmp_ge 22 dX0_hasCell_9 (by decide) (fun h9 => ?_) (fun h9 => ?_)
    · skip
      refine ex_iconst (v := 0) dX0_hasCell_22 (by decide) ?_
      refine ex_iret dX0_hasCell_23 rfl rfl ⟨rfl, Nat.le_refl _⟩ ?_
      exact ⟨by first | exact b2i_t (by grind) | exact b2i_f (by grind), rfl⟩
    · skip
      refine ex_iload_n dX0_hasCell_12 rfl ?_
      refine ex_bipush (v := 16) dX0_hasCell_13 (by decide) ?_
      refine ex_icmp_ge 22 dX0_hasCell_15 (by decide) (fun h15 => ?_) (fun h15 => ?_)
      · skip
        refine ex_iconst (v := 0) dX0_hasCell_22 (by decide) ?_
        refine ex_iret dX0_hasCell_23 rfl rfl ⟨rfl, Nat.le_refl _⟩ ?_
        exact ⟨by first | exact b2i_t (by grind) | exact b2i_f (by grind), rfl⟩
      · skip
        refine ex_iconst (v := 1) dX0_hasCell_18 (by decide) ?_
        refine ex_goto 23 dX0_hasCell_19 (by decide) ?_
        refine ex_iret dX0_hasCell_23 rfl rfl ⟨rfl, Nat.le_refl _⟩ ?_
        exact ⟨by first | exact b2i_t (by grind) | exact b2i_f (by grind), rfl⟩
end S1
