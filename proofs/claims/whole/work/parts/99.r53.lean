section R53
variable {G : Gp} {I : Im} {L : Nat → Nat → Int64} {t : Nat}
section
variable {R : Nat → Nat → Option Nat} {d : Md} {pc : Nat} {ls : List (Option Value)} {st : List Value} {uc us : Nat} {P : Option Value → Mem → Prop} {n : Nat}
/-- behind the model's constructor -/
def Iz (I : Im) (L : Nat → Nat → Int64) (R : Nat → Nat → Option Nat) : Option Value → Mem → Prop := fun r M' => r = none ∧ ∃ I' L' R', M' = pm (fill (fill I' 202 6 (-1)) 205 4 (-1)) (up2 L' 200 4 1) R' 223 ∧ Nu I L R 200 223 I' L' R'
theorem f1_x {a s s' x : Nat} (hx : x ≠ a) : f1 a s' x = f1 a s x := by rw [f1_n hx, f1_n hx]
set_option maxHeartbeats 4000000 in
theorem c_X12 (hz : Zm I L R 200) : Ca G mdX12_init [.ref 200] (pm I L R 201) (Iz I L R) := by
  refine Ca.intro [some (.ref 200), none] (by decide) (Nat.le_of_ble_eq_true rfl) rfl rfl ?_
  have hk : K0 200 = (12, 40) := rfl
  have h0 : Sf I L R 200 201 (f1 200 0) I L R := sf_init hz hk (by decide) (by decide) f1_a
  refine ex_aload_n dX12_init_0 rfl ?_
  refine ex_oinit dX12_init_1 rfl lk_X12_1 wo_i wo_c ⟨by decide, by decide⟩ (Nat.le_of_ble_eq_true rfl) ?_
  refine ex_aload_n dX12_init_4 rfl ?_
  refine ex_bipush (v := 6) dX12_init_5 (by decide) ?_
  refine px_newp (kd := 14) (t0 := 1) (N := 6) (n := 201) dX12_init_7 rfl (by decide) (by decide) (fun _ _ h => h) rfl rfl wa_I (by decide) (by decide) (by decide) ⟨by decide, by decide⟩ h0.1 rfl (by decide) ?_
  have h1 : Sf I L R 200 202 (f1 200 0) _ _ _ := sf_prim h0 (show K0 201 = (14, 6) from rfl) (by decide) (f1_n (by decide))
  refine px_F (C := RX12) (T := TX12) (N := 40) (kd := 12) (j := 1) tyX12 dX12_init_9 rfl rfl rfl inX12 tyX12_ok nmX12 (by decide) (by decide) wf_X12_7 rfl rfl ⟨rfl, rfl⟩ rfl hk (by decide) ?_
  have h2 : Sf I L R 200 202 (f1 200 2) _ _ _ := sf_putg h1 (c := 200) (s := 0) (j := 1) (b := 201) (Nat.le_refl 200) (by decide) f1_a (by decide) (by decide +kernel) rfl f1_a (fun x hx => f1_x hx)
  refine ex_aload_n dX12_init_12 rfl ?_
  refine ex_bipush (v := 6) dX12_init_13 (by decide) ?_
  refine px_newp (kd := 14) (t0 := 1) (N := 6) (n := 202) dX12_init_15 rfl (by decide) (by decide) (fun _ _ h => h) rfl rfl wa_I (by decide) (by decide) (by decide) ⟨by decide, by decide⟩ h2.1 rfl (by decide) ?_
  have h3 : Sf I L R 200 203 (f1 200 2) _ _ _ := sf_prim h2 (show K0 202 = (14, 6) from rfl) (by decide) (f1_n (by decide))
  refine px_F (C := RX12) (T := TX12) (N := 40) (kd := 12) (j := 5) tyX12 dX12_init_17 rfl rfl rfl inX12 tyX12_ok nmX12 (by decide) (by decide) wf_X12_13 rfl rfl ⟨rfl, rfl⟩ rfl hk (by decide) ?_
  have h4 : Sf I L R 200 203 (f1 200 6) _ _ _ := sf_putg h3 (c := 200) (s := 2) (j := 5) (b := 202) (Nat.le_refl 200) (by decide) f1_a (by decide) (by decide +kernel) rfl f1_a (fun x hx => f1_x hx)
  refine ex_aload_n dX12_init_20 rfl ?_
  refine ex_sipush (v := 360) dX12_init_21 (by decide) ?_
  refine px_newp (kd := 14) (t0 := 1) (N := 360) (n := 203) dX12_init_24 rfl (by decide) (by decide) (fun _ _ h => h) rfl rfl wa_I (by decide) (by decide) (by decide) ⟨by decide, by decide⟩ h4.1 rfl (by decide) ?_
  have h5 : Sf I L R 200 204 (f1 200 6) _ _ _ := sf_prim h4 (show K0 203 = (14, 360) from rfl) (by decide) (f1_n (by decide))
  refine px_F (C := RX12) (T := TX12) (N := 40) (kd := 12) (j := 6) tyX12 dX12_init_26 rfl rfl rfl inX12 tyX12_ok nmX12 (by decide) (by decide) wf_X12_16 rfl rfl ⟨rfl, rfl⟩ rfl hk (by decide) ?_
  have h6 : Sf I L R 200 204 (f1 200 7) _ _ _ := sf_putg h5 (c := 200) (s := 6) (j := 6) (b := 203) (Nat.le_refl 200) (by decide) f1_a (by decide) (by decide +kernel) rfl f1_a (fun x hx => f1_x hx)
  refine ex_aload_n dX12_init_29 rfl ?_
  refine ex_bipush (v := 60) dX12_init_30 (by decide) ?_
  refine px_newp (kd := 14) (t0 := 1) (N := 60) (n := 204) dX12_init_32 rfl (by decide) (by decide) (fun _ _ h => h) rfl rfl wa_I (by decide) (by decide) (by decide) ⟨by decide, by decide⟩ h6.1 rfl (by decide) ?_
  have h7 : Sf I L R 200 205 (f1 200 7) _ _ _ := sf_prim h6 (show K0 204 = (14, 60) from rfl) (by decide) (f1_n (by decide))
  refine px_F (C := RX12) (T := TX12) (N := 40) (kd := 12) (j := 7) tyX12 dX12_init_34 rfl rfl rfl inX12 tyX12_ok nmX12 (by decide) (by decide) wf_X12_19 rfl rfl ⟨rfl, rfl⟩ rfl hk (by decide) ?_
  have h8 : Sf I L R 200 205 (f1 200 8) _ _ _ := sf_putg h7 (c := 200) (s := 7) (j := 7) (b := 204) (Nat.le_refl 200) (by decide) f1_a (by decide) (by decide +kernel) rfl f1_a (fun x hx => f1_x hx)
  refine ex_aload_n dX12_init_37 rfl ?_
  refine ex_iconst (v := 4) dX12_init_38 (by decide) ?_
  refine px_newp (kd := 14) (t0 := 1) (N := 4) (n := 205) dX12_init_39 rfl (by decide) (by decide) (fun _ _ h => h) rfl rfl wa_I (by decide) (by decide) (by decide) ⟨by decide, by decide⟩ h8.1 rfl (by decide) ?_
  have h9 : Sf I L R 200 206 (f1 200 8) _ _ _ := sf_prim h8 (show K0 205 = (14, 4) from rfl) (by decide) (f1_n (by decide))
  refine px_F (C := RX12) (T := TX12) (N := 40) (kd := 12) (j := 8) tyX12 dX12_init_41 rfl rfl rfl inX12 tyX12_ok nmX12 (by decide) (by decide) wf_X12_22 rfl rfl ⟨rfl, rfl⟩ rfl hk (by decide) ?_
  have h10 : Sf I L R 200 206 (f1 200 9) _ _ _ := sf_putg h9 (c := 200) (s := 8) (j := 8) (b := 205) (Nat.le_refl 200) (by decide) f1_a (by decide) (by decide +kernel) rfl f1_a (fun x hx => f1_x hx)
  refine ex_aload_n dX12_init_44 rfl ?_
  refine ex_sipush (v := 400) dX12_init_45 (by decide) ?_
  refine px_newp (kd := 13) (t0 := 0) (N := 400) (n := 206) dX12_init_48 rfl (by decide) (by decide) (fun _ _ h => h) rfl rfl wa_B (by decide) (by decide) (by decide) ⟨by decide, by decide⟩ h10.1 rfl (by decide) ?_
  have h11 : Sf I L R 200 207 (f1 200 9) _ _ _ := sf_prim h10 (show K0 206 = (13, 400) from rfl) (by decide) (f1_n (by decide))
  refine px_F (C := RX12) (T := TX12) (N := 40) (kd := 12) (j := 9) tyX12 dX12_init_50 rfl rfl rfl inX12 tyX12_ok nmX12 (by decide) (by decide) wf_X12_25 rfl rfl ⟨rfl, rfl⟩ rfl hk (by decide) ?_
  have h12 : Sf I L R 200 207 (f1 200 10) _ _ _ := sf_putg h11 (c := 200) (s := 9) (j := 9) (b := 206) (Nat.le_refl 200) (by decide) f1_a (by decide) (by decide +kernel) rfl f1_a (fun x hx => f1_x hx)
  refine ex_aload_n dX12_init_53 rfl ?_
  refine ex_iconst (v := 4) dX12_init_54 (by decide) ?_
  refine px_newp (kd := 15) (t0 := 2) (N := 4) (n := 207) dX12_init_55 rfl (by decide) (by decide) (fun _ _ h => h) rfl rfl wa_Z (by decide) (by decide) (by decide) ⟨by decide, by decide⟩ h12.1 rfl (by decide) ?_
  have h13 : Sf I L R 200 208 (f1 200 10) _ _ _ := sf_prim h12 (show K0 207 = (15, 4) from rfl) (by decide) (f1_n (by decide))
  refine px_F (C := RX12) (T := TX12) (N := 40) (kd := 12) (j := 10) tyX12 dX12_init_57 rfl rfl rfl inX12 tyX12_ok nmX12 (by decide) (by decide) wf_X12_29 rfl rfl ⟨rfl, rfl⟩ rfl hk (by decide) ?_
  have h14 : Sf I L R 200 208 (f1 200 11) _ _ _ := sf_putg h13 (c := 200) (s := 10) (j := 10) (b := 207) (Nat.le_refl 200) (by decide) f1_a (by decide) (by decide +kernel) rfl f1_a (fun x hx => f1_x hx)
  refine ex_aload_n dX12_init_60 rfl ?_
  refine ex_bipush (v := 84) dX12_init_61 (by decide) ?_
  refine px_newp (kd := 14) (t0 := 1) (N := 84) (n := 208) dX12_init_63 rfl (by decide) (by decide) (fun _ _ h => h) rfl rfl wa_I (by decide) (by decide) (by decide) ⟨by decide, by decide⟩ h14.1 rfl (by decide) ?_
  have h15 : Sf I L R 200 209 (f1 200 11) _ _ _ := sf_prim h14 (show K0 208 = (14, 84) from rfl) (by decide) (f1_n (by decide))
  refine px_F (C := RX12) (T := TX12) (N := 40) (kd := 12) (j := 11) tyX12 dX12_init_65 rfl rfl rfl inX12 tyX12_ok nmX12 (by decide) (by decide) wf_X12_33 rfl rfl ⟨rfl, rfl⟩ rfl hk (by decide) ?_
  have h16 : Sf I L R 200 209 (f1 200 12) _ _ _ := sf_putg h15 (c := 200) (s := 11) (j := 11) (b := 208) (Nat.le_refl 200) (by decide) f1_a (by decide) (by decide +kernel) rfl f1_a (fun x hx => f1_x hx)
  refine ex_aload_n dX12_init_68 rfl ?_
  refine ex_iconst (v := 4) dX12_init_69 (by decide) ?_
  refine px_newp (kd := 15) (t0 := 2) (N := 4) (n := 209) dX12_init_70 rfl (by decide) (by decide) (fun _ _ h => h) rfl rfl wa_Z (by decide) (by decide) (by decide) ⟨by decide, by decide⟩ h16.1 rfl (by decide) ?_
  have h17 : Sf I L R 200 210 (f1 200 12) _ _ _ := sf_prim h16 (show K0 209 = (15, 4) from rfl) (by decide) (f1_n (by decide))
  refine px_F (C := RX12) (T := TX12) (N := 40) (kd := 12) (j := 12) tyX12 dX12_init_72 rfl rfl rfl inX12 tyX12_ok nmX12 (by decide) (by decide) wf_X12_36 rfl rfl ⟨rfl, rfl⟩ rfl hk (by decide) ?_
  have h18 : Sf I L R 200 210 (f1 200 13) _ _ _ := sf_putg h17 (c := 200) (s := 12) (j := 12) (b := 209) (Nat.le_refl 200) (by decide) f1_a (by decide) (by decide +kernel) rfl f1_a (fun x hx => f1_x hx)
  refine ex_aload_n dX12_init_75 rfl ?_
  refine ex_iconst (v := 4) dX12_init_76 (by decide) ?_
  refine px_newp (kd := 14) (t0 := 1) (N := 4) (n := 210) dX12_init_77 rfl (by decide) (by decide) (fun _ _ h => h) rfl rfl wa_I (by decide) (by decide) (by decide) ⟨by decide, by decide⟩ h18.1 rfl (by decide) ?_
  have h19 : Sf I L R 200 211 (f1 200 13) _ _ _ := sf_prim h18 (show K0 210 = (14, 4) from rfl) (by decide) (f1_n (by decide))
  refine px_F (C := RX12) (T := TX12) (N := 40) (kd := 12) (j := 13) tyX12 dX12_init_79 rfl rfl rfl inX12 tyX12_ok nmX12 (by decide) (by decide) wf_X12_39 rfl rfl ⟨rfl, rfl⟩ rfl hk (by decide) ?_
  have h20 : Sf I L R 200 211 (f1 200 14) _ _ _ := sf_putg h19 (c := 200) (s := 13) (j := 13) (b := 210) (Nat.le_refl 200) (by decide) f1_a (by decide) (by decide +kernel) rfl f1_a (fun x hx => f1_x hx)
  refine ex_aload_n dX12_init_82 rfl ?_
  refine ex_bipush (v := 32) dX12_init_83 (by decide) ?_
  refine px_newp (kd := 14) (t0 := 1) (N := 32) (n := 211) dX12_init_85 rfl (by decide) (by decide) (fun _ _ h => h) rfl rfl wa_I (by decide) (by decide) (by decide) ⟨by decide, by decide⟩ h20.1 rfl (by decide) ?_
  have h21 : Sf I L R 200 212 (f1 200 14) _ _ _ := sf_prim h20 (show K0 211 = (14, 32) from rfl) (by decide) (f1_n (by decide))
  refine px_F (C := RX12) (T := TX12) (N := 40) (kd := 12) (j := 14) tyX12 dX12_init_87 rfl rfl rfl inX12 tyX12_ok nmX12 (by decide) (by decide) wf_X12_42 rfl rfl ⟨rfl, rfl⟩ rfl hk (by decide) ?_
  have h22 : Sf I L R 200 212 (f1 200 15) _ _ _ := sf_putg h21 (c := 200) (s := 14) (j := 14) (b := 211) (Nat.le_refl 200) (by decide) f1_a (by decide) (by decide +kernel) rfl f1_a (fun x hx => f1_x hx)
  refine ex_aload_n dX12_init_90 rfl ?_
  refine ex_bipush (v := 21) dX12_init_91 (by decide) ?_
  refine px_newp (kd := 14) (t0 := 1) (N := 21) (n := 212) dX12_init_93 rfl (by decide) (by decide) (fun _ _ h => h) rfl rfl wa_I (by decide) (by decide) (by decide) ⟨by decide, by decide⟩ h22.1 rfl (by decide) ?_
  have h23 : Sf I L R 200 213 (f1 200 15) _ _ _ := sf_prim h22 (show K0 212 = (14, 21) from rfl) (by decide) (f1_n (by decide))
  refine px_F (C := RX12) (T := TX12) (N := 40) (kd := 12) (j := 18) tyX12 dX12_init_95 rfl rfl rfl inX12 tyX12_ok nmX12 (by decide) (by decide) wf_X12_45 rfl rfl ⟨rfl, rfl⟩ rfl hk (by decide) ?_
  have h24 : Sf I L R 200 213 (f1 200 19) _ _ _ := sf_putg h23 (c := 200) (s := 15) (j := 18) (b := 212) (Nat.le_refl 200) (by decide) f1_a (by decide) (by decide +kernel) rfl f1_a (fun x hx => f1_x hx)
  refine ex_aload_n dX12_init_98 rfl ?_
  refine ex_bipush (v := 8) dX12_init_99 (by decide) ?_
  refine px_newp (kd := 14) (t0 := 1) (N := 8) (n := 213) dX12_init_101 rfl (by decide) (by decide) (fun _ _ h => h) rfl rfl wa_I (by decide) (by decide) (by decide) ⟨by decide, by decide⟩ h24.1 rfl (by decide) ?_
  have h25 : Sf I L R 200 214 (f1 200 19) _ _ _ := sf_prim h24 (show K0 213 = (14, 8) from rfl) (by decide) (f1_n (by decide))
  refine px_F (C := RX12) (T := TX12) (N := 40) (kd := 12) (j := 19) tyX12 dX12_init_103 rfl rfl rfl inX12 tyX12_ok nmX12 (by decide) (by decide) wf_X12_48 rfl rfl ⟨rfl, rfl⟩ rfl hk (by decide) ?_
  have h26 : Sf I L R 200 214 (f1 200 20) _ _ _ := sf_putg h25 (c := 200) (s := 19) (j := 19) (b := 213) (Nat.le_refl 200) (by decide) f1_a (by decide) (by decide +kernel) rfl f1_a (fun x hx => f1_x hx)
  refine ex_aload_n dX12_init_106 rfl ?_
  refine ex_iconst (v := 3) dX12_init_107 (by decide) ?_
  refine px_newp (kd := 15) (t0 := 2) (N := 3) (n := 214) dX12_init_108 rfl (by decide) (by decide) (fun _ _ h => h) rfl rfl wa_Z (by decide) (by decide) (by decide) ⟨by decide, by decide⟩ h26.1 rfl (by decide) ?_
  have h27 : Sf I L R 200 215 (f1 200 20) _ _ _ := sf_prim h26 (show K0 214 = (15, 3) from rfl) (by decide) (f1_n (by decide))
  refine px_F (C := RX12) (T := TX12) (N := 40) (kd := 12) (j := 20) tyX12 dX12_init_110 rfl rfl rfl inX12 tyX12_ok nmX12 (by decide) (by decide) wf_X12_51 rfl rfl ⟨rfl, rfl⟩ rfl hk (by decide) ?_
  have h28 : Sf I L R 200 215 (f1 200 21) _ _ _ := sf_putg h27 (c := 200) (s := 20) (j := 20) (b := 214) (Nat.le_refl 200) (by decide) f1_a (by decide) (by decide +kernel) rfl f1_a (fun x hx => f1_x hx)
  refine ex_aload_n dX12_init_113 rfl ?_
  refine ex_bipush (v := 15) dX12_init_114 (by decide) ?_
  refine px_newp (kd := 14) (t0 := 1) (N := 15) (n := 215) dX12_init_116 rfl (by decide) (by decide) (fun _ _ h => h) rfl rfl wa_I (by decide) (by decide) (by decide) ⟨by decide, by decide⟩ h28.1 rfl (by decide) ?_
  have h29 : Sf I L R 200 216 (f1 200 21) _ _ _ := sf_prim h28 (show K0 215 = (14, 15) from rfl) (by decide) (f1_n (by decide))
  refine px_F (C := RX12) (T := TX12) (N := 40) (kd := 12) (j := 21) tyX12 dX12_init_118 rfl rfl rfl inX12 tyX12_ok nmX12 (by decide) (by decide) wf_X12_54 rfl rfl ⟨rfl, rfl⟩ rfl hk (by decide) ?_
  have h30 : Sf I L R 200 216 (f1 200 22) _ _ _ := sf_putg h29 (c := 200) (s := 21) (j := 21) (b := 215) (Nat.le_refl 200) (by decide) f1_a (by decide) (by decide +kernel) rfl f1_a (fun x hx => f1_x hx)
  refine ex_aload_n dX12_init_121 rfl ?_
  refine ex_iconst (v := 4) dX12_init_122 (by decide) ?_
  refine px_newp (kd := 15) (t0 := 2) (N := 4) (n := 216) dX12_init_123 rfl (by decide) (by decide) (fun _ _ h => h) rfl rfl wa_Z (by decide) (by decide) (by decide) ⟨by decide, by decide⟩ h30.1 rfl (by decide) ?_
  have h31 : Sf I L R 200 217 (f1 200 22) _ _ _ := sf_prim h30 (show K0 216 = (15, 4) from rfl) (by decide) (f1_n (by decide))
  refine px_F (C := RX12) (T := TX12) (N := 40) (kd := 12) (j := 22) tyX12 dX12_init_125 rfl rfl rfl inX12 tyX12_ok nmX12 (by decide) (by decide) wf_X12_57 rfl rfl ⟨rfl, rfl⟩ rfl hk (by decide) ?_
  have h32 : Sf I L R 200 217 (f1 200 23) _ _ _ := sf_putg h31 (c := 200) (s := 22) (j := 22) (b := 216) (Nat.le_refl 200) (by decide) f1_a (by decide) (by decide +kernel) rfl f1_a (fun x hx => f1_x hx)
  refine ex_aload_n dX12_init_128 rfl ?_
  refine ex_sipush (v := 625) dX12_init_129 (by decide) ?_
  refine px_newp (kd := 14) (t0 := 1) (N := 625) (n := 217) dX12_init_132 rfl (by decide) (by decide) (fun _ _ h => h) rfl rfl wa_I (by decide) (by decide) (by decide) ⟨by decide, by decide⟩ h32.1 rfl (by decide) ?_
  have h33 : Sf I L R 200 218 (f1 200 23) _ _ _ := sf_prim h32 (show K0 217 = (14, 625) from rfl) (by decide) (f1_n (by decide))
  refine px_F (C := RX12) (T := TX12) (N := 40) (kd := 12) (j := 23) tyX12 dX12_init_134 rfl rfl rfl inX12 tyX12_ok nmX12 (by decide) (by decide) wf_X12_60 rfl rfl ⟨rfl, rfl⟩ rfl hk (by decide) ?_
  have h34 : Sf I L R 200 218 (f1 200 24) _ _ _ := sf_putg h33 (c := 200) (s := 23) (j := 23) (b := 217) (Nat.le_refl 200) (by decide) f1_a (by decide) (by decide +kernel) rfl f1_a (fun x hx => f1_x hx)
  refine ex_aload_n dX12_init_137 rfl ?_
  refine ex_sipush (v := 400) dX12_init_138 (by decide) ?_
  refine px_newp (kd := 14) (t0 := 1) (N := 400) (n := 218) dX12_init_141 rfl (by decide) (by decide) (fun _ _ h => h) rfl rfl wa_I (by decide) (by decide) (by decide) ⟨by decide, by decide⟩ h34.1 rfl (by decide) ?_
  have h35 : Sf I L R 200 219 (f1 200 24) _ _ _ := sf_prim h34 (show K0 218 = (14, 400) from rfl) (by decide) (f1_n (by decide))
  refine px_F (C := RX12) (T := TX12) (N := 40) (kd := 12) (j := 25) tyX12 dX12_init_143 rfl rfl rfl inX12 tyX12_ok nmX12 (by decide) (by decide) wf_X12_63 rfl rfl ⟨rfl, rfl⟩ rfl hk (by decide) ?_
  have h36 : Sf I L R 200 219 (f1 200 26) _ _ _ := sf_putg h35 (c := 200) (s := 24) (j := 25) (b := 218) (Nat.le_refl 200) (by decide) f1_a (by decide) (by decide +kernel) rfl f1_a (fun x hx => f1_x hx)
  refine ex_aload_n dX12_init_146 rfl ?_
  refine ex_bipush (v := 48) dX12_init_147 (by decide) ?_
  refine px_newp (kd := 14) (t0 := 1) (N := 48) (n := 219) dX12_init_149 rfl (by decide) (by decide) (fun _ _ h => h) rfl rfl wa_I (by decide) (by decide) (by decide) ⟨by decide, by decide⟩ h36.1 rfl (by decide) ?_
  have h37 : Sf I L R 200 220 (f1 200 26) _ _ _ := sf_prim h36 (show K0 219 = (14, 48) from rfl) (by decide) (f1_n (by decide))
  refine px_F (C := RX12) (T := TX12) (N := 40) (kd := 12) (j := 34) tyX12 dX12_init_151 rfl rfl rfl inX12 tyX12_ok nmX12 (by decide) (by decide) wf_X12_66 rfl rfl ⟨rfl, rfl⟩ rfl hk (by decide) ?_
  have h38 : Sf I L R 200 220 (f1 200 35) _ _ _ := sf_putg h37 (c := 200) (s := 26) (j := 34) (b := 219) (Nat.le_refl 200) (by decide) f1_a (by decide) (by decide +kernel) rfl f1_a (fun x hx => f1_x hx)
  refine ex_aload_n dX12_init_154 rfl ?_
  refine ex_bipush (v := 48) dX12_init_155 (by decide) ?_
  refine px_newp (kd := 15) (t0 := 2) (N := 48) (n := 220) dX12_init_157 rfl (by decide) (by decide) (fun _ _ h => h) rfl rfl wa_Z (by decide) (by decide) (by decide) ⟨by decide, by decide⟩ h38.1 rfl (by decide) ?_
  have h39 : Sf I L R 200 221 (f1 200 35) _ _ _ := sf_prim h38 (show K0 220 = (15, 48) from rfl) (by decide) (f1_n (by decide))
  refine px_F (C := RX12) (T := TX12) (N := 40) (kd := 12) (j := 35) tyX12 dX12_init_159 rfl rfl rfl inX12 tyX12_ok nmX12 (by decide) (by decide) wf_X12_69 rfl rfl ⟨rfl, rfl⟩ rfl hk (by decide) ?_
  have h40 : Sf I L R 200 221 (f1 200 36) _ _ _ := sf_putg h39 (c := 200) (s := 35) (j := 35) (b := 220) (Nat.le_refl 200) (by decide) f1_a (by decide) (by decide +kernel) rfl f1_a (fun x hx => f1_x hx)
  refine ex_aload_n dX12_init_162 rfl ?_
  refine ex_iconst (v := 3) dX12_init_163 (by decide) ?_
  refine px_newp (kd := 14) (t0 := 1) (N := 3) (n := 221) dX12_init_164 rfl (by decide) (by decide) (fun _ _ h => h) rfl rfl wa_I (by decide) (by decide) (by decide) ⟨by decide, by decide⟩ h40.1 rfl (by decide) ?_
  have h41 : Sf I L R 200 222 (f1 200 36) _ _ _ := sf_prim h40 (show K0 221 = (14, 3) from rfl) (by decide) (f1_n (by decide))
  refine px_F (C := RX12) (T := TX12) (N := 40) (kd := 12) (j := 36) tyX12 dX12_init_166 rfl rfl rfl inX12 tyX12_ok nmX12 (by decide) (by decide) wf_X12_72 rfl rfl ⟨rfl, rfl⟩ rfl hk (by decide) ?_
  have h42 : Sf I L R 200 222 (f1 200 37) _ _ _ := sf_putg h41 (c := 200) (s := 36) (j := 36) (b := 221) (Nat.le_refl 200) (by decide) f1_a (by decide) (by decide +kernel) rfl f1_a (fun x hx => f1_x hx)
  refine ex_aload_n dX12_init_169 rfl ?_
  refine ex_bipush (v := 20) dX12_init_170 (by decide) ?_
  refine px_newp (kd := 14) (t0 := 1) (N := 20) (n := 222) dX12_init_172 rfl (by decide) (by decide) (fun _ _ h => h) rfl rfl wa_I (by decide) (by decide) (by decide) ⟨by decide, by decide⟩ h42.1 rfl (by decide) ?_
  have h43 : Sf I L R 200 223 (f1 200 37) _ _ _ := sf_prim h42 (show K0 222 = (14, 20) from rfl) (by decide) (f1_n (by decide))
  refine px_F (C := RX12) (T := TX12) (N := 40) (kd := 12) (j := 38) tyX12 dX12_init_174 rfl rfl rfl inX12 tyX12_ok nmX12 (by decide) (by decide) wf_X12_75 rfl rfl ⟨rfl, rfl⟩ rfl hk (by decide) ?_
  have h44 : Sf I L R 200 223 (f1 200 39) _ _ _ := sf_putg h43 (c := 200) (s := 37) (j := 38) (b := 222) (Nat.le_refl 200) (by decide) f1_a (by decide) (by decide +kernel) rfl f1_a (fun x hx => f1_x hx)
  have r5 := (h44.2.1 200 (Nat.le_refl 200) (by decide)).2.2
  rw [f1_a] at r5
  have hN : Nu I L R 200 223 _ _ _ := sf_done h44 (fun c g1 g2 => by
    by_cases e : c = 200
    · subst e
      rw [f1_a]
      exact rz_p (by decide +kernel)
    · rw [f1_n e]
      exact part_all)
  refine ex_aload_n dX12_init_177 rfl ?_
  refine ex_lconst (v := 1) dX12_init_178 (by decide) ?_
  refine px_L (C := RX12) (T := TX12) (N := 40) (kd := 12) (j := 4) tyX12 dX12_init_179 rfl rfl inX12 tyX12_ok nmX12 (by decide) (by decide) wf_X12_78 rfl ⟨rfl, rfl⟩ rfl hk (by decide) ?_
  refine ex_iconst (v := 0) dX12_init_182 (by decide) ?_
  refine st_i1 dX12_init_183 (by first | exact rfl | exact trivial) ?_
  revert r5 hN
  generalize up2 _ 200 38 (some 222) = R'
  intro r5 hN
  have q5 : R' 200 5 = some 202 := by
    rw [r5]
    rfl
  have q8 : R' 200 8 = some 205 := by
    rw [r5]
    rfl
  have key202 := dn (F := fun k => Ex G mdX12_init 184 [some (.ref 200), some (.int (nI k))] [] (pm (fill I 202 k (-1)) (up2 L 200 4 1) R' 223) 22 2159 (Iz I L R)) (m := 6) ?_ ?_ 0 (Nat.zero_le _)
  · rw [fill_0] at key202
    exact key202
  · refine ex_iload_n dX12_init_184 rfl ?_
    refine ex_bipush (v := 6) dX12_init_185 (by decide) ?_
    refine ex_icmp_ge 203 dX12_init_187 (by decide) (fun _ => ?_) (fun z => absurd (show (6 : Int32) ≤ nI 6 by decide) z)
    skip
    refine ex_iconst (v := 0) dX12_init_203 (by decide) ?_
    refine st_i1 dX12_init_204 (by first | exact rfl | exact trivial) ?_
    have key205 := dn (F := fun k => Ex G mdX12_init 205 [some (.ref 200), some (.int (nI k))] [] (pm (fill (fill I 202 6 (-1)) 205 k (-1)) (up2 L 200 4 1) R' 223) 22 2159 (Iz I L R)) (m := 4) ?_ ?_ 0 (Nat.zero_le _)
    · rw [fill_0] at key205
      exact key205
    · refine ex_iload_n dX12_init_205 rfl ?_
      refine ex_iconst (v := 4) dX12_init_206 (by decide) ?_
      refine ex_icmp_ge 223 dX12_init_207 (by decide) (fun _ => ?_) (fun z => absurd (show (4 : Int32) ≤ nI 4 by decide) z)
      refine ex_vret dX12_init_223 rfl ⟨rfl, by decide⟩ ?_
      exact ⟨rfl, _, _, _, rfl, hN⟩
    · intro k hk' ih
      refine ex_iload_n dX12_init_205 rfl ?_
      refine ex_iconst (v := 4) dX12_init_206 (by decide) ?_
      refine ex_icmp_ge 223 dX12_init_207 (by decide) (fun z => absurd z (show ¬ (4 : Int32) ≤ nI k from nI_ge hk' (by decide))) (fun _ => ?_)
      refine ex_aload_n dX12_init_210 rfl ?_
      refine ex_get (C := RX12) (T := TX12) (N := 40) (kd := 12) (j := 8) (v := .ref 205) dX12_init_211 rfl rfl inX12 (by decide) (by decide) wf_X12_22 hk (show 200 < 223 by decide) (by unfold aval; rw [if_neg (by decide), if_neg (by decide)]; show (R' 200 8).map Value.ref = _; rw [q8]; rfl) ?_
      refine ex_iload_n dX12_init_214 rfl ?_
      refine ex_iconst (v := (-1)) dX12_init_215 (by decide) ?_
      refine ex_iast (a := 205) (N := 4) dX12_init_216 (show K0 205 = (14, 4) from rfl) (show 205 < 223 by decide) (vp_in_nI hk' (by decide)) ?_
      refine inc1 (v := nI (k + 1)) dX12_init_217 (nI_add k 1) (by first | exact rfl | exact trivial) ?_
      refine ex_goto 205 dX12_init_220 (by decide) ?_
      have e := fill_s (I := (fill I 202 6 (-1))) (c := 205) (v := -1) (show k < 2 ^ 31 by omega)
      rw [← e] at ih
      exact ih
  · intro k hk' ih
    refine ex_iload_n dX12_init_184 rfl ?_
    refine ex_bipush (v := 6) dX12_init_185 (by decide) ?_
    refine ex_icmp_ge 203 dX12_init_187 (by decide) (fun z => absurd z (show ¬ (6 : Int32) ≤ nI k from nI_ge hk' (by decide))) (fun _ => ?_)
    refine ex_aload_n dX12_init_190 rfl ?_
    refine ex_get (C := RX12) (T := TX12) (N := 40) (kd := 12) (j := 5) (v := .ref 202) dX12_init_191 rfl rfl inX12 (by decide) (by decide) wf_X12_13 hk (show 200 < 223 by decide) (by unfold aval; rw [if_neg (by decide), if_neg (by decide)]; show (R' 200 5).map Value.ref = _; rw [q5]; rfl) ?_
    refine ex_iload_n dX12_init_194 rfl ?_
    refine ex_iconst (v := (-1)) dX12_init_195 (by decide) ?_
    refine ex_iast (a := 202) (N := 6) dX12_init_196 (show K0 202 = (14, 6) from rfl) (show 202 < 223 by decide) (vp_in_nI hk' (by decide)) ?_
    refine inc1 (v := nI (k + 1)) dX12_init_197 (nI_add k 1) (by first | exact rfl | exact trivial) ?_
    refine ex_goto 184 dX12_init_200 (by decide) ?_
    have e := fill_s (I := I) (c := 202) (v := -1) (show k < 2 ^ 31 by omega)
    rw [← e] at ih
    exact ih
end
end R53
