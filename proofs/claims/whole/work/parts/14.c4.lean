section C4
variable {G : Gp} {I : Im} {L : Nat → Nat → Int64} {t : Nat}
theorem ex_eqM {d : Md} {pc : Nat} {ls : List (Option Value)} {st : List Value} {I1 I2 : Im} {uc us : Nat} {P : Option Value → Mem → Prop} (h : I1 = I2) (k : Ex G d pc ls st (mk I2 L t) uc us P) : Ex G d pc ls st (mk I1 L t) uc us P := h ▸ k
def flowV (f h h2 o r : Int32) : Int32 := f + (h - h2) * o / 16 - (f + (h - h2) * o / 16) * r / 64
def strG (I : Im) (a j : Nat) : Int32 := flowV (I (a + 7) j) (I (a + 6) j) (I (a + 6) (j + 1)) (I (a + 8) j) (I (a + 1) 5)
def waStream (I : Im) (a n : Nat) : Im := fillg I (a + 7) (n - 1) (strG I a)
def riC (I : Im) (a k : Nat) : Int32 := if k = 0 then 0 else I (a + 7) (k - 1)
def riH (I : Im) (a : Nat) (p : Int32) (k : Nat) : Int32 := if nI k = I (a + 1) 3 then (I (a + 6) k + riC I a k - I (a + 7) k) + (p - (I (a + 6) k + riC I a k - I (a + 7) k)) * I (a + 1) 4 / 16 else I (a + 6) k + riC I a k - I (a + 7) k
def riX (I : Im) (a : Nat) (p : Int32) (k : Nat) : Int32 := if I a 7 = 0 ∨ I (a + 9) k < riH I a p k then riH I a p k else I (a + 9) k
def riN (I : Im) (a : Nat) (p : Int32) (k : Nat) : Int32 := if I a 7 = 0 ∨ riH I a p k < I (a + 10) k then riH I a p k else I (a + 10) k
def riI (I : Im) (a : Nat) (p : Int32) (k : Nat) : Im := fun c j => if j < k then (if c = a + 6 then riH I a p j else if c = a + 9 then riX I a p j else if c = a + 10 then riN I a p j else I c j) else I c j
theorem riI_ge {a k c j : Nat} {p : Int32} (h : k ≤ j) : riI I a p k c j = I c j := if_neg (by omega)
theorem riI_off {a k c j : Nat} {p : Int32} (h6 : c ≠ a + 6) (h9 : c ≠ a + 9) (h10 : c ≠ a + 10) : riI I a p k c j = I c j := by simp [riI, h6, h9, h10]
def waPass (I : Im) (a n c : Nat) : Im :=
  let J := waStream I a n
  let K := riI J a (pusF J (a + 3) (J a 7) c) n
  up2 K a 7 (K a 7 + 1)
def waLift (I : Im) (a : Nat) (k h : Int32) : Im := if hasC I (a + 1) k then up2 I (a + 6) k.toNatClampNeg h else I
def be0 (I : Im) (a b s : Nat) : Im := up2 (swTake (baTake I (a + 1) b) (a + 3) s) a 7 0
def beI (J : Im) (a k : Nat) : Im := fun c j => if j < k then (if c = a + 6 ∨ c = a + 7 ∨ c = a + 9 ∨ c = a + 10 then 0 else if c = a + 8 then opn J (a + 1) j else J c j) else J c j
def waBegin (I : Im) (a b s : Nat) : Im := beI (be0 I a b s) a 16
def waTake (I : Im) (a o : Nat) : Im :=
  let J := swTake (baTake I (a + 1) (o + 1)) (a + 3) (o + 3)
  cpR (cpR (cpR (cpR (cpR (tk1 J a o 7) (o + 6) (a + 6) 0 0 16) (o + 7) (a + 7) 0 0 16) (o + 8) (a + 8) 0 0 16) (o + 9) (a + 9) 0 0 16) (o + 10) (a + 10) 0 0 16
def flAt (I : Im) (a : Nat) (k : Int32) : Int32 := if hasC I (a + 1) k then (if 0 < k then I (a + 7) (k - 1).toNatClampNeg + I (a + 7) k.toNatClampNeg else I (a + 7) k.toNatClampNeg) else 0
def rng (I : Im) (a q : Nat) : Int32 := I (a + 9) q - I (a + 10) q
def wildN (r : Nat → Int32) : Nat → Nat
  | 0 => 0
  | k + 1 => if r (wildN r k) < r (k + 1) then k + 1 else wildN r k
def calmN (r : Nat → Int32) : Nat → Nat
  | 0 => 0
  | k + 1 => if r (k + 1) < r (calmN r k) then k + 1 else calmN r k
theorem wildN_le (r : Nat → Int32) : ∀ k, wildN r k ≤ k := by
  intro k
  induction k with
  | zero => exact Nat.le_refl 0
  | succ k ih =>
    unfold wildN
    split <;> omega
theorem calmN_le (r : Nat → Int32) : ∀ k, calmN r k ≤ k := by
  intro k
  induction k with
  | zero => exact Nat.le_refl 0
  | succ k ih =>
    unfold calmN
    split <;> omega
def sumI (f : Nat → Int32) : Nat → Int32
  | 0 => 0
  | k + 1 => sumI f k + f k
theorem tk1_off {a b j c : Nat} (h : c ≠ a) : tk1 I a b j c = I c := up2_off h
theorem cpR_off {a0 a s d n c : Nat} (h : c ≠ a) : cpR I a0 a s d n c = I c := by
  funext j
  simp [cpR, h]
theorem baTake_off {a b c : Nat} (h : c ≠ a) (h1 : c ≠ a + 1) : baTake I a b c = I c := by
  unfold baTake
  rw [cpR_off h1, tk1_off h, tk1_off h, tk1_off h, tk1_off h, tk1_off h, tk1_off h]
theorem swTake_off {a b c : Nat} (h : c ≠ a) (h1 : c ≠ a + 1) (h2 : c ≠ a + 2) : swTake I a b c = I c := by
  unfold swTake
  rw [cpR_off h2, cpR_off h1, tk1_off h, tk1_off h]
theorem opn_c {J : Im} {b q : Nat} (h : I b = J b) (h1 : I (b + 1) = J (b + 1)) : opn I b q = opn J b q := by simp only [opn, hasW, h, h1]
theorem in16p {k : Int32} (h0 : 0 < k) (h1 : k < 16) : vp_in (k - 1) 16 := by
  rw [vp_in_iff]
  have e : (k - 1).toInt = k.toInt - 1 := by
    rw [Int32.lt_iff_toInt_lt] at h0 h1
    have h2 : (16 : Int32).toInt = 16 := by decide
    have h3 : (0 : Int32).toInt = 0 := by decide
    rw [Int32.toInt_sub]
    have h4 : (1 : Int32).toInt = 1 := by decide
    rw [h4]
    rw [h2] at h1
    rw [h3] at h0
    apply Int.bmod_eq_of_le <;> omega
  rw [e]
  rw [Int32.lt_iff_toInt_lt] at h0 h1
  have h2 : (16 : Int32).toInt = 16 := by decide
  have h3 : (0 : Int32).toInt = 0 := by decide
  rw [h2] at h1
  rw [h3] at h0
  omega
theorem K0ne {a b k1 n1 k2 n2 : Nat} (ha : K0 a = (k1, n1)) (hb : K0 b = (k2, n2)) (h : k1 ≠ k2) : a ≠ b := by
  rintro rfl
  rw [ha] at hb
  exact h (congrArg Prod.fst hb)
set_option maxRecDepth 100000 in
set_option maxHeartbeats 4000000 in
theorem s_X9_stream {a n : Nat} (ha : K0 a = (9, 8)) (hn3 : 3 ≤ n) (hn : n ≤ 16) (hc : I (a + 1) 2 = nI n) : Ca G mdX9_stream [.ref a] (mk I L t) (Rv (mk (waStream I a n) L t)) := by
  refine Ca.intro [some (.ref a), none, none] (by decide) (Nat.le_of_ble_eq_true rfl) rfl rfl ?_
  have hk1 : K0 (a + 1) = (0, 7) := (lay9k ha).1
  have hk3 : K0 (a + 3) = (8, 4) := (lay9k ha).2.1
  have hk6 : K0 (a + 6) = (14, 16) := (lay9k ha).2.2.1
  have hk7 : K0 (a + 7) = (14, 16) := (lay9k ha).2.2.2.1
  have hk8 : K0 (a + 8) = (14, 16) := (lay9k ha).2.2.2.2.1
  have hk9 : K0 (a + 9) = (14, 16) := (lay9k ha).2.2.2.2.2.1
  have hk10 : K0 (a + 10) = (14, 16) := (lay9k ha).2.2.2.2.2.2
  have hk2 : K0 (a + 2) = (14, 16) := (lay0 hk1).2
  refine ex_iconst (v := 0) dX9_stream_0 (by decide) ?_
  refine st_i1 dX9_stream_1 (by first | exact rfl | exact trivial) ?_
  have key := loop_up (G := G) (d := mdX9_stream) (pc := 2) (st := []) (uc := 0) (us := 0) (P := Rv (mk (waStream I a n) L t)) (n - 1) (fun k => mk (fillg I (a + 7) k (strG I a)) L t) (fun k => [some (.ref a), some (.int (nI k)), none]) ?_ ?_ 0 (Nat.zero_le _)
  · simp only [fillg_0] at key
    exact key
  · intro k hk ih
    have r1 : ∀ j, fillg I (a + 7) k (strG I a) (a + 1) j = I (a + 1) j := fun j => fillg_off (by omega)
    have r6 : ∀ j, fillg I (a + 7) k (strG I a) (a + 6) j = I (a + 6) j := fun j => fillg_off (by omega)
    have r8 : ∀ j, fillg I (a + 7) k (strG I a) (a + 8) j = I (a + 8) j := fun j => fillg_off (by omega)
    have hs : fillg I (a + 7) k (strG I a) (a + 1) 2 - 1 = nI (n - 1) := by rw [r1, hc]; exact pk_sub (b := 1) (by omega)
    refine ex_iload_n dX9_stream_2 rfl ?_
    refine ex_aload_n dX9_stream_3 rfl ?_
    refine g_9_0 dX9_stream_4 rfl wf_X9_12 (by first | assumption | rfl) (layR_9_0 (by first | assumption | rfl)) ?_
    refine g_0_2 dX9_stream_7 rfl wf_X9_76 (by first | assumption | rfl) ?_
    refine ex_iconst (v := 1) dX9_stream_10 (by decide) ?_
    refine ex_isub dX9_stream_11 ?_
    refine ex_icmp_ge 80 dX9_stream_12 (by decide) (fun h12 => ?_) (fun h12 => ?_)
    · exact absurd h12 (by rw [hs]; exact nI_ge hk (by omega))
    · skip
      refine ex_iload_n dX9_stream_15 rfl ?_
      refine ex_bipush (v := 15) dX9_stream_16 (by decide) ?_
      refine ex_icmp_ge 80 dX9_stream_18 (by decide) (fun h18 => ?_) (fun h18 => ?_)
      · exact absurd h18 (nI_ge (b := 15) (by omega) (by decide))
      · skip
        refine ex_aload_n dX9_stream_21 rfl ?_
        refine g_9_3 dX9_stream_22 rfl wf_X9_29 (by first | assumption | rfl) (layR_9_3 (by first | assumption | rfl)) ?_
        refine ex_iload_n dX9_stream_25 rfl ?_
        refine rx_iald dX9_stream_26 (by first | assumption | rfl) (vpi (by omega)) ?_
        refine ex_aload_n dX9_stream_27 rfl ?_
        refine g_9_2 dX9_stream_28 rfl wf_X9_25 (by first | assumption | rfl) (layR_9_2 (by first | assumption | rfl)) ?_
        refine ex_iload_n dX9_stream_31 rfl ?_
        refine rx_iald dX9_stream_32 (by first | assumption | rfl) (vpi (by omega)) ?_
        refine ex_aload_n dX9_stream_33 rfl ?_
        refine g_9_2 dX9_stream_34 rfl wf_X9_25 (by first | assumption | rfl) (layR_9_2 (by first | assumption | rfl)) ?_
        refine ex_iload_n dX9_stream_37 rfl ?_
        refine ex_iconst (v := 1) dX9_stream_38 (by decide) ?_
        refine ex_iadd dX9_stream_39 ?_
        refine rx_iald dX9_stream_40 (by first | assumption | rfl) (by rw [nI_1]; exact vpi (by omega)) ?_
        refine ex_isub dX9_stream_41 ?_
        refine ex_aload_n dX9_stream_42 rfl ?_
        refine g_9_4 dX9_stream_43 rfl wf_X9_32 (by first | assumption | rfl) (layR_9_4 (by first | assumption | rfl)) ?_
        refine ex_iload_n dX9_stream_46 rfl ?_
        refine rx_iald dX9_stream_47 (by first | assumption | rfl) (vpi (by omega)) ?_
        refine ex_imul dX9_stream_48 ?_
        refine ex_bipush (v := 16) dX9_stream_49 (by decide) ?_
        refine ex_idiv dX9_stream_51 (by decide) ?_
        refine ex_iadd dX9_stream_52 ?_
        refine st_i2 dX9_stream_53 (by first | exact rfl | exact trivial) ?_
        refine ex_aload_n dX9_stream_54 rfl ?_
        refine g_9_3 dX9_stream_55 rfl wf_X9_29 (by first | assumption | rfl) (layR_9_3 (by first | assumption | rfl)) ?_
        refine ex_iload_n dX9_stream_58 rfl ?_
        refine ex_iload_n dX9_stream_59 rfl ?_
        refine ex_iload_n dX9_stream_60 rfl ?_
        refine ex_aload_n dX9_stream_61 rfl ?_
        refine g_9_0 dX9_stream_62 rfl wf_X9_12 (by first | assumption | rfl) (layR_9_0 (by first | assumption | rfl)) ?_
        refine g_0_5 dX9_stream_65 rfl wf_X9_79 (by first | assumption | rfl) ?_
        refine ex_imul dX9_stream_68 ?_
        refine ex_bipush (v := 64) dX9_stream_69 (by decide) ?_
        refine ex_idiv dX9_stream_71 (by decide) ?_
        refine ex_isub dX9_stream_72 ?_
        refine rx_iast dX9_stream_73 (by first | assumption | rfl) (vpi (by omega)) ?_
        refine inc1 (v := _ + 1) dX9_stream_74 (by rfl) (by first | exact rfl | exact trivial) ?_
        refine ex_goto 2 dX9_stream_77 (by decide) ?_
        refine fg2 ?_
        simp only [nI_1, nI_clamp (show k < 2 ^ 31 by omega), nI_clamp (show k + 1 < 2 ^ 31 by omega), r6, r8, r1, fillg_ge (Nat.le_refl k)]
        have e := fillg_s (I := I) (c := a + 7) (k := k) (g := strG I a) (by omega)
        rw [nI_clamp (by omega)] at e
        exact ex_eqM e ih
  · skip
    have r1 : ∀ j, fillg I (a + 7) (n - 1) (strG I a) (a + 1) j = I (a + 1) j := fun j => fillg_off (by omega)
    have r6 : ∀ j, fillg I (a + 7) (n - 1) (strG I a) (a + 6) j = I (a + 6) j := fun j => fillg_off (by omega)
    have r8 : ∀ j, fillg I (a + 7) (n - 1) (strG I a) (a + 8) j = I (a + 8) j := fun j => fillg_off (by omega)
    have hs : fillg I (a + 7) (n - 1) (strG I a) (a + 1) 2 - 1 = nI (n - 1) := by rw [r1, hc]; exact pk_sub (b := 1) (by omega)
    refine ex_iload_n dX9_stream_2 rfl ?_
    refine ex_aload_n dX9_stream_3 rfl ?_
    refine g_9_0 dX9_stream_4 rfl wf_X9_12 (by first | assumption | rfl) (layR_9_0 (by first | assumption | rfl)) ?_
    refine g_0_2 dX9_stream_7 rfl wf_X9_76 (by first | assumption | rfl) ?_
    refine ex_iconst (v := 1) dX9_stream_10 (by decide) ?_
    refine ex_isub dX9_stream_11 ?_
    refine ex_icmp_ge 80 dX9_stream_12 (by decide) (fun h12 => ?_) (fun h12 => ?_)
    · skip
      refine ex_vret dX9_stream_80 rfl ⟨rfl, Nat.le_refl _⟩ ?_
      exact ⟨rfl, rfl⟩
    · exact absurd (by rw [hs]; exact Int32.le_refl _) h12
theorem riH_t {a k : Nat} {p : Int32} (h : nI k = I (a + 1) 3) : riH I a p k = (I (a + 6) k + riC I a k - I (a + 7) k) + (p - (I (a + 6) k + riC I a k - I (a + 7) k)) * I (a + 1) 4 / 16 := if_pos h
theorem riH_f {a k : Nat} {p : Int32} (h : ¬ nI k = I (a + 1) 3) : riH I a p k = I (a + 6) k + riC I a k - I (a + 7) k := if_neg h
theorem up2_id {f : Im} {c j : Nat} {v : Int32} (h : f c j = v) : f = up2 f c j v := by
  funext c' j'
  unfold up2
  split
  · rename_i q
    rw [q.1, q.2, h]
  · rfl
theorem ri_s {a k : Nat} {p : Int32} : up2 (up2 (up2 (riI I a p k) (a + 6) k (riH I a p k)) (a + 9) k (riX I a p k)) (a + 10) k (riN I a p k) = riI I a p (k + 1) := by
  funext c j
  by_cases hj : j = k
  · subst hj
    by_cases c6 : c = a + 6
    · subst c6
      simp [riI, up2]
    · by_cases c9 : c = a + 9
      · subst c9
        simp [riI, up2]
      · by_cases c10 : c = a + 10
        · subst c10
          simp [riI, up2]
        · simp [riI, up2, c6, c9, c10]
  · have e : (j < k + 1) = (j < k) := propext ⟨fun q => by omega, fun q => by omega⟩
    simp [riI, up2, hj, e]
set_option maxRecDepth 100000 in
set_option maxHeartbeats 4000000 in
theorem s_X9_rise {a n : Nat} {p : Int32} (ha : K0 a = (9, 8)) (hn3 : 3 ≤ n) (hn : n ≤ 16) (hc : I (a + 1) 2 = nI n) : Ca G mdX9_rise [.ref a, .int p] (mk I L t) (Rv (mk (riI I a p n) L t)) := by
  refine Ca.intro [some (.ref a), some (.int p), none, none, none] (by decide) (Nat.le_of_ble_eq_true rfl) rfl rfl ?_
  have hk1 : K0 (a + 1) = (0, 7) := (lay9k ha).1
  have hk3 : K0 (a + 3) = (8, 4) := (lay9k ha).2.1
  have hk6 : K0 (a + 6) = (14, 16) := (lay9k ha).2.2.1
  have hk7 : K0 (a + 7) = (14, 16) := (lay9k ha).2.2.2.1
  have hk8 : K0 (a + 8) = (14, 16) := (lay9k ha).2.2.2.2.1
  have hk9 : K0 (a + 9) = (14, 16) := (lay9k ha).2.2.2.2.2.1
  have hk10 : K0 (a + 10) = (14, 16) := (lay9k ha).2.2.2.2.2.2
  have hk2 : K0 (a + 2) = (14, 16) := (lay0 hk1).2
  refine ex_iconst (v := 0) dX9_rise_0 (by decide) ?_
  refine st_i2 dX9_rise_1 (by first | exact rfl | exact trivial) ?_
  refine ex_iconst (v := 0) dX9_rise_2 (by decide) ?_
  refine st_i3 dX9_rise_3 (by first | exact rfl | exact trivial) ?_
  have key := loop_up (G := G) (d := mdX9_rise) (pc := 4) (st := []) (uc := 0) (us := 0) (P := Rv (mk (riI I a p n) L t)) n (fun k => mk (riI I a p k) L t) (fun k => [some (.ref a), some (.int p), some (.int (riC I a k)), some (.int (nI k)), none]) ?_ ?_ 0 (Nat.zero_le _)
  · have e0 : riI I a p 0 = I := by funext c j; simp [riI]
    simp only [e0] at key
    exact key
  · intro k hk ih
    have r1 : ∀ j, riI I a p k (a + 1) j = I (a + 1) j := fun j => riI_off (by omega) (by omega) (by omega)
    have r7 : ∀ j, riI I a p k (a + 7) j = I (a + 7) j := fun j => riI_off (by omega) (by omega) (by omega)
    have r0 : ∀ j, riI I a p k a j = I a j := fun j => riI_off (by omega) (by omega) (by omega)
    have hs : riI I a p k (a + 1) 2 = nI n := by rw [r1, hc]
    refine ex_iload_n dX9_rise_4 rfl ?_
    refine ex_aload_n dX9_rise_5 rfl ?_
    refine g_9_0 dX9_rise_6 rfl wf_X9_12 (by first | assumption | rfl) (layR_9_0 (by first | assumption | rfl)) ?_
    refine g_0_2 dX9_rise_9 rfl wf_X9_76 (by first | assumption | rfl) ?_
    refine ex_icmp_ge 142 dX9_rise_12 (by decide) (fun h12 => ?_) (fun h12 => ?_)
    · exact absurd h12 (by rw [hs]; exact nI_ge hk (by omega))
    · skip
      refine ex_iload_n dX9_rise_15 rfl ?_
      refine ex_bipush (v := 16) dX9_rise_16 (by decide) ?_
      refine ex_icmp_ge 142 dX9_rise_18 (by decide) (fun h18 => ?_) (fun h18 => ?_)
      · exact absurd h18 (nI_ge (b := 16) (by omega) (by decide))
      · skip
        refine ex_aload_n dX9_rise_21 rfl ?_
        refine g_9_2 dX9_rise_22 rfl wf_X9_25 (by first | assumption | rfl) (layR_9_2 (by first | assumption | rfl)) ?_
        refine ex_iload_n dX9_rise_25 rfl ?_
        refine rx_iald dX9_rise_26 (by first | assumption | rfl) (vpi (by omega)) ?_
        refine ex_iload_n dX9_rise_27 rfl ?_
        refine ex_iadd dX9_rise_28 ?_
        refine ex_aload_n dX9_rise_29 rfl ?_
        refine g_9_3 dX9_rise_30 rfl wf_X9_29 (by first | assumption | rfl) (layR_9_3 (by first | assumption | rfl)) ?_
        refine ex_iload_n dX9_rise_33 rfl ?_
        refine rx_iald dX9_rise_34 (by first | assumption | rfl) (vpi (by omega)) ?_
        refine ex_isub dX9_rise_35 ?_
        refine st_i4 dX9_rise_36 (by first | exact rfl | exact trivial) ?_
        refine ex_iload_n dX9_rise_38 rfl ?_
        refine ex_aload_n dX9_rise_39 rfl ?_
        refine g_9_0 dX9_rise_40 rfl wf_X9_12 (by first | assumption | rfl) (layR_9_0 (by first | assumption | rfl)) ?_
        refine g_0_3 dX9_rise_43 rfl wf_X9_82 (by first | assumption | rfl) ?_
        refine ex_icmp_ne 69 dX9_rise_46 (by decide) (fun h46 => ?_) (fun h46 => ?_)
        · rw [r1] at h46
          simp only [nI_clamp (show k < 2 ^ 31 by omega), r1, r7, riI_ge (Nat.le_refl k)]
          first | rw [← riH_t h46] | rw [← riH_f h46]
          refine ex_aload_n dX9_rise_69 rfl ?_
          refine g_9_2 dX9_rise_70 rfl wf_X9_25 (by first | assumption | rfl) (layR_9_2 (by first | assumption | rfl)) ?_
          refine ex_iload_n dX9_rise_73 rfl ?_
          refine ex_iload dX9_rise_74 rfl ?_
          refine rx_iast dX9_rise_76 (by first | assumption | rfl) (vpi (by omega)) ?_
          refine ex_aload_n dX9_rise_77 rfl ?_
          refine g_9_7 dX9_rise_78 rfl wf_X9_41 (by first | assumption | rfl) ?_
          rw [up2_off (show a ≠ a + 6 by omega), r0]
          refine ex_if_eq 95 dX9_rise_81 (by decide) (fun h81 => ?_) (fun h81 => ?_)
          · have hX : riX I a p k = riH I a p k := if_pos (Or.inl h81)
            refine ex_aload_n dX9_rise_95 rfl ?_
            refine g_9_5 dX9_rise_96 rfl wf_X9_35 (by first | assumption | rfl) (layR_9_5 (by first | assumption | rfl)) ?_
            refine ex_iload_n dX9_rise_99 rfl ?_
            refine ex_iload dX9_rise_100 rfl ?_
            refine rx_iast dX9_rise_102 (by first | assumption | rfl) (vpi (by omega)) ?_
            refine ex_eqM (I2 := up2 (up2 (riI I a p k) (a + 6) k (riH I a p k)) (a + 9) k (riX I a p k)) (by rw [hX]; first | (rw [nI_clamp (by omega)]; done) | exact up2_id (by rw [up2_off (show a + 9 ≠ a + 6 by omega), riI_ge (Nat.le_refl k)])) ?_
            refine ex_aload_n dX9_rise_103 rfl ?_
            refine g_9_7 dX9_rise_104 rfl wf_X9_41 (by first | assumption | rfl) ?_
            rw [up2_off (show a ≠ a + 9 by omega), up2_off (show a ≠ a + 6 by omega), r0]
            refine ex_if_eq 121 dX9_rise_107 (by decide) (fun h107 => ?_) (fun h107 => ?_)
            · have hN : riN I a p k = riH I a p k := if_pos (Or.inl h107)
              refine ex_aload_n dX9_rise_121 rfl ?_
              refine g_9_6 dX9_rise_122 rfl wf_X9_38 (by first | assumption | rfl) (layR_9_6 (by first | assumption | rfl)) ?_
              refine ex_iload_n dX9_rise_125 rfl ?_
              refine ex_iload dX9_rise_126 rfl ?_
              refine rx_iast dX9_rise_128 (by first | assumption | rfl) (vpi (by omega)) ?_
              refine ex_eqM (I2 := up2 (up2 (up2 (riI I a p k) (a + 6) k (riH I a p k)) (a + 9) k (riX I a p k)) (a + 10) k (riN I a p k)) (by rw [hN]; first | rfl | (rw [nI_clamp (by omega)]; done) | exact up2_id (by rw [up2_off (show a + 10 ≠ a + 9 by omega), up2_off (show a + 10 ≠ a + 6 by omega), riI_ge (Nat.le_refl k)])) ?_
              refine ex_aload_n dX9_rise_129 rfl ?_
              refine g_9_3 dX9_rise_130 rfl wf_X9_29 (by first | assumption | rfl) (layR_9_3 (by first | assumption | rfl)) ?_
              refine ex_iload_n dX9_rise_133 rfl ?_
              refine rx_iald dX9_rise_134 (by first | assumption | rfl) (vpi (by omega)) ?_
              rw [up2_off (show a + 7 ≠ a + 10 by omega), up2_off (show a + 7 ≠ a + 9 by omega), up2_off (show a + 7 ≠ a + 6 by omega), nI_clamp (by omega), r7, show I (a + 7) k = riC I a (k + 1) from by simp [riC]]
              refine st_i2 dX9_rise_135 (by first | exact rfl | exact trivial) ?_
              refine inc3 (v := _ + 1) dX9_rise_136 (by rfl) (by first | exact rfl | exact trivial) ?_
              refine ex_goto 4 dX9_rise_139 (by decide) ?_
              refine fg4 ?_
              rw [nI_1, ri_s]
              exact ih
            · skip
              refine ex_iload dX9_rise_110 rfl ?_
              refine ex_aload_n dX9_rise_112 rfl ?_
              refine g_9_6 dX9_rise_113 rfl wf_X9_38 (by first | assumption | rfl) (layR_9_6 (by first | assumption | rfl)) ?_
              refine ex_iload_n dX9_rise_116 rfl ?_
              refine rx_iald dX9_rise_117 (by first | assumption | rfl) (vpi (by omega)) ?_
              rw [up2_off (show a + 10 ≠ a + 9 by omega), up2_off (show a + 10 ≠ a + 6 by omega), nI_clamp (by omega), riI_ge (Nat.le_refl k)]
              refine ex_icmp_ge 129 dX9_rise_118 (by decide) (fun h118 => ?_) (fun h118 => ?_)
              · have hN : riN I a p k = I (a + 10) k := if_neg (fun q => q.elim h107 (Int32.not_lt.mpr h118))
                refine ex_eqM (I2 := up2 (up2 (up2 (riI I a p k) (a + 6) k (riH I a p k)) (a + 9) k (riX I a p k)) (a + 10) k (riN I a p k)) (by rw [hN]; first | rfl | (rw [nI_clamp (by omega)]; done) | exact up2_id (by rw [up2_off (show a + 10 ≠ a + 9 by omega), up2_off (show a + 10 ≠ a + 6 by omega), riI_ge (Nat.le_refl k)])) ?_
                refine ex_aload_n dX9_rise_129 rfl ?_
                refine g_9_3 dX9_rise_130 rfl wf_X9_29 (by first | assumption | rfl) (layR_9_3 (by first | assumption | rfl)) ?_
                refine ex_iload_n dX9_rise_133 rfl ?_
                refine rx_iald dX9_rise_134 (by first | assumption | rfl) (vpi (by omega)) ?_
                rw [up2_off (show a + 7 ≠ a + 10 by omega), up2_off (show a + 7 ≠ a + 9 by omega), up2_off (show a + 7 ≠ a + 6 by omega), nI_clamp (by omega), r7, show I (a + 7) k = riC I a (k + 1) from by simp [riC]]
                refine st_i2 dX9_rise_135 (by first | exact rfl | exact trivial) ?_
                refine inc3 (v := _ + 1) dX9_rise_136 (by rfl) (by first | exact rfl | exact trivial) ?_
                refine ex_goto 4 dX9_rise_139 (by decide) ?_
                refine fg4 ?_
                rw [nI_1, ri_s]
                exact ih
              · have hN : riN I a p k = riH I a p k := if_pos (Or.inr (Int32.not_le.mp h118))
                refine ex_aload_n dX9_rise_121 rfl ?_
                refine g_9_6 dX9_rise_122 rfl wf_X9_38 (by first | assumption | rfl) (layR_9_6 (by first | assumption | rfl)) ?_
                refine ex_iload_n dX9_rise_125 rfl ?_
                refine ex_iload dX9_rise_126 rfl ?_
                refine rx_iast dX9_rise_128 (by first | assumption | rfl) (vpi (by omega)) ?_
                refine ex_eqM (I2 := up2 (up2 (up2 (riI I a p k) (a + 6) k (riH I a p k)) (a + 9) k (riX I a p k)) (a + 10) k (riN I a p k)) (by rw [hN]; first | rfl | (rw [nI_clamp (by omega)]; done) | exact up2_id (by rw [up2_off (show a + 10 ≠ a + 9 by omega), up2_off (show a + 10 ≠ a + 6 by omega), riI_ge (Nat.le_refl k)])) ?_
                refine ex_aload_n dX9_rise_129 rfl ?_
                refine g_9_3 dX9_rise_130 rfl wf_X9_29 (by first | assumption | rfl) (layR_9_3 (by first | assumption | rfl)) ?_
                refine ex_iload_n dX9_rise_133 rfl ?_
                refine rx_iald dX9_rise_134 (by first | assumption | rfl) (vpi (by omega)) ?_
                rw [up2_off (show a + 7 ≠ a + 10 by omega), up2_off (show a + 7 ≠ a + 9 by omega), up2_off (show a + 7 ≠ a + 6 by omega), nI_clamp (by omega), r7, show I (a + 7) k = riC I a (k + 1) from by simp [riC]]
                refine st_i2 dX9_rise_135 (by first | exact rfl | exact trivial) ?_
                refine inc3 (v := _ + 1) dX9_rise_136 (by rfl) (by first | exact rfl | exact trivial) ?_
                refine ex_goto 4 dX9_rise_139 (by decide) ?_
                refine fg4 ?_
                rw [nI_1, ri_s]
                exact ih
          · skip
            refine ex_iload dX9_rise_84 rfl ?_
            refine ex_aload_n dX9_rise_86 rfl ?_
            refine g_9_5 dX9_rise_87 rfl wf_X9_35 (by first | assumption | rfl) (layR_9_5 (by first | assumption | rfl)) ?_
            refine ex_iload_n dX9_rise_90 rfl ?_
            refine rx_iald dX9_rise_91 (by first | assumption | rfl) (vpi (by omega)) ?_
            rw [up2_off (show a + 9 ≠ a + 6 by omega), nI_clamp (by omega), riI_ge (Nat.le_refl k)]
            refine ex_icmp_le 103 dX9_rise_92 (by decide) (fun h92 => ?_) (fun h92 => ?_)
            · have hX : riX I a p k = I (a + 9) k := if_neg (fun q => q.elim h81 (Int32.not_lt.mpr h92))
              refine ex_eqM (I2 := up2 (up2 (riI I a p k) (a + 6) k (riH I a p k)) (a + 9) k (riX I a p k)) (by rw [hX]; first | (rw [nI_clamp (by omega)]; done) | exact up2_id (by rw [up2_off (show a + 9 ≠ a + 6 by omega), riI_ge (Nat.le_refl k)])) ?_
              refine ex_aload_n dX9_rise_103 rfl ?_
              refine g_9_7 dX9_rise_104 rfl wf_X9_41 (by first | assumption | rfl) ?_
              rw [up2_off (show a ≠ a + 9 by omega), up2_off (show a ≠ a + 6 by omega), r0]
              refine ex_if_eq 121 dX9_rise_107 (by decide) (fun h107 => ?_) (fun h107 => ?_)
              · have hN : riN I a p k = riH I a p k := if_pos (Or.inl h107)
                refine ex_aload_n dX9_rise_121 rfl ?_
                refine g_9_6 dX9_rise_122 rfl wf_X9_38 (by first | assumption | rfl) (layR_9_6 (by first | assumption | rfl)) ?_
                refine ex_iload_n dX9_rise_125 rfl ?_
                refine ex_iload dX9_rise_126 rfl ?_
                refine rx_iast dX9_rise_128 (by first | assumption | rfl) (vpi (by omega)) ?_
                refine ex_eqM (I2 := up2 (up2 (up2 (riI I a p k) (a + 6) k (riH I a p k)) (a + 9) k (riX I a p k)) (a + 10) k (riN I a p k)) (by rw [hN]; first | rfl | (rw [nI_clamp (by omega)]; done) | exact up2_id (by rw [up2_off (show a + 10 ≠ a + 9 by omega), up2_off (show a + 10 ≠ a + 6 by omega), riI_ge (Nat.le_refl k)])) ?_
                refine ex_aload_n dX9_rise_129 rfl ?_
                refine g_9_3 dX9_rise_130 rfl wf_X9_29 (by first | assumption | rfl) (layR_9_3 (by first | assumption | rfl)) ?_
                refine ex_iload_n dX9_rise_133 rfl ?_
                refine rx_iald dX9_rise_134 (by first | assumption | rfl) (vpi (by omega)) ?_
                rw [up2_off (show a + 7 ≠ a + 10 by omega), up2_off (show a + 7 ≠ a + 9 by omega), up2_off (show a + 7 ≠ a + 6 by omega), nI_clamp (by omega), r7, show I (a + 7) k = riC I a (k + 1) from by simp [riC]]
                refine st_i2 dX9_rise_135 (by first | exact rfl | exact trivial) ?_
                refine inc3 (v := _ + 1) dX9_rise_136 (by rfl) (by first | exact rfl | exact trivial) ?_
                refine ex_goto 4 dX9_rise_139 (by decide) ?_
                refine fg4 ?_
                rw [nI_1, ri_s]
                exact ih
              · skip
                refine ex_iload dX9_rise_110 rfl ?_
                refine ex_aload_n dX9_rise_112 rfl ?_
                refine g_9_6 dX9_rise_113 rfl wf_X9_38 (by first | assumption | rfl) (layR_9_6 (by first | assumption | rfl)) ?_
                refine ex_iload_n dX9_rise_116 rfl ?_
                refine rx_iald dX9_rise_117 (by first | assumption | rfl) (vpi (by omega)) ?_
                rw [up2_off (show a + 10 ≠ a + 9 by omega), up2_off (show a + 10 ≠ a + 6 by omega), nI_clamp (by omega), riI_ge (Nat.le_refl k)]
                refine ex_icmp_ge 129 dX9_rise_118 (by decide) (fun h118 => ?_) (fun h118 => ?_)
                · have hN : riN I a p k = I (a + 10) k := if_neg (fun q => q.elim h107 (Int32.not_lt.mpr h118))
                  refine ex_eqM (I2 := up2 (up2 (up2 (riI I a p k) (a + 6) k (riH I a p k)) (a + 9) k (riX I a p k)) (a + 10) k (riN I a p k)) (by rw [hN]; first | rfl | (rw [nI_clamp (by omega)]; done) | exact up2_id (by rw [up2_off (show a + 10 ≠ a + 9 by omega), up2_off (show a + 10 ≠ a + 6 by omega), riI_ge (Nat.le_refl k)])) ?_
                  refine ex_aload_n dX9_rise_129 rfl ?_
                  refine g_9_3 dX9_rise_130 rfl wf_X9_29 (by first | assumption | rfl) (layR_9_3 (by first | assumption | rfl)) ?_
                  refine ex_iload_n dX9_rise_133 rfl ?_
                  refine rx_iald dX9_rise_134 (by first | assumption | rfl) (vpi (by omega)) ?_
                  rw [up2_off (show a + 7 ≠ a + 10 by omega), up2_off (show a + 7 ≠ a + 9 by omega), up2_off (show a + 7 ≠ a + 6 by omega), nI_clamp (by omega), r7, show I (a + 7) k = riC I a (k + 1) from by simp [riC]]
                  refine st_i2 dX9_rise_135 (by first | exact rfl | exact trivial) ?_
                  refine inc3 (v := _ + 1) dX9_rise_136 (by rfl) (by first | exact rfl | exact trivial) ?_
                  refine ex_goto 4 dX9_rise_139 (by decide) ?_
                  refine fg4 ?_
                  rw [nI_1, ri_s]
                  exact ih
                · have hN : riN I a p k = riH I a p k := if_pos (Or.inr (Int32.not_le.mp h118))
                  refine ex_aload_n dX9_rise_121 rfl ?_
                  refine g_9_6 dX9_rise_122 rfl wf_X9_38 (by first | assumption | rfl) (layR_9_6 (by first | assumption | rfl)) ?_
                  refine ex_iload_n dX9_rise_125 rfl ?_
                  refine ex_iload dX9_rise_126 rfl ?_
                  refine rx_iast dX9_rise_128 (by first | assumption | rfl) (vpi (by omega)) ?_
                  refine ex_eqM (I2 := up2 (up2 (up2 (riI I a p k) (a + 6) k (riH I a p k)) (a + 9) k (riX I a p k)) (a + 10) k (riN I a p k)) (by rw [hN]; first | rfl | (rw [nI_clamp (by omega)]; done) | exact up2_id (by rw [up2_off (show a + 10 ≠ a + 9 by omega), up2_off (show a + 10 ≠ a + 6 by omega), riI_ge (Nat.le_refl k)])) ?_
                  refine ex_aload_n dX9_rise_129 rfl ?_
                  refine g_9_3 dX9_rise_130 rfl wf_X9_29 (by first | assumption | rfl) (layR_9_3 (by first | assumption | rfl)) ?_
                  refine ex_iload_n dX9_rise_133 rfl ?_
                  refine rx_iald dX9_rise_134 (by first | assumption | rfl) (vpi (by omega)) ?_
                  rw [up2_off (show a + 7 ≠ a + 10 by omega), up2_off (show a + 7 ≠ a + 9 by omega), up2_off (show a + 7 ≠ a + 6 by omega), nI_clamp (by omega), r7, show I (a + 7) k = riC I a (k + 1) from by simp [riC]]
                  refine st_i2 dX9_rise_135 (by first | exact rfl | exact trivial) ?_
                  refine inc3 (v := _ + 1) dX9_rise_136 (by rfl) (by first | exact rfl | exact trivial) ?_
                  refine ex_goto 4 dX9_rise_139 (by decide) ?_
                  refine fg4 ?_
                  rw [nI_1, ri_s]
                  exact ih
            · have hX : riX I a p k = riH I a p k := if_pos (Or.inr (Int32.not_le.mp h92))
              refine ex_aload_n dX9_rise_95 rfl ?_
              refine g_9_5 dX9_rise_96 rfl wf_X9_35 (by first | assumption | rfl) (layR_9_5 (by first | assumption | rfl)) ?_
              refine ex_iload_n dX9_rise_99 rfl ?_
              refine ex_iload dX9_rise_100 rfl ?_
              refine rx_iast dX9_rise_102 (by first | assumption | rfl) (vpi (by omega)) ?_
              refine ex_eqM (I2 := up2 (up2 (riI I a p k) (a + 6) k (riH I a p k)) (a + 9) k (riX I a p k)) (by rw [hX]; first | (rw [nI_clamp (by omega)]; done) | exact up2_id (by rw [up2_off (show a + 9 ≠ a + 6 by omega), riI_ge (Nat.le_refl k)])) ?_
              refine ex_aload_n dX9_rise_103 rfl ?_
              refine g_9_7 dX9_rise_104 rfl wf_X9_41 (by first | assumption | rfl) ?_
              rw [up2_off (show a ≠ a + 9 by omega), up2_off (show a ≠ a + 6 by omega), r0]
              refine ex_if_eq 121 dX9_rise_107 (by decide) (fun h107 => ?_) (fun h107 => ?_)
              · have hN : riN I a p k = riH I a p k := if_pos (Or.inl h107)
                refine ex_aload_n dX9_rise_121 rfl ?_
                refine g_9_6 dX9_rise_122 rfl wf_X9_38 (by first | assumption | rfl) (layR_9_6 (by first | assumption | rfl)) ?_
                refine ex_iload_n dX9_rise_125 rfl ?_
                refine ex_iload dX9_rise_126 rfl ?_
                refine rx_iast dX9_rise_128 (by first | assumption | rfl) (vpi (by omega)) ?_
                refine ex_eqM (I2 := up2 (up2 (up2 (riI I a p k) (a + 6) k (riH I a p k)) (a + 9) k (riX I a p k)) (a + 10) k (riN I a p k)) (by rw [hN]; first | rfl | (rw [nI_clamp (by omega)]; done) | exact up2_id (by rw [up2_off (show a + 10 ≠ a + 9 by omega), up2_off (show a + 10 ≠ a + 6 by omega), riI_ge (Nat.le_refl k)])) ?_
                refine ex_aload_n dX9_rise_129 rfl ?_
                refine g_9_3 dX9_rise_130 rfl wf_X9_29 (by first | assumption | rfl) (layR_9_3 (by first | assumption | rfl)) ?_
                refine ex_iload_n dX9_rise_133 rfl ?_
                refine rx_iald dX9_rise_134 (by first | assumption | rfl) (vpi (by omega)) ?_
                rw [up2_off (show a + 7 ≠ a + 10 by omega), up2_off (show a + 7 ≠ a + 9 by omega), up2_off (show a + 7 ≠ a + 6 by omega), nI_clamp (by omega), r7, show I (a + 7) k = riC I a (k + 1) from by simp [riC]]
                refine st_i2 dX9_rise_135 (by first | exact rfl | exact trivial) ?_
                refine inc3 (v := _ + 1) dX9_rise_136 (by rfl) (by first | exact rfl | exact trivial) ?_
                refine ex_goto 4 dX9_rise_139 (by decide) ?_
                refine fg4 ?_
                rw [nI_1, ri_s]
                exact ih
              · skip
                refine ex_iload dX9_rise_110 rfl ?_
                refine ex_aload_n dX9_rise_112 rfl ?_
                refine g_9_6 dX9_rise_113 rfl wf_X9_38 (by first | assumption | rfl) (layR_9_6 (by first | assumption | rfl)) ?_
                refine ex_iload_n dX9_rise_116 rfl ?_
                refine rx_iald dX9_rise_117 (by first | assumption | rfl) (vpi (by omega)) ?_
                rw [up2_off (show a + 10 ≠ a + 9 by omega), up2_off (show a + 10 ≠ a + 6 by omega), nI_clamp (by omega), riI_ge (Nat.le_refl k)]
                refine ex_icmp_ge 129 dX9_rise_118 (by decide) (fun h118 => ?_) (fun h118 => ?_)
                · have hN : riN I a p k = I (a + 10) k := if_neg (fun q => q.elim h107 (Int32.not_lt.mpr h118))
                  refine ex_eqM (I2 := up2 (up2 (up2 (riI I a p k) (a + 6) k (riH I a p k)) (a + 9) k (riX I a p k)) (a + 10) k (riN I a p k)) (by rw [hN]; first | rfl | (rw [nI_clamp (by omega)]; done) | exact up2_id (by rw [up2_off (show a + 10 ≠ a + 9 by omega), up2_off (show a + 10 ≠ a + 6 by omega), riI_ge (Nat.le_refl k)])) ?_
                  refine ex_aload_n dX9_rise_129 rfl ?_
                  refine g_9_3 dX9_rise_130 rfl wf_X9_29 (by first | assumption | rfl) (layR_9_3 (by first | assumption | rfl)) ?_
                  refine ex_iload_n dX9_rise_133 rfl ?_
                  refine rx_iald dX9_rise_134 (by first | assumption | rfl) (vpi (by omega)) ?_
                  rw [up2_off (show a + 7 ≠ a + 10 by omega), up2_off (show a + 7 ≠ a + 9 by omega), up2_off (show a + 7 ≠ a + 6 by omega), nI_clamp (by omega), r7, show I (a + 7) k = riC I a (k + 1) from by simp [riC]]
                  refine st_i2 dX9_rise_135 (by first | exact rfl | exact trivial) ?_
                  refine inc3 (v := _ + 1) dX9_rise_136 (by rfl) (by first | exact rfl | exact trivial) ?_
                  refine ex_goto 4 dX9_rise_139 (by decide) ?_
                  refine fg4 ?_
                  rw [nI_1, ri_s]
                  exact ih
                · have hN : riN I a p k = riH I a p k := if_pos (Or.inr (Int32.not_le.mp h118))
                  refine ex_aload_n dX9_rise_121 rfl ?_
                  refine g_9_6 dX9_rise_122 rfl wf_X9_38 (by first | assumption | rfl) (layR_9_6 (by first | assumption | rfl)) ?_
                  refine ex_iload_n dX9_rise_125 rfl ?_
                  refine ex_iload dX9_rise_126 rfl ?_
                  refine rx_iast dX9_rise_128 (by first | assumption | rfl) (vpi (by omega)) ?_
                  refine ex_eqM (I2 := up2 (up2 (up2 (riI I a p k) (a + 6) k (riH I a p k)) (a + 9) k (riX I a p k)) (a + 10) k (riN I a p k)) (by rw [hN]; first | rfl | (rw [nI_clamp (by omega)]; done) | exact up2_id (by rw [up2_off (show a + 10 ≠ a + 9 by omega), up2_off (show a + 10 ≠ a + 6 by omega), riI_ge (Nat.le_refl k)])) ?_
                  refine ex_aload_n dX9_rise_129 rfl ?_
                  refine g_9_3 dX9_rise_130 rfl wf_X9_29 (by first | assumption | rfl) (layR_9_3 (by first | assumption | rfl)) ?_
                  refine ex_iload_n dX9_rise_133 rfl ?_
                  refine rx_iald dX9_rise_134 (by first | assumption | rfl) (vpi (by omega)) ?_
                  rw [up2_off (show a + 7 ≠ a + 10 by omega), up2_off (show a + 7 ≠ a + 9 by omega), up2_off (show a + 7 ≠ a + 6 by omega), nI_clamp (by omega), r7, show I (a + 7) k = riC I a (k + 1) from by simp [riC]]
                  refine st_i2 dX9_rise_135 (by first | exact rfl | exact trivial) ?_
                  refine inc3 (v := _ + 1) dX9_rise_136 (by rfl) (by first | exact rfl | exact trivial) ?_
                  refine ex_goto 4 dX9_rise_139 (by decide) ?_
                  refine fg4 ?_
                  rw [nI_1, ri_s]
                  exact ih
        · rw [r1] at h46
          refine ex_iload dX9_rise_49 rfl ?_
          refine ex_iload_n dX9_rise_51 rfl ?_
          refine ex_iload dX9_rise_52 rfl ?_
          refine ex_isub dX9_rise_54 ?_
          refine ex_aload_n dX9_rise_55 rfl ?_
          refine g_9_0 dX9_rise_56 rfl wf_X9_12 (by first | assumption | rfl) (layR_9_0 (by first | assumption | rfl)) ?_
          refine g_0_4 dX9_rise_59 rfl wf_X9_85 (by first | assumption | rfl) ?_
          refine ex_imul dX9_rise_62 ?_
          refine ex_bipush (v := 16) dX9_rise_63 (by decide) ?_
          refine ex_idiv dX9_rise_65 (by decide) ?_
          refine ex_iadd dX9_rise_66 ?_
          refine st_i4 dX9_rise_67 (by first | exact rfl | exact trivial) ?_
          simp only [nI_clamp (show k < 2 ^ 31 by omega), r1, r7, riI_ge (Nat.le_refl k)]
          first | rw [← riH_t h46] | rw [← riH_f h46]
          refine ex_aload_n dX9_rise_69 rfl ?_
          refine g_9_2 dX9_rise_70 rfl wf_X9_25 (by first | assumption | rfl) (layR_9_2 (by first | assumption | rfl)) ?_
          refine ex_iload_n dX9_rise_73 rfl ?_
          refine ex_iload dX9_rise_74 rfl ?_
          refine rx_iast dX9_rise_76 (by first | assumption | rfl) (vpi (by omega)) ?_
          refine ex_aload_n dX9_rise_77 rfl ?_
          refine g_9_7 dX9_rise_78 rfl wf_X9_41 (by first | assumption | rfl) ?_
          rw [up2_off (show a ≠ a + 6 by omega), r0]
          refine ex_if_eq 95 dX9_rise_81 (by decide) (fun h81 => ?_) (fun h81 => ?_)
          · have hX : riX I a p k = riH I a p k := if_pos (Or.inl h81)
            refine ex_aload_n dX9_rise_95 rfl ?_
            refine g_9_5 dX9_rise_96 rfl wf_X9_35 (by first | assumption | rfl) (layR_9_5 (by first | assumption | rfl)) ?_
            refine ex_iload_n dX9_rise_99 rfl ?_
            refine ex_iload dX9_rise_100 rfl ?_
            refine rx_iast dX9_rise_102 (by first | assumption | rfl) (vpi (by omega)) ?_
            refine ex_eqM (I2 := up2 (up2 (riI I a p k) (a + 6) k (riH I a p k)) (a + 9) k (riX I a p k)) (by rw [hX]; first | (rw [nI_clamp (by omega)]; done) | exact up2_id (by rw [up2_off (show a + 9 ≠ a + 6 by omega), riI_ge (Nat.le_refl k)])) ?_
            refine ex_aload_n dX9_rise_103 rfl ?_
            refine g_9_7 dX9_rise_104 rfl wf_X9_41 (by first | assumption | rfl) ?_
            rw [up2_off (show a ≠ a + 9 by omega), up2_off (show a ≠ a + 6 by omega), r0]
            refine ex_if_eq 121 dX9_rise_107 (by decide) (fun h107 => ?_) (fun h107 => ?_)
            · have hN : riN I a p k = riH I a p k := if_pos (Or.inl h107)
              refine ex_aload_n dX9_rise_121 rfl ?_
              refine g_9_6 dX9_rise_122 rfl wf_X9_38 (by first | assumption | rfl) (layR_9_6 (by first | assumption | rfl)) ?_
              refine ex_iload_n dX9_rise_125 rfl ?_
              refine ex_iload dX9_rise_126 rfl ?_
              refine rx_iast dX9_rise_128 (by first | assumption | rfl) (vpi (by omega)) ?_
              refine ex_eqM (I2 := up2 (up2 (up2 (riI I a p k) (a + 6) k (riH I a p k)) (a + 9) k (riX I a p k)) (a + 10) k (riN I a p k)) (by rw [hN]; first | rfl | (rw [nI_clamp (by omega)]; done) | exact up2_id (by rw [up2_off (show a + 10 ≠ a + 9 by omega), up2_off (show a + 10 ≠ a + 6 by omega), riI_ge (Nat.le_refl k)])) ?_
              refine ex_aload_n dX9_rise_129 rfl ?_
              refine g_9_3 dX9_rise_130 rfl wf_X9_29 (by first | assumption | rfl) (layR_9_3 (by first | assumption | rfl)) ?_
              refine ex_iload_n dX9_rise_133 rfl ?_
              refine rx_iald dX9_rise_134 (by first | assumption | rfl) (vpi (by omega)) ?_
              rw [up2_off (show a + 7 ≠ a + 10 by omega), up2_off (show a + 7 ≠ a + 9 by omega), up2_off (show a + 7 ≠ a + 6 by omega), nI_clamp (by omega), r7, show I (a + 7) k = riC I a (k + 1) from by simp [riC]]
              refine st_i2 dX9_rise_135 (by first | exact rfl | exact trivial) ?_
              refine inc3 (v := _ + 1) dX9_rise_136 (by rfl) (by first | exact rfl | exact trivial) ?_
              refine ex_goto 4 dX9_rise_139 (by decide) ?_
              refine fg4 ?_
              rw [nI_1, ri_s]
              exact ih
            · skip
              refine ex_iload dX9_rise_110 rfl ?_
              refine ex_aload_n dX9_rise_112 rfl ?_
              refine g_9_6 dX9_rise_113 rfl wf_X9_38 (by first | assumption | rfl) (layR_9_6 (by first | assumption | rfl)) ?_
              refine ex_iload_n dX9_rise_116 rfl ?_
              refine rx_iald dX9_rise_117 (by first | assumption | rfl) (vpi (by omega)) ?_
              rw [up2_off (show a + 10 ≠ a + 9 by omega), up2_off (show a + 10 ≠ a + 6 by omega), nI_clamp (by omega), riI_ge (Nat.le_refl k)]
              refine ex_icmp_ge 129 dX9_rise_118 (by decide) (fun h118 => ?_) (fun h118 => ?_)
              · have hN : riN I a p k = I (a + 10) k := if_neg (fun q => q.elim h107 (Int32.not_lt.mpr h118))
                refine ex_eqM (I2 := up2 (up2 (up2 (riI I a p k) (a + 6) k (riH I a p k)) (a + 9) k (riX I a p k)) (a + 10) k (riN I a p k)) (by rw [hN]; first | rfl | (rw [nI_clamp (by omega)]; done) | exact up2_id (by rw [up2_off (show a + 10 ≠ a + 9 by omega), up2_off (show a + 10 ≠ a + 6 by omega), riI_ge (Nat.le_refl k)])) ?_
                refine ex_aload_n dX9_rise_129 rfl ?_
                refine g_9_3 dX9_rise_130 rfl wf_X9_29 (by first | assumption | rfl) (layR_9_3 (by first | assumption | rfl)) ?_
                refine ex_iload_n dX9_rise_133 rfl ?_
                refine rx_iald dX9_rise_134 (by first | assumption | rfl) (vpi (by omega)) ?_
                rw [up2_off (show a + 7 ≠ a + 10 by omega), up2_off (show a + 7 ≠ a + 9 by omega), up2_off (show a + 7 ≠ a + 6 by omega), nI_clamp (by omega), r7, show I (a + 7) k = riC I a (k + 1) from by simp [riC]]
                refine st_i2 dX9_rise_135 (by first | exact rfl | exact trivial) ?_
                refine inc3 (v := _ + 1) dX9_rise_136 (by rfl) (by first | exact rfl | exact trivial) ?_
                refine ex_goto 4 dX9_rise_139 (by decide) ?_
                refine fg4 ?_
                rw [nI_1, ri_s]
                exact ih
              · have hN : riN I a p k = riH I a p k := if_pos (Or.inr (Int32.not_le.mp h118))
                refine ex_aload_n dX9_rise_121 rfl ?_
                refine g_9_6 dX9_rise_122 rfl wf_X9_38 (by first | assumption | rfl) (layR_9_6 (by first | assumption | rfl)) ?_
                refine ex_iload_n dX9_rise_125 rfl ?_
                refine ex_iload dX9_rise_126 rfl ?_
                refine rx_iast dX9_rise_128 (by first | assumption | rfl) (vpi (by omega)) ?_
                refine ex_eqM (I2 := up2 (up2 (up2 (riI I a p k) (a + 6) k (riH I a p k)) (a + 9) k (riX I a p k)) (a + 10) k (riN I a p k)) (by rw [hN]; first | rfl | (rw [nI_clamp (by omega)]; done) | exact up2_id (by rw [up2_off (show a + 10 ≠ a + 9 by omega), up2_off (show a + 10 ≠ a + 6 by omega), riI_ge (Nat.le_refl k)])) ?_
                refine ex_aload_n dX9_rise_129 rfl ?_
                refine g_9_3 dX9_rise_130 rfl wf_X9_29 (by first | assumption | rfl) (layR_9_3 (by first | assumption | rfl)) ?_
                refine ex_iload_n dX9_rise_133 rfl ?_
                refine rx_iald dX9_rise_134 (by first | assumption | rfl) (vpi (by omega)) ?_
                rw [up2_off (show a + 7 ≠ a + 10 by omega), up2_off (show a + 7 ≠ a + 9 by omega), up2_off (show a + 7 ≠ a + 6 by omega), nI_clamp (by omega), r7, show I (a + 7) k = riC I a (k + 1) from by simp [riC]]
                refine st_i2 dX9_rise_135 (by first | exact rfl | exact trivial) ?_
                refine inc3 (v := _ + 1) dX9_rise_136 (by rfl) (by first | exact rfl | exact trivial) ?_
                refine ex_goto 4 dX9_rise_139 (by decide) ?_
                refine fg4 ?_
                rw [nI_1, ri_s]
                exact ih
          · skip
            refine ex_iload dX9_rise_84 rfl ?_
            refine ex_aload_n dX9_rise_86 rfl ?_
            refine g_9_5 dX9_rise_87 rfl wf_X9_35 (by first | assumption | rfl) (layR_9_5 (by first | assumption | rfl)) ?_
            refine ex_iload_n dX9_rise_90 rfl ?_
            refine rx_iald dX9_rise_91 (by first | assumption | rfl) (vpi (by omega)) ?_
            rw [up2_off (show a + 9 ≠ a + 6 by omega), nI_clamp (by omega), riI_ge (Nat.le_refl k)]
            refine ex_icmp_le 103 dX9_rise_92 (by decide) (fun h92 => ?_) (fun h92 => ?_)
            · have hX : riX I a p k = I (a + 9) k := if_neg (fun q => q.elim h81 (Int32.not_lt.mpr h92))
              refine ex_eqM (I2 := up2 (up2 (riI I a p k) (a + 6) k (riH I a p k)) (a + 9) k (riX I a p k)) (by rw [hX]; first | (rw [nI_clamp (by omega)]; done) | exact up2_id (by rw [up2_off (show a + 9 ≠ a + 6 by omega), riI_ge (Nat.le_refl k)])) ?_
              refine ex_aload_n dX9_rise_103 rfl ?_
              refine g_9_7 dX9_rise_104 rfl wf_X9_41 (by first | assumption | rfl) ?_
              rw [up2_off (show a ≠ a + 9 by omega), up2_off (show a ≠ a + 6 by omega), r0]
              refine ex_if_eq 121 dX9_rise_107 (by decide) (fun h107 => ?_) (fun h107 => ?_)
              · have hN : riN I a p k = riH I a p k := if_pos (Or.inl h107)
                refine ex_aload_n dX9_rise_121 rfl ?_
                refine g_9_6 dX9_rise_122 rfl wf_X9_38 (by first | assumption | rfl) (layR_9_6 (by first | assumption | rfl)) ?_
                refine ex_iload_n dX9_rise_125 rfl ?_
                refine ex_iload dX9_rise_126 rfl ?_
                refine rx_iast dX9_rise_128 (by first | assumption | rfl) (vpi (by omega)) ?_
                refine ex_eqM (I2 := up2 (up2 (up2 (riI I a p k) (a + 6) k (riH I a p k)) (a + 9) k (riX I a p k)) (a + 10) k (riN I a p k)) (by rw [hN]; first | rfl | (rw [nI_clamp (by omega)]; done) | exact up2_id (by rw [up2_off (show a + 10 ≠ a + 9 by omega), up2_off (show a + 10 ≠ a + 6 by omega), riI_ge (Nat.le_refl k)])) ?_
                refine ex_aload_n dX9_rise_129 rfl ?_
                refine g_9_3 dX9_rise_130 rfl wf_X9_29 (by first | assumption | rfl) (layR_9_3 (by first | assumption | rfl)) ?_
                refine ex_iload_n dX9_rise_133 rfl ?_
                refine rx_iald dX9_rise_134 (by first | assumption | rfl) (vpi (by omega)) ?_
                rw [up2_off (show a + 7 ≠ a + 10 by omega), up2_off (show a + 7 ≠ a + 9 by omega), up2_off (show a + 7 ≠ a + 6 by omega), nI_clamp (by omega), r7, show I (a + 7) k = riC I a (k + 1) from by simp [riC]]
                refine st_i2 dX9_rise_135 (by first | exact rfl | exact trivial) ?_
                refine inc3 (v := _ + 1) dX9_rise_136 (by rfl) (by first | exact rfl | exact trivial) ?_
                refine ex_goto 4 dX9_rise_139 (by decide) ?_
                refine fg4 ?_
                rw [nI_1, ri_s]
                exact ih
              · skip
                refine ex_iload dX9_rise_110 rfl ?_
                refine ex_aload_n dX9_rise_112 rfl ?_
                refine g_9_6 dX9_rise_113 rfl wf_X9_38 (by first | assumption | rfl) (layR_9_6 (by first | assumption | rfl)) ?_
                refine ex_iload_n dX9_rise_116 rfl ?_
                refine rx_iald dX9_rise_117 (by first | assumption | rfl) (vpi (by omega)) ?_
                rw [up2_off (show a + 10 ≠ a + 9 by omega), up2_off (show a + 10 ≠ a + 6 by omega), nI_clamp (by omega), riI_ge (Nat.le_refl k)]
                refine ex_icmp_ge 129 dX9_rise_118 (by decide) (fun h118 => ?_) (fun h118 => ?_)
                · have hN : riN I a p k = I (a + 10) k := if_neg (fun q => q.elim h107 (Int32.not_lt.mpr h118))
                  refine ex_eqM (I2 := up2 (up2 (up2 (riI I a p k) (a + 6) k (riH I a p k)) (a + 9) k (riX I a p k)) (a + 10) k (riN I a p k)) (by rw [hN]; first | rfl | (rw [nI_clamp (by omega)]; done) | exact up2_id (by rw [up2_off (show a + 10 ≠ a + 9 by omega), up2_off (show a + 10 ≠ a + 6 by omega), riI_ge (Nat.le_refl k)])) ?_
                  refine ex_aload_n dX9_rise_129 rfl ?_
                  refine g_9_3 dX9_rise_130 rfl wf_X9_29 (by first | assumption | rfl) (layR_9_3 (by first | assumption | rfl)) ?_
                  refine ex_iload_n dX9_rise_133 rfl ?_
                  refine rx_iald dX9_rise_134 (by first | assumption | rfl) (vpi (by omega)) ?_
                  rw [up2_off (show a + 7 ≠ a + 10 by omega), up2_off (show a + 7 ≠ a + 9 by omega), up2_off (show a + 7 ≠ a + 6 by omega), nI_clamp (by omega), r7, show I (a + 7) k = riC I a (k + 1) from by simp [riC]]
                  refine st_i2 dX9_rise_135 (by first | exact rfl | exact trivial) ?_
                  refine inc3 (v := _ + 1) dX9_rise_136 (by rfl) (by first | exact rfl | exact trivial) ?_
                  refine ex_goto 4 dX9_rise_139 (by decide) ?_
                  refine fg4 ?_
                  rw [nI_1, ri_s]
                  exact ih
                · have hN : riN I a p k = riH I a p k := if_pos (Or.inr (Int32.not_le.mp h118))
                  refine ex_aload_n dX9_rise_121 rfl ?_
                  refine g_9_6 dX9_rise_122 rfl wf_X9_38 (by first | assumption | rfl) (layR_9_6 (by first | assumption | rfl)) ?_
                  refine ex_iload_n dX9_rise_125 rfl ?_
                  refine ex_iload dX9_rise_126 rfl ?_
                  refine rx_iast dX9_rise_128 (by first | assumption | rfl) (vpi (by omega)) ?_
                  refine ex_eqM (I2 := up2 (up2 (up2 (riI I a p k) (a + 6) k (riH I a p k)) (a + 9) k (riX I a p k)) (a + 10) k (riN I a p k)) (by rw [hN]; first | rfl | (rw [nI_clamp (by omega)]; done) | exact up2_id (by rw [up2_off (show a + 10 ≠ a + 9 by omega), up2_off (show a + 10 ≠ a + 6 by omega), riI_ge (Nat.le_refl k)])) ?_
                  refine ex_aload_n dX9_rise_129 rfl ?_
                  refine g_9_3 dX9_rise_130 rfl wf_X9_29 (by first | assumption | rfl) (layR_9_3 (by first | assumption | rfl)) ?_
                  refine ex_iload_n dX9_rise_133 rfl ?_
                  refine rx_iald dX9_rise_134 (by first | assumption | rfl) (vpi (by omega)) ?_
                  rw [up2_off (show a + 7 ≠ a + 10 by omega), up2_off (show a + 7 ≠ a + 9 by omega), up2_off (show a + 7 ≠ a + 6 by omega), nI_clamp (by omega), r7, show I (a + 7) k = riC I a (k + 1) from by simp [riC]]
                  refine st_i2 dX9_rise_135 (by first | exact rfl | exact trivial) ?_
                  refine inc3 (v := _ + 1) dX9_rise_136 (by rfl) (by first | exact rfl | exact trivial) ?_
                  refine ex_goto 4 dX9_rise_139 (by decide) ?_
                  refine fg4 ?_
                  rw [nI_1, ri_s]
                  exact ih
            · have hX : riX I a p k = riH I a p k := if_pos (Or.inr (Int32.not_le.mp h92))
              refine ex_aload_n dX9_rise_95 rfl ?_
              refine g_9_5 dX9_rise_96 rfl wf_X9_35 (by first | assumption | rfl) (layR_9_5 (by first | assumption | rfl)) ?_
              refine ex_iload_n dX9_rise_99 rfl ?_
              refine ex_iload dX9_rise_100 rfl ?_
              refine rx_iast dX9_rise_102 (by first | assumption | rfl) (vpi (by omega)) ?_
              refine ex_eqM (I2 := up2 (up2 (riI I a p k) (a + 6) k (riH I a p k)) (a + 9) k (riX I a p k)) (by rw [hX]; first | (rw [nI_clamp (by omega)]; done) | exact up2_id (by rw [up2_off (show a + 9 ≠ a + 6 by omega), riI_ge (Nat.le_refl k)])) ?_
              refine ex_aload_n dX9_rise_103 rfl ?_
              refine g_9_7 dX9_rise_104 rfl wf_X9_41 (by first | assumption | rfl) ?_
              rw [up2_off (show a ≠ a + 9 by omega), up2_off (show a ≠ a + 6 by omega), r0]
              refine ex_if_eq 121 dX9_rise_107 (by decide) (fun h107 => ?_) (fun h107 => ?_)
              · have hN : riN I a p k = riH I a p k := if_pos (Or.inl h107)
                refine ex_aload_n dX9_rise_121 rfl ?_
                refine g_9_6 dX9_rise_122 rfl wf_X9_38 (by first | assumption | rfl) (layR_9_6 (by first | assumption | rfl)) ?_
                refine ex_iload_n dX9_rise_125 rfl ?_
                refine ex_iload dX9_rise_126 rfl ?_
                refine rx_iast dX9_rise_128 (by first | assumption | rfl) (vpi (by omega)) ?_
                refine ex_eqM (I2 := up2 (up2 (up2 (riI I a p k) (a + 6) k (riH I a p k)) (a + 9) k (riX I a p k)) (a + 10) k (riN I a p k)) (by rw [hN]; first | rfl | (rw [nI_clamp (by omega)]; done) | exact up2_id (by rw [up2_off (show a + 10 ≠ a + 9 by omega), up2_off (show a + 10 ≠ a + 6 by omega), riI_ge (Nat.le_refl k)])) ?_
                refine ex_aload_n dX9_rise_129 rfl ?_
                refine g_9_3 dX9_rise_130 rfl wf_X9_29 (by first | assumption | rfl) (layR_9_3 (by first | assumption | rfl)) ?_
                refine ex_iload_n dX9_rise_133 rfl ?_
                refine rx_iald dX9_rise_134 (by first | assumption | rfl) (vpi (by omega)) ?_
                rw [up2_off (show a + 7 ≠ a + 10 by omega), up2_off (show a + 7 ≠ a + 9 by omega), up2_off (show a + 7 ≠ a + 6 by omega), nI_clamp (by omega), r7, show I (a + 7) k = riC I a (k + 1) from by simp [riC]]
                refine st_i2 dX9_rise_135 (by first | exact rfl | exact trivial) ?_
                refine inc3 (v := _ + 1) dX9_rise_136 (by rfl) (by first | exact rfl | exact trivial) ?_
                refine ex_goto 4 dX9_rise_139 (by decide) ?_
                refine fg4 ?_
                rw [nI_1, ri_s]
                exact ih
              · skip
                refine ex_iload dX9_rise_110 rfl ?_
                refine ex_aload_n dX9_rise_112 rfl ?_
                refine g_9_6 dX9_rise_113 rfl wf_X9_38 (by first | assumption | rfl) (layR_9_6 (by first | assumption | rfl)) ?_
                refine ex_iload_n dX9_rise_116 rfl ?_
                refine rx_iald dX9_rise_117 (by first | assumption | rfl) (vpi (by omega)) ?_
                rw [up2_off (show a + 10 ≠ a + 9 by omega), up2_off (show a + 10 ≠ a + 6 by omega), nI_clamp (by omega), riI_ge (Nat.le_refl k)]
                refine ex_icmp_ge 129 dX9_rise_118 (by decide) (fun h118 => ?_) (fun h118 => ?_)
                · have hN : riN I a p k = I (a + 10) k := if_neg (fun q => q.elim h107 (Int32.not_lt.mpr h118))
                  refine ex_eqM (I2 := up2 (up2 (up2 (riI I a p k) (a + 6) k (riH I a p k)) (a + 9) k (riX I a p k)) (a + 10) k (riN I a p k)) (by rw [hN]; first | rfl | (rw [nI_clamp (by omega)]; done) | exact up2_id (by rw [up2_off (show a + 10 ≠ a + 9 by omega), up2_off (show a + 10 ≠ a + 6 by omega), riI_ge (Nat.le_refl k)])) ?_
                  refine ex_aload_n dX9_rise_129 rfl ?_
                  refine g_9_3 dX9_rise_130 rfl wf_X9_29 (by first | assumption | rfl) (layR_9_3 (by first | assumption | rfl)) ?_
                  refine ex_iload_n dX9_rise_133 rfl ?_
                  refine rx_iald dX9_rise_134 (by first | assumption | rfl) (vpi (by omega)) ?_
                  rw [up2_off (show a + 7 ≠ a + 10 by omega), up2_off (show a + 7 ≠ a + 9 by omega), up2_off (show a + 7 ≠ a + 6 by omega), nI_clamp (by omega), r7, show I (a + 7) k = riC I a (k + 1) from by simp [riC]]
                  refine st_i2 dX9_rise_135 (by first | exact rfl | exact trivial) ?_
                  refine inc3 (v := _ + 1) dX9_rise_136 (by rfl) (by first | exact rfl | exact trivial) ?_
                  refine ex_goto 4 dX9_rise_139 (by decide) ?_
                  refine fg4 ?_
                  rw [nI_1, ri_s]
                  exact ih
                · have hN : riN I a p k = riH I a p k := if_pos (Or.inr (Int32.not_le.mp h118))
                  refine ex_aload_n dX9_rise_121 rfl ?_
                  refine g_9_6 dX9_rise_122 rfl wf_X9_38 (by first | assumption | rfl) (layR_9_6 (by first | assumption | rfl)) ?_
                  refine ex_iload_n dX9_rise_125 rfl ?_
                  refine ex_iload dX9_rise_126 rfl ?_
                  refine rx_iast dX9_rise_128 (by first | assumption | rfl) (vpi (by omega)) ?_
                  refine ex_eqM (I2 := up2 (up2 (up2 (riI I a p k) (a + 6) k (riH I a p k)) (a + 9) k (riX I a p k)) (a + 10) k (riN I a p k)) (by rw [hN]; first | rfl | (rw [nI_clamp (by omega)]; done) | exact up2_id (by rw [up2_off (show a + 10 ≠ a + 9 by omega), up2_off (show a + 10 ≠ a + 6 by omega), riI_ge (Nat.le_refl k)])) ?_
                  refine ex_aload_n dX9_rise_129 rfl ?_
                  refine g_9_3 dX9_rise_130 rfl wf_X9_29 (by first | assumption | rfl) (layR_9_3 (by first | assumption | rfl)) ?_
                  refine ex_iload_n dX9_rise_133 rfl ?_
                  refine rx_iald dX9_rise_134 (by first | assumption | rfl) (vpi (by omega)) ?_
                  rw [up2_off (show a + 7 ≠ a + 10 by omega), up2_off (show a + 7 ≠ a + 9 by omega), up2_off (show a + 7 ≠ a + 6 by omega), nI_clamp (by omega), r7, show I (a + 7) k = riC I a (k + 1) from by simp [riC]]
                  refine st_i2 dX9_rise_135 (by first | exact rfl | exact trivial) ?_
                  refine inc3 (v := _ + 1) dX9_rise_136 (by rfl) (by first | exact rfl | exact trivial) ?_
                  refine ex_goto 4 dX9_rise_139 (by decide) ?_
                  refine fg4 ?_
                  rw [nI_1, ri_s]
                  exact ih
  · skip
    have r1 : ∀ j, riI I a p n (a + 1) j = I (a + 1) j := fun j => riI_off (by omega) (by omega) (by omega)
    have r7 : ∀ j, riI I a p n (a + 7) j = I (a + 7) j := fun j => riI_off (by omega) (by omega) (by omega)
    have r0 : ∀ j, riI I a p n a j = I a j := fun j => riI_off (by omega) (by omega) (by omega)
    have hs : riI I a p n (a + 1) 2 = nI n := by rw [r1, hc]
    refine ex_iload_n dX9_rise_4 rfl ?_
    refine ex_aload_n dX9_rise_5 rfl ?_
    refine g_9_0 dX9_rise_6 rfl wf_X9_12 (by first | assumption | rfl) (layR_9_0 (by first | assumption | rfl)) ?_
    refine g_0_2 dX9_rise_9 rfl wf_X9_76 (by first | assumption | rfl) ?_
    refine ex_icmp_ge 142 dX9_rise_12 (by decide) (fun h12 => ?_) (fun h12 => ?_)
    · skip
      refine ex_vret dX9_rise_142 rfl ⟨rfl, Nat.le_refl _⟩ ?_
      exact ⟨rfl, rfl⟩
    · exact absurd (by rw [hs]; exact Int32.le_refl _) h12
theorem waStream_off {a n c j : Nat} (h : c ≠ a + 7) : waStream I a n c j = I c j := fillg_off h
set_option maxRecDepth 100000 in
set_option maxHeartbeats 4000000 in
theorem s_X9_pass {a n c : Nat} (ha : K0 a = (9, 8)) (hn3 : 3 ≤ n) (hn : n ≤ 16) (hc : I (a + 1) 2 = nI n) (hs3 : I (a + 3) 3 = nI c) (hc4 : c ≤ 4) : Ca G mdX9_pass [.ref a] (mk I L t) (Rv (mk (waPass I a n c) L t)) := by
  refine Ca.intro [some (.ref a)] (by decide) (Nat.le_of_ble_eq_true rfl) rfl rfl ?_
  have hk1 : K0 (a + 1) = (0, 7) := (lay9k ha).1
  have hk3 : K0 (a + 3) = (8, 4) := (lay9k ha).2.1
  have hk6 : K0 (a + 6) = (14, 16) := (lay9k ha).2.2.1
  have hk7 : K0 (a + 7) = (14, 16) := (lay9k ha).2.2.2.1
  have hk8 : K0 (a + 8) = (14, 16) := (lay9k ha).2.2.2.2.1
  have hk9 : K0 (a + 9) = (14, 16) := (lay9k ha).2.2.2.2.2.1
  have hk10 : K0 (a + 10) = (14, 16) := (lay9k ha).2.2.2.2.2.2
  have hk2 : K0 (a + 2) = (14, 16) := (lay0 hk1).2
  refine ex_aload_n dX9_pass_0 rfl ?_
  refine rx_cV (kd := 9) dX9_pass_1 rfl lk_X9_66 rfl (by decide) (by first | assumption | rfl) ⟨⟨rfl, rfl⟩, by decide, by decide⟩ rfl (Nat.le_of_ble_eq_true rfl) rfl (s_X9_stream ha hn3 hn hc) (Rv.k ?_)
  refine ex_aload_n dX9_pass_4 rfl ?_
  refine ex_aload_n dX9_pass_5 rfl ?_
  refine g_9_1 dX9_pass_6 rfl wf_X9_21 (by first | assumption | rfl) (layR_9_1 (by first | assumption | rfl)) ?_
  refine ex_aload_n dX9_pass_9 rfl ?_
  refine g_9_7 dX9_pass_10 rfl wf_X9_41 (by first | assumption | rfl) ?_
  refine rx_cV (kd := 8) dX9_pass_13 rfl lk_X9_69 rfl (by decide) (by first | assumption | rfl) ⟨⟨rfl, rfl⟩, by decide, by decide⟩ rfl (Nat.le_of_ble_eq_true rfl) rfl (s_X8_pushAt (c := c) hk3 (by rw [waStream_off (by omega)]; exact hs3) hc4) (Rs.k ?_)
  refine rx_cV (kd := 9) dX9_pass_16 rfl lk_X9_72 rfl (by decide) (by first | assumption | rfl) ⟨⟨rfl, rfl⟩, by decide, by decide⟩ rfl (Nat.le_of_ble_eq_true rfl) rfl (s_X9_rise ha hn3 hn (by rw [waStream_off (by omega)]; exact hc)) (Rv.k ?_)
  refine ex_aload_n dX9_pass_19 rfl ?_
  refine ex_dup dX9_pass_20 rfl ?_
  refine g_9_7 dX9_pass_21 rfl wf_X9_41 (by first | assumption | rfl) ?_
  refine ex_iconst (v := 1) dX9_pass_24 (by decide) ?_
  refine ex_iadd dX9_pass_25 ?_
  refine p_9_7 dX9_pass_26 rfl wf_X9_41 (by first | assumption | rfl) ?_
  refine ex_vret dX9_pass_29 rfl ⟨rfl, Nat.le_refl _⟩ ?_
  exact ⟨rfl, rfl⟩
set_option maxRecDepth 100000 in
set_option maxHeartbeats 4000000 in
theorem s_X9_lift {a : Nat} {k h : Int32} (ha : K0 a = (9, 8)) : Ca G mdX9_lift [.ref a, .int k, .int h] (mk I L t) (Rv (mk (waLift I a k h) L t)) := by
  refine Ca.intro [some (.ref a), some (.int k), some (.int h)] (by decide) (Nat.le_of_ble_eq_true rfl) rfl rfl ?_
  have hk1 : K0 (a + 1) = (0, 7) := (lay9k ha).1
  have hk3 : K0 (a + 3) = (8, 4) := (lay9k ha).2.1
  have hk6 : K0 (a + 6) = (14, 16) := (lay9k ha).2.2.1
  have hk7 : K0 (a + 7) = (14, 16) := (lay9k ha).2.2.2.1
  have hk8 : K0 (a + 8) = (14, 16) := (lay9k ha).2.2.2.2.1
  have hk9 : K0 (a + 9) = (14, 16) := (lay9k ha).2.2.2.2.2.1
  have hk10 : K0 (a + 10) = (14, 16) := (lay9k ha).2.2.2.2.2.2
  have hk2 : K0 (a + 2) = (14, 16) := (lay0 hk1).2
  refine ex_aload_n dX9_lift_0 rfl ?_
  refine g_9_0 dX9_lift_1 rfl wf_X9_12 (by first | assumption | rfl) (layR_9_0 (by first | assumption | rfl)) ?_
  refine ex_iload_n dX9_lift_4 rfl ?_
  refine rx_cV (kd := 0) dX9_lift_5 rfl lk_X9_56 rfl (by decide) (by first | assumption | rfl) ⟨⟨rfl, rfl⟩, by decide, by decide⟩ rfl (Nat.le_of_ble_eq_true rfl) rfl (s_X0_hasCell hk1) (Rs.k ?_)
  refine ex_if_eq 18 dX9_lift_8 (by decide) (fun h8 => ?_) (fun h8 => ?_)
  · skip
    refine ex_vret dX9_lift_18 rfl ⟨rfl, Nat.le_refl _⟩ ?_
    first | exact ⟨rfl, by rw [waLift, if_pos (b2i_n0.mp h8)]⟩ | exact ⟨rfl, by rw [waLift, if_neg (b2i_0.mp h8)]⟩
  · skip
    refine ex_aload_n dX9_lift_11 rfl ?_
    refine g_9_2 dX9_lift_12 rfl wf_X9_25 (by first | assumption | rfl) (layR_9_2 (by first | assumption | rfl)) ?_
    refine ex_iload_n dX9_lift_15 rfl ?_
    refine ex_iload_n dX9_lift_16 rfl ?_
    refine rx_iast dX9_lift_17 (by first | assumption | rfl) (in16 (b2i_n0.mp h8).1 (b2i_n0.mp h8).2.2) ?_
    refine ex_vret dX9_lift_18 rfl ⟨rfl, Nat.le_refl _⟩ ?_
    first | exact ⟨rfl, by rw [waLift, if_pos (b2i_n0.mp h8)]⟩ | exact ⟨rfl, by rw [waLift, if_neg (b2i_0.mp h8)]⟩
theorem beI_ge {J : Im} {a k c j : Nat} (h : k ≤ j) : beI J a k c j = J c j := if_neg (by omega)
theorem beI_off {J : Im} {a k c : Nat} (h6 : c ≠ a + 6) (h7 : c ≠ a + 7) (h8 : c ≠ a + 8) (h9 : c ≠ a + 9) (h10 : c ≠ a + 10) : beI J a k c = J c := by
  funext j
  simp [beI, h6, h7, h8, h9, h10]
theorem be_s {J : Im} {a k : Nat} : up2 (up2 (up2 (up2 (up2 (beI J a k) (a + 6) k 0) (a + 7) k 0) (a + 9) k 0) (a + 10) k 0) (a + 8) k (opn J (a + 1) k) = beI J a (k + 1) := by
  funext c j
  by_cases hj : j = k
  · subst hj
    by_cases c6 : c = a + 6
    · subst c6
      simp [beI, up2]
    · by_cases c7 : c = a + 7
      · subst c7
        simp [beI, up2]
      · by_cases c9 : c = a + 9
        · subst c9
          simp [beI, up2]
        · by_cases c10 : c = a + 10
          · subst c10
            simp [beI, up2]
          · by_cases c8 : c = a + 8
            · subst c8
              simp [beI, up2]
            · simp [beI, up2, c6, c7, c8, c9, c10]
  · have e : (j < k + 1) = (j < k) := propext ⟨fun q => by omega, fun q => by omega⟩
    simp [beI, up2, hj, e]
set_option maxRecDepth 100000 in
set_option maxHeartbeats 4000000 in
theorem s_X9_begin {a b s : Nat} (ha : K0 a = (9, 8)) (hb : K0 b = (0, 7)) (hs : K0 s = (8, 4)) (hz1 : I b 1 = 0 ∨ I b 1 = 1) (hz2 : I s 2 = 0 ∨ I s 2 = 1) : Ca G mdX9_begin [.ref a, .ref b, .ref s] (mk I L t) (Rv (mk (waBegin I a b s) L t)) := by
  refine Ca.intro [some (.ref a), some (.ref b), some (.ref s), none] (by decide) (Nat.le_of_ble_eq_true rfl) rfl rfl ?_
  have hk1 : K0 (a + 1) = (0, 7) := (lay9k ha).1
  have hk3 : K0 (a + 3) = (8, 4) := (lay9k ha).2.1
  have hk6 : K0 (a + 6) = (14, 16) := (lay9k ha).2.2.1
  have hk7 : K0 (a + 7) = (14, 16) := (lay9k ha).2.2.2.1
  have hk8 : K0 (a + 8) = (14, 16) := (lay9k ha).2.2.2.2.1
  have hk9 : K0 (a + 9) = (14, 16) := (lay9k ha).2.2.2.2.2.1
  have hk10 : K0 (a + 10) = (14, 16) := (lay9k ha).2.2.2.2.2.2
  have hk2 : K0 (a + 2) = (14, 16) := (lay0 hk1).2
  refine ex_aload_n dX9_begin_0 rfl ?_
  refine g_9_0 dX9_begin_1 rfl wf_X9_12 (by first | assumption | rfl) (layR_9_0 (by first | assumption | rfl)) ?_
  refine ex_aload_n dX9_begin_4 rfl ?_
  refine rx_cV (kd := 0) dX9_begin_5 rfl lk_X9_45 rfl (by decide) (by first | assumption | rfl) ⟨⟨rfl, rfl⟩, by decide, by decide⟩ rfl (Nat.le_of_ble_eq_true rfl) rfl (s_X0_take hk1 hb hz1) (Rv.k ?_)
  refine ex_aload_n dX9_begin_8 rfl ?_
  refine g_9_1 dX9_begin_9 rfl wf_X9_21 (by first | assumption | rfl) (layR_9_1 (by first | assumption | rfl)) ?_
  refine ex_aload_n dX9_begin_12 rfl ?_
  refine rx_cV (kd := 8) dX9_begin_13 rfl lk_X9_49 rfl (by decide) (by first | assumption | rfl) ⟨⟨rfl, rfl⟩, by decide, by decide⟩ rfl (Nat.le_of_ble_eq_true rfl) rfl (s_X8_take hk3 hs (by rw [baTake_off (K0ne hs hk1 (by decide)) (K0ne hs hk2 (by decide))]; exact hz2)) (Rv.k ?_)
  refine ex_aload_n dX9_begin_16 rfl ?_
  refine ex_iconst (v := 0) dX9_begin_17 (by decide) ?_
  refine p_9_7 dX9_begin_18 rfl wf_X9_41 (by first | assumption | rfl) ?_
  refine ex_iconst (v := 0) dX9_begin_21 (by decide) ?_
  refine st_i3 dX9_begin_22 (by first | exact rfl | exact trivial) ?_
  have key := loop_up (G := G) (d := mdX9_begin) (pc := 23) (st := []) (uc := 0) (us := 0) (P := Rv (mk (waBegin I a b s) L t)) 16 (fun k => mk (beI (be0 I a b s) a k) L t) (fun k => [some (.ref a), some (.ref b), some (.ref s), some (.int (nI k))]) ?_ ?_ 0 (Nat.zero_le _)
  · have e0 : beI (be0 I a b s) a 0 = be0 I a b s := by funext c j; simp [beI]
    simp only [e0] at key
    exact key
  · intro k hk ih
    refine ex_iload_n dX9_begin_23 rfl ?_
    refine ex_bipush (v := 16) dX9_begin_24 (by decide) ?_
    refine ex_icmp_ge 77 dX9_begin_26 (by decide) (fun h26 => ?_) (fun h26 => ?_)
    · exact absurd h26 (nI_ge hk (by decide))
    · skip
      refine ex_aload_n dX9_begin_29 rfl ?_
      refine g_9_2 dX9_begin_30 rfl wf_X9_25 (by first | assumption | rfl) (layR_9_2 (by first | assumption | rfl)) ?_
      refine ex_iload_n dX9_begin_33 rfl ?_
      refine ex_iconst (v := 0) dX9_begin_34 (by decide) ?_
      refine rx_iast dX9_begin_35 (by first | assumption | rfl) (vpi (by omega)) ?_
      refine ex_aload_n dX9_begin_36 rfl ?_
      refine g_9_3 dX9_begin_37 rfl wf_X9_29 (by first | assumption | rfl) (layR_9_3 (by first | assumption | rfl)) ?_
      refine ex_iload_n dX9_begin_40 rfl ?_
      refine ex_iconst (v := 0) dX9_begin_41 (by decide) ?_
      refine rx_iast dX9_begin_42 (by first | assumption | rfl) (vpi (by omega)) ?_
      refine ex_aload_n dX9_begin_43 rfl ?_
      refine g_9_5 dX9_begin_44 rfl wf_X9_35 (by first | assumption | rfl) (layR_9_5 (by first | assumption | rfl)) ?_
      refine ex_iload_n dX9_begin_47 rfl ?_
      refine ex_iconst (v := 0) dX9_begin_48 (by decide) ?_
      refine rx_iast dX9_begin_49 (by first | assumption | rfl) (vpi (by omega)) ?_
      refine ex_aload_n dX9_begin_50 rfl ?_
      refine g_9_6 dX9_begin_51 rfl wf_X9_38 (by first | assumption | rfl) (layR_9_6 (by first | assumption | rfl)) ?_
      refine ex_iload_n dX9_begin_54 rfl ?_
      refine ex_iconst (v := 0) dX9_begin_55 (by decide) ?_
      refine rx_iast dX9_begin_56 (by first | assumption | rfl) (vpi (by omega)) ?_
      refine ex_aload_n dX9_begin_57 rfl ?_
      refine g_9_4 dX9_begin_58 rfl wf_X9_32 (by first | assumption | rfl) (layR_9_4 (by first | assumption | rfl)) ?_
      refine ex_iload_n dX9_begin_61 rfl ?_
      refine ex_aload_n dX9_begin_62 rfl ?_
      refine g_9_0 dX9_begin_63 rfl wf_X9_12 (by first | assumption | rfl) (layR_9_0 (by first | assumption | rfl)) ?_
      refine ex_iload_n dX9_begin_66 rfl ?_
      refine rx_cV (kd := 0) dX9_begin_67 rfl lk_X9_52 rfl (by decide) (by first | assumption | rfl) ⟨⟨rfl, rfl⟩, by decide, by decide⟩ rfl (Nat.le_of_ble_eq_true rfl) rfl (s_X0_openingBehind hk1 hk) (Rs.k ?_)
      refine rx_iast dX9_begin_70 (by first | assumption | rfl) (vpi (by omega)) ?_
      refine inc3 (v := _ + 1) dX9_begin_71 (by rfl) (by first | exact rfl | exact trivial) ?_
      refine ex_goto 23 dX9_begin_74 (by decide) ?_
      simp only [nI_1, nI_clamp (show k < 2 ^ 31 by omega)]
      rw [opn_c (J := be0 I a b s), be_s]
      exact ih
      · rw [up2_off (by omega), up2_off (by omega), up2_off (by omega), up2_off (by omega), beI_off (by omega) (by omega) (by omega) (by omega) (by omega)]
      · rw [up2_off (by omega), up2_off (by omega), up2_off (by omega), up2_off (by omega), beI_off (by omega) (by omega) (by omega) (by omega) (by omega)]
  · skip
    refine ex_iload_n dX9_begin_23 rfl ?_
    refine ex_bipush (v := 16) dX9_begin_24 (by decide) ?_
    refine ex_icmp_ge 77 dX9_begin_26 (by decide) (fun h26 => ?_) (fun h26 => ?_)
    · skip
      refine ex_vret dX9_begin_77 rfl ⟨rfl, Nat.le_refl _⟩ ?_
      exact ⟨rfl, rfl⟩
    · exact absurd (Int32.le_refl _) h26
set_option maxRecDepth 100000 in
set_option maxHeartbeats 4000000 in
theorem s_X9_take {a o : Nat} (ha : K0 a = (9, 8)) (ho : K0 o = (9, 8)) (hz1 : I (o + 1) 1 = 0 ∨ I (o + 1) 1 = 1) (hz2 : I (o + 3) 2 = 0 ∨ I (o + 3) 2 = 1) : Ca G mdX9_take [.ref a, .ref o] (mk I L t) (Rv (mk (waTake I a o) L t)) := by
  refine Ca.intro [some (.ref a), some (.ref o)] (by decide) (Nat.le_of_ble_eq_true rfl) rfl rfl ?_
  have hk1 : K0 (a + 1) = (0, 7) := (lay9k ha).1
  have hk3 : K0 (a + 3) = (8, 4) := (lay9k ha).2.1
  have hk6 : K0 (a + 6) = (14, 16) := (lay9k ha).2.2.1
  have hk7 : K0 (a + 7) = (14, 16) := (lay9k ha).2.2.2.1
  have hk8 : K0 (a + 8) = (14, 16) := (lay9k ha).2.2.2.2.1
  have hk9 : K0 (a + 9) = (14, 16) := (lay9k ha).2.2.2.2.2.1
  have hk10 : K0 (a + 10) = (14, 16) := (lay9k ha).2.2.2.2.2.2
  have hk2 : K0 (a + 2) = (14, 16) := (lay0 hk1).2
  have hj1 : K0 (o + 1) = (0, 7) := (lay9k ho).1
  have hj3 : K0 (o + 3) = (8, 4) := (lay9k ho).2.1
  have hj6 : K0 (o + 6) = (14, 16) := (lay9k ho).2.2.1
  have hj7 : K0 (o + 7) = (14, 16) := (lay9k ho).2.2.2.1
  have hj8 : K0 (o + 8) = (14, 16) := (lay9k ho).2.2.2.2.1
  have hj9 : K0 (o + 9) = (14, 16) := (lay9k ho).2.2.2.2.2.1
  have hj10 : K0 (o + 10) = (14, 16) := (lay9k ho).2.2.2.2.2.2
  have hj2 : K0 (o + 2) = (14, 16) := (lay0 hj1).2
  refine ex_aload_n dX9_take_0 rfl ?_
  refine g_9_0 dX9_take_1 rfl wf_X9_12 (by first | assumption | rfl) (layR_9_0 (by first | assumption | rfl)) ?_
  refine ex_aload_n dX9_take_4 rfl ?_
  refine g_9_0 dX9_take_5 rfl wf_X9_12 (by first | assumption | rfl) (layR_9_0 (by first | assumption | rfl)) ?_
  refine rx_cV (kd := 0) dX9_take_8 rfl lk_X9_45 rfl (by decide) (by first | assumption | rfl) ⟨⟨rfl, rfl⟩, by decide, by decide⟩ rfl (Nat.le_of_ble_eq_true rfl) rfl (s_X0_take hk1 hj1 hz1) (Rv.k ?_)
  refine ex_aload_n dX9_take_11 rfl ?_
  refine g_9_1 dX9_take_12 rfl wf_X9_21 (by first | assumption | rfl) (layR_9_1 (by first | assumption | rfl)) ?_
  refine ex_aload_n dX9_take_15 rfl ?_
  refine g_9_1 dX9_take_16 rfl wf_X9_21 (by first | assumption | rfl) (layR_9_1 (by first | assumption | rfl)) ?_
  refine rx_cV (kd := 8) dX9_take_19 rfl lk_X9_49 rfl (by decide) (by first | assumption | rfl) ⟨⟨rfl, rfl⟩, by decide, by decide⟩ rfl (Nat.le_of_ble_eq_true rfl) rfl (s_X8_take hk3 hj3 (by rw [baTake_off (K0ne hj3 hk1 (by decide)) (K0ne hj3 hk2 (by decide))]; exact hz2)) (Rv.k ?_)
  refine ex_aload_n dX9_take_22 rfl ?_
  refine ex_aload_n dX9_take_23 rfl ?_
  refine g_9_7 dX9_take_24 rfl wf_X9_41 (by first | assumption | rfl) ?_
  refine p_9_7 dX9_take_27 rfl wf_X9_41 (by first | assumption | rfl) ?_
  refine ex_aload_n dX9_take_30 rfl ?_
  refine g_9_2 dX9_take_31 rfl wf_X9_25 (by first | assumption | rfl) (layR_9_2 (by first | assumption | rfl)) ?_
  refine ex_iconst (v := 0) dX9_take_34 (by decide) ?_
  refine ex_aload_n dX9_take_35 rfl ?_
  refine g_9_2 dX9_take_36 rfl wf_X9_25 (by first | assumption | rfl) (layR_9_2 (by first | assumption | rfl)) ?_
  refine ex_iconst (v := 0) dX9_take_39 (by decide) ?_
  refine ex_bipush (v := 16) dX9_take_40 (by decide) ?_
  refine rx_copy dX9_take_42 rfl lk_X9_60 (by first | assumption | rfl) (by first | assumption | rfl) (by decide) (by decide) (by decide) (by decide) (by decide) ⟨by decide, by decide⟩ (Nat.le_of_ble_eq_true rfl) ?_
  refine ex_aload_n dX9_take_45 rfl ?_
  refine g_9_3 dX9_take_46 rfl wf_X9_29 (by first | assumption | rfl) (layR_9_3 (by first | assumption | rfl)) ?_
  refine ex_iconst (v := 0) dX9_take_49 (by decide) ?_
  refine ex_aload_n dX9_take_50 rfl ?_
  refine g_9_3 dX9_take_51 rfl wf_X9_29 (by first | assumption | rfl) (layR_9_3 (by first | assumption | rfl)) ?_
  refine ex_iconst (v := 0) dX9_take_54 (by decide) ?_
  refine ex_bipush (v := 16) dX9_take_55 (by decide) ?_
  refine rx_copy dX9_take_57 rfl lk_X9_60 (by first | assumption | rfl) (by first | assumption | rfl) (by decide) (by decide) (by decide) (by decide) (by decide) ⟨by decide, by decide⟩ (Nat.le_of_ble_eq_true rfl) ?_
  refine ex_aload_n dX9_take_60 rfl ?_
  refine g_9_4 dX9_take_61 rfl wf_X9_32 (by first | assumption | rfl) (layR_9_4 (by first | assumption | rfl)) ?_
  refine ex_iconst (v := 0) dX9_take_64 (by decide) ?_
  refine ex_aload_n dX9_take_65 rfl ?_
  refine g_9_4 dX9_take_66 rfl wf_X9_32 (by first | assumption | rfl) (layR_9_4 (by first | assumption | rfl)) ?_
  refine ex_iconst (v := 0) dX9_take_69 (by decide) ?_
  refine ex_bipush (v := 16) dX9_take_70 (by decide) ?_
  refine rx_copy dX9_take_72 rfl lk_X9_60 (by first | assumption | rfl) (by first | assumption | rfl) (by decide) (by decide) (by decide) (by decide) (by decide) ⟨by decide, by decide⟩ (Nat.le_of_ble_eq_true rfl) ?_
  refine ex_aload_n dX9_take_75 rfl ?_
  refine g_9_5 dX9_take_76 rfl wf_X9_35 (by first | assumption | rfl) (layR_9_5 (by first | assumption | rfl)) ?_
  refine ex_iconst (v := 0) dX9_take_79 (by decide) ?_
  refine ex_aload_n dX9_take_80 rfl ?_
  refine g_9_5 dX9_take_81 rfl wf_X9_35 (by first | assumption | rfl) (layR_9_5 (by first | assumption | rfl)) ?_
  refine ex_iconst (v := 0) dX9_take_84 (by decide) ?_
  refine ex_bipush (v := 16) dX9_take_85 (by decide) ?_
  refine rx_copy dX9_take_87 rfl lk_X9_60 (by first | assumption | rfl) (by first | assumption | rfl) (by decide) (by decide) (by decide) (by decide) (by decide) ⟨by decide, by decide⟩ (Nat.le_of_ble_eq_true rfl) ?_
  refine ex_aload_n dX9_take_90 rfl ?_
  refine g_9_6 dX9_take_91 rfl wf_X9_38 (by first | assumption | rfl) (layR_9_6 (by first | assumption | rfl)) ?_
  refine ex_iconst (v := 0) dX9_take_94 (by decide) ?_
  refine ex_aload_n dX9_take_95 rfl ?_
  refine g_9_6 dX9_take_96 rfl wf_X9_38 (by first | assumption | rfl) (layR_9_6 (by first | assumption | rfl)) ?_
  refine ex_iconst (v := 0) dX9_take_99 (by decide) ?_
  refine ex_bipush (v := 16) dX9_take_100 (by decide) ?_
  refine rx_copy dX9_take_102 rfl lk_X9_60 (by first | assumption | rfl) (by first | assumption | rfl) (by decide) (by decide) (by decide) (by decide) (by decide) ⟨by decide, by decide⟩ (Nat.le_of_ble_eq_true rfl) ?_
  refine ex_vret dX9_take_105 rfl ⟨rfl, Nat.le_refl _⟩ ?_
  exact ⟨rfl, rfl⟩
set_option maxRecDepth 100000 in
set_option maxHeartbeats 4000000 in
theorem s_X9_flowsAt {a : Nat} {k : Int32} (ha : K0 a = (9, 8)) : Ca G mdX9_flowsAt [.ref a, .int k] (mk I L t) (Rs (.int (flAt I a k)) (mk I L t)) := by
  refine Ca.intro [some (.ref a), some (.int k)] (by decide) (Nat.le_of_ble_eq_true rfl) rfl rfl ?_
  have hk1 : K0 (a + 1) = (0, 7) := (lay9k ha).1
  have hk3 : K0 (a + 3) = (8, 4) := (lay9k ha).2.1
  have hk6 : K0 (a + 6) = (14, 16) := (lay9k ha).2.2.1
  have hk7 : K0 (a + 7) = (14, 16) := (lay9k ha).2.2.2.1
  have hk8 : K0 (a + 8) = (14, 16) := (lay9k ha).2.2.2.2.1
  have hk9 : K0 (a + 9) = (14, 16) := (lay9k ha).2.2.2.2.2.1
  have hk10 : K0 (a + 10) = (14, 16) := (lay9k ha).2.2.2.2.2.2
  have hk2 : K0 (a + 2) = (14, 16) := (lay0 hk1).2
  refine ex_aload_n dX9_flowsAt_0 rfl ?_
  refine g_9_0 dX9_flowsAt_1 rfl wf_X9_12 (by first | assumption | rfl) (layR_9_0 (by first | assumption | rfl)) ?_
  refine ex_iload_n dX9_flowsAt_4 rfl ?_
  refine rx_cV (kd := 0) dX9_flowsAt_5 rfl lk_X9_56 rfl (by decide) (by first | assumption | rfl) ⟨⟨rfl, rfl⟩, by decide, by decide⟩ rfl (Nat.le_of_ble_eq_true rfl) rfl (s_X0_hasCell hk1) (Rs.k ?_)
  refine ex_if_ne 13 dX9_flowsAt_8 (by decide) (fun h8 => ?_) (fun h8 => ?_)
  · skip
    refine ex_iload_n dX9_flowsAt_13 rfl ?_
    refine ex_if_le 35 dX9_flowsAt_14 (by decide) (fun h14 => ?_) (fun h14 => ?_)
    · skip
      refine ex_aload_n dX9_flowsAt_35 rfl ?_
      refine g_9_3 dX9_flowsAt_36 rfl wf_X9_29 (by first | assumption | rfl) (layR_9_3 (by first | assumption | rfl)) ?_
      refine ex_iload_n dX9_flowsAt_39 rfl ?_
      refine rx_iald dX9_flowsAt_40 (by first | assumption | rfl) (in16 (b2i_n0.mp h8).1 (b2i_n0.mp h8).2.2) ?_
      refine ex_iret dX9_flowsAt_41 rfl rfl ⟨rfl, Nat.le_refl _⟩ ?_
      first | exact ⟨by rw [flAt, if_pos (b2i_n0.mp h8), if_pos (Int32.not_le.mp h14)], rfl⟩ | exact ⟨by rw [flAt, if_pos (b2i_n0.mp h8), if_neg (Int32.not_lt.mpr h14)], rfl⟩
    · skip
      refine ex_aload_n dX9_flowsAt_17 rfl ?_
      refine g_9_3 dX9_flowsAt_18 rfl wf_X9_29 (by first | assumption | rfl) (layR_9_3 (by first | assumption | rfl)) ?_
      refine ex_iload_n dX9_flowsAt_21 rfl ?_
      refine ex_iconst (v := 1) dX9_flowsAt_22 (by decide) ?_
      refine ex_isub dX9_flowsAt_23 ?_
      refine rx_iald dX9_flowsAt_24 (by first | assumption | rfl) (in16p (Int32.not_le.mp h14) (b2i_n0.mp h8).2.2) ?_
      refine ex_aload_n dX9_flowsAt_25 rfl ?_
      refine g_9_3 dX9_flowsAt_26 rfl wf_X9_29 (by first | assumption | rfl) (layR_9_3 (by first | assumption | rfl)) ?_
      refine ex_iload_n dX9_flowsAt_29 rfl ?_
      refine rx_iald dX9_flowsAt_30 (by first | assumption | rfl) (in16 (b2i_n0.mp h8).1 (b2i_n0.mp h8).2.2) ?_
      refine ex_iadd dX9_flowsAt_31 ?_
      refine ex_goto 41 dX9_flowsAt_32 (by decide) ?_
      refine ex_iret dX9_flowsAt_41 rfl rfl ⟨rfl, Nat.le_refl _⟩ ?_
      first | exact ⟨by rw [flAt, if_pos (b2i_n0.mp h8), if_pos (Int32.not_le.mp h14)], rfl⟩ | exact ⟨by rw [flAt, if_pos (b2i_n0.mp h8), if_neg (Int32.not_lt.mpr h14)], rfl⟩
  · skip
    refine ex_iconst (v := 0) dX9_flowsAt_11 (by decide) ?_
    refine ex_iret dX9_flowsAt_12 rfl rfl ⟨rfl, Nat.le_refl _⟩ ?_
    exact ⟨by rw [flAt, if_neg (b2i_0.mp h8)], rfl⟩
theorem hasC_nI {a q n : Nat} (hc : I a 2 = nI n) (hn : n ≤ 16) (hq : q < n) : hasC I a (nI q) := ⟨nI_pos' (by omega), by rw [hc]; exact nI_lt hq (by omega), nI_lt (b := 16) (by omega) (by decide)⟩
set_option maxRecDepth 100000 in
set_option maxHeartbeats 4000000 in
theorem s_X9_range {a n q : Nat} (ha : K0 a = (9, 8)) (hn : n ≤ 16) (hc : I (a + 1) 2 = nI n) (hq : q < n) : Ca G mdX9_range [.ref a, .int (nI q)] (mk I L t) (Rs (.int (rng I a q)) (mk I L t)) := by
  refine Ca.intro [some (.ref a), some (.int (nI q))] (by decide) (Nat.le_of_ble_eq_true rfl) rfl rfl ?_
  have hk1 : K0 (a + 1) = (0, 7) := (lay9k ha).1
  have hk3 : K0 (a + 3) = (8, 4) := (lay9k ha).2.1
  have hk6 : K0 (a + 6) = (14, 16) := (lay9k ha).2.2.1
  have hk7 : K0 (a + 7) = (14, 16) := (lay9k ha).2.2.2.1
  have hk8 : K0 (a + 8) = (14, 16) := (lay9k ha).2.2.2.2.1
  have hk9 : K0 (a + 9) = (14, 16) := (lay9k ha).2.2.2.2.2.1
  have hk10 : K0 (a + 10) = (14, 16) := (lay9k ha).2.2.2.2.2.2
  have hk2 : K0 (a + 2) = (14, 16) := (lay0 hk1).2
  refine ex_aload_n dX9_range_0 rfl ?_
  refine g_9_0 dX9_range_1 rfl wf_X9_12 (by first | assumption | rfl) (layR_9_0 (by first | assumption | rfl)) ?_
  refine ex_iload_n dX9_range_4 rfl ?_
  refine rx_cV (kd := 0) dX9_range_5 rfl lk_X9_56 rfl (by decide) (by first | assumption | rfl) ⟨⟨rfl, rfl⟩, by decide, by decide⟩ rfl (Nat.le_of_ble_eq_true rfl) rfl (s_X0_hasCell hk1) (Rs.k ?_)
  refine ex_if_eq 27 dX9_range_8 (by decide) (fun h8 => ?_) (fun h8 => ?_)
  · exact absurd (hasC_nI hc hn hq) (b2i_0.mp h8)
  · skip
    refine ex_aload_n dX9_range_11 rfl ?_
    refine g_9_5 dX9_range_12 rfl wf_X9_35 (by first | assumption | rfl) (layR_9_5 (by first | assumption | rfl)) ?_
    refine ex_iload_n dX9_range_15 rfl ?_
    refine rx_iald dX9_range_16 (by first | assumption | rfl) (vpi (by omega)) ?_
    refine ex_aload_n dX9_range_17 rfl ?_
    refine g_9_6 dX9_range_18 rfl wf_X9_38 (by first | assumption | rfl) (layR_9_6 (by first | assumption | rfl)) ?_
    refine ex_iload_n dX9_range_21 rfl ?_
    refine rx_iald dX9_range_22 (by first | assumption | rfl) (vpi (by omega)) ?_
    refine ex_isub dX9_range_23 ?_
    refine ex_goto 28 dX9_range_24 (by decide) ?_
    refine ex_iret dX9_range_28 rfl rfl ⟨rfl, Nat.le_refl _⟩ ?_
    exact ⟨by rw [nI_clamp (by omega)]; rfl, rfl⟩
set_option maxRecDepth 100000 in
set_option maxHeartbeats 4000000 in
theorem s_X9_wildest {a n : Nat} (ha : K0 a = (9, 8)) (hn3 : 3 ≤ n) (hn : n ≤ 16) (hc : I (a + 1) 2 = nI n) : Ca G mdX9_wildest [.ref a] (mk I L t) (Rs (.int (nI (wildN (rng I a) (n - 1)))) (mk I L t)) := by
  refine Ca.intro [some (.ref a), none, none] (by decide) (Nat.le_of_ble_eq_true rfl) rfl rfl ?_
  have hk1 : K0 (a + 1) = (0, 7) := (lay9k ha).1
  have hk3 : K0 (a + 3) = (8, 4) := (lay9k ha).2.1
  have hk6 : K0 (a + 6) = (14, 16) := (lay9k ha).2.2.1
  have hk7 : K0 (a + 7) = (14, 16) := (lay9k ha).2.2.2.1
  have hk8 : K0 (a + 8) = (14, 16) := (lay9k ha).2.2.2.2.1
  have hk9 : K0 (a + 9) = (14, 16) := (lay9k ha).2.2.2.2.2.1
  have hk10 : K0 (a + 10) = (14, 16) := (lay9k ha).2.2.2.2.2.2
  have hk2 : K0 (a + 2) = (14, 16) := (lay0 hk1).2
  refine ex_iconst (v := 0) dX9_wildest_0 (by decide) ?_
  refine st_i1 dX9_wildest_1 (by first | exact rfl | exact trivial) ?_
  refine ex_iconst (v := 1) dX9_wildest_2 (by decide) ?_
  refine st_i2 dX9_wildest_3 (by first | exact rfl | exact trivial) ?_
  refine loop_up (G := G) (d := mdX9_wildest) (pc := 4) (st := []) (uc := 0) (us := 0) (P := Rs (.int (nI (wildN (rng I a) (n - 1)))) (mk I L t)) (n - 1) (fun k => mk I L t) (fun k => [some (.ref a), some (.int (nI (wildN (rng I a) k))), some (.int (nI (k + 1)))]) ?_ ?_ 0 (Nat.zero_le _)
  · intro k hk ih
    refine ex_iload_n dX9_wildest_4 rfl ?_
    refine ex_aload_n dX9_wildest_5 rfl ?_
    refine g_9_0 dX9_wildest_6 rfl wf_X9_12 (by first | assumption | rfl) (layR_9_0 (by first | assumption | rfl)) ?_
    refine g_0_2 dX9_wildest_9 rfl wf_X9_76 (by first | assumption | rfl) ?_
    refine ex_icmp_ge 40 dX9_wildest_12 (by decide) (fun h12 => ?_) (fun h12 => ?_)
    · exact absurd h12 (by rw [hc]; exact nI_ge (by omega) (by omega))
    · skip
      refine ex_aload_n dX9_wildest_15 rfl ?_
      refine ex_iload_n dX9_wildest_16 rfl ?_
      refine rx_cV (kd := 9) dX9_wildest_17 rfl lk_X9_88 rfl (by decide) (by first | assumption | rfl) ⟨⟨rfl, rfl⟩, by decide, by decide⟩ rfl (Nat.le_of_ble_eq_true rfl) rfl (s_X9_range (n := n) ha hn hc (by omega)) (Rs.k ?_)
      refine ex_aload_n dX9_wildest_20 rfl ?_
      refine ex_iload_n dX9_wildest_21 rfl ?_
      refine rx_cV (kd := 9) dX9_wildest_22 rfl lk_X9_88 rfl (by decide) (by first | assumption | rfl) ⟨⟨rfl, rfl⟩, by decide, by decide⟩ rfl (Nat.le_of_ble_eq_true rfl) rfl (s_X9_range (n := n) ha hn hc (Nat.lt_of_le_of_lt (wildN_le _ _) (by omega))) (Rs.k ?_)
      refine ex_icmp_le 32 dX9_wildest_25 (by decide) (fun h25 => ?_) (fun h25 => ?_)
      · have hw : wildN (rng I a) (k + 1) = wildN (rng I a) k := if_neg (Int32.not_lt.mpr h25)
        refine ex_iload_n dX9_wildest_32 rfl ?_
        refine st_i1 dX9_wildest_33 (by first | exact rfl | exact trivial) ?_
        refine inc2 (v := _ + 1) dX9_wildest_34 (by rfl) (by first | exact rfl | exact trivial) ?_
        refine ex_goto 4 dX9_wildest_37 (by decide) ?_
        rw [nI_1]
        rw [hw] at ih
        exact ih
      · have hw : wildN (rng I a) (k + 1) = k + 1 := if_pos (Int32.not_le.mp h25)
        refine ex_iload_n dX9_wildest_28 rfl ?_
        refine ex_goto 33 dX9_wildest_29 (by decide) ?_
        refine st_i1 dX9_wildest_33 (by first | exact rfl | exact trivial) ?_
        refine inc2 (v := _ + 1) dX9_wildest_34 (by rfl) (by first | exact rfl | exact trivial) ?_
        refine ex_goto 4 dX9_wildest_37 (by decide) ?_
        rw [nI_1]
        rw [hw] at ih
        exact ih
  · skip
    refine ex_iload_n dX9_wildest_4 rfl ?_
    refine ex_aload_n dX9_wildest_5 rfl ?_
    refine g_9_0 dX9_wildest_6 rfl wf_X9_12 (by first | assumption | rfl) (layR_9_0 (by first | assumption | rfl)) ?_
    refine g_0_2 dX9_wildest_9 rfl wf_X9_76 (by first | assumption | rfl) ?_
    refine ex_icmp_ge 40 dX9_wildest_12 (by decide) (fun h12 => ?_) (fun h12 => ?_)
    · skip
      refine ex_iload_n dX9_wildest_40 rfl ?_
      refine ex_iret dX9_wildest_41 rfl rfl ⟨rfl, Nat.le_refl _⟩ ?_
      exact ⟨rfl, rfl⟩
    · exact absurd (by rw [hc, show n - 1 + 1 = n by omega]; exact Int32.le_refl _) h12
set_option maxRecDepth 100000 in
set_option maxHeartbeats 4000000 in
theorem s_X9_stillest {a n : Nat} (ha : K0 a = (9, 8)) (hn3 : 3 ≤ n) (hn : n ≤ 16) (hc : I (a + 1) 2 = nI n) : Ca G mdX9_stillest [.ref a] (mk I L t) (Rs (.int (nI (calmN (rng I a) (n - 1)))) (mk I L t)) := by
  refine Ca.intro [some (.ref a), none, none] (by decide) (Nat.le_of_ble_eq_true rfl) rfl rfl ?_
  have hk1 : K0 (a + 1) = (0, 7) := (lay9k ha).1
  have hk3 : K0 (a + 3) = (8, 4) := (lay9k ha).2.1
  have hk6 : K0 (a + 6) = (14, 16) := (lay9k ha).2.2.1
  have hk7 : K0 (a + 7) = (14, 16) := (lay9k ha).2.2.2.1
  have hk8 : K0 (a + 8) = (14, 16) := (lay9k ha).2.2.2.2.1
  have hk9 : K0 (a + 9) = (14, 16) := (lay9k ha).2.2.2.2.2.1
  have hk10 : K0 (a + 10) = (14, 16) := (lay9k ha).2.2.2.2.2.2
  have hk2 : K0 (a + 2) = (14, 16) := (lay0 hk1).2
  refine ex_iconst (v := 0) dX9_stillest_0 (by decide) ?_
  refine st_i1 dX9_stillest_1 (by first | exact rfl | exact trivial) ?_
  refine ex_iconst (v := 1) dX9_stillest_2 (by decide) ?_
  refine st_i2 dX9_stillest_3 (by first | exact rfl | exact trivial) ?_
  refine loop_up (G := G) (d := mdX9_stillest) (pc := 4) (st := []) (uc := 0) (us := 0) (P := Rs (.int (nI (calmN (rng I a) (n - 1)))) (mk I L t)) (n - 1) (fun k => mk I L t) (fun k => [some (.ref a), some (.int (nI (calmN (rng I a) k))), some (.int (nI (k + 1)))]) ?_ ?_ 0 (Nat.zero_le _)
  · intro k hk ih
    refine ex_iload_n dX9_stillest_4 rfl ?_
    refine ex_aload_n dX9_stillest_5 rfl ?_
    refine g_9_0 dX9_stillest_6 rfl wf_X9_12 (by first | assumption | rfl) (layR_9_0 (by first | assumption | rfl)) ?_
    refine g_0_2 dX9_stillest_9 rfl wf_X9_76 (by first | assumption | rfl) ?_
    refine ex_icmp_ge 40 dX9_stillest_12 (by decide) (fun h12 => ?_) (fun h12 => ?_)
    · exact absurd h12 (by rw [hc]; exact nI_ge (by omega) (by omega))
    · skip
      refine ex_aload_n dX9_stillest_15 rfl ?_
      refine ex_iload_n dX9_stillest_16 rfl ?_
      refine rx_cV (kd := 9) dX9_stillest_17 rfl lk_X9_88 rfl (by decide) (by first | assumption | rfl) ⟨⟨rfl, rfl⟩, by decide, by decide⟩ rfl (Nat.le_of_ble_eq_true rfl) rfl (s_X9_range (n := n) ha hn hc (by omega)) (Rs.k ?_)
      refine ex_aload_n dX9_stillest_20 rfl ?_
      refine ex_iload_n dX9_stillest_21 rfl ?_
      refine rx_cV (kd := 9) dX9_stillest_22 rfl lk_X9_88 rfl (by decide) (by first | assumption | rfl) ⟨⟨rfl, rfl⟩, by decide, by decide⟩ rfl (Nat.le_of_ble_eq_true rfl) rfl (s_X9_range (n := n) ha hn hc (Nat.lt_of_le_of_lt (calmN_le _ _) (by omega))) (Rs.k ?_)
      refine ex_icmp_ge 32 dX9_stillest_25 (by decide) (fun h25 => ?_) (fun h25 => ?_)
      · have hw : calmN (rng I a) (k + 1) = calmN (rng I a) k := if_neg (Int32.not_lt.mpr h25)
        refine ex_iload_n dX9_stillest_32 rfl ?_
        refine st_i1 dX9_stillest_33 (by first | exact rfl | exact trivial) ?_
        refine inc2 (v := _ + 1) dX9_stillest_34 (by rfl) (by first | exact rfl | exact trivial) ?_
        refine ex_goto 4 dX9_stillest_37 (by decide) ?_
        rw [nI_1]
        rw [hw] at ih
        exact ih
      · have hw : calmN (rng I a) (k + 1) = k + 1 := if_pos (Int32.not_le.mp h25)
        refine ex_iload_n dX9_stillest_28 rfl ?_
        refine ex_goto 33 dX9_stillest_29 (by decide) ?_
        refine st_i1 dX9_stillest_33 (by first | exact rfl | exact trivial) ?_
        refine inc2 (v := _ + 1) dX9_stillest_34 (by rfl) (by first | exact rfl | exact trivial) ?_
        refine ex_goto 4 dX9_stillest_37 (by decide) ?_
        rw [nI_1]
        rw [hw] at ih
        exact ih
  · skip
    refine ex_iload_n dX9_stillest_4 rfl ?_
    refine ex_aload_n dX9_stillest_5 rfl ?_
    refine g_9_0 dX9_stillest_6 rfl wf_X9_12 (by first | assumption | rfl) (layR_9_0 (by first | assumption | rfl)) ?_
    refine g_0_2 dX9_stillest_9 rfl wf_X9_76 (by first | assumption | rfl) ?_
    refine ex_icmp_ge 40 dX9_stillest_12 (by decide) (fun h12 => ?_) (fun h12 => ?_)
    · skip
      refine ex_iload_n dX9_stillest_40 rfl ?_
      refine ex_iret dX9_stillest_41 rfl rfl ⟨rfl, Nat.le_refl _⟩ ?_
      exact ⟨rfl, rfl⟩
    · exact absurd (by rw [hc, show n - 1 + 1 = n by omega]; exact Int32.le_refl _) h12
set_option maxRecDepth 100000 in
set_option maxHeartbeats 4000000 in
theorem s_X9_whole {a n : Nat} (ha : K0 a = (9, 8)) (hn3 : 3 ≤ n) (hn : n ≤ 16) (hc : I (a + 1) 2 = nI n) : Ca G mdX9_whole [.ref a] (mk I L t) (Rs (.int (sumI (I (a + 6)) n)) (mk I L t)) := by
  refine Ca.intro [some (.ref a), none, none] (by decide) (Nat.le_of_ble_eq_true rfl) rfl rfl ?_
  have hk1 : K0 (a + 1) = (0, 7) := (lay9k ha).1
  have hk3 : K0 (a + 3) = (8, 4) := (lay9k ha).2.1
  have hk6 : K0 (a + 6) = (14, 16) := (lay9k ha).2.2.1
  have hk7 : K0 (a + 7) = (14, 16) := (lay9k ha).2.2.2.1
  have hk8 : K0 (a + 8) = (14, 16) := (lay9k ha).2.2.2.2.1
  have hk9 : K0 (a + 9) = (14, 16) := (lay9k ha).2.2.2.2.2.1
  have hk10 : K0 (a + 10) = (14, 16) := (lay9k ha).2.2.2.2.2.2
  have hk2 : K0 (a + 2) = (14, 16) := (lay0 hk1).2
  refine ex_iconst (v := 0) dX9_whole_0 (by decide) ?_
  refine st_i1 dX9_whole_1 (by first | exact rfl | exact trivial) ?_
  refine ex_iconst (v := 0) dX9_whole_2 (by decide) ?_
  refine st_i2 dX9_whole_3 (by first | exact rfl | exact trivial) ?_
  refine loop_up (G := G) (d := mdX9_whole) (pc := 4) (st := []) (uc := 0) (us := 0) (P := Rs (.int (sumI (I (a + 6)) n)) (mk I L t)) n (fun k => mk I L t) (fun k => [some (.ref a), some (.int (sumI (I (a + 6)) k)), some (.int (nI k))]) ?_ ?_ 0 (Nat.zero_le _)
  · intro k hk ih
    refine ex_iload_n dX9_whole_4 rfl ?_
    refine ex_aload_n dX9_whole_5 rfl ?_
    refine g_9_0 dX9_whole_6 rfl wf_X9_12 (by first | assumption | rfl) (layR_9_0 (by first | assumption | rfl)) ?_
    refine g_0_2 dX9_whole_9 rfl wf_X9_76 (by first | assumption | rfl) ?_
    refine ex_icmp_ge 36 dX9_whole_12 (by decide) (fun h12 => ?_) (fun h12 => ?_)
    · exact absurd h12 (by rw [hc]; exact nI_ge hk (by omega))
    · skip
      refine ex_iload_n dX9_whole_15 rfl ?_
      refine ex_bipush (v := 16) dX9_whole_16 (by decide) ?_
      refine ex_icmp_ge 36 dX9_whole_18 (by decide) (fun h18 => ?_) (fun h18 => ?_)
      · exact absurd h18 (nI_ge (b := 16) (by omega) (by decide))
      · skip
        refine ex_iload_n dX9_whole_21 rfl ?_
        refine ex_aload_n dX9_whole_22 rfl ?_
        refine g_9_2 dX9_whole_23 rfl wf_X9_25 (by first | assumption | rfl) (layR_9_2 (by first | assumption | rfl)) ?_
        refine ex_iload_n dX9_whole_26 rfl ?_
        refine rx_iald dX9_whole_27 (by first | assumption | rfl) (vpi (by omega)) ?_
        refine ex_iadd dX9_whole_28 ?_
        refine st_i1 dX9_whole_29 (by first | exact rfl | exact trivial) ?_
        refine inc2 (v := _ + 1) dX9_whole_30 (by rfl) (by first | exact rfl | exact trivial) ?_
        refine ex_goto 4 dX9_whole_33 (by decide) ?_
        rw [nI_1, nI_clamp (by omega)]
        exact ih
  · skip
    refine ex_iload_n dX9_whole_4 rfl ?_
    refine ex_aload_n dX9_whole_5 rfl ?_
    refine g_9_0 dX9_whole_6 rfl wf_X9_12 (by first | assumption | rfl) (layR_9_0 (by first | assumption | rfl)) ?_
    refine g_0_2 dX9_whole_9 rfl wf_X9_76 (by first | assumption | rfl) ?_
    refine ex_icmp_ge 36 dX9_whole_12 (by decide) (fun h12 => ?_) (fun h12 => ?_)
    · skip
      refine ex_iload_n dX9_whole_36 rfl ?_
      refine ex_iret dX9_whole_37 rfl rfl ⟨rfl, Nat.le_refl _⟩ ?_
      exact ⟨rfl, rfl⟩
    · exact absurd (by rw [hc]; exact Int32.le_refl _) h12
end C4
