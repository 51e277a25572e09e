section N10
variable {G : Gp} {I : Im} {L : Nat → Nat → Int64} {t : Nat}
def AfO (x w : Int32) : Prop := ∃ a n, (a = 1 ∨ a = 2 ∨ a = 3) ∧ 3 ≤ n ∧ n ≤ 16 ∧ x = nI a ∧ w = nI n
theorem s_bestG {x w : Int32} (h : AfO x w) (hm : TOk I) : Ca G mdX11_bestBerths [.ref 0, .int x, .int w] (mk I L t) (Rs (.int (bbF I (x).toNatClampNeg (w).toNatClampNeg)) (mk (bbI I (x).toNatClampNeg (w).toNatClampNeg) L t)) := by
  obtain ⟨a, n, ha, h3, hn, rfl, rfl⟩ := h
  rw [nI_clamp (by omega), nI_clamp (by omega)]
  exact s_X11_bestBerths ha h3 hn hm
theorem s_spreadG {x w : Int32} (h : AfO x w) : Ca G mdX11_spreadBerths [.ref 0, .int (bbF I (x).toNatClampNeg (w).toNatClampNeg), .int x, .int w] (mk (bbI I (x).toNatClampNeg (w).toNatClampNeg) L t) (Rv (mk (spF (bbI I (x).toNatClampNeg (w).toNatClampNeg) (w).toNatClampNeg (bbF I (x).toNatClampNeg (w).toNatClampNeg).toNatClampNeg (x).toNatClampNeg (x).toNatClampNeg) L t)) := by
  obtain ⟨a, n, ha, h3, hn, rfl, rfl⟩ := h
  rw [nI_clamp (show a < 2 ^ 31 by omega), nI_clamp (show n < 2 ^ 31 by omega)]
  obtain ⟨j, hj, e⟩ := bbF_nat (I := I) (a := a) h3
  have h4 := na_le (a := a) (n := n) (by omega) hn
  rw [e, nI_clamp (by omega)]
  exact s_X11_spreadBerths (by omega) h3 hn (by omega)
theorem s_pullsG {x w : Int32} (h : AfO x w) (hm : TOk I) (hB : ∀ i, i < x.toNatClampNeg → ∃ q, q < 2 ^ 31 ∧ nI i * w + I 101 i = nI q) : Ca G mdX11_pullsOf [.ref 0, .int x, .int w] (mk I L t) (Rs (.int (puF I (x).toNatClampNeg w)) (mk I L t)) := by
  obtain ⟨a, n, ha, h3, hn, rfl, rfl⟩ := h
  rw [nI_clamp (by omega)] at hB ⊢
  exact s_pulls ha hm hB
theorem s_partingG {x w : Int32} (h : AfO x w) (hm : TOk I) (hB : ∀ i, i < x.toNatClampNeg → ∃ q, q < 2 ^ 31 ∧ nI i * w + I 101 i = nI q) : Ca G mdX11_partingOf [.ref 0, .int x, .int w] (mk I L t) (Rs (.int (paF I (x).toNatClampNeg w)) (mk I L t)) := by
  obtain ⟨a, n, ha, h3, hn, rfl, rfl⟩ := h
  rw [nI_clamp (by omega)] at hB ⊢
  exact s_parting ha hm hB
theorem count_2 : f_X11_count I 2 = nI (cntN (fun q => I (144 + q) 0) 3) := by
  unfold f_X11_count
  rw [if_neg (by decide), if_neg (by decide), if_pos rfl]
theorem afO {b : Nat} (h : 1 ≤ f_X11_count I 2) (hb : ∃ n, 3 ≤ n ∧ n ≤ 16 ∧ I b 2 = nI n) : AfO (f_X11_count I 2) (I b 2) := by
  obtain ⟨n, h3, hn, e⟩ := hb
  have h2 := cntN_le (f := fun q => I (144 + q) 0) 3
  rw [count_2] at h ⊢
  have h1 : 1 ≤ cntN (fun q => I (144 + q) 0) 3 := (nI_leI (a := 1) (by decide) (by omega)).mp h
  exact ⟨_, n, by omega, h3, hn, rfl, e⟩
def tmN (J : Im) (n k : Nat) : Im :=
  match k with
  | 0 => J
  | k + 1 => if tmN J n k (144 + k) 0 = 0 then tmN J n k else mrN (tmN J n k) (144 + k) nI (fun _ => tmN J n k (144 + k) 3) n
termination_by k
theorem tmN_0 {J : Im} {n : Nat} : tmN J n 0 = J := by rw [tmN]
theorem tmN_s {J : Im} {n k : Nat} : tmN J n (k + 1) = if tmN J n k (144 + k) 0 = 0 then tmN J n k else mrN (tmN J n k) (144 + k) nI (fun _ => tmN J n k (144 + k) 3) n := by rw [tmN]
theorem tmN_all {J : Im} {n : Nat} (hn : n ≤ 16) (h : J 24 2 = nI 0) : ∀ k, k ≤ 3 → (∀ e, (e < 24 ∨ 84 < e) → tmN J n k e = J e) ∧ tmN J n k 24 2 = nI (cntN (fun q => J (144 + q) 0) k * n) := by
  intro k
  induction k with
  | zero => intro _; rw [tmN_0, cntN_0, Nat.zero_mul]; exact ⟨fun _ _ => rfl, h⟩
  | succ k ih =>
    intro hk
    obtain ⟨i1, i2⟩ := ih (by omega)
    have hc := cntN_le (f := fun q => J (144 + q) 0) k
    have hcn : cntN (fun q => J (144 + q) 0) k * n ≤ 2 * 16 := Nat.mul_le_mul (by omega) hn
    rw [tmN_s, cntN_s]
    have e0 : tmN J n k (144 + k) 0 = J (144 + k) 0 := by rw [i1 (144 + k) (by omega)]
    by_cases c : J (144 + k) 0 = 0
    · rw [if_pos (e0.trans c), if_pos c]
      exact ⟨i1, i2⟩
    · rw [if_neg (fun z => c (e0.symm.trans z)), if_neg c]
      refine ⟨fun e he => ?_, ?_⟩
      · rw [mrN_off i2 he n (by omega), i1 e he]
      · rw [mrN_m i2 n (by omega), Nat.succ_mul]
theorem tmN_t {J : Im} {n : Nat} (hn : n ≤ 16) (h : J 24 2 = nI 0) : TOk (tmN J n 3) := by
  have hc := cntN_le (f := fun q => J (144 + q) 0) 3
  have hcn : cntN (fun q => J (144 + q) 0) 3 * n ≤ 3 * 16 := Nat.mul_le_mul hc hn
  exact ⟨_, by omega, (tmN_all hn h 3 (by omega)).2⟩
def rwN (J : Im) (p k : Nat) : Im :=
  match k with
  | 0 => J
  | k + 1 => up2 (rwN J p k) p k (rwN J p k 101 k)
termination_by k
theorem rwN_0 {J : Im} {p : Nat} : rwN J p 0 = J := by rw [rwN]
theorem rwN_s {J : Im} {p k : Nat} : rwN J p (k + 1) = up2 (rwN J p k) p k (rwN J p k 101 k) := by rw [rwN]
theorem rwN_off {J : Im} {p e : Nat} (h : e ≠ p) : ∀ k, rwN J p k e = J e := by
  intro k
  induction k with
  | zero => rw [rwN_0]
  | succ k ih => rw [rwN_s, up2_off h, ih]
set_option maxRecDepth 100000 in
set_option maxHeartbeats 4000000 in
theorem lp_ton {P : Option Value → Mem → Prop} {J : Im} {x z r v : Int32} {n : Nat} (hn : n ≤ 16) (h24 : J 24 2 = nI 0) (hz : ∀ q, q < 3 → J (144 + q) 0 = 0 ∨ J (144 + q) 0 = 1) (kont : Ex G mdX11_tonight 128 [some (.ref 0), some (.int x), some (.int z), some (.int r), some (.int v), some (.int (nI n)), some (.int (nI 3))] [] (mk (tmN J n 3) L t) 0 0 P) : Ex G mdX11_tonight 90 [some (.ref 0), some (.int x), some (.int z), some (.int r), some (.int v), some (.int (nI n)), some (.int (nI 0))] [] (mk (tmN J n 0) L t) 0 0 P := by
  refine loop_up (G := G) (d := mdX11_tonight) (pc := 90) (st := []) (uc := 0) (us := 0) (P := P) 3 (fun k => mk (tmN J n k) L t) (fun k => [some (.ref 0), some (.int x), some (.int z), some (.int r), some (.int v), some (.int (nI n)), some (.int (nI k))]) ?_ ?_ 0 (Nat.zero_le _)
  · intro k hk ih
    obtain ⟨i1, i2⟩ := tmN_all (J := J) hn h24 k (by omega)
    have hc := cntN_le (f := fun q => J (144 + q) 0) k
    have hcn : cntN (fun q => J (144 + q) 0) k * n ≤ 2 * 16 := Nat.mul_le_mul (by omega) hn
    refine ex_iload dX11_tonight_90 rfl ?_
    refine ex_iconst (v := 3) dX11_tonight_92 (by decide) ?_
    refine ex_icmp_ge 128 dX11_tonight_93 (by decide) (fun h93 => ?_) (fun h93 => ?_)
    · exact absurd h93 (nI_ge hk (by decide))
    · skip
      refine ex_aload_n dX11_tonight_96 rfl ?_
      refine g_11_4 dX11_tonight_97 rfl wf_X11_35 (by first | assumption | rfl) (show Rt _ 0 4 = some 5 from rfl) ?_
      refine ex_iload dX11_tonight_100 rfl ?_
      refine rx_aald dX11_tonight_102 (by first | assumption | rfl) (by decide) rfl (vp_in_nI hk (by decide)) (by rw [nI_clamp (by omega)]; exact ly_shp hk) ?_
      refine g_1_0 dX11_tonight_103 rfl wf_X11_232 (ky_shp hk) ?_
      refine ex_if_eq 122 dX11_tonight_106 (by decide) (fun h106 => ?_) (fun h106 => ?_)
      · have hw : tmN J n (k + 1) = tmN J n k := tmN_s.trans (if_pos h106)
        refine inc6 (v := _ + 1) dX11_tonight_122 (by rfl) (by first | exact rfl | exact trivial) ?_
        refine ex_goto 90 dX11_tonight_125 (by decide) ?_
        rw [nI_1]
        rw [hw] at ih
        exact ih
      · have hw : tmN J n (k + 1) = mrN (tmN J n k) (144 + k) nI (fun _ => tmN J n k (144 + k) 3) n := tmN_s.trans (if_neg h106)
        refine ex_aload_n dX11_tonight_109 rfl ?_
        refine ex_aload_n dX11_tonight_110 rfl ?_
        refine g_11_4 dX11_tonight_111 rfl wf_X11_35 (by first | assumption | rfl) (show Rt _ 0 4 = some 5 from rfl) ?_
        refine ex_iload dX11_tonight_114 rfl ?_
        refine rx_aald dX11_tonight_116 (by first | assumption | rfl) (by decide) rfl (vp_in_nI hk (by decide)) (by rw [nI_clamp (by omega)]; exact ly_shp hk) ?_
        refine ex_iload dX11_tonight_117 rfl ?_
        refine rx_cV (kd := 11) dX11_tonight_119 rfl lk_X11_409 rfl (by decide) (by first | assumption | rfl) ⟨⟨rfl, rfl⟩, by decide, by decide⟩ rfl (Nat.le_of_ble_eq_true rfl) rfl (s_X11_moorEverywhere (ky_shp hk) (by omega) (by rw [i1 _ (by omega)]; exact hz k hk) i2 hn (by omega)) (Rv.k ?_)
        refine inc6 (v := _ + 1) dX11_tonight_122 (by rfl) (by first | exact rfl | exact trivial) ?_
        refine ex_goto 90 dX11_tonight_125 (by decide) ?_
        rw [nI_1]
        rw [hw] at ih
        exact ih
  · skip
    refine ex_iload dX11_tonight_90 rfl ?_
    refine ex_iconst (v := 3) dX11_tonight_92 (by decide) ?_
    refine ex_icmp_ge 128 dX11_tonight_93 (by decide) (fun h93 => ?_) (fun h93 => ?_)
    · skip
      exact kont
    · exact absurd (by decide : nI 3 ≤ nI 3) h93
theorem lp_ton0 {P : Option Value → Mem → Prop} {J : Im} {x z r v w : Int32} (hw : ∃ n, 3 ≤ n ∧ n ≤ 16 ∧ w = nI n) (h24 : J 24 2 = nI 0) (hz : ∀ q, q < 3 → J (144 + q) 0 = 0 ∨ J (144 + q) 0 = 1) (kont : Ex G mdX11_tonight 128 [some (.ref 0), some (.int x), some (.int z), some (.int r), some (.int v), some (.int w), none] [] (mk (tmN J w.toNatClampNeg 3) L t) 0 0 P) : Ex G mdX11_tonight 90 [some (.ref 0), some (.int x), some (.int z), some (.int r), some (.int v), some (.int w), some (.int 0)] [] (mk J L t) 0 0 P := by
  obtain ⟨n, h3, hn, rfl⟩ := hw
  rw [nI_clamp (by omega)] at kont
  have h := lp_ton (G := G) (L := L) (x := x) (z := z) (r := r) (v := v) hn h24 hz (P := P) (fg6 kont)
  rw [tmN_0] at h
  exact h
set_option maxRecDepth 100000 in
set_option maxHeartbeats 4000000 in
theorem lp_row {P : Option Value → Mem → Prop} {J : Im} {x z r : Int32} {v5 : Int32} {a : Nat} (ha : a ≤ 3) (vr : vp_in r 6) (kr : K0 (104 + 2 * r.toNatClampNeg) = (6, 3)) (kp : K0 (104 + 2 * r.toNatClampNeg + 1) = (14, 60)) (lr : Rt t 1 r.toNatClampNeg = some (104 + 2 * r.toNatClampNeg)) (kont : Ex G mdX11_tonight 215 [some (.ref 0), some (.int x), some (.int z), some (.int r), some (.int (nI a)), some (.int v5), some (.int (nI a))] [] (mk (rwN J (104 + 2 * r.toNatClampNeg + 1) a) L t) 0 0 P) : Ex G mdX11_tonight 177 [some (.ref 0), some (.int x), some (.int z), some (.int r), some (.int (nI a)), some (.int v5), some (.int (nI 0))] [] (mk (rwN J (104 + 2 * r.toNatClampNeg + 1) 0) L t) 0 0 P := by
  refine loop_up (G := G) (d := mdX11_tonight) (pc := 177) (st := []) (uc := 0) (us := 0) (P := P) a (fun k => mk (rwN J (104 + 2 * r.toNatClampNeg + 1) k) L t) (fun k => [some (.ref 0), some (.int x), some (.int z), some (.int r), some (.int (nI a)), some (.int v5), some (.int (nI k))]) ?_ ?_ 0 (Nat.zero_le _)
  · intro k hk ih
    refine ex_iload dX11_tonight_177 rfl ?_
    refine ex_iload dX11_tonight_179 rfl ?_
    refine ex_icmp_ge 215 dX11_tonight_181 (by decide) (fun h181 => ?_) (fun h181 => ?_)
    · exact absurd h181 (nI_ge hk (by omega))
    · skip
      refine ex_iload dX11_tonight_184 rfl ?_
      refine ex_iconst (v := 3) dX11_tonight_186 (by decide) ?_
      refine ex_icmp_ge 215 dX11_tonight_187 (by decide) (fun h187 => ?_) (fun h187 => ?_)
      · exact absurd h187 (nI_ge (b := 3) (by omega) (by decide))
      · skip
        refine ex_aload_n dX11_tonight_190 rfl ?_
        refine g_11_0 dX11_tonight_191 rfl wf_X11_11 (by first | assumption | rfl) (show Rt _ 0 0 = some 1 from rfl) ?_
        refine ex_iload_n dX11_tonight_194 rfl ?_
        refine rx_aald dX11_tonight_195 (by first | assumption | rfl) (by decide) rfl (by first | assumption | (unfold vp_in; decide)) (by first | assumption | rfl) ?_
        refine g_6_0 dX11_tonight_196 rfl wf_X11_140 (by first | assumption | rfl) (layR_6_0 (by first | assumption | rfl)) ?_
        refine ex_iload dX11_tonight_199 rfl ?_
        refine ex_aload_n dX11_tonight_201 rfl ?_
        refine g_11_14 dX11_tonight_202 rfl wf_X11_90 (by first | assumption | rfl) (show Rt _ 0 14 = some 101 from rfl) ?_
        refine ex_iload dX11_tonight_205 rfl ?_
        refine rx_iald dX11_tonight_207 (by first | assumption | rfl) (vp_in_nI (by omega) (by decide)) ?_
        refine rx_iast dX11_tonight_208 (by first | assumption | rfl) (vp_in_nI (by omega) (by decide)) ?_
        refine inc6 (v := _ + 1) dX11_tonight_209 (by rfl) (by first | exact rfl | exact trivial) ?_
        refine ex_goto 177 dX11_tonight_212 (by decide) ?_
        rw [nI_clamp (by omega), nI_1]
        rw [rwN_s] at ih
        exact ih
  · skip
    refine ex_iload dX11_tonight_177 rfl ?_
    refine ex_iload dX11_tonight_179 rfl ?_
    refine ex_icmp_ge 215 dX11_tonight_181 (by decide) (fun h181 => ?_) (fun h181 => ?_)
    · skip
      exact kont
    · exact absurd (Int32.le_refl _) h181
theorem lp_row0 {P : Option Value → Mem → Prop} {J : Im} {x z r v w : Int32} (hv : AfO v w) (vr : vp_in r 6) (kr : K0 (104 + 2 * r.toNatClampNeg) = (6, 3)) (kp : K0 (104 + 2 * r.toNatClampNeg + 1) = (14, 60)) (lr : Rt t 1 r.toNatClampNeg = some (104 + 2 * r.toNatClampNeg)) (kont : Ex G mdX11_tonight 215 [some (.ref 0), some (.int x), some (.int z), some (.int r), some (.int v), some (.int w), none] [] (mk (rwN J (104 + 2 * r.toNatClampNeg + 1) v.toNatClampNeg) L t) 0 0 P) : Ex G mdX11_tonight 177 [some (.ref 0), some (.int x), some (.int z), some (.int r), some (.int v), some (.int w), some (.int 0)] [] (mk J L t) 0 0 P := by
  obtain ⟨a, n, ha, h3, hn, rfl, rfl⟩ := hv
  rw [nI_clamp (by omega)] at kont
  have h := lp_row (G := G) (L := L) (x := x) (z := z) (r := r) (a := a) (J := J) (by omega) vr kr kp lr (P := P) (fg6 kont)
  rw [rwN_0] at h
  exact h
theorem nuN_off {a n e : Nat} (h : e ≠ a) (h1 : e ≠ a + 1) : nuNew I a n e = I e := by
  funext j
  unfold nuNew
  rw [fill_off h1, up2_off h, up2_off h]
theorem AfO_r {x w : Int32} (h : AfO x w) : 0 ≤ x ∧ x ≤ 60 := by
  obtain ⟨a, n, ha, h3, hn, rfl, rfl⟩ := h
  exact ⟨nI_pos' (by omega), nI_le (b := 60) (by omega) (by decide)⟩
theorem tn_q {x w : Int32} (h : AfO x w) {J : Im} {c : Nat} : ∀ i, i < x.toNatClampNeg → ∃ q, q < 2 ^ 31 ∧ nI i * w + spF J w.toNatClampNeg c x.toNatClampNeg x.toNatClampNeg 101 i = nI q := by
  obtain ⟨a, n, ha, h3, hn, rfl, rfl⟩ := h
  rw [nI_clamp (show a < 2 ^ 31 by omega), nI_clamp (show n < 2 ^ 31 by omega)]
  intro i hi
  exact sp_q (by omega) (by omega) hn hi
theorem tn_j {x w : Int32} {p : Nat} {M : Im} {c : Nat} (h : AfO x w) (hp : 103 < p) : TOk M → TOk (rwN (nuNew (spF (bbI M x.toNatClampNeg w.toNatClampNeg) w.toNatClampNeg c x.toNatClampNeg x.toNatClampNeg) p x.toNatClampNeg) (p + 1) x.toNatClampNeg) ∧ ∀ i, i < x.toNatClampNeg → ∃ q, q < 2 ^ 31 ∧ nI i * w + rwN (nuNew (spF (bbI M x.toNatClampNeg w.toNatClampNeg) w.toNatClampNeg c x.toNatClampNeg x.toNatClampNeg) p x.toNatClampNeg) (p + 1) x.toNatClampNeg 101 i = nI q := by
  intro hm
  refine ⟨TOk_of ?_ hm, ?_⟩
  · rw [rwN_off (by omega), nuN_off (by omega) (by omega), spF_off (by decide), bbI_off (by decide)]
  · intro i hi
    rw [rwN_off (by omega), nuN_off (by omega) (by omega)]
    exact tn_q h i hi
def f_X11_tonight (I : Im) (k : Int32) (z : Int32) (r : Int32) : Int32 × Im :=
  if (b2i (0 ≤ k ∧ k ≤ 3)) = 0 then
    ((-1), I)
  else
    if (b2i (0 ≤ z ∧ z ≤ 3)) = 0 then
      ((-1), I)
    else
      if (b2i (0 ≤ r ∧ r ≤ 5)) = 0 then
        ((-1), I)
      else
        if (I (124 + 2 * k.toNatClampNeg) 1) = 0 then
          let I1 : Im := (f_X11_refuse I 1).2
          ((f_X11_refuse I 1).1, I1)
        else
          if (I (132 + 3 * z.toNatClampNeg) 2) = 0 then
            let I10 : Im := (f_X11_refuse I 1).2
            ((f_X11_refuse I 1).1, I10)
          else
            if 1 ≤ ((f_X11_count I 2)) then
              let I2 : Im := up2 I 24 2 0
              let I3 : Im := tmN I2 (I (124 + 2 * k.toNatClampNeg) 2).toNatClampNeg 3
              let I4 : Im := wakeI I3 (124 + 2 * k.toNatClampNeg) (132 + 3 * z.toNatClampNeg)
              let I5 : Im := bbI I4 (((f_X11_count I 2))).toNatClampNeg ((I (124 + 2 * k.toNatClampNeg) 2)).toNatClampNeg
              let I6 : Im := spF I5 ((I (124 + 2 * k.toNatClampNeg) 2)).toNatClampNeg ((bbF I4 (((f_X11_count I 2))).toNatClampNeg ((I (124 + 2 * k.toNatClampNeg) 2)).toNatClampNeg)).toNatClampNeg (((f_X11_count I 2))).toNatClampNeg (((f_X11_count I 2))).toNatClampNeg
              let I7 : Im := nuNew I6 (104 + 2 * r.toNatClampNeg) ((f_X11_count I 2)).toNatClampNeg
              let I8 : Im := rwN I7 (104 + 2 * r.toNatClampNeg + 1) ((f_X11_count I 2)).toNatClampNeg
              let I9 : Im := (f_X11_tell I8 (puF I8 (((f_X11_count I 2))).toNatClampNeg (I (124 + 2 * k.toNatClampNeg) 2)) (paF I8 (((f_X11_count I 2))).toNatClampNeg (I (124 + 2 * k.toNatClampNeg) 2))).2
              ((f_X11_tell I8 (puF I8 (((f_X11_count I 2))).toNatClampNeg (I (124 + 2 * k.toNatClampNeg) 2)) (paF I8 (((f_X11_count I 2))).toNatClampNeg (I (124 + 2 * k.toNatClampNeg) 2))).1, I9)
            else
              ((-4), I)
set_option maxRecDepth 100000 in
set_option maxHeartbeats 4000000 in
theorem s_X11_tonight  {k : Int32} {z : Int32} {r : Int32} (hHar : HarS I) (hSea : SeaS I) (hShp : ShpS I) : Ca G mdX11_tonight [.ref 0, .int k, .int z, .int r] (mk I L t) (Rs (.int (f_X11_tonight I k z r).1) (mk ((f_X11_tonight I k z r).2) L t)) := by
  refine Ca.intro [some (.ref 0), some (.int k), some (.int z), some (.int r), none, none, none] (by decide) (Nat.le_of_ble_eq_true rfl) rfl rfl ?_
  refine ex_iload_n dX11_tonight_0 rfl ?_
  refine rx_cS dX11_tonight_1 rfl lk_X11_181 ⟨⟨rfl, rfl⟩, by decide, by decide⟩ rfl (Nat.le_of_ble_eq_true rfl) rfl s_X11_isHarbour (Rs.k ?_)
  refine ex_if_eq 21 dX11_tonight_4 (by decide) (fun h4 => ?_) (fun h4 => ?_)
  · skip
    refine ex_iconst (v := (-1)) dX11_tonight_21 (by decide) ?_
    refine ex_iret dX11_tonight_22 rfl rfl ⟨rfl, Nat.le_refl _⟩ ?_
    exact ⟨(by simp only [f_X11_tonight, ↓eq_true h4, if_true, if_false, not_true_eq_false, not_false_eq_true]), (by simp only [f_X11_tonight, ↓eq_true h4, if_true, if_false, not_true_eq_false, not_false_eq_true])⟩
  · have qk := (cl_lt (N := 4) (by decide) h4).1
    have vk := (cl_lt (N := 4) (by decide) h4).2
    have kk := ky_har qk
    have lk := ly_har (t := t) qk
    refine ex_iload_n dX11_tonight_7 rfl ?_
    refine rx_cS dX11_tonight_8 rfl lk_X11_194 ⟨⟨rfl, rfl⟩, by decide, by decide⟩ rfl (Nat.le_of_ble_eq_true rfl) rfl s_X11_isSea (Rs.k ?_)
    refine ex_if_eq 21 dX11_tonight_11 (by decide) (fun h11 => ?_) (fun h11 => ?_)
    · skip
      refine ex_iconst (v := (-1)) dX11_tonight_21 (by decide) ?_
      refine ex_iret dX11_tonight_22 rfl rfl ⟨rfl, Nat.le_refl _⟩ ?_
      exact ⟨(by simp only [f_X11_tonight, ↓eq_false h4, ↓eq_true h11, if_true, if_false, not_true_eq_false, not_false_eq_true]), (by simp only [f_X11_tonight, ↓eq_false h4, ↓eq_true h11, if_true, if_false, not_true_eq_false, not_false_eq_true])⟩
    · have qz := (cl_lt (N := 4) (by decide) h11).1
      have vz := (cl_lt (N := 4) (by decide) h11).2
      have kz := ky_sea qz
      have lz := ly_sea (t := t) qz
      refine ex_iload_n dX11_tonight_14 rfl ?_
      refine rx_cS dX11_tonight_15 rfl lk_X11_125 ⟨⟨rfl, rfl⟩, by decide, by decide⟩ rfl (Nat.le_of_ble_eq_true rfl) rfl s_X11_isRow (Rs.k ?_)
      refine ex_if_ne 23 dX11_tonight_18 (by decide) (fun h18 => ?_) (fun h18 => ?_)
      · have qr := (cl_lt (N := 6) (by decide) h18).1
        have vr := (cl_lt (N := 6) (by decide) h18).2
        have kr := ky_row qr
        have lr := ly_row (t := t) qr
        have kp := (lay6 kr).2
        refine ex_aload_n dX11_tonight_23 rfl ?_
        refine g_11_2 dX11_tonight_24 rfl wf_X11_23 (by first | assumption | rfl) (show Rt _ 0 2 = some 3 from rfl) ?_
        refine ex_iload_n dX11_tonight_27 rfl ?_
        refine rx_aald dX11_tonight_28 (by first | assumption | rfl) (by decide) rfl (by first | assumption | (unfold vp_in; decide)) (by first | assumption | rfl) ?_
        refine g_0_1 dX11_tonight_29 rfl wf_X11_206 (by first | assumption | rfl) ?_
        refine ex_if_eq 47 dX11_tonight_32 (by decide) (fun h32 => ?_) (fun h32 => ?_)
        · skip
          refine ex_aload_n dX11_tonight_47 rfl ?_
          refine ex_iconst (v := 1) dX11_tonight_48 (by decide) ?_
          refine rx_cV (kd := 11) dX11_tonight_49 rfl lk_X11_129 rfl (by decide) (by first | assumption | rfl) ⟨⟨rfl, rfl⟩, by decide, by decide⟩ rfl (Nat.le_of_ble_eq_true rfl) rfl (s_X11_refuse (by unfold vp_in; decide)) (Rs.k ?_)
          refine ex_iret dX11_tonight_52 rfl rfl ⟨rfl, Nat.le_refl _⟩ ?_
          exact ⟨(by simp only [f_X11_tonight, ↓eq_false h4, ↓eq_false h11, ↓eq_false h18, ↓eq_true h32, if_true, if_false, not_true_eq_false, not_false_eq_true]), (by simp only [f_X11_tonight, ↓eq_false h4, ↓eq_false h11, ↓eq_false h18, ↓eq_true h32, if_true, if_false, not_true_eq_false, not_false_eq_true])⟩
        · skip
          refine ex_aload_n dX11_tonight_35 rfl ?_
          refine g_11_3 dX11_tonight_36 rfl wf_X11_29 (by first | assumption | rfl) (show Rt _ 0 3 = some 4 from rfl) ?_
          refine ex_iload_n dX11_tonight_39 rfl ?_
          refine rx_aald dX11_tonight_40 (by first | assumption | rfl) (by decide) rfl (by first | assumption | (unfold vp_in; decide)) (by first | assumption | rfl) ?_
          refine g_8_2 dX11_tonight_41 rfl wf_X11_121 (by first | assumption | rfl) ?_
          refine ex_if_ne 53 dX11_tonight_44 (by decide) (fun h44 => ?_) (fun h44 => ?_)
          · skip
            refine ex_aload_n dX11_tonight_53 rfl ?_
            refine ex_iconst (v := 2) dX11_tonight_54 (by decide) ?_
            refine rx_cV (kd := 11) dX11_tonight_55 rfl lk_X11_413 rfl (by decide) (by first | assumption | rfl) ⟨⟨rfl, rfl⟩, by decide, by decide⟩ rfl (Nat.le_of_ble_eq_true rfl) rfl s_X11_count (Rs.k ?_)
            refine st_i4 dX11_tonight_58 (by first | exact rfl | exact trivial) ?_
            refine ex_iload dX11_tonight_60 rfl ?_
            refine ex_iconst (v := 1) dX11_tonight_62 (by decide) ?_
            refine ex_icmp_ge 69 dX11_tonight_63 (by decide) (fun h63 => ?_) (fun h63 => ?_)
            · have hb := BOk_h hHar qk h32
              have hs := SOk_s hSea qz
              have hA := afO h63 hb.2.2.2
              have hw16 : (I (124 + 2 * k.toNatClampNeg) 2).toNatClampNeg ≤ 16 := by
                obtain ⟨n, h3, hn, en⟩ := hb.2.2.2
                rw [en, nI_clamp (by omega)]
                exact hn
              refine ex_aload_n dX11_tonight_69 rfl ?_
              refine g_11_2 dX11_tonight_70 rfl wf_X11_23 (by first | assumption | rfl) (show Rt _ 0 2 = some 3 from rfl) ?_
              refine ex_iload_n dX11_tonight_73 rfl ?_
              refine rx_aald dX11_tonight_74 (by first | assumption | rfl) (by decide) rfl (by first | assumption | (unfold vp_in; decide)) (by first | assumption | rfl) ?_
              refine g_0_2 dX11_tonight_75 rfl wf_X11_191 (by first | assumption | rfl) ?_
              refine st_i5 dX11_tonight_78 (by first | exact rfl | exact trivial) ?_
              refine ex_aload_n dX11_tonight_80 rfl ?_
              refine g_11_8 dX11_tonight_81 rfl wf_X11_58 (by first | assumption | rfl) (show Rt _ 0 8 = some 24 from rfl) ?_
              refine rx_cV (kd := 5) dX11_tonight_84 rfl lk_X11_236 rfl (by decide) (by first | assumption | rfl) ⟨⟨rfl, rfl⟩, by decide, by decide⟩ rfl (Nat.le_of_ble_eq_true rfl) rfl (s_X5_clear (a := 24) rfl) (Rv.k ?_)
              refine ex_iconst (v := 0) dX11_tonight_87 (by decide) ?_
              refine st_i6 dX11_tonight_88 (by first | exact rfl | exact trivial) ?_
              refine (lp_ton0 hb.2.2.2 u20 (fun q hq => by rw [clr (by omega)]; exact hShp q hq)) ?_
              refine ex_aload_n dX11_tonight_128 rfl ?_
              refine g_11_8 dX11_tonight_129 rfl wf_X11_58 (by first | assumption | rfl) (show Rt _ 0 8 = some 24 from rfl) ?_
              refine ex_aload_n dX11_tonight_132 rfl ?_
              refine g_11_2 dX11_tonight_133 rfl wf_X11_23 (by first | assumption | rfl) (show Rt _ 0 2 = some 3 from rfl) ?_
              refine ex_iload_n dX11_tonight_136 rfl ?_
              refine rx_aald dX11_tonight_137 (by first | assumption | rfl) (by decide) rfl (by first | assumption | (unfold vp_in; decide)) (by first | assumption | rfl) ?_
              refine ex_aload_n dX11_tonight_138 rfl ?_
              refine g_11_3 dX11_tonight_139 rfl wf_X11_29 (by first | assumption | rfl) (show Rt _ 0 3 = some 4 from rfl) ?_
              refine ex_iload_n dX11_tonight_142 rfl ?_
              refine rx_aald dX11_tonight_143 (by first | assumption | rfl) (by decide) rfl (by first | assumption | (unfold vp_in; decide)) (by first | assumption | rfl) ?_
              refine rx_cV (kd := 5) dX11_tonight_144 rfl lk_X11_381 rfl (by decide) (by first | assumption | rfl) ⟨⟨rfl, rfl⟩, by decide, by decide⟩ rfl (Nat.le_of_ble_eq_true rfl) rfl (s_wakeT (BOk_of (by rw [(tmN_all hw16 u20 3 (by decide)).1 _ (by omega), clr (by omega)]) hb) (SOk_of (by rw [(tmN_all hw16 u20 3 (by decide)).1 _ (by omega), clr (by omega)]) hs) (tmN_t hw16 u20)) (Rv.k ?_)
              refine ex_aload_n dX11_tonight_147 rfl ?_
              refine ex_aload_n dX11_tonight_148 rfl ?_
              refine ex_iload dX11_tonight_149 rfl ?_
              refine ex_iload dX11_tonight_151 rfl ?_
              refine rx_cV (kd := 11) dX11_tonight_153 rfl lk_X11_416 rfl (by decide) (by first | assumption | rfl) ⟨⟨rfl, rfl⟩, by decide, by decide⟩ rfl (Nat.le_of_ble_eq_true rfl) rfl (s_bestG hA (wakeI_t (tmN_t hw16 u20))) (Rs.k ?_)
              refine ex_iload dX11_tonight_156 rfl ?_
              refine ex_iload dX11_tonight_158 rfl ?_
              refine rx_cV (kd := 11) dX11_tonight_160 rfl lk_X11_419 rfl (by decide) (by first | assumption | rfl) ⟨⟨rfl, rfl⟩, by decide, by decide⟩ rfl (Nat.le_of_ble_eq_true rfl) rfl (s_spreadG hA) (Rv.k ?_)
              refine ex_aload_n dX11_tonight_163 rfl ?_
              refine g_11_0 dX11_tonight_164 rfl wf_X11_11 (by first | assumption | rfl) (show Rt _ 0 0 = some 1 from rfl) ?_
              refine ex_iload_n dX11_tonight_167 rfl ?_
              refine rx_aald dX11_tonight_168 (by first | assumption | rfl) (by decide) rfl (by first | assumption | (unfold vp_in; decide)) (by first | assumption | rfl) ?_
              refine ex_iload dX11_tonight_169 rfl ?_
              refine rx_cV (kd := 6) dX11_tonight_171 rfl lk_X11_133 rfl (by decide) (by first | assumption | rfl) ⟨⟨rfl, rfl⟩, by decide, by decide⟩ rfl (Nat.le_of_ble_eq_true rfl) rfl (s_X6_renewR kr (AfO_r hA).1 (AfO_r hA).2) (Rv.k ?_)
              refine ex_iconst (v := 0) dX11_tonight_174 (by decide) ?_
              refine st_i6 dX11_tonight_175 (by first | exact rfl | exact trivial) ?_
              refine (lp_row0 hA vr kr kp lr) ?_
              refine ex_aload_n dX11_tonight_215 rfl ?_
              refine ex_aload_n dX11_tonight_216 rfl ?_
              refine ex_iload dX11_tonight_217 rfl ?_
              refine ex_iload dX11_tonight_219 rfl ?_
              refine rx_cV (kd := 11) dX11_tonight_221 rfl lk_X11_423 rfl (by decide) (by first | assumption | rfl) ⟨⟨rfl, rfl⟩, by decide, by decide⟩ rfl (Nat.le_of_ble_eq_true rfl) rfl (s_pullsG hA (tn_j hA (by omega) (wakeI_t (tmN_t hw16 u20))).1 (tn_j hA (by omega) (wakeI_t (tmN_t hw16 u20))).2) (Rs.k ?_)
              refine ex_aload_n dX11_tonight_224 rfl ?_
              refine ex_iload dX11_tonight_225 rfl ?_
              refine ex_iload dX11_tonight_227 rfl ?_
              refine rx_cV (kd := 11) dX11_tonight_229 rfl lk_X11_426 rfl (by decide) (by first | assumption | rfl) ⟨⟨rfl, rfl⟩, by decide, by decide⟩ rfl (Nat.le_of_ble_eq_true rfl) rfl (s_partingG hA (tn_j hA (by omega) (wakeI_t (tmN_t hw16 u20))).1 (tn_j hA (by omega) (wakeI_t (tmN_t hw16 u20))).2) (Rs.k ?_)
              refine rx_cV (kd := 11) dX11_tonight_232 rfl lk_X11_143 rfl (by decide) (by first | assumption | rfl) ⟨⟨rfl, rfl⟩, by decide, by decide⟩ rfl (Nat.le_of_ble_eq_true rfl) rfl s_X11_tell (Rs.k ?_)
              refine ex_iret dX11_tonight_235 rfl rfl ⟨rfl, Nat.le_refl _⟩ ?_
              exact ⟨(by simp only [f_X11_tonight, ↓eq_false h4, ↓eq_false h11, ↓eq_false h18, ↓eq_false h32, ↓eq_false h44, ↓h63, if_true, if_false, not_true_eq_false, not_false_eq_true]), (by simp only [f_X11_tonight, ↓eq_false h4, ↓eq_false h11, ↓eq_false h18, ↓eq_false h32, ↓eq_false h44, ↓h63, if_true, if_false, not_true_eq_false, not_false_eq_true])⟩
            · skip
              refine ex_bipush (v := (-4)) dX11_tonight_66 (by decide) ?_
              refine ex_iret dX11_tonight_68 rfl rfl ⟨rfl, Nat.le_refl _⟩ ?_
              exact ⟨(by simp only [f_X11_tonight, ↓eq_false h4, ↓eq_false h11, ↓eq_false h18, ↓eq_false h32, ↓eq_false h44, ↓h63, if_true, if_false, not_true_eq_false, not_false_eq_true]), (by simp only [f_X11_tonight, ↓eq_false h4, ↓eq_false h11, ↓eq_false h18, ↓eq_false h32, ↓eq_false h44, ↓h63, if_true, if_false, not_true_eq_false, not_false_eq_true])⟩
          · skip
            refine ex_aload_n dX11_tonight_47 rfl ?_
            refine ex_iconst (v := 1) dX11_tonight_48 (by decide) ?_
            refine rx_cV (kd := 11) dX11_tonight_49 rfl lk_X11_129 rfl (by decide) (by first | assumption | rfl) ⟨⟨rfl, rfl⟩, by decide, by decide⟩ rfl (Nat.le_of_ble_eq_true rfl) rfl (s_X11_refuse (by unfold vp_in; decide)) (Rs.k ?_)
            refine ex_iret dX11_tonight_52 rfl rfl ⟨rfl, Nat.le_refl _⟩ ?_
            exact ⟨(by simp only [f_X11_tonight, ↓eq_false h4, ↓eq_false h11, ↓eq_false h18, ↓eq_false h32, ↓eq_true h44, if_true, if_false, not_true_eq_false, not_false_eq_true]), (by simp only [f_X11_tonight, ↓eq_false h4, ↓eq_false h11, ↓eq_false h18, ↓eq_false h32, ↓eq_true h44, if_true, if_false, not_true_eq_false, not_false_eq_true])⟩
      · skip
        refine ex_iconst (v := (-1)) dX11_tonight_21 (by decide) ?_
        refine ex_iret dX11_tonight_22 rfl rfl ⟨rfl, Nat.le_refl _⟩ ?_
        exact ⟨(by simp only [f_X11_tonight, ↓eq_false h4, ↓eq_false h11, ↓eq_true h18, if_true, if_false, not_true_eq_false, not_false_eq_true]), (by simp only [f_X11_tonight, ↓eq_false h4, ↓eq_false h11, ↓eq_true h18, if_true, if_false, not_true_eq_false, not_false_eq_true])⟩
end N10
