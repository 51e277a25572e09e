section C7
variable {G : Gp} {I : Im} {L : Nat → Nat → Int64} {t : Nat}
def rdM (I : Im) (p : Nat) : Im := up2 I 85 3 (nI p)
theorem rdM_r {p : Nat} : rdM I p 85 3 = nI p := u2_s
theorem rdM_off {p c : Nat} (h : c ≠ 85) : rdM I p c = I c := up2_off h
theorem rdM_w {p q : Nat} : up2 (rdM I p) 85 3 (nI q) = rdM I q := by
  funext a j
  by_cases h : a = 85 ∧ j = 3
  · simp [rdM, up2, h]
  · simp [rdM, up2, h]
theorem rdM_c {p c j : Nat} {v : Int32} (h : c ≠ 85) : up2 (rdM I p) c j v = rdM (up2 I c j v) p := by
  funext a i
  by_cases h1 : a = c
  · subst h1
    simp [rdM, up2, h]
  · simp [rdM, up2, h1]
def sgF (b : Nat → Int32) (m p : Nat) : Int32 := if p < m then b p else 1000
def skipN (f : Nat → Int32) : Nat → Nat → Nat
  | 0, p => p
  | k + 1, p => if f p = 32 then skipN f k (p + 1) else p
abbrev figOk (f : Nat → Int32) (p : Nat) (lo : Int32) : Prop := lo ≤ f p - 48 ∧ f p - 48 ≤ 9
def figV (f : Nat → Int32) (p : Nat) (lo : Int32) : Int32 := if figOk f p lo then f p - 48 else -1
def numN (f : Nat → Int32) (p : Nat) : Nat := if figOk f p 0 then (if figOk f (p + 1) 0 then p + 2 else p + 1) else p
def numW (f : Nat → Int32) (p : Nat) : Int32 := if figOk f (p + 1) 0 then 10 * (f p - 48) + (f (p + 1) - 48) else f p - 48
def numR (f : Nat → Int32) (p : Nat) (lo hi : Int32) : Int32 := if figOk f p 0 ∧ lo ≤ numW f p ∧ numW f p ≤ hi then numW f p else -1
abbrev It : Type := Bool × Nat × Nat × Int32 × Int32
def itK (f : Nat → Int32) (p : Nat) (hi lo : Int32) (kd : Nat) : It :=
  if numR f p 0 hi < 0 then (false, numN f p, 0, 0, 0) else if ¬ f (numN f p) = 58 then (false, numN f p, 0, 0, 0) else if figOk f (numN f p + 1) lo then (true, numN f p + 2, kd, numR f p 0 hi, f (numN f p + 1) - 48) else (false, numN f p + 1, 0, 0, 0)
def itW (f : Nat → Int32) (p : Nat) (hi : Int32) : It := if numR f p 0 hi < 0 then (false, numN f p, 0, 0, 0) else (true, numN f p, 2, numR f p 0 hi, 0)
def itR (f : Nat → Int32) (p : Nat) : It := if figOk f p 0 then (true, p + 1, 4, 0, f p - 48) else (false, p, 0, 0, 0)
def itm (f : Nat → Int32) (n p : Nat) : It := if f p = 100 then itK f (p + 1) (nI (n - 1)) 1 1 else if f p = 119 then itW f (p + 1) (nI (n - 2)) else if f p = 109 then itK f (p + 1) (nI (n - 1)) 0 3 else if f p = 114 then itR f (p + 1) else (false, p, 0, 0, 0)
def itE (I : Im) (x : It) : Im := if x.2.2.1 = 1 then up2 I 87 x.2.2.2.1.toNatClampNeg x.2.2.2.2 else if x.2.2.1 = 2 then baWall I 86 x.2.2.2.1 else if x.2.2.1 = 3 then up2 (up2 I 86 3 x.2.2.2.1) 86 4 x.2.2.2.2 else if x.2.2.1 = 4 then up2 I 86 5 x.2.2.2.2 else I
set_option maxRecDepth 100000 in
set_option maxHeartbeats 4000000 in
theorem s_X7_open {b : Nat} : Ca G mdX7_open [.ref 85, .ref b] (mk I L t) (Rv (mk (rdM I 0) L b)) := by
  refine Ca.intro [some (.ref 85), some (.ref b)] (by decide) (Nat.le_of_ble_eq_true rfl) rfl rfl ?_
  refine ex_aload_n dX7_open_0 rfl ?_
  refine ex_aload_n dX7_open_1 rfl ?_
  refine rx_pT dX7_open_2 rfl wf_X7_28 ?_
  refine ex_aload_n dX7_open_5 rfl ?_
  refine ex_iconst (v := 0) dX7_open_6 (by decide) ?_
  refine p_7_3 dX7_open_7 rfl wf_X7_32 (by first | assumption | rfl) ?_
  refine ex_vret dX7_open_10 rfl ⟨rfl, Nat.le_refl _⟩ ?_
  exact ⟨rfl, rfl⟩
set_option maxRecDepth 100000 in
set_option maxHeartbeats 4000000 in
theorem s_X7_sign {m p : Nat} (ht : K0 t = (4, 3)) (hm : I t 1 = nI m) (hm100 : m ≤ 100) (hp : p < 2 ^ 31) : Ca G mdX7_sign [.ref 85] (mk (rdM I p) L t) (Rs (.int (sgF (I (t + 1)) m p)) (mk (rdM I p) L t)) := by
  refine Ca.intro [some (.ref 85)] (by decide) (Nat.le_of_ble_eq_true rfl) rfl rfl ?_
  have nt : t ≠ 85 := K0ne (b := 85) (k2 := 7) (n2 := 4) ht rfl (by decide)
  have ht1 : K0 (t + 1) = (13, 100) := (lay4 ht).2
  have nt1 : t + 1 ≠ 85 := K0ne (b := 85) (k2 := 7) (n2 := 4) ht1 rfl (by decide)
  have hRt : Rt t 85 2 = some t := rfl
  refine ex_aload_n dX7_sign_0 rfl ?_
  refine g_7_2 dX7_sign_1 rfl wf_X7_28 (by first | assumption | rfl) hRt ?_
  refine ex_aload_n dX7_sign_4 rfl ?_
  refine g_7_3 dX7_sign_5 rfl wf_X7_32 (by first | assumption | rfl) ?_
  rw [rdM_r]
  refine rx_cV (kd := 4) dX7_sign_8 rfl lk_X7_112 rfl (by decide) (by first | assumption | rfl) ⟨⟨rfl, rfl⟩, by decide, by decide⟩ rfl (Nat.le_of_ble_eq_true rfl) rfl (s_X4_has ht) (Rs.k ?_)
  refine ex_if_eq 29 dX7_sign_11 (by decide) (fun h11 => ?_) (fun h11 => ?_)
  · skip
    refine ex_sipush (v := 1000) dX7_sign_29 (by decide) ?_
    refine ex_iret dX7_sign_32 rfl rfl ⟨rfl, Nat.le_refl _⟩ ?_
    first | exact ⟨by rw [rdM_off nt, hm] at h11; rw [sgF, if_pos ((nI_ltI hp (by omega)).mp (b2i_n0.mp h11).2)], rfl⟩ | exact ⟨by rw [rdM_off nt, hm] at h11; rw [sgF, if_neg (fun q => b2i_0.mp h11 ⟨nI_pos' hp, (nI_ltI hp (by omega)).mpr q⟩)], rfl⟩
  · skip
    refine ex_aload_n dX7_sign_14 rfl ?_
    refine g_7_2 dX7_sign_15 rfl wf_X7_28 (by first | assumption | rfl) hRt ?_
    refine g_4_0 dX7_sign_18 rfl wf_X7_115 (by first | assumption | rfl) (layR_4_0 (by first | assumption | rfl)) ?_
    refine ex_aload_n dX7_sign_21 rfl ?_
    refine g_7_3 dX7_sign_22 rfl wf_X7_32 (by first | assumption | rfl) ?_
    rw [rdM_r]
    refine rx_bald dX7_sign_25 (by first | assumption | rfl) (vpi (by have h2 := (nI_ltI (b := m) hp (by omega)).mp (by rw [rdM_off nt, hm] at h11; exact (b2i_n0.mp h11).2); omega)) ?_
    rw [rdM_off nt1, nI_clamp hp]
    refine ex_goto 32 dX7_sign_26 (by decide) ?_
    refine ex_iret dX7_sign_32 rfl rfl ⟨rfl, Nat.le_refl _⟩ ?_
    first | exact ⟨by rw [rdM_off nt, hm] at h11; rw [sgF, if_pos ((nI_ltI hp (by omega)).mp (b2i_n0.mp h11).2)], rfl⟩ | exact ⟨by rw [rdM_off nt, hm] at h11; rw [sgF, if_neg (fun q => b2i_0.mp h11 ⟨nI_pos' hp, (nI_ltI hp (by omega)).mpr q⟩)], rfl⟩
set_option maxRecDepth 100000 in
set_option maxHeartbeats 4000000 in
theorem s_X7_take {m p : Nat} {c : Int32} (ht : K0 t = (4, 3)) (hm : I t 1 = nI m) (hm100 : m ≤ 100) (hp : p < 2 ^ 31 - 1) : Ca G mdX7_take [.ref 85, .int c] (mk (rdM I p) L t) (Rs (.int (b2i (sgF (I (t + 1)) m p = c))) (mk (rdM I (if sgF (I (t + 1)) m p = c then p + 1 else p)) L t)) := by
  refine Ca.intro [some (.ref 85), some (.int c)] (by decide) (Nat.le_of_ble_eq_true rfl) rfl rfl ?_
  have nt : t ≠ 85 := K0ne (b := 85) (k2 := 7) (n2 := 4) ht rfl (by decide)
  have ht1 : K0 (t + 1) = (13, 100) := (lay4 ht).2
  have nt1 : t + 1 ≠ 85 := K0ne (b := 85) (k2 := 7) (n2 := 4) ht1 rfl (by decide)
  have hRt : Rt t 85 2 = some t := rfl
  refine ex_aload_n dX7_take_0 rfl ?_
  refine rx_cV (kd := 7) dX7_take_1 rfl lk_X7_119 rfl (by decide) (by first | assumption | rfl) ⟨⟨rfl, rfl⟩, by decide, by decide⟩ rfl (Nat.le_of_ble_eq_true rfl) rfl (s_X7_sign (m := m) ht hm hm100 (by omega)) (Rs.k ?_)
  refine ex_iload_n dX7_take_4 rfl ?_
  refine ex_icmp_eq 10 dX7_take_5 (by decide) (fun h5 => ?_) (fun h5 => ?_)
  · skip
    refine ex_aload_n dX7_take_10 rfl ?_
    refine ex_dup dX7_take_11 rfl ?_
    refine g_7_3 dX7_take_12 rfl wf_X7_32 (by first | assumption | rfl) ?_
    rw [rdM_r]
    refine ex_iconst (v := 1) dX7_take_15 (by decide) ?_
    refine ex_iadd dX7_take_16 ?_
    refine p_7_3 dX7_take_17 rfl wf_X7_32 (by first | assumption | rfl) ?_
    refine ex_iconst (v := 1) dX7_take_20 (by decide) ?_
    refine ex_iret dX7_take_21 rfl rfl ⟨rfl, Nat.le_refl _⟩ ?_
    exact ⟨b2i_t h5, by rw [if_pos h5, nI_1, rdM_w]⟩
  · skip
    refine ex_iconst (v := 0) dX7_take_8 (by decide) ?_
    refine ex_iret dX7_take_9 rfl rfl ⟨rfl, Nat.le_refl _⟩ ?_
    exact ⟨b2i_f h5, by rw [if_neg h5]⟩
set_option maxRecDepth 100000 in
set_option maxHeartbeats 4000000 in
theorem s_X7_skipBlanks {m p : Nat} (ht : K0 t = (4, 3)) (hm : I t 1 = nI m) (hm100 : m ≤ 100) (hp : p < 2 ^ 31 - 200) : Ca G mdX7_skipBlanks [.ref 85] (mk (rdM I p) L t) (Rv (mk (rdM I (skipN (sgF (I (t + 1)) m) 100 p)) L t)) := by
  refine Ca.intro [some (.ref 85), none] (by decide) (Nat.le_of_ble_eq_true rfl) rfl rfl ?_
  have nt : t ≠ 85 := K0ne (b := 85) (k2 := 7) (n2 := 4) ht rfl (by decide)
  have ht1 : K0 (t + 1) = (13, 100) := (lay4 ht).2
  have nt1 : t + 1 ≠ 85 := K0ne (b := 85) (k2 := 7) (n2 := 4) ht1 rfl (by decide)
  have hRt : Rt t 85 2 = some t := rfl
  refine ex_iconst (v := 0) dX7_skipBlanks_0 (by decide) ?_
  refine st_i1 dX7_skipBlanks_1 (by first | exact rfl | exact trivial) ?_
  have key : ∀ f i q, i + f = 100 → q + f < 2 ^ 31 - 90 → Ex G mdX7_skipBlanks 2 [some (.ref 85), some (.int (nI i))] [] (mk (rdM I q) L t) 0 0 (Rv (mk (rdM I (skipN (sgF (I (t + 1)) m) f q)) L t)) := by
    intro f
    induction f with
    | zero =>
      intro i q hi hq
      refine ex_iload_n dX7_skipBlanks_2 rfl ?_
      refine ex_bipush (v := 100) dX7_skipBlanks_3 (by decide) ?_
      refine ex_icmp_ge 33 dX7_skipBlanks_5 (by decide) (fun h5 => ?_) (fun h5 => ?_)
      · skip
        refine ex_vret dX7_skipBlanks_33 rfl ⟨rfl, Nat.le_refl _⟩ ?_
        exact ⟨rfl, rfl⟩
      · exact absurd (nI_le (a := 100) (by omega) (by omega)) h5
    | succ f ih =>
      intro i q hi hq
      refine ex_iload_n dX7_skipBlanks_2 rfl ?_
      refine ex_bipush (v := 100) dX7_skipBlanks_3 (by decide) ?_
      refine ex_icmp_ge 33 dX7_skipBlanks_5 (by decide) (fun h5 => ?_) (fun h5 => ?_)
      · exact absurd h5 (nI_ge (b := 100) (by omega) (by omega))
      · skip
        refine ex_aload_n dX7_skipBlanks_8 rfl ?_
        refine rx_cV (kd := 7) dX7_skipBlanks_9 rfl lk_X7_119 rfl (by decide) (by first | assumption | rfl) ⟨⟨rfl, rfl⟩, by decide, by decide⟩ rfl (Nat.le_of_ble_eq_true rfl) rfl (s_X7_sign (m := m) ht hm hm100 (by omega)) (Rs.k ?_)
        refine ex_bipush (v := 32) dX7_skipBlanks_12 (by decide) ?_
        refine ex_icmp_ne 33 dX7_skipBlanks_14 (by decide) (fun h14 => ?_) (fun h14 => ?_)
        · skip
          refine ex_vret dX7_skipBlanks_33 rfl ⟨rfl, Nat.le_refl _⟩ ?_
          exact ⟨rfl, by rw [skipN, if_neg h14]⟩
        · skip
          refine ex_aload_n dX7_skipBlanks_17 rfl ?_
          refine ex_dup dX7_skipBlanks_18 rfl ?_
          refine g_7_3 dX7_skipBlanks_19 rfl wf_X7_32 (by first | assumption | rfl) ?_
          rw [rdM_r]
          refine ex_iconst (v := 1) dX7_skipBlanks_22 (by decide) ?_
          refine ex_iadd dX7_skipBlanks_23 ?_
          refine p_7_3 dX7_skipBlanks_24 rfl wf_X7_32 (by first | assumption | rfl) ?_
          refine inc1 (v := _ + 1) dX7_skipBlanks_27 (by rfl) (by first | exact rfl | exact trivial) ?_
          refine ex_goto 2 dX7_skipBlanks_30 (by decide) ?_
          rw [nI_1, nI_1, rdM_w, skipN, if_pos h14]
          exact ih (i + 1) (q + 1) (by omega) (by omega)
  exact key 100 0 p (by decide) (by omega)
set_option maxRecDepth 100000 in
set_option maxHeartbeats 4000000 in
theorem s_X7_figure {m p : Nat} {lo : Int32} (ht : K0 t = (4, 3)) (hm : I t 1 = nI m) (hm100 : m ≤ 100) (hp : p < 2 ^ 31 - 1) : Ca G mdX7_figure [.ref 85, .int lo] (mk (rdM I p) L t) (Rs (.int (figV (sgF (I (t + 1)) m) p lo)) (mk (rdM I (if figOk (sgF (I (t + 1)) m) p lo then p + 1 else p)) L t)) := by
  refine Ca.intro [some (.ref 85), some (.int lo), none] (by decide) (Nat.le_of_ble_eq_true rfl) rfl rfl ?_
  have nt : t ≠ 85 := K0ne (b := 85) (k2 := 7) (n2 := 4) ht rfl (by decide)
  have ht1 : K0 (t + 1) = (13, 100) := (lay4 ht).2
  have nt1 : t + 1 ≠ 85 := K0ne (b := 85) (k2 := 7) (n2 := 4) ht1 rfl (by decide)
  have hRt : Rt t 85 2 = some t := rfl
  refine ex_aload_n dX7_figure_0 rfl ?_
  refine rx_cV (kd := 7) dX7_figure_1 rfl lk_X7_119 rfl (by decide) (by first | assumption | rfl) ⟨⟨rfl, rfl⟩, by decide, by decide⟩ rfl (Nat.le_of_ble_eq_true rfl) rfl (s_X7_sign (m := m) ht hm hm100 (by omega)) (Rs.k ?_)
  refine ex_bipush (v := 48) dX7_figure_4 (by decide) ?_
  refine ex_isub dX7_figure_6 ?_
  refine st_i2 dX7_figure_7 (by first | exact rfl | exact trivial) ?_
  refine ex_iload_n dX7_figure_8 rfl ?_
  refine ex_iload_n dX7_figure_9 rfl ?_
  refine ex_bipush (v := 9) dX7_figure_10 (by decide) ?_
  refine rx_cSN dX7_figure_12 rfl lk_X7_123 ⟨⟨rfl, rfl⟩, by decide, by decide⟩ rfl (Nat.le_of_ble_eq_true rfl) rfl s_X11_within (Rs.k ?_)
  refine ex_if_ne 20 dX7_figure_15 (by decide) (fun h15 => ?_) (fun h15 => ?_)
  · skip
    refine ex_aload_n dX7_figure_20 rfl ?_
    refine ex_dup dX7_figure_21 rfl ?_
    refine g_7_3 dX7_figure_22 rfl wf_X7_32 (by first | assumption | rfl) ?_
    rw [rdM_r]
    refine ex_iconst (v := 1) dX7_figure_25 (by decide) ?_
    refine ex_iadd dX7_figure_26 ?_
    refine p_7_3 dX7_figure_27 rfl wf_X7_32 (by first | assumption | rfl) ?_
    refine ex_iload_n dX7_figure_30 rfl ?_
    refine ex_iret dX7_figure_31 rfl rfl ⟨rfl, Nat.le_refl _⟩ ?_
    exact ⟨by rw [figV, if_pos (b2i_n0.mp h15)], by rw [if_pos (b2i_n0.mp h15), nI_1, rdM_w]⟩
  · skip
    refine ex_iconst (v := (-1)) dX7_figure_18 (by decide) ?_
    refine ex_iret dX7_figure_19 rfl rfl ⟨rfl, Nat.le_refl _⟩ ?_
    exact ⟨by rw [figV, if_neg (b2i_0.mp h15)], by rw [if_neg (b2i_0.mp h15)]⟩
theorem figV_lt {f : Nat → Int32} {p : Nat} : figV f p 0 < 0 ↔ ¬ figOk f p 0 := by
  unfold figV
  split
  · rename_i h
    exact ⟨fun q => absurd q (Int32.not_lt.mpr h.1), fun q => absurd h q⟩
  · rename_i h
    exact ⟨fun _ => h, fun _ => by decide⟩
theorem figV_lt1 {f : Nat → Int32} {p : Nat} : figV f p 1 < 0 ↔ ¬ figOk f p 1 := by
  unfold figV
  split
  · rename_i h
    refine ⟨fun q => ?_, fun q => absurd h q⟩
    exfalso
    have := h.1
    grind
  · rename_i h
    exact ⟨fun _ => h, fun _ => by decide⟩
set_option maxRecDepth 100000 in
set_option maxHeartbeats 4000000 in
theorem s_X7_number {m p : Nat} {lo hi : Int32} (ht : K0 t = (4, 3)) (hm : I t 1 = nI m) (hm100 : m ≤ 100) (hp : p < 2 ^ 31 - 2) : Ca G mdX7_number [.ref 85, .int lo, .int hi] (mk (rdM I p) L t) (Rs (.int (numR (sgF (I (t + 1)) m) p lo hi)) (mk (rdM I (numN (sgF (I (t + 1)) m) p)) L t)) := by
  refine Ca.intro [some (.ref 85), some (.int lo), some (.int hi), none, none] (by decide) (Nat.le_of_ble_eq_true rfl) rfl rfl ?_
  have nt : t ≠ 85 := K0ne (b := 85) (k2 := 7) (n2 := 4) ht rfl (by decide)
  have ht1 : K0 (t + 1) = (13, 100) := (lay4 ht).2
  have nt1 : t + 1 ≠ 85 := K0ne (b := 85) (k2 := 7) (n2 := 4) ht1 rfl (by decide)
  have hRt : Rt t 85 2 = some t := rfl
  refine ex_aload_n dX7_number_0 rfl ?_
  refine ex_iconst (v := 0) dX7_number_1 (by decide) ?_
  refine rx_cV (kd := 7) dX7_number_2 rfl lk_X7_80 rfl (by decide) (by first | assumption | rfl) ⟨⟨rfl, rfl⟩, by decide, by decide⟩ rfl (Nat.le_of_ble_eq_true rfl) rfl (s_X7_figure (m := m) ht hm hm100 (by omega)) (Rs.k ?_)
  refine st_i3 dX7_number_5 (by first | exact rfl | exact trivial) ?_
  refine ex_iload_n dX7_number_6 rfl ?_
  refine ex_if_ge 12 dX7_number_7 (by decide) (fun h7 => ?_) (fun h7 => ?_)
  · have g1 : figOk (sgF (I (t + 1)) m) p 0 := by rcases Decidable.em (figOk (sgF (I (t + 1)) m) p 0) with q | q; exact q; exact absurd (figV_lt.mpr q) (Int32.not_lt.mpr h7)
    rw [if_pos g1, show figV (sgF (I (t + 1)) m) p 0 = sgF (I (t + 1)) m p - 48 from if_pos g1]
    refine ex_aload_n dX7_number_12 rfl ?_
    refine ex_iconst (v := 0) dX7_number_13 (by decide) ?_
    refine rx_cV (kd := 7) dX7_number_14 rfl lk_X7_80 rfl (by decide) (by first | assumption | rfl) ⟨⟨rfl, rfl⟩, by decide, by decide⟩ rfl (Nat.le_of_ble_eq_true rfl) rfl (s_X7_figure (m := m) ht hm hm100 (by omega)) (Rs.k ?_)
    refine st_i4 dX7_number_17 (by first | exact rfl | exact trivial) ?_
    refine ex_iload dX7_number_19 rfl ?_
    refine ex_if_lt 32 dX7_number_21 (by decide) (fun h21 => ?_) (fun h21 => ?_)
    · have g2 : ¬ figOk (sgF (I (t + 1)) m) (p + 1) 0 := figV_lt.mp h21
      rw [if_neg g2]
      have eW : numW (sgF (I (t + 1)) m) p = sgF (I (t + 1)) m p - 48 := if_neg g2
      refine ex_iload_n dX7_number_32 rfl ?_
      refine ex_iload_n dX7_number_33 rfl ?_
      refine ex_iload_n dX7_number_34 rfl ?_
      refine rx_cSN dX7_number_35 rfl lk_X7_123 ⟨⟨rfl, rfl⟩, by decide, by decide⟩ rfl (Nat.le_of_ble_eq_true rfl) rfl s_X11_within (Rs.k ?_)
      refine ex_if_eq 45 dX7_number_38 (by decide) (fun h38 => ?_) (fun h38 => ?_)
      · skip
        refine ex_iconst (v := (-1)) dX7_number_45 (by decide) ?_
        refine ex_iret dX7_number_46 rfl rfl ⟨rfl, Nat.le_refl _⟩ ?_
        have eN : numN (sgF (I (t + 1)) m) p = _ := if_pos g1
        first | rw [if_pos g2] at eN | rw [if_neg g2] at eN
        rw [← eW] at h38
        exact ⟨by (try rw [← eW]); first | (rw [numR, if_pos ⟨g1, b2i_n0.mp h38⟩]; done) | (rw [numR, if_neg (fun q => b2i_0.mp h38 q.2)]; done), by rw [eN]⟩
      · skip
        refine ex_iload_n dX7_number_41 rfl ?_
        refine ex_goto 46 dX7_number_42 (by decide) ?_
        refine ex_iret dX7_number_46 rfl rfl ⟨rfl, Nat.le_refl _⟩ ?_
        have eN : numN (sgF (I (t + 1)) m) p = _ := if_pos g1
        first | rw [if_pos g2] at eN | rw [if_neg g2] at eN
        rw [← eW] at h38
        exact ⟨by (try rw [← eW]); first | (rw [numR, if_pos ⟨g1, b2i_n0.mp h38⟩]; done) | (rw [numR, if_neg (fun q => b2i_0.mp h38 q.2)]; done), by rw [eN]⟩
    · have g2 : figOk (sgF (I (t + 1)) m) (p + 1) 0 := by rcases Decidable.em (figOk (sgF (I (t + 1)) m) (p + 1) 0) with q | q; exact q; exact absurd (figV_lt.mpr q) h21
      rw [if_pos g2, show figV (sgF (I (t + 1)) m) (p + 1) 0 = sgF (I (t + 1)) m (p + 1) - 48 from if_pos g2]
      have eW : numW (sgF (I (t + 1)) m) p = 10 * (sgF (I (t + 1)) m p - 48) + (sgF (I (t + 1)) m (p + 1) - 48) := if_pos g2
      refine ex_bipush (v := 10) dX7_number_24 (by decide) ?_
      refine ex_iload_n dX7_number_26 rfl ?_
      refine ex_imul dX7_number_27 ?_
      refine ex_iload dX7_number_28 rfl ?_
      refine ex_iadd dX7_number_30 ?_
      refine st_i3 dX7_number_31 (by first | exact rfl | exact trivial) ?_
      refine ex_iload_n dX7_number_32 rfl ?_
      refine ex_iload_n dX7_number_33 rfl ?_
      refine ex_iload_n dX7_number_34 rfl ?_
      refine rx_cSN dX7_number_35 rfl lk_X7_123 ⟨⟨rfl, rfl⟩, by decide, by decide⟩ rfl (Nat.le_of_ble_eq_true rfl) rfl s_X11_within (Rs.k ?_)
      refine ex_if_eq 45 dX7_number_38 (by decide) (fun h38 => ?_) (fun h38 => ?_)
      · skip
        refine ex_iconst (v := (-1)) dX7_number_45 (by decide) ?_
        refine ex_iret dX7_number_46 rfl rfl ⟨rfl, Nat.le_refl _⟩ ?_
        have eN : numN (sgF (I (t + 1)) m) p = _ := if_pos g1
        first | rw [if_pos g2] at eN | rw [if_neg g2] at eN
        rw [← eW] at h38
        exact ⟨by (try rw [← eW]); first | (rw [numR, if_pos ⟨g1, b2i_n0.mp h38⟩]; done) | (rw [numR, if_neg (fun q => b2i_0.mp h38 q.2)]; done), by rw [eN]⟩
      · skip
        refine ex_iload_n dX7_number_41 rfl ?_
        refine ex_goto 46 dX7_number_42 (by decide) ?_
        refine ex_iret dX7_number_46 rfl rfl ⟨rfl, Nat.le_refl _⟩ ?_
        have eN : numN (sgF (I (t + 1)) m) p = _ := if_pos g1
        first | rw [if_pos g2] at eN | rw [if_neg g2] at eN
        rw [← eW] at h38
        exact ⟨by (try rw [← eW]); first | (rw [numR, if_pos ⟨g1, b2i_n0.mp h38⟩]; done) | (rw [numR, if_neg (fun q => b2i_0.mp h38 q.2)]; done), by rw [eN]⟩
  · have g1 : ¬ figOk (sgF (I (t + 1)) m) p 0 := figV_lt.mp (Int32.not_le.mp h7)
    rw [if_neg g1]
    refine ex_iconst (v := (-1)) dX7_number_10 (by decide) ?_
    refine ex_iret dX7_number_11 rfl rfl ⟨rfl, Nat.le_refl _⟩ ?_
    exact ⟨by rw [numR, if_neg (fun q => g1 q.1)], by rw [numN, if_neg g1]⟩
theorem numN_le {f : Nat → Int32} {p : Nat} : numN f p ≤ p + 2 := by
  unfold numN
  split
  · split <;> omega
  · omega
theorem numR_in {f : Nat → Int32} {p : Nat} {lo hi : Int32} (h : ¬ numR f p lo hi < 0) : lo ≤ numR f p lo hi ∧ numR f p lo hi ≤ hi := by
  unfold numR at *
  split
  · rename_i q
    exact q.2
  · rename_i q
    rw [if_neg q] at h
    exact absurd (by decide) h
theorem numR_c {f : Nat → Int32} {p n : Nat} (hn : n ≤ 16) (hn1 : 1 ≤ n) (h : ¬ numR f p 0 (nI (n - 1)) < 0) : 0 ≤ numR f p 0 (nI (n - 1)) ∧ numR f p 0 (nI (n - 1)) < nI n ∧ numR f p 0 (nI (n - 1)) < 16 := by
  have h1 := numR_in h
  generalize numR f p 0 (nI (n - 1)) = x at h1
  have h2 : x.toInt ≤ ((n - 1 : Nat) : Int) := by
    have := Int32.le_iff_toInt_le.mp h1.2
    rwa [nI_toInt (by omega)] at this
  refine ⟨h1.1, ?_, ?_⟩
  · rw [Int32.lt_iff_toInt_lt, nI_toInt (by omega)]
    omega
  · rw [Int32.lt_iff_toInt_lt]
    have : (16 : Int32).toInt = 16 := by decide
    omega
set_option maxRecDepth 100000 in
set_option maxHeartbeats 4000000 in
theorem s_X7_depthItem {m p n : Nat} (ht : K0 t = (4, 3)) (hm : I t 1 = nI m) (hm100 : m ≤ 100) (hn3 : 3 ≤ n) (hn : n ≤ 16) (hc : I 86 2 = nI n) (hp : p < 2 ^ 31 - 10) : Ca G mdX7_depthItem [.ref 85] (mk (rdM I p) L t) (Rs (.int (b2i ((itK (sgF (I (t + 1)) m) p (nI (n - 1)) 1 1).1 = true))) (mk (rdM (itE I (itK (sgF (I (t + 1)) m) p (nI (n - 1)) 1 1)) (itK (sgF (I (t + 1)) m) p (nI (n - 1)) 1 1).2.1) L t)) := by
  refine Ca.intro [some (.ref 85), none, none] (by decide) (Nat.le_of_ble_eq_true rfl) rfl rfl ?_
  have nt : t ≠ 85 := K0ne (b := 85) (k2 := 7) (n2 := 4) ht rfl (by decide)
  have ht1 : K0 (t + 1) = (13, 100) := (lay4 ht).2
  have nt1 : t + 1 ≠ 85 := K0ne (b := 85) (k2 := 7) (n2 := 4) ht1 rfl (by decide)
  have hRt : Rt t 85 2 = some t := rfl
  refine ex_aload_n dX7_depthItem_0 rfl ?_
  refine ex_iconst (v := 0) dX7_depthItem_1 (by decide) ?_
  refine ex_aload_n dX7_depthItem_2 rfl ?_
  refine g_7_0 dX7_depthItem_3 rfl wf_X7_12 (by first | assumption | rfl) rfl ?_
  refine g_0_2 dX7_depthItem_6 rfl wf_X7_54 (by first | assumption | rfl) ?_
  rw [rdM_off (show (86 : Nat) ≠ 85 by decide), hc]
  refine ex_iconst (v := 1) dX7_depthItem_9 (by decide) ?_
  refine ex_isub dX7_depthItem_10 ?_
  rw [show nI n - 1 = nI (n - 1) from pk_sub (b := 1) (by omega)]
  refine rx_cV (kd := 7) dX7_depthItem_11 rfl lk_X7_50 rfl (by decide) (by first | assumption | rfl) ⟨⟨rfl, rfl⟩, by decide, by decide⟩ rfl (Nat.le_of_ble_eq_true rfl) rfl (s_X7_number (m := m) ht hm hm100 (by omega)) (Rs.k ?_)
  refine st_i1 dX7_depthItem_14 (by first | exact rfl | exact trivial) ?_
  refine ex_iload_n dX7_depthItem_15 rfl ?_
  refine ex_if_lt 28 dX7_depthItem_16 (by decide) (fun h16 => ?_) (fun h16 => ?_)
  · have hX : itK (sgF (I (t + 1)) m) p (nI (n - 1)) 1 1 = (false, numN (sgF (I (t + 1)) m) p, 0, 0, 0) := if_pos h16
    refine ex_iconst (v := 0) dX7_depthItem_28 (by decide) ?_
    refine ex_iret dX7_depthItem_29 rfl rfl ⟨rfl, Nat.le_refl _⟩ ?_
    exact ⟨by rw [hX]; rfl, by rw [hX]; rfl⟩
  · have hr := numR_c hn (by omega) h16
    refine ex_aload_n dX7_depthItem_19 rfl ?_
    refine ex_bipush (v := 58) dX7_depthItem_20 (by decide) ?_
    refine rx_cV (kd := 7) dX7_depthItem_22 rfl lk_X7_46 rfl (by decide) (by first | assumption | rfl) ⟨⟨rfl, rfl⟩, by decide, by decide⟩ rfl (Nat.le_of_ble_eq_true rfl) rfl (s_X7_take (m := m) ht hm hm100 (Nat.lt_of_le_of_lt numN_le (by omega))) (Rs.k ?_)
    refine ex_if_ne 30 dX7_depthItem_25 (by decide) (fun h25 => ?_) (fun h25 => ?_)
    · have g58 := b2i_n0.mp h25
      rw [if_pos g58]
      refine ex_aload_n dX7_depthItem_30 rfl ?_
      refine ex_iconst (v := 1) dX7_depthItem_31 (by decide) ?_
      refine rx_cV (kd := 7) dX7_depthItem_32 rfl lk_X7_80 rfl (by decide) (by first | assumption | rfl) ⟨⟨rfl, rfl⟩, by decide, by decide⟩ rfl (Nat.le_of_ble_eq_true rfl) rfl (s_X7_figure (m := m) ht hm hm100 (Nat.lt_of_le_of_lt (Nat.add_le_add_right numN_le 1) (by omega))) (Rs.k ?_)
      refine st_i2 dX7_depthItem_35 (by first | exact rfl | exact trivial) ?_
      refine ex_iload_n dX7_depthItem_36 rfl ?_
      refine ex_if_lt 51 dX7_depthItem_37 (by decide) (fun h37 => ?_) (fun h37 => ?_)
      · have g3 := figV_lt1.mp h37
        rw [if_neg g3]
        have hX : itK (sgF (I (t + 1)) m) p (nI (n - 1)) 1 1 = (false, numN (sgF (I (t + 1)) m) p + 1, 0, 0, 0) := by unfold itK; rw [if_neg h16, if_neg (fun q => q g58), if_neg g3]
        refine ex_iconst (v := 0) dX7_depthItem_51 (by decide) ?_
        refine ex_iret dX7_depthItem_52 rfl rfl ⟨rfl, Nat.le_refl _⟩ ?_
        exact ⟨by rw [hX]; rfl, by rw [hX]; rfl⟩
      · have g3 : figOk (sgF (I (t + 1)) m) (numN (sgF (I (t + 1)) m) p + 1) 1 := Decidable.byContradiction (fun q => h37 (figV_lt1.mpr q))
        rw [if_pos g3, show figV (sgF (I (t + 1)) m) (numN (sgF (I (t + 1)) m) p + 1) 1 = sgF (I (t + 1)) m (numN (sgF (I (t + 1)) m) p + 1) - 48 from if_pos g3]
        have hX : itK (sgF (I (t + 1)) m) p (nI (n - 1)) 1 1 = (true, numN (sgF (I (t + 1)) m) p + 2, 1, numR (sgF (I (t + 1)) m) p 0 (nI (n - 1)), sgF (I (t + 1)) m (numN (sgF (I (t + 1)) m) p + 1) - 48) := by unfold itK; rw [if_neg h16, if_neg (fun q => q g58), if_pos g3]
        refine ex_aload_n dX7_depthItem_40 rfl ?_
        refine g_7_0 dX7_depthItem_41 rfl wf_X7_12 (by first | assumption | rfl) rfl ?_
        refine ex_iload_n dX7_depthItem_44 rfl ?_
        refine rx_cV (kd := 0) dX7_depthItem_45 rfl lk_X7_84 rfl (by decide) (by first | assumption | rfl) ⟨⟨rfl, rfl⟩, by decide, by decide⟩ rfl (Nat.le_of_ble_eq_true rfl) rfl (s_X0_hasCell (a := 86) rfl) (Rs.k ?_)
        refine ex_if_ne 53 dX7_depthItem_48 (by decide) (fun h48 => ?_) (fun h48 => ?_)
        · skip
          refine ex_aload_n dX7_depthItem_53 rfl ?_
          refine g_7_0 dX7_depthItem_54 rfl wf_X7_12 (by first | assumption | rfl) rfl ?_
          refine g_0_0 dX7_depthItem_57 rfl wf_X7_88 (by first | assumption | rfl) (layR_0_0 (by first | assumption | rfl)) ?_
          refine ex_iload_n dX7_depthItem_60 rfl ?_
          refine ex_iload_n dX7_depthItem_61 rfl ?_
          refine rx_iast dX7_depthItem_62 (by first | assumption | rfl) (in16 hr.1 hr.2.2) ?_
          refine ex_iconst (v := 1) dX7_depthItem_63 (by decide) ?_
          refine ex_iret dX7_depthItem_64 rfl rfl ⟨rfl, Nat.le_refl _⟩ ?_
          exact ⟨by rw [hX]; rfl, by rw [hX]; rw [rdM_c (by decide)]; rfl⟩
        · exact absurd hr (by have := b2i_0.mp h48; rw [rdM_off (show (86 : Nat) ≠ 85 by decide), hc] at this; exact this)
    · have g58 := b2i_0.mp h25
      rw [if_neg g58]
      have hX : itK (sgF (I (t + 1)) m) p (nI (n - 1)) 1 1 = (false, numN (sgF (I (t + 1)) m) p, 0, 0, 0) := by unfold itK; rw [if_neg h16, if_pos g58]
      refine ex_iconst (v := 0) dX7_depthItem_28 (by decide) ?_
      refine ex_iret dX7_depthItem_29 rfl rfl ⟨rfl, Nat.le_refl _⟩ ?_
      exact ⟨by rw [hX]; rfl, by rw [hX]; rfl⟩
set_option maxRecDepth 100000 in
set_option maxHeartbeats 4000000 in
theorem s_X7_mouthItem {m p n : Nat} (ht : K0 t = (4, 3)) (hm : I t 1 = nI m) (hm100 : m ≤ 100) (hn3 : 3 ≤ n) (hn : n ≤ 16) (hc : I 86 2 = nI n) (hp : p < 2 ^ 31 - 10) : Ca G mdX7_mouthItem [.ref 85] (mk (rdM I p) L t) (Rs (.int (b2i ((itK (sgF (I (t + 1)) m) p (nI (n - 1)) 0 3).1 = true))) (mk (rdM (itE I (itK (sgF (I (t + 1)) m) p (nI (n - 1)) 0 3)) (itK (sgF (I (t + 1)) m) p (nI (n - 1)) 0 3).2.1) L t)) := by
  refine Ca.intro [some (.ref 85), none, none] (by decide) (Nat.le_of_ble_eq_true rfl) rfl rfl ?_
  have nt : t ≠ 85 := K0ne (b := 85) (k2 := 7) (n2 := 4) ht rfl (by decide)
  have ht1 : K0 (t + 1) = (13, 100) := (lay4 ht).2
  have nt1 : t + 1 ≠ 85 := K0ne (b := 85) (k2 := 7) (n2 := 4) ht1 rfl (by decide)
  have hRt : Rt t 85 2 = some t := rfl
  refine ex_aload_n dX7_mouthItem_0 rfl ?_
  refine ex_iconst (v := 0) dX7_mouthItem_1 (by decide) ?_
  refine ex_aload_n dX7_mouthItem_2 rfl ?_
  refine g_7_0 dX7_mouthItem_3 rfl wf_X7_12 (by first | assumption | rfl) rfl ?_
  refine g_0_2 dX7_mouthItem_6 rfl wf_X7_54 (by first | assumption | rfl) ?_
  rw [rdM_off (show (86 : Nat) ≠ 85 by decide), hc]
  refine ex_iconst (v := 1) dX7_mouthItem_9 (by decide) ?_
  refine ex_isub dX7_mouthItem_10 ?_
  rw [show nI n - 1 = nI (n - 1) from pk_sub (b := 1) (by omega)]
  refine rx_cV (kd := 7) dX7_mouthItem_11 rfl lk_X7_50 rfl (by decide) (by first | assumption | rfl) ⟨⟨rfl, rfl⟩, by decide, by decide⟩ rfl (Nat.le_of_ble_eq_true rfl) rfl (s_X7_number (m := m) ht hm hm100 (by omega)) (Rs.k ?_)
  refine st_i1 dX7_mouthItem_14 (by first | exact rfl | exact trivial) ?_
  refine ex_iload_n dX7_mouthItem_15 rfl ?_
  refine ex_if_lt 28 dX7_mouthItem_16 (by decide) (fun h16 => ?_) (fun h16 => ?_)
  · have hX : itK (sgF (I (t + 1)) m) p (nI (n - 1)) 0 3 = (false, numN (sgF (I (t + 1)) m) p, 0, 0, 0) := if_pos h16
    refine ex_iconst (v := 0) dX7_mouthItem_28 (by decide) ?_
    refine ex_iret dX7_mouthItem_29 rfl rfl ⟨rfl, Nat.le_refl _⟩ ?_
    exact ⟨by rw [hX]; rfl, by rw [hX]; rfl⟩
  · have hr := numR_c hn (by omega) h16
    refine ex_aload_n dX7_mouthItem_19 rfl ?_
    refine ex_bipush (v := 58) dX7_mouthItem_20 (by decide) ?_
    refine rx_cV (kd := 7) dX7_mouthItem_22 rfl lk_X7_46 rfl (by decide) (by first | assumption | rfl) ⟨⟨rfl, rfl⟩, by decide, by decide⟩ rfl (Nat.le_of_ble_eq_true rfl) rfl (s_X7_take (m := m) ht hm hm100 (Nat.lt_of_le_of_lt numN_le (by omega))) (Rs.k ?_)
    refine ex_if_ne 30 dX7_mouthItem_25 (by decide) (fun h25 => ?_) (fun h25 => ?_)
    · have g58 := b2i_n0.mp h25
      rw [if_pos g58]
      refine ex_aload_n dX7_mouthItem_30 rfl ?_
      refine ex_iconst (v := 0) dX7_mouthItem_31 (by decide) ?_
      refine rx_cV (kd := 7) dX7_mouthItem_32 rfl lk_X7_80 rfl (by decide) (by first | assumption | rfl) ⟨⟨rfl, rfl⟩, by decide, by decide⟩ rfl (Nat.le_of_ble_eq_true rfl) rfl (s_X7_figure (m := m) ht hm hm100 (Nat.lt_of_le_of_lt (Nat.add_le_add_right numN_le 1) (by omega))) (Rs.k ?_)
      refine st_i2 dX7_mouthItem_35 (by first | exact rfl | exact trivial) ?_
      refine ex_iload_n dX7_mouthItem_36 rfl ?_
      refine ex_if_ge 42 dX7_mouthItem_37 (by decide) (fun h37 => ?_) (fun h37 => ?_)
      · have g3 : figOk (sgF (I (t + 1)) m) (numN (sgF (I (t + 1)) m) p + 1) 0 := Decidable.byContradiction (fun q => absurd (figV_lt.mpr q) (Int32.not_lt.mpr h37))
        rw [if_pos g3, show figV (sgF (I (t + 1)) m) (numN (sgF (I (t + 1)) m) p + 1) 0 = sgF (I (t + 1)) m (numN (sgF (I (t + 1)) m) p + 1) - 48 from if_pos g3]
        have hX : itK (sgF (I (t + 1)) m) p (nI (n - 1)) 0 3 = (true, numN (sgF (I (t + 1)) m) p + 2, 3, numR (sgF (I (t + 1)) m) p 0 (nI (n - 1)), sgF (I (t + 1)) m (numN (sgF (I (t + 1)) m) p + 1) - 48) := by unfold itK; rw [if_neg h16, if_neg (fun q => q g58), if_pos g3]
        refine ex_aload_n dX7_mouthItem_42 rfl ?_
        refine g_7_0 dX7_mouthItem_43 rfl wf_X7_12 (by first | assumption | rfl) rfl ?_
        refine ex_iload_n dX7_mouthItem_46 rfl ?_
        refine p_0_3 dX7_mouthItem_47 rfl wf_X7_96 (by first | assumption | rfl) ?_
        refine ex_aload_n dX7_mouthItem_50 rfl ?_
        refine g_7_0 dX7_mouthItem_51 rfl wf_X7_12 (by first | assumption | rfl) rfl ?_
        refine ex_iload_n dX7_mouthItem_54 rfl ?_
        refine p_0_4 dX7_mouthItem_55 rfl wf_X7_99 (by first | assumption | rfl) ?_
        refine ex_iconst (v := 1) dX7_mouthItem_58 (by decide) ?_
        refine ex_iret dX7_mouthItem_59 rfl rfl ⟨rfl, Nat.le_refl _⟩ ?_
        exact ⟨by rw [hX]; rfl, by rw [hX]; rw [rdM_c (by decide), rdM_c (by decide)]; rfl⟩
      · have g3 := figV_lt.mp (Int32.not_le.mp h37)
        rw [if_neg g3]
        have hX : itK (sgF (I (t + 1)) m) p (nI (n - 1)) 0 3 = (false, numN (sgF (I (t + 1)) m) p + 1, 0, 0, 0) := by unfold itK; rw [if_neg h16, if_neg (fun q => q g58), if_neg g3]
        refine ex_iconst (v := 0) dX7_mouthItem_40 (by decide) ?_
        refine ex_iret dX7_mouthItem_41 rfl rfl ⟨rfl, Nat.le_refl _⟩ ?_
        exact ⟨by rw [hX]; rfl, by rw [hX]; rfl⟩
    · have g58 := b2i_0.mp h25
      rw [if_neg g58]
      have hX : itK (sgF (I (t + 1)) m) p (nI (n - 1)) 0 3 = (false, numN (sgF (I (t + 1)) m) p, 0, 0, 0) := by unfold itK; rw [if_neg h16, if_pos g58]
      refine ex_iconst (v := 0) dX7_mouthItem_28 (by decide) ?_
      refine ex_iret dX7_mouthItem_29 rfl rfl ⟨rfl, Nat.le_refl _⟩ ?_
      exact ⟨by rw [hX]; rfl, by rw [hX]; rfl⟩
theorem baWall_rd {p : Nat} {k : Int32} : baWall (rdM I p) 86 k = rdM (baWall I 86 k) p := by
  unfold baWall
  simp only [hasW, rdM_off (show (86 : Nat) ≠ 85 by decide)]
  split
  · rw [rdM_c (by decide)]
  · rfl
set_option maxRecDepth 100000 in
set_option maxHeartbeats 4000000 in
theorem s_X7_wallItem {m p n : Nat} (ht : K0 t = (4, 3)) (hm : I t 1 = nI m) (hm100 : m ≤ 100) (hn3 : 3 ≤ n) (hn : n ≤ 16) (hc : I 86 2 = nI n) (hp : p < 2 ^ 31 - 10) : Ca G mdX7_wallItem [.ref 85] (mk (rdM I p) L t) (Rs (.int (b2i ((itW (sgF (I (t + 1)) m) p (nI (n - 2))).1 = true))) (mk (rdM (itE I (itW (sgF (I (t + 1)) m) p (nI (n - 2)))) (itW (sgF (I (t + 1)) m) p (nI (n - 2))).2.1) L t)) := by
  refine Ca.intro [some (.ref 85), none] (by decide) (Nat.le_of_ble_eq_true rfl) rfl rfl ?_
  have nt : t ≠ 85 := K0ne (b := 85) (k2 := 7) (n2 := 4) ht rfl (by decide)
  have ht1 : K0 (t + 1) = (13, 100) := (lay4 ht).2
  have nt1 : t + 1 ≠ 85 := K0ne (b := 85) (k2 := 7) (n2 := 4) ht1 rfl (by decide)
  have hRt : Rt t 85 2 = some t := rfl
  refine ex_aload_n dX7_wallItem_0 rfl ?_
  refine ex_iconst (v := 0) dX7_wallItem_1 (by decide) ?_
  refine ex_aload_n dX7_wallItem_2 rfl ?_
  refine g_7_0 dX7_wallItem_3 rfl wf_X7_12 (by first | assumption | rfl) rfl ?_
  refine g_0_2 dX7_wallItem_6 rfl wf_X7_54 (by first | assumption | rfl) ?_
  rw [rdM_off (show (86 : Nat) ≠ 85 by decide), hc]
  refine ex_iconst (v := 2) dX7_wallItem_9 (by decide) ?_
  refine ex_isub dX7_wallItem_10 ?_
  rw [show nI n - 2 = nI (n - 2) from pk_sub (b := 2) (by omega)]
  refine rx_cV (kd := 7) dX7_wallItem_11 rfl lk_X7_50 rfl (by decide) (by first | assumption | rfl) ⟨⟨rfl, rfl⟩, by decide, by decide⟩ rfl (Nat.le_of_ble_eq_true rfl) rfl (s_X7_number (m := m) ht hm hm100 (by omega)) (Rs.k ?_)
  refine st_i1 dX7_wallItem_14 (by first | exact rfl | exact trivial) ?_
  refine ex_iload_n dX7_wallItem_15 rfl ?_
  refine ex_if_ge 21 dX7_wallItem_16 (by decide) (fun h16 => ?_) (fun h16 => ?_)
  · have hX : itW (sgF (I (t + 1)) m) p (nI (n - 2)) = (true, numN (sgF (I (t + 1)) m) p, 2, numR (sgF (I (t + 1)) m) p 0 (nI (n - 2)), 0) := if_neg (Int32.not_lt.mpr h16)
    refine ex_aload_n dX7_wallItem_21 rfl ?_
    refine g_7_0 dX7_wallItem_22 rfl wf_X7_12 (by first | assumption | rfl) rfl ?_
    refine ex_iload_n dX7_wallItem_25 rfl ?_
    refine rx_cV (kd := 0) dX7_wallItem_26 rfl lk_X7_92 rfl (by decide) (by first | assumption | rfl) ⟨⟨rfl, rfl⟩, by decide, by decide⟩ rfl (Nat.le_of_ble_eq_true rfl) rfl (s_X0_raiseWall (a := 86) rfl) (Rv.k ?_)
    refine ex_iconst (v := 1) dX7_wallItem_29 (by decide) ?_
    refine ex_iret dX7_wallItem_30 rfl rfl ⟨rfl, Nat.le_refl _⟩ ?_
    exact ⟨by rw [hX]; rfl, by rw [hX, baWall_rd]; rfl⟩
  · have hX : itW (sgF (I (t + 1)) m) p (nI (n - 2)) = (false, numN (sgF (I (t + 1)) m) p, 0, 0, 0) := if_pos (Int32.not_le.mp h16)
    refine ex_iconst (v := 0) dX7_wallItem_19 (by decide) ?_
    refine ex_iret dX7_wallItem_20 rfl rfl ⟨rfl, Nat.le_refl _⟩ ?_
    exact ⟨by rw [hX]; rfl, by rw [hX]; rfl⟩
set_option maxRecDepth 100000 in
set_option maxHeartbeats 4000000 in
theorem s_X7_rubItem {m p n : Nat} (ht : K0 t = (4, 3)) (hm : I t 1 = nI m) (hm100 : m ≤ 100) (hn3 : 3 ≤ n) (hn : n ≤ 16) (hc : I 86 2 = nI n) (hp : p < 2 ^ 31 - 10) : Ca G mdX7_rubItem [.ref 85] (mk (rdM I p) L t) (Rs (.int (b2i ((itR (sgF (I (t + 1)) m) p).1 = true))) (mk (rdM (itE I (itR (sgF (I (t + 1)) m) p)) (itR (sgF (I (t + 1)) m) p).2.1) L t)) := by
  refine Ca.intro [some (.ref 85), none] (by decide) (Nat.le_of_ble_eq_true rfl) rfl rfl ?_
  have nt : t ≠ 85 := K0ne (b := 85) (k2 := 7) (n2 := 4) ht rfl (by decide)
  have ht1 : K0 (t + 1) = (13, 100) := (lay4 ht).2
  have nt1 : t + 1 ≠ 85 := K0ne (b := 85) (k2 := 7) (n2 := 4) ht1 rfl (by decide)
  have hRt : Rt t 85 2 = some t := rfl
  refine ex_aload_n dX7_rubItem_0 rfl ?_
  refine ex_iconst (v := 0) dX7_rubItem_1 (by decide) ?_
  refine rx_cV (kd := 7) dX7_rubItem_2 rfl lk_X7_80 rfl (by decide) (by first | assumption | rfl) ⟨⟨rfl, rfl⟩, by decide, by decide⟩ rfl (Nat.le_of_ble_eq_true rfl) rfl (s_X7_figure (m := m) ht hm hm100 (by omega)) (Rs.k ?_)
  refine st_i1 dX7_rubItem_5 (by first | exact rfl | exact trivial) ?_
  refine ex_iload_n dX7_rubItem_6 rfl ?_
  refine ex_if_ge 12 dX7_rubItem_7 (by decide) (fun h7 => ?_) (fun h7 => ?_)
  · have g : figOk (sgF (I (t + 1)) m) p 0 := Decidable.byContradiction (fun q => absurd (figV_lt.mpr q) (Int32.not_lt.mpr h7))
    rw [if_pos g, show figV (sgF (I (t + 1)) m) p 0 = sgF (I (t + 1)) m p - 48 from if_pos g]
    have hX : itR (sgF (I (t + 1)) m) p = (true, p + 1, 4, 0, sgF (I (t + 1)) m p - 48) := if_pos g
    refine ex_aload_n dX7_rubItem_12 rfl ?_
    refine g_7_0 dX7_rubItem_13 rfl wf_X7_12 (by first | assumption | rfl) rfl ?_
    refine ex_iload_n dX7_rubItem_16 rfl ?_
    refine p_0_5 dX7_rubItem_17 rfl wf_X7_102 (by first | assumption | rfl) ?_
    refine ex_iconst (v := 1) dX7_rubItem_20 (by decide) ?_
    refine ex_iret dX7_rubItem_21 rfl rfl ⟨rfl, Nat.le_refl _⟩ ?_
    exact ⟨by rw [hX]; rfl, by rw [hX, rdM_c (by decide)]; rfl⟩
  · have g := figV_lt.mp (Int32.not_le.mp h7)
    rw [if_neg g]
    have hX : itR (sgF (I (t + 1)) m) p = (false, p, 0, 0, 0) := if_neg g
    refine ex_iconst (v := 0) dX7_rubItem_10 (by decide) ?_
    refine ex_iret dX7_rubItem_11 rfl rfl ⟨rfl, Nat.le_refl _⟩ ?_
    exact ⟨by rw [hX]; rfl, by rw [hX]; rfl⟩
set_option maxRecDepth 100000 in
set_option maxHeartbeats 4000000 in
theorem s_X7_harbourItem {m p n : Nat} (ht : K0 t = (4, 3)) (hm : I t 1 = nI m) (hm100 : m ≤ 100) (hn3 : 3 ≤ n) (hn : n ≤ 16) (hc : I 86 2 = nI n) (hp : p < 2 ^ 31 - 20) : Ca G mdX7_harbourItem [.ref 85] (mk (rdM I p) L t) (Rs (.int (b2i ((itm (sgF (I (t + 1)) m) n p).1 = true))) (mk (rdM (itE I (itm (sgF (I (t + 1)) m) n p)) (itm (sgF (I (t + 1)) m) n p).2.1) L t)) := by
  refine Ca.intro [some (.ref 85)] (by decide) (Nat.le_of_ble_eq_true rfl) rfl rfl ?_
  have nt : t ≠ 85 := K0ne (b := 85) (k2 := 7) (n2 := 4) ht rfl (by decide)
  have ht1 : K0 (t + 1) = (13, 100) := (lay4 ht).2
  have nt1 : t + 1 ≠ 85 := K0ne (b := 85) (k2 := 7) (n2 := 4) ht1 rfl (by decide)
  have hRt : Rt t 85 2 = some t := rfl
  refine ex_aload_n dX7_harbourItem_0 rfl ?_
  refine ex_bipush (v := 100) dX7_harbourItem_1 (by decide) ?_
  refine rx_cV (kd := 7) dX7_harbourItem_3 rfl lk_X7_46 rfl (by decide) (by first | assumption | rfl) ⟨⟨rfl, rfl⟩, by decide, by decide⟩ rfl (Nat.le_of_ble_eq_true rfl) rfl (s_X7_take (m := m) ht hm hm100 (by omega)) (Rs.k ?_)
  refine ex_if_eq 14 dX7_harbourItem_6 (by decide) (fun h6 => ?_) (fun h6 => ?_)
  · have g6 := b2i_0.mp h6
    rw [if_neg g6]
    refine ex_aload_n dX7_harbourItem_14 rfl ?_
    refine ex_bipush (v := 119) dX7_harbourItem_15 (by decide) ?_
    refine rx_cV (kd := 7) dX7_harbourItem_17 rfl lk_X7_46 rfl (by decide) (by first | assumption | rfl) ⟨⟨rfl, rfl⟩, by decide, by decide⟩ rfl (Nat.le_of_ble_eq_true rfl) rfl (s_X7_take (m := m) ht hm hm100 (by omega)) (Rs.k ?_)
    refine ex_if_eq 28 dX7_harbourItem_20 (by decide) (fun h20 => ?_) (fun h20 => ?_)
    · have g20 := b2i_0.mp h20
      rw [if_neg g20]
      refine ex_aload_n dX7_harbourItem_28 rfl ?_
      refine ex_bipush (v := 109) dX7_harbourItem_29 (by decide) ?_
      refine rx_cV (kd := 7) dX7_harbourItem_31 rfl lk_X7_46 rfl (by decide) (by first | assumption | rfl) ⟨⟨rfl, rfl⟩, by decide, by decide⟩ rfl (Nat.le_of_ble_eq_true rfl) rfl (s_X7_take (m := m) ht hm hm100 (by omega)) (Rs.k ?_)
      refine ex_if_eq 42 dX7_harbourItem_34 (by decide) (fun h34 => ?_) (fun h34 => ?_)
      · have g34 := b2i_0.mp h34
        rw [if_neg g34]
        refine ex_aload_n dX7_harbourItem_42 rfl ?_
        refine ex_bipush (v := 114) dX7_harbourItem_43 (by decide) ?_
        refine rx_cV (kd := 7) dX7_harbourItem_45 rfl lk_X7_46 rfl (by decide) (by first | assumption | rfl) ⟨⟨rfl, rfl⟩, by decide, by decide⟩ rfl (Nat.le_of_ble_eq_true rfl) rfl (s_X7_take (m := m) ht hm hm100 (by omega)) (Rs.k ?_)
        refine ex_if_eq 62 dX7_harbourItem_48 (by decide) (fun h48 => ?_) (fun h48 => ?_)
        · have g48 := b2i_0.mp h48
          rw [if_neg g48]
          have hX : itm (sgF (I (t + 1)) m) n p = (false, p, 0, 0, 0) := by unfold itm; rw [if_neg g6, if_neg g20, if_neg g34, if_neg g48]
          refine ex_iconst (v := 0) dX7_harbourItem_62 (by decide) ?_
          refine ex_iret dX7_harbourItem_63 rfl rfl ⟨rfl, Nat.le_refl _⟩ ?_
          first | exact ⟨by rw [hX]; rfl, by rw [hX]; rfl⟩ | exact ⟨by rw [hX]; exact b2i_t (b2i_n0.mp h55), by rw [hX]⟩ | exact ⟨by rw [hX]; exact b2i_f (b2i_0.mp h55), by rw [hX]⟩
        · have g48 := b2i_n0.mp h48
          rw [if_pos g48]
          have hX : itm (sgF (I (t + 1)) m) n p = itR (sgF (I (t + 1)) m) (p + 1) := by unfold itm; rw [if_neg g6, if_neg g20, if_neg g34, if_pos g48]
          refine ex_aload_n dX7_harbourItem_51 rfl ?_
          refine rx_cV (kd := 7) dX7_harbourItem_52 rfl lk_X7_77 rfl (by decide) (by first | assumption | rfl) ⟨⟨rfl, rfl⟩, by decide, by decide⟩ rfl (Nat.le_of_ble_eq_true rfl) rfl (s_X7_rubItem (n := n) ht hm hm100 hn3 hn hc (by omega)) (Rs.k ?_)
          refine ex_if_eq 62 dX7_harbourItem_55 (by decide) (fun h55 => ?_) (fun h55 => ?_)
          · skip
            refine ex_iconst (v := 0) dX7_harbourItem_62 (by decide) ?_
            refine ex_iret dX7_harbourItem_63 rfl rfl ⟨rfl, Nat.le_refl _⟩ ?_
            first | exact ⟨by rw [hX]; rfl, by rw [hX]; rfl⟩ | exact ⟨by rw [hX]; exact b2i_t (b2i_n0.mp h55), by rw [hX]⟩ | exact ⟨by rw [hX]; exact b2i_f (b2i_0.mp h55), by rw [hX]⟩
          · skip
            refine ex_iconst (v := 1) dX7_harbourItem_58 (by decide) ?_
            refine ex_goto 63 dX7_harbourItem_59 (by decide) ?_
            refine ex_iret dX7_harbourItem_63 rfl rfl ⟨rfl, Nat.le_refl _⟩ ?_
            first | exact ⟨by rw [hX]; rfl, by rw [hX]; rfl⟩ | exact ⟨by rw [hX]; exact b2i_t (b2i_n0.mp h55), by rw [hX]⟩ | exact ⟨by rw [hX]; exact b2i_f (b2i_0.mp h55), by rw [hX]⟩
      · have g34 := b2i_n0.mp h34
        rw [if_pos g34]
        have hX : itm (sgF (I (t + 1)) m) n p = itK (sgF (I (t + 1)) m) (p + 1) (nI (n - 1)) 0 3 := by unfold itm; rw [if_neg g6, if_neg g20, if_pos g34]
        refine ex_aload_n dX7_harbourItem_37 rfl ?_
        refine rx_cV (kd := 7) dX7_harbourItem_38 rfl lk_X7_74 rfl (by decide) (by first | assumption | rfl) ⟨⟨rfl, rfl⟩, by decide, by decide⟩ rfl (Nat.le_of_ble_eq_true rfl) rfl (s_X7_mouthItem (n := n) ht hm hm100 hn3 hn hc (by omega)) (Rs.k ?_)
        refine ex_iret dX7_harbourItem_41 rfl (nb2i _) ⟨rfl, Nat.le_refl _⟩ ?_
        exact ⟨by rw [hX], by rw [hX]⟩
    · have g20 := b2i_n0.mp h20
      rw [if_pos g20]
      have hX : itm (sgF (I (t + 1)) m) n p = itW (sgF (I (t + 1)) m) (p + 1) (nI (n - 2)) := by unfold itm; rw [if_neg g6, if_pos g20]
      refine ex_aload_n dX7_harbourItem_23 rfl ?_
      refine rx_cV (kd := 7) dX7_harbourItem_24 rfl lk_X7_71 rfl (by decide) (by first | assumption | rfl) ⟨⟨rfl, rfl⟩, by decide, by decide⟩ rfl (Nat.le_of_ble_eq_true rfl) rfl (s_X7_wallItem (n := n) ht hm hm100 hn3 hn hc (by omega)) (Rs.k ?_)
      refine ex_iret dX7_harbourItem_27 rfl (nb2i _) ⟨rfl, Nat.le_refl _⟩ ?_
      exact ⟨by rw [hX], by rw [hX]⟩
  · have g6 := b2i_n0.mp h6
    rw [if_pos g6]
    have hX : itm (sgF (I (t + 1)) m) n p = itK (sgF (I (t + 1)) m) (p + 1) (nI (n - 1)) 1 1 := by unfold itm; rw [if_pos g6]
    refine ex_aload_n dX7_harbourItem_9 rfl ?_
    refine rx_cV (kd := 7) dX7_harbourItem_10 rfl lk_X7_68 rfl (by decide) (by first | assumption | rfl) ⟨⟨rfl, rfl⟩, by decide, by decide⟩ rfl (Nat.le_of_ble_eq_true rfl) rfl (s_X7_depthItem (n := n) ht hm hm100 hn3 hn hc (by omega)) (Rs.k ?_)
    refine ex_iret dX7_harbourItem_13 rfl (nb2i _) ⟨rfl, Nat.le_refl _⟩ ?_
    exact ⟨by rw [hX], by rw [hX]⟩
def itS (f : Nat → Int32) (c p : Nat) : It :=
  if 4 ≤ c then (false, p, 0, 0, 0) else if ¬ f p = 112 then (false, p, 0, 0, 0) else if numR f (p + 1) 2 60 < 0 then (false, numN f (p + 1), 0, 0, 0) else if ¬ f (numN f (p + 1)) = 58 then (false, numN f (p + 1), 0, 0, 0) else if numR f (numN f (p + 1) + 1) 0 99 < 0 then (false, numN f (numN f (p + 1) + 1), 0, 0, 0) else (true, numN f (numN f (p + 1) + 1), 1, numR f (p + 1) 2 60, numR f (numN f (p + 1) + 1) 0 99)
def itSE (I : Im) (c : Nat) (x : It) : Im := if x.2.2.1 = 1 then swAdd I 88 c x.2.2.2.1 x.2.2.2.2 else I
theorem swAdd_rd {p c : Nat} {x y : Int32} : swAdd (rdM I p) 88 c x y = rdM (swAdd I 88 c x y) p := by
  unfold swAdd
  rw [rdM_c (by decide), rdM_c (by decide), rdM_c (by decide)]
def rdH (f : Nat → Int32) (n m : Nat) : Nat → Nat → Im → Int32 × Nat × Im
  | 0, p, J => (-9, p, J)
  | k + 1, p, J => if m ≤ p then (-9, p, J) else if (itm f n p).1 = true then rdH f n m k (skipN f 100 (itm f n p).2.1) (itE J (itm f n p)) else (nI (itm f n p).2.1, (itm f n p).2.1, itE J (itm f n p))
def rdS (f : Nat → Int32) (m : Nat) : Nat → Nat → Nat → Im → Int32 × Nat × Im
  | 0, p, _, J => (-9, p, J)
  | k + 1, p, c, J => if m ≤ p then (-9, p, J) else if (itS f c p).1 = true then rdS f m k (skipN f 100 (itS f c p).2.1) (c + 1) (itSE J c (itS f c p)) else (nI (itS f c p).2.1, (itS f c p).2.1, itSE J c (itS f c p))
def readH (I : Im) (b m : Nat) : Int32 × Nat × Im :=
  let f := sgF (I (b + 1)) m
  let p0 := skipN f 100 0
  if f p0 = 99 then (if numR f (p0 + 1) 3 16 < 0 then (nI (numN f (p0 + 1)), numN f (p0 + 1), baNew I 86) else rdH f (numR f (p0 + 1) 3 16).toNatClampNeg m 100 (skipN f 100 (numN f (p0 + 1))) (up2 (baNew I 86) 86 2 (numR f (p0 + 1) 3 16))) else (nI p0, p0, baNew I 86)
def readS (I : Im) (b m : Nat) : Int32 × Nat × Im := rdS (sgF (I (b + 1)) m) m 100 (skipN (sgF (I (b + 1)) m) 100 0) 0 (swNew I 88)
theorem skipN_le {f : Nat → Int32} : ∀ k p, skipN f k p ≤ p + k := by
  intro k
  induction k with
  | zero => intro p; exact Nat.le_refl _
  | succ k ih =>
    intro p
    unfold skipN
    split
    · have := ih (p + 1)
      omega
    · omega
theorem itm_le {f : Nat → Int32} {n p : Nat} : (itm f n p).2.1 ≤ p + 5 := by
  have h1 := @numN_le f (p + 1)
  unfold itm itK itW itR
  repeat' split
  all_goals first | omega | (show _ ≤ _; dsimp only; omega)
theorem itS_le {f : Nat → Int32} {c p : Nat} : (itS f c p).2.1 ≤ p + 6 := by
  have h1 := @numN_le f (p + 1)
  have h2 := @numN_le f (numN f (p + 1) + 1)
  unfold itS
  repeat' split
  all_goals first | omega | (show _ ≤ _; dsimp only; omega)
theorem itE_off {x : It} {c : Nat} (h6 : c ≠ 86) (h7 : c ≠ 87) : itE I x c = I c := by
  unfold itE
  repeat' split
  all_goals first | rfl | (rw [up2_off h7]; done) | (rw [up2_off h6]; done) | (rw [up2_off h6, up2_off h6]; done) | skip
  unfold baWall
  split
  · rw [up2_off h6]
  · rfl
theorem itE_2 {x : It} : itE I x 86 2 = I 86 2 := by
  unfold itE
  repeat' split
  all_goals first | rfl | (simp [up2]; done) | skip
  unfold baWall
  split
  · simp [up2]
  · rfl
theorem itSE_off {x : It} {c e : Nat} (h8 : e ≠ 88) (h9 : e ≠ 89) (h0 : e ≠ 90) : itSE I c x e = I e := by
  unfold itSE swAdd
  split
  · rw [up2_off h8, up2_off h0, up2_off h9]
  · rfl
theorem baNew_off {a c : Nat} (h : c ≠ a) (h1 : c ≠ a + 1) : baNew I a c = I c := by
  unfold baNew
  funext j
  rw [fill_off h1, up2_off h, up2_off h, up2_off h, up2_off h, up2_off h, up2_off h]
set_option maxRecDepth 100000 in
set_option maxHeartbeats 4000000 in
theorem s_X7_seaItem {m p c : Nat} (ht : K0 t = (4, 3)) (hm : I t 1 = nI m) (hm100 : m ≤ 100) (hc : I 88 3 = nI c) (hc4 : c ≤ 4) (hp : p < 2 ^ 31 - 20) : Ca G mdX7_seaItem [.ref 85] (mk (rdM I p) L t) (Rs (.int (b2i ((itS (sgF (I (t + 1)) m) c p).1 = true))) (mk (rdM (itSE I c (itS (sgF (I (t + 1)) m) c p)) (itS (sgF (I (t + 1)) m) c p).2.1) L t)) := by
  refine Ca.intro [some (.ref 85), none, none] (by decide) (Nat.le_of_ble_eq_true rfl) rfl rfl ?_
  have nt : t ≠ 85 := K0ne (b := 85) (k2 := 7) (n2 := 4) ht rfl (by decide)
  have ht1 : K0 (t + 1) = (13, 100) := (lay4 ht).2
  have nt1 : t + 1 ≠ 85 := K0ne (b := 85) (k2 := 7) (n2 := 4) ht1 rfl (by decide)
  have hRt : Rt t 85 2 = some t := rfl
  refine ex_aload_n dX7_seaItem_0 rfl ?_
  refine g_7_1 dX7_seaItem_1 rfl wf_X7_21 (by first | assumption | rfl) rfl ?_
  refine g_8_3 dX7_seaItem_4 rfl wf_X7_105 (by first | assumption | rfl) ?_
  refine ex_iconst (v := 4) dX7_seaItem_7 (by decide) ?_
  refine ex_icmp_ge 20 dX7_seaItem_8 (by decide) (fun h8 => ?_) (fun h8 => ?_)
  · have h4c : 4 ≤ c := by rw [rdM_off (show (88 : Nat) ≠ 85 by decide), hc] at h8; exact (nI_leI (a := 4) (by decide) (by omega)).mp h8
    have hX : itS (sgF (I (t + 1)) m) c p = (false, p, 0, 0, 0) := if_pos h4c
    refine ex_iconst (v := 0) dX7_seaItem_20 (by decide) ?_
    refine ex_iret dX7_seaItem_21 rfl rfl ⟨rfl, Nat.le_refl _⟩ ?_
    exact ⟨by rw [hX]; rfl, by rw [hX]; rfl⟩
  · have h4c : ¬ 4 ≤ c := by rw [rdM_off (show (88 : Nat) ≠ 85 by decide), hc] at h8; exact fun q => h8 ((nI_leI (a := 4) (by decide) (by omega)).mpr q)
    refine ex_aload_n dX7_seaItem_11 rfl ?_
    refine ex_bipush (v := 112) dX7_seaItem_12 (by decide) ?_
    refine rx_cV (kd := 7) dX7_seaItem_14 rfl lk_X7_46 rfl (by decide) (by first | assumption | rfl) ⟨⟨rfl, rfl⟩, by decide, by decide⟩ rfl (Nat.le_of_ble_eq_true rfl) rfl (s_X7_take (m := m) ht hm hm100 (by omega)) (Rs.k ?_)
    refine ex_if_ne 22 dX7_seaItem_17 (by decide) (fun h17 => ?_) (fun h17 => ?_)
    · have g1 := b2i_n0.mp h17
      rw [if_pos g1]
      refine ex_aload_n dX7_seaItem_22 rfl ?_
      refine ex_iconst (v := 2) dX7_seaItem_23 (by decide) ?_
      refine ex_bipush (v := 60) dX7_seaItem_24 (by decide) ?_
      refine rx_cV (kd := 7) dX7_seaItem_26 rfl lk_X7_50 rfl (by decide) (by first | assumption | rfl) ⟨⟨rfl, rfl⟩, by decide, by decide⟩ rfl (Nat.le_of_ble_eq_true rfl) rfl (s_X7_number (m := m) ht hm hm100 (by omega)) (Rs.k ?_)
      refine st_i1 dX7_seaItem_29 (by first | exact rfl | exact trivial) ?_
      refine ex_iload_n dX7_seaItem_30 rfl ?_
      refine ex_if_lt 43 dX7_seaItem_31 (by decide) (fun h31 => ?_) (fun h31 => ?_)
      · have hX : itS (sgF (I (t + 1)) m) c p = (false, numN (sgF (I (t + 1)) m) (p + 1), 0, 0, 0) := by unfold itS; rw [if_neg h4c, if_neg (fun q => q g1), if_pos h31]
        refine ex_iconst (v := 0) dX7_seaItem_43 (by decide) ?_
        refine ex_iret dX7_seaItem_44 rfl rfl ⟨rfl, Nat.le_refl _⟩ ?_
        exact ⟨by rw [hX]; rfl, by rw [hX]; rfl⟩
      · skip
        refine ex_aload_n dX7_seaItem_34 rfl ?_
        refine ex_bipush (v := 58) dX7_seaItem_35 (by decide) ?_
        refine rx_cV (kd := 7) dX7_seaItem_37 rfl lk_X7_46 rfl (by decide) (by first | assumption | rfl) ⟨⟨rfl, rfl⟩, by decide, by decide⟩ rfl (Nat.le_of_ble_eq_true rfl) rfl (s_X7_take (m := m) ht hm hm100 (Nat.lt_of_le_of_lt numN_le (by omega))) (Rs.k ?_)
        refine ex_if_ne 45 dX7_seaItem_40 (by decide) (fun h40 => ?_) (fun h40 => ?_)
        · have g2 := b2i_n0.mp h40
          rw [if_pos g2]
          refine ex_aload_n dX7_seaItem_45 rfl ?_
          refine ex_iconst (v := 0) dX7_seaItem_46 (by decide) ?_
          refine ex_bipush (v := 99) dX7_seaItem_47 (by decide) ?_
          refine rx_cV (kd := 7) dX7_seaItem_49 rfl lk_X7_50 rfl (by decide) (by first | assumption | rfl) ⟨⟨rfl, rfl⟩, by decide, by decide⟩ rfl (Nat.le_of_ble_eq_true rfl) rfl (s_X7_number (m := m) ht hm hm100 (Nat.lt_of_le_of_lt (Nat.add_le_add_right numN_le 1) (by omega))) (Rs.k ?_)
          refine st_i2 dX7_seaItem_52 (by first | exact rfl | exact trivial) ?_
          refine ex_iload_n dX7_seaItem_53 rfl ?_
          refine ex_if_ge 59 dX7_seaItem_54 (by decide) (fun h54 => ?_) (fun h54 => ?_)
          · have hX : itS (sgF (I (t + 1)) m) c p = (true, numN (sgF (I (t + 1)) m) (numN (sgF (I (t + 1)) m) (p + 1) + 1), 1, numR (sgF (I (t + 1)) m) (p + 1) 2 60, numR (sgF (I (t + 1)) m) (numN (sgF (I (t + 1)) m) (p + 1) + 1) 0 99) := by unfold itS; rw [if_neg h4c, if_neg (fun q => q g1), if_neg h31, if_neg (fun q => q g2), if_neg (Int32.not_lt.mpr h54)]
            refine ex_aload_n dX7_seaItem_59 rfl ?_
            refine g_7_1 dX7_seaItem_60 rfl wf_X7_21 (by first | assumption | rfl) rfl ?_
            refine ex_iload_n dX7_seaItem_63 rfl ?_
            refine ex_iload_n dX7_seaItem_64 rfl ?_
            refine rx_cV (kd := 8) dX7_seaItem_65 rfl lk_X7_108 rfl (by decide) (by first | assumption | rfl) ⟨⟨rfl, rfl⟩, by decide, by decide⟩ rfl (Nat.le_of_ble_eq_true rfl) rfl (s_X8_add (a := 88) (c := c) rfl (by rw [rdM_off (by decide)]; exact hc) (by omega)) (Rv.k ?_)
            refine ex_iconst (v := 1) dX7_seaItem_68 (by decide) ?_
            refine ex_iret dX7_seaItem_69 rfl rfl ⟨rfl, Nat.le_refl _⟩ ?_
            exact ⟨by rw [hX]; rfl, by rw [hX, swAdd_rd]; rfl⟩
          · have hX : itS (sgF (I (t + 1)) m) c p = (false, numN (sgF (I (t + 1)) m) (numN (sgF (I (t + 1)) m) (p + 1) + 1), 0, 0, 0) := by unfold itS; rw [if_neg h4c, if_neg (fun q => q g1), if_neg h31, if_neg (fun q => q g2), if_pos (Int32.not_le.mp h54)]
            refine ex_iconst (v := 0) dX7_seaItem_57 (by decide) ?_
            refine ex_iret dX7_seaItem_58 rfl rfl ⟨rfl, Nat.le_refl _⟩ ?_
            exact ⟨by rw [hX]; rfl, by rw [hX]; rfl⟩
        · have g2 := b2i_0.mp h40
          rw [if_neg g2]
          have hX : itS (sgF (I (t + 1)) m) c p = (false, numN (sgF (I (t + 1)) m) (p + 1), 0, 0, 0) := by unfold itS; rw [if_neg h4c, if_neg (fun q => q g1), if_neg h31, if_pos g2]
          refine ex_iconst (v := 0) dX7_seaItem_43 (by decide) ?_
          refine ex_iret dX7_seaItem_44 rfl rfl ⟨rfl, Nat.le_refl _⟩ ?_
          exact ⟨by rw [hX]; rfl, by rw [hX]; rfl⟩
    · have g1 := b2i_0.mp h17
      rw [if_neg g1]
      have hX : itS (sgF (I (t + 1)) m) c p = (false, p, 0, 0, 0) := by unfold itS; rw [if_neg h4c, if_pos g1]
      refine ex_iconst (v := 0) dX7_seaItem_20 (by decide) ?_
      refine ex_iret dX7_seaItem_21 rfl rfl ⟨rfl, Nat.le_refl _⟩ ?_
      exact ⟨by rw [hX]; rfl, by rw [hX]; rfl⟩
end C7
