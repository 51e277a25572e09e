theorem b2i_t {p : Prop} [Decidable p] (h : p) : some (Value.int 1) = some (Value.int (b2i p)) := by simp [b2i, h]
theorem b2i_f {p : Prop} [Decidable p] (h : ¬ p) : some (Value.int 0) = some (Value.int (b2i p)) := by simp [b2i, h]
theorem nb2i (p : Prop) [Decidable p] : narrow .boolean (.int (b2i p)) = .int (b2i p) := by
  unfold b2i
  split <;> rfl
theorem b2i_0 {p : Prop} [Decidable p] : b2i p = 0 ↔ ¬ p := by
  unfold b2i
  split <;> simp_all
theorem b2i_n0 {p : Prop} [Decidable p] : ¬ b2i p = 0 ↔ p := by
  unfold b2i
  split <;> simp_all
theorem nfZ {x : Int32} (h : x = 0 ∨ x = 1) : narrow .boolean (.int x) = .int x ∧ fits .boolean (.int x) = true := by
  rcases h with rfl | rfl <;> exact ⟨rfl, rfl⟩
theorem narZ {x : Int32} (h : x = 0 ∨ x = 1) : vp_nar .boolean x = x := by
  rcases h with rfl | rfl <;> rfl
abbrev Im : Type := Nat → Nat → Int32
theorem u2_s {α : Type} {f : Nat → Nat → α} {a j : Nat} {v : α} : up2 f a j v a j = v := by simp [up2]
theorem u2_n {α : Type} {f : Nat → Nat → α} {a j a' j' : Nat} {v : α} (h : ¬ (a' = a ∧ j' = j)) : up2 f a j v a' j' = f a' j' := if_neg h
/-- the first k places of a cell hold v -/
def fill (I : Im) (c k : Nat) (v : Int32) : Im := fun a j => if a = c ∧ j < k then v else I a j
/-- the first k places of a cell hold what g says -/
def fillg (I : Im) (c k : Nat) (g : Nat → Int32) : Im := fun a j => if a = c ∧ j < k then g j else I a j
theorem fill_0 {I : Im} {c : Nat} {v : Int32} : fill I c 0 v = I := by
  funext a j
  simp [fill]
theorem fill_s {I : Im} {c k : Nat} {v : Int32} (h : k < 2 ^ 31) : up2 (fill I c k v) c (nI k).toNatClampNeg v = fill I c (k + 1) v := by
  rw [nI_clamp h]
  funext a j
  by_cases ha : a = c
  · by_cases hj : j = k
    · simp [up2, fill, ha, hj]
    · have e : (j < k + 1) = (j < k) := propext ⟨fun q => by omega, fun q => by omega⟩
      simp [up2, fill, ha, hj, e]
  · simp [up2, fill, ha]
theorem fillg_0 {I : Im} {c : Nat} {g : Nat → Int32} : fillg I c 0 g = I := by
  funext a j
  simp [fillg]
theorem fillg_s {I : Im} {c k : Nat} {g : Nat → Int32} (h : k < 2 ^ 31) : up2 (fillg I c k g) c (nI k).toNatClampNeg (g k) = fillg I c (k + 1) g := by
  rw [nI_clamp h]
  funext a j
  by_cases ha : a = c
  · by_cases hj : j = k
    · simp [up2, fillg, ha, hj]
    · have e : (j < k + 1) = (j < k) := propext ⟨fun q => by omega, fun q => by omega⟩
      simp [up2, fillg, ha, hj, e]
  · simp [up2, fillg, ha]
theorem fill_off {I : Im} {c k a j : Nat} {v : Int32} (h : a ≠ c) : fill I c k v a j = I a j := by simp [fill, h]
theorem fillg_off {I : Im} {c k a j : Nat} {g : Nat → Int32} (h : a ≠ c) : fillg I c k g a j = I a j := by simp [fillg, h]
theorem fillg_ge {I : Im} {c k a j : Nat} {g : Nat → Int32} (h : k ≤ j) : fillg I c k g a j = I a j := by
  unfold fillg
  rw [if_neg]
  omega
theorem fillg_lt {I : Im} {c k j : Nat} {g : Nat → Int32} (h : j < k) : fillg I c k g c j = g j := by simp [fillg, h]
section LOOPS
variable {G : Gp} {d : Md} {pc : Nat} {st : List Value} {uc us : Nat} {P : Option Value → Mem → Prop} {M : Mem} {ls : List (Option Value)}
/-- a loop that counts up -/
theorem loop_up (m : Nat) (F : Nat → Mem) (lf : Nat → List (Option Value)) (body : ∀ k, k < m → Ex G d pc (lf (k + 1)) st (F (k + 1)) uc us P → Ex G d pc (lf k) st (F k) uc us P) (exit : Ex G d pc (lf m) st (F m) uc us P) : ∀ k, k ≤ m → Ex G d pc (lf k) st (F k) uc us P := by
  have key : ∀ c k, k + c = m → Ex G d pc (lf k) st (F k) uc us P := by
    intro c
    induction c with
    | zero =>
      intro k hk
      have : k = m := by omega
      subst this
      exact exit
    | succ c ih =>
      intro k hk
      exact body k (by omega) (ih (k + 1) (by omega))
  intro k hk
  exact key (m - k) k (by omega)
theorem ex_tsw {dflt lo hi : Int} {offs : Array Int} {len : Nat} {x : Int32} (l0 n : Nat) (tg : List Nat) (dt : Nat) (h : decode d.2.1 pc = .ok (.tableswitch dflt lo hi offs, len)) (hlo : lo = (l0 : Int)) (hhi : hi = ((l0 + n : Nat) : Int)) (h31 : l0 + n < 2 ^ 31) (ht : ∀ i, i ≤ n → ((offs[i]?).map fun (o : Int) => (pc : Int) + o) = some ((tg.getD i 0 : Nat) : Int)) (hd : (pc : Int) + dflt = (dt : Int)) (kin : ∀ i, i ≤ n → x = nI (l0 + i) → Ex G d (tg.getD i 0) ls st M uc us P) (kout : (∀ i, i ≤ n → ¬ x = nI (l0 + i)) → Ex G d dt ls st M uc us P) : Ex G d pc ls (.int x :: st) M uc us P := by
  by_cases hx : ∃ i, i ≤ n ∧ x = nI (l0 + i)
  · obtain ⟨i, hi', rfl⟩ := hx
    have e1 : (nI (l0 + i)).toInt = ((l0 + i : Nat) : Int) := nI_toInt (by omega)
    have h2 := ht i hi'
    cases ho : offs[i]? with
    | none => rw [ho] at h2; cases h2
    | some off =>
      rw [ho] at h2
      refine ex_tin (tg.getD i 0) h (by rw [e1]; omega) (by rw [e1]; omega) (off := off) ?_ (Option.some.inj h2) (kin i hi' rfl)
      rw [e1, show ((((l0 + i : Nat) : Int) - lo).toNat) = i by omega]
      exact ho
  · refine ex_tout dt h ?_ hd (kout (fun i hi' hxi => hx ⟨i, hi', hxi⟩))
    by_cases q : x.toInt < lo
    · exact Or.inl q
    · right
      by_cases q2 : hi < x.toInt
      · exact q2
      · exfalso
        apply hx
        refine ⟨x.toInt.toNat - l0, by omega, ?_⟩
        apply Int32.toInt_inj.mp
        rw [nI_toInt (by omega)]
        omega
end LOOPS
theorem nI_n (n : Nat) : nI n = Int32.ofNat n := rfl
theorem vpi {n N : Nat} (h : n < N) (hN : N < 2 ^ 31 := by decide) : vp_in (nI n) N := vp_in_nI h hN
