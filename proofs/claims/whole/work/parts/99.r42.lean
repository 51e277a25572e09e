section R42
variable {G : Gp} {I : Im} {L : Nat → Nat → Int64} {t : Nat}
section
variable {C M D E : Im}
theorem tn_012 {P : Nat → Int32} {n : Nat} {p8 p9 : Nat → Nat → Int32} (n3 : 3 ≤ n) (hn : n ≤ 16) (p0 : ¬ P 0 = 0) (p1 : ¬ P 1 = 0) (p2 : ¬ P 2 = 0) : (∀ k, FA (Vm P n) (Sm P (fun s j => pS (p9 s j)) n) (Sm P p8 n) (n * n * n) k → FA (Vc n 3) (Ac (fun i j => p9 (h_012 i) j) n 3) (Bc (fun i j => p8 (h_012 i) j) n 3) (n ^ 3) (p_012 n k)) ∧ (∀ k, k < n * n * n → Vm P n k → ∀ i, i < 3 → gd n 3 (p_012 n k) i = dg n k (h_012 i)) ∧ (∀ c, c < n ^ 3 → Vc n 3 c → ∃ k, k < n * n * n ∧ Vm P n k) ∧ (∀ k, k < n * n * n → Vm P n k → Sm P (fun s j => pS (p9 s j)) n k = Ac (fun i j => p9 (h_012 i) j) n 3 (p_012 n k) ∧ Sm P p8 n k = Bc (fun i j => p8 (h_012 i) j) n 3 (p_012 n k)) := by
  have ar := ar_012 n3 hn
  have mm : ∀ k, Vm P n k → ∀ s, (s = 3 ∧ False) → dg n k s = 0 := fun k v s hs => by
    exact absurd hs.2 id
  have hs : ∀ c, c < n ^ 3 → Vc n 3 c → q_012 n c < n * n * n ∧ Vm P n (q_012 n c) ∧ p_012 n (q_012 n c) = c := fun c hc vc => by
    obtain ⟨b1, b2, b3⟩ := ar.2 c hc
    obtain ⟨-, a2, -⟩ := ar.1 _ b1 b2
    rw [b3] at a2
    have e0 : gd n 3 c 0 = dg n (q_012 n c) 0 := a2 0 (by decide)
    have e1 : gd n 3 c 1 = dg n (q_012 n c) 1 := a2 1 (by decide)
    have e2 : gd n 3 c 2 = dg n (q_012 n c) 2 := a2 2 (by decide)
    refine ⟨b1, ⟨fun s hs z => ?_, ?_, ?_, ?_⟩, b3⟩
    · have : s = 0 ∨ s = 1 ∨ s = 2 := by omega
      rcases this with rfl | rfl | rfl
      · exact absurd z p0
      · exact absurd z p1
      · exact absurd z p2
    · rw [← e1, ← e0]
      exact fun _ _ => vc.1 (by decide)
    · rw [← e2, ← e0]
      exact fun _ _ => (vc.2 (by decide)).1
    · rw [← e2, ← e1]
      exact fun _ _ => (vc.2 (by decide)).2
  have hp : ∀ j, j < n * n * n → Vm P n j → p_012 n j < n ^ 3 ∧ Vc n 3 (p_012 n j) ∧ Sm P (fun s j => pS (p9 s j)) n j = Ac (fun i j => p9 (h_012 i) j) n 3 (p_012 n j) ∧ Sm P p8 n j = Bc (fun i j => p8 (h_012 i) j) n 3 (p_012 n j) := fun j hj v => by
    obtain ⟨a1, a2, -⟩ := ar.1 j hj (mm j v)
    have e0 : gd n 3 (p_012 n j) 0 = dg n j 0 := a2 0 (by decide)
    have e1 : gd n 3 (p_012 n j) 1 = dg n j 1 := a2 1 (by decide)
    have e2 : gd n 3 (p_012 n j) 2 = dg n j 2 := a2 2 (by decide)
    refine ⟨a1, ⟨fun _ => by rw [e1, e0]; exact v.2.1 p1 p0, fun _ => ⟨by rw [e2, e0]; exact v.2.2.1 p2 p0, by rw [e2, e1]; exact v.2.2.2 p2 p1⟩⟩, ?_, ?_⟩
    · simp [Sm, yS, Ac, smA, h_012, e0, e1, e2, p0, p1, p2]
    · simp [Sm, yS, Bc, smA, h_012, e0, e1, e2, p0, p1, p2]
  refine ⟨fun k f => fa_map (p := p_012 n) (s := q_012 n) f hp hs (fun j c hj v hc => (ar.1 j hj (mm j v)).2.2 c hc), fun k hk v => (ar.1 k hk (mm k v)).2.1, fun c hc vc => ⟨q_012 n c, (hs c hc vc).1, (hs c hc vc).2.1⟩, fun k hk v => (hp k hk v).2.2⟩
theorem tn_12 {P : Nat → Int32} {n : Nat} {p8 p9 : Nat → Nat → Int32} (n3 : 3 ≤ n) (hn : n ≤ 16) (p0 : P 0 = 0) (p1 : ¬ P 1 = 0) (p2 : ¬ P 2 = 0) : (∀ k, FA (Vm P n) (Sm P (fun s j => pS (p9 s j)) n) (Sm P p8 n) (n * n * n) k → FA (Vc n 2) (Ac (fun i j => p9 (h_12 i) j) n 2) (Bc (fun i j => p8 (h_12 i) j) n 2) (n ^ 2) (p_12 n k)) ∧ (∀ k, k < n * n * n → Vm P n k → ∀ i, i < 2 → gd n 2 (p_12 n k) i = dg n k (h_12 i)) ∧ (∀ c, c < n ^ 2 → Vc n 2 c → ∃ k, k < n * n * n ∧ Vm P n k) ∧ (∀ k, k < n * n * n → Vm P n k → Sm P (fun s j => pS (p9 s j)) n k = Ac (fun i j => p9 (h_12 i) j) n 2 (p_12 n k) ∧ Sm P p8 n k = Bc (fun i j => p8 (h_12 i) j) n 2 (p_12 n k)) := by
  have ar := ar_12 n3 hn
  have mm : ∀ k, Vm P n k → ∀ s, (s = 0) → dg n k s = 0 := fun k v s hs => by
    rcases hs with rfl
    · exact v.1 0 (by decide) p0
  have hs : ∀ c, c < n ^ 2 → Vc n 2 c → q_12 n c < n * n * n ∧ Vm P n (q_12 n c) ∧ p_12 n (q_12 n c) = c := fun c hc vc => by
    obtain ⟨b1, b2, b3⟩ := ar.2 c hc
    obtain ⟨-, a2, -⟩ := ar.1 _ b1 b2
    rw [b3] at a2
    have e0 : gd n 2 c 0 = dg n (q_12 n c) 1 := a2 0 (by decide)
    have e1 : gd n 2 c 1 = dg n (q_12 n c) 2 := a2 1 (by decide)
    refine ⟨b1, ⟨fun s hs z => ?_, ?_, ?_, ?_⟩, b3⟩
    · have : s = 0 ∨ s = 1 ∨ s = 2 := by omega
      rcases this with rfl | rfl | rfl
      · exact b2 0 (by decide)
      · exact absurd z p1
      · exact absurd z p2
    · exact fun _ z => absurd p0 z
    · exact fun _ z => absurd p0 z
    · rw [← e1, ← e0]
      exact fun _ _ => vc.1 (by decide)
  have hp : ∀ j, j < n * n * n → Vm P n j → p_12 n j < n ^ 2 ∧ Vc n 2 (p_12 n j) ∧ Sm P (fun s j => pS (p9 s j)) n j = Ac (fun i j => p9 (h_12 i) j) n 2 (p_12 n j) ∧ Sm P p8 n j = Bc (fun i j => p8 (h_12 i) j) n 2 (p_12 n j) := fun j hj v => by
    obtain ⟨a1, a2, -⟩ := ar.1 j hj (mm j v)
    have e0 : gd n 2 (p_12 n j) 0 = dg n j 1 := a2 0 (by decide)
    have e1 : gd n 2 (p_12 n j) 1 = dg n j 2 := a2 1 (by decide)
    refine ⟨a1, ⟨fun _ => by rw [e1, e0]; exact v.2.2.2 p2 p1, fun z => absurd z (by decide)⟩, ?_, ?_⟩
    · simp [Sm, yS, Ac, smA, h_12, e0, e1, p0, p1, p2]
    · simp [Sm, yS, Bc, smA, h_12, e0, e1, p0, p1, p2]
  refine ⟨fun k f => fa_map (p := p_12 n) (s := q_12 n) f hp hs (fun j c hj v hc => (ar.1 j hj (mm j v)).2.2 c hc), fun k hk v => (ar.1 k hk (mm k v)).2.1, fun c hc vc => ⟨q_12 n c, (hs c hc vc).1, (hs c hc vc).2.1⟩, fun k hk v => (hp k hk v).2.2⟩
theorem tn_01 {P : Nat → Int32} {n : Nat} {p8 p9 : Nat → Nat → Int32} (n3 : 3 ≤ n) (hn : n ≤ 16) (p0 : ¬ P 0 = 0) (p1 : ¬ P 1 = 0) (p2 : P 2 = 0) : (∀ k, FA (Vm P n) (Sm P (fun s j => pS (p9 s j)) n) (Sm P p8 n) (n * n * n) k → FA (Vc n 2) (Ac (fun i j => p9 (h_01 i) j) n 2) (Bc (fun i j => p8 (h_01 i) j) n 2) (n ^ 2) (p_01 n k)) ∧ (∀ k, k < n * n * n → Vm P n k → ∀ i, i < 2 → gd n 2 (p_01 n k) i = dg n k (h_01 i)) ∧ (∀ c, c < n ^ 2 → Vc n 2 c → ∃ k, k < n * n * n ∧ Vm P n k) ∧ (∀ k, k < n * n * n → Vm P n k → Sm P (fun s j => pS (p9 s j)) n k = Ac (fun i j => p9 (h_01 i) j) n 2 (p_01 n k) ∧ Sm P p8 n k = Bc (fun i j => p8 (h_01 i) j) n 2 (p_01 n k)) := by
  have ar := ar_01 n3 hn
  have mm : ∀ k, Vm P n k → ∀ s, (s = 2) → dg n k s = 0 := fun k v s hs => by
    rcases hs with rfl
    · exact v.1 2 (by decide) p2
  have hs : ∀ c, c < n ^ 2 → Vc n 2 c → q_01 n c < n * n * n ∧ Vm P n (q_01 n c) ∧ p_01 n (q_01 n c) = c := fun c hc vc => by
    obtain ⟨b1, b2, b3⟩ := ar.2 c hc
    obtain ⟨-, a2, -⟩ := ar.1 _ b1 b2
    rw [b3] at a2
    have e0 : gd n 2 c 0 = dg n (q_01 n c) 0 := a2 0 (by decide)
    have e1 : gd n 2 c 1 = dg n (q_01 n c) 1 := a2 1 (by decide)
    refine ⟨b1, ⟨fun s hs z => ?_, ?_, ?_, ?_⟩, b3⟩
    · have : s = 0 ∨ s = 1 ∨ s = 2 := by omega
      rcases this with rfl | rfl | rfl
      · exact absurd z p0
      · exact absurd z p1
      · exact b2 2 (by decide)
    · rw [← e1, ← e0]
      exact fun _ _ => vc.1 (by decide)
    · exact fun z _ => absurd p2 z
    · exact fun z _ => absurd p2 z
  have hp : ∀ j, j < n * n * n → Vm P n j → p_01 n j < n ^ 2 ∧ Vc n 2 (p_01 n j) ∧ Sm P (fun s j => pS (p9 s j)) n j = Ac (fun i j => p9 (h_01 i) j) n 2 (p_01 n j) ∧ Sm P p8 n j = Bc (fun i j => p8 (h_01 i) j) n 2 (p_01 n j) := fun j hj v => by
    obtain ⟨a1, a2, -⟩ := ar.1 j hj (mm j v)
    have e0 : gd n 2 (p_01 n j) 0 = dg n j 0 := a2 0 (by decide)
    have e1 : gd n 2 (p_01 n j) 1 = dg n j 1 := a2 1 (by decide)
    refine ⟨a1, ⟨fun _ => by rw [e1, e0]; exact v.2.1 p1 p0, fun z => absurd z (by decide)⟩, ?_, ?_⟩
    · simp [Sm, yS, Ac, smA, h_01, e0, e1, p0, p1, p2]
    · simp [Sm, yS, Bc, smA, h_01, e0, e1, p0, p1, p2]
  refine ⟨fun k f => fa_map (p := p_01 n) (s := q_01 n) f hp hs (fun j c hj v hc => (ar.1 j hj (mm j v)).2.2 c hc), fun k hk v => (ar.1 k hk (mm k v)).2.1, fun c hc vc => ⟨q_01 n c, (hs c hc vc).1, (hs c hc vc).2.1⟩, fun k hk v => (hp k hk v).2.2⟩
theorem tn_02 {P : Nat → Int32} {n : Nat} {p8 p9 : Nat → Nat → Int32} (n3 : 3 ≤ n) (hn : n ≤ 16) (p0 : ¬ P 0 = 0) (p1 : P 1 = 0) (p2 : ¬ P 2 = 0) : (∀ k, FA (Vm P n) (Sm P (fun s j => pS (p9 s j)) n) (Sm P p8 n) (n * n * n) k → FA (Vc n 2) (Ac (fun i j => p9 (h_02 i) j) n 2) (Bc (fun i j => p8 (h_02 i) j) n 2) (n ^ 2) (p_02 n k)) ∧ (∀ k, k < n * n * n → Vm P n k → ∀ i, i < 2 → gd n 2 (p_02 n k) i = dg n k (h_02 i)) ∧ (∀ c, c < n ^ 2 → Vc n 2 c → ∃ k, k < n * n * n ∧ Vm P n k) ∧ (∀ k, k < n * n * n → Vm P n k → Sm P (fun s j => pS (p9 s j)) n k = Ac (fun i j => p9 (h_02 i) j) n 2 (p_02 n k) ∧ Sm P p8 n k = Bc (fun i j => p8 (h_02 i) j) n 2 (p_02 n k)) := by
  have ar := ar_02 n3 hn
  have mm : ∀ k, Vm P n k → ∀ s, (s = 1) → dg n k s = 0 := fun k v s hs => by
    rcases hs with rfl
    · exact v.1 1 (by decide) p1
  have hs : ∀ c, c < n ^ 2 → Vc n 2 c → q_02 n c < n * n * n ∧ Vm P n (q_02 n c) ∧ p_02 n (q_02 n c) = c := fun c hc vc => by
    obtain ⟨b1, b2, b3⟩ := ar.2 c hc
    obtain ⟨-, a2, -⟩ := ar.1 _ b1 b2
    rw [b3] at a2
    have e0 : gd n 2 c 0 = dg n (q_02 n c) 0 := a2 0 (by decide)
    have e1 : gd n 2 c 1 = dg n (q_02 n c) 2 := a2 1 (by decide)
    refine ⟨b1, ⟨fun s hs z => ?_, ?_, ?_, ?_⟩, b3⟩
    · have : s = 0 ∨ s = 1 ∨ s = 2 := by omega
      rcases this with rfl | rfl | rfl
      · exact absurd z p0
      · exact b2 1 (by decide)
      · exact absurd z p2
    · exact fun z _ => absurd p1 z
    · rw [← e1, ← e0]
      exact fun _ _ => vc.1 (by decide)
    · exact fun _ z => absurd p1 z
  have hp : ∀ j, j < n * n * n → Vm P n j → p_02 n j < n ^ 2 ∧ Vc n 2 (p_02 n j) ∧ Sm P (fun s j => pS (p9 s j)) n j = Ac (fun i j => p9 (h_02 i) j) n 2 (p_02 n j) ∧ Sm P p8 n j = Bc (fun i j => p8 (h_02 i) j) n 2 (p_02 n j) := fun j hj v => by
    obtain ⟨a1, a2, -⟩ := ar.1 j hj (mm j v)
    have e0 : gd n 2 (p_02 n j) 0 = dg n j 0 := a2 0 (by decide)
    have e1 : gd n 2 (p_02 n j) 1 = dg n j 2 := a2 1 (by decide)
    refine ⟨a1, ⟨fun _ => by rw [e1, e0]; exact v.2.2.1 p2 p0, fun z => absurd z (by decide)⟩, ?_, ?_⟩
    · simp [Sm, yS, Ac, smA, h_02, e0, e1, p0, p1, p2]
    · simp [Sm, yS, Bc, smA, h_02, e0, e1, p0, p1, p2]
  refine ⟨fun k f => fa_map (p := p_02 n) (s := q_02 n) f hp hs (fun j c hj v hc => (ar.1 j hj (mm j v)).2.2 c hc), fun k hk v => (ar.1 k hk (mm k v)).2.1, fun c hc vc => ⟨q_02 n c, (hs c hc vc).1, (hs c hc vc).2.1⟩, fun k hk v => (hp k hk v).2.2⟩
theorem tn_0 {P : Nat → Int32} {n : Nat} {p8 p9 : Nat → Nat → Int32} (n3 : 3 ≤ n) (hn : n ≤ 16) (p0 : ¬ P 0 = 0) (p1 : P 1 = 0) (p2 : P 2 = 0) : (∀ k, FA (Vm P n) (Sm P (fun s j => pS (p9 s j)) n) (Sm P p8 n) (n * n * n) k → FA (Vc n 1) (Ac (fun i j => p9 (h_0 i) j) n 1) (Bc (fun i j => p8 (h_0 i) j) n 1) (n ^ 1) (p_0 n k)) ∧ (∀ k, k < n * n * n → Vm P n k → ∀ i, i < 1 → gd n 1 (p_0 n k) i = dg n k (h_0 i)) ∧ (∀ c, c < n ^ 1 → Vc n 1 c → ∃ k, k < n * n * n ∧ Vm P n k) ∧ (∀ k, k < n * n * n → Vm P n k → Sm P (fun s j => pS (p9 s j)) n k = Ac (fun i j => p9 (h_0 i) j) n 1 (p_0 n k) ∧ Sm P p8 n k = Bc (fun i j => p8 (h_0 i) j) n 1 (p_0 n k)) := by
  have ar := ar_0 n3 hn
  have mm : ∀ k, Vm P n k → ∀ s, (s = 1 ∨ s = 2) → dg n k s = 0 := fun k v s hs => by
    rcases hs with rfl | rfl
    · exact v.1 1 (by decide) p1
    · exact v.1 2 (by decide) p2
  have hs : ∀ c, c < n ^ 1 → Vc n 1 c → q_0 n c < n * n * n ∧ Vm P n (q_0 n c) ∧ p_0 n (q_0 n c) = c := fun c hc vc => by
    obtain ⟨b1, b2, b3⟩ := ar.2 c hc
    obtain ⟨-, a2, -⟩ := ar.1 _ b1 b2
    rw [b3] at a2
    have e0 : gd n 1 c 0 = dg n (q_0 n c) 0 := a2 0 (by decide)
    refine ⟨b1, ⟨fun s hs z => ?_, ?_, ?_, ?_⟩, b3⟩
    · have : s = 0 ∨ s = 1 ∨ s = 2 := by omega
      rcases this with rfl | rfl | rfl
      · exact absurd z p0
      · exact b2 1 (by decide)
      · exact b2 2 (by decide)
    · exact fun z _ => absurd p1 z
    · exact fun z _ => absurd p2 z
    · exact fun z _ => absurd p2 z
  have hp : ∀ j, j < n * n * n → Vm P n j → p_0 n j < n ^ 1 ∧ Vc n 1 (p_0 n j) ∧ Sm P (fun s j => pS (p9 s j)) n j = Ac (fun i j => p9 (h_0 i) j) n 1 (p_0 n j) ∧ Sm P p8 n j = Bc (fun i j => p8 (h_0 i) j) n 1 (p_0 n j) := fun j hj v => by
    obtain ⟨a1, a2, -⟩ := ar.1 j hj (mm j v)
    have e0 : gd n 1 (p_0 n j) 0 = dg n j 0 := a2 0 (by decide)
    refine ⟨a1, ⟨fun z => absurd z (by decide), fun z => absurd z (by decide)⟩, ?_, ?_⟩
    · simp [Sm, yS, Ac, smA, h_0, e0, p0, p1, p2]
    · simp [Sm, yS, Bc, smA, h_0, e0, p0, p1, p2]
  refine ⟨fun k f => fa_map (p := p_0 n) (s := q_0 n) f hp hs (fun j c hj v hc => (ar.1 j hj (mm j v)).2.2 c hc), fun k hk v => (ar.1 k hk (mm k v)).2.1, fun c hc vc => ⟨q_0 n c, (hs c hc vc).1, (hs c hc vc).2.1⟩, fun k hk v => (hp k hk v).2.2⟩
theorem tn_1 {P : Nat → Int32} {n : Nat} {p8 p9 : Nat → Nat → Int32} (n3 : 3 ≤ n) (hn : n ≤ 16) (p0 : P 0 = 0) (p1 : ¬ P 1 = 0) (p2 : P 2 = 0) : (∀ k, FA (Vm P n) (Sm P (fun s j => pS (p9 s j)) n) (Sm P p8 n) (n * n * n) k → FA (Vc n 1) (Ac (fun i j => p9 (h_1 i) j) n 1) (Bc (fun i j => p8 (h_1 i) j) n 1) (n ^ 1) (p_1 n k)) ∧ (∀ k, k < n * n * n → Vm P n k → ∀ i, i < 1 → gd n 1 (p_1 n k) i = dg n k (h_1 i)) ∧ (∀ c, c < n ^ 1 → Vc n 1 c → ∃ k, k < n * n * n ∧ Vm P n k) ∧ (∀ k, k < n * n * n → Vm P n k → Sm P (fun s j => pS (p9 s j)) n k = Ac (fun i j => p9 (h_1 i) j) n 1 (p_1 n k) ∧ Sm P p8 n k = Bc (fun i j => p8 (h_1 i) j) n 1 (p_1 n k)) := by
  have ar := ar_1 n3 hn
  have mm : ∀ k, Vm P n k → ∀ s, (s = 0 ∨ s = 2) → dg n k s = 0 := fun k v s hs => by
    rcases hs with rfl | rfl
    · exact v.1 0 (by decide) p0
    · exact v.1 2 (by decide) p2
  have hs : ∀ c, c < n ^ 1 → Vc n 1 c → q_1 n c < n * n * n ∧ Vm P n (q_1 n c) ∧ p_1 n (q_1 n c) = c := fun c hc vc => by
    obtain ⟨b1, b2, b3⟩ := ar.2 c hc
    obtain ⟨-, a2, -⟩ := ar.1 _ b1 b2
    rw [b3] at a2
    have e0 : gd n 1 c 0 = dg n (q_1 n c) 1 := a2 0 (by decide)
    refine ⟨b1, ⟨fun s hs z => ?_, ?_, ?_, ?_⟩, b3⟩
    · have : s = 0 ∨ s = 1 ∨ s = 2 := by omega
      rcases this with rfl | rfl | rfl
      · exact b2 0 (by decide)
      · exact absurd z p1
      · exact b2 2 (by decide)
    · exact fun _ z => absurd p0 z
    · exact fun z _ => absurd p2 z
    · exact fun z _ => absurd p2 z
  have hp : ∀ j, j < n * n * n → Vm P n j → p_1 n j < n ^ 1 ∧ Vc n 1 (p_1 n j) ∧ Sm P (fun s j => pS (p9 s j)) n j = Ac (fun i j => p9 (h_1 i) j) n 1 (p_1 n j) ∧ Sm P p8 n j = Bc (fun i j => p8 (h_1 i) j) n 1 (p_1 n j) := fun j hj v => by
    obtain ⟨a1, a2, -⟩ := ar.1 j hj (mm j v)
    have e0 : gd n 1 (p_1 n j) 0 = dg n j 1 := a2 0 (by decide)
    refine ⟨a1, ⟨fun z => absurd z (by decide), fun z => absurd z (by decide)⟩, ?_, ?_⟩
    · simp [Sm, yS, Ac, smA, h_1, e0, p0, p1, p2]
    · simp [Sm, yS, Bc, smA, h_1, e0, p0, p1, p2]
  refine ⟨fun k f => fa_map (p := p_1 n) (s := q_1 n) f hp hs (fun j c hj v hc => (ar.1 j hj (mm j v)).2.2 c hc), fun k hk v => (ar.1 k hk (mm k v)).2.1, fun c hc vc => ⟨q_1 n c, (hs c hc vc).1, (hs c hc vc).2.1⟩, fun k hk v => (hp k hk v).2.2⟩
theorem tn_2 {P : Nat → Int32} {n : Nat} {p8 p9 : Nat → Nat → Int32} (n3 : 3 ≤ n) (hn : n ≤ 16) (p0 : P 0 = 0) (p1 : P 1 = 0) (p2 : ¬ P 2 = 0) : (∀ k, FA (Vm P n) (Sm P (fun s j => pS (p9 s j)) n) (Sm P p8 n) (n * n * n) k → FA (Vc n 1) (Ac (fun i j => p9 (h_2 i) j) n 1) (Bc (fun i j => p8 (h_2 i) j) n 1) (n ^ 1) (p_2 n k)) ∧ (∀ k, k < n * n * n → Vm P n k → ∀ i, i < 1 → gd n 1 (p_2 n k) i = dg n k (h_2 i)) ∧ (∀ c, c < n ^ 1 → Vc n 1 c → ∃ k, k < n * n * n ∧ Vm P n k) ∧ (∀ k, k < n * n * n → Vm P n k → Sm P (fun s j => pS (p9 s j)) n k = Ac (fun i j => p9 (h_2 i) j) n 1 (p_2 n k) ∧ Sm P p8 n k = Bc (fun i j => p8 (h_2 i) j) n 1 (p_2 n k)) := by
  have ar := ar_2 n3 hn
  have mm : ∀ k, Vm P n k → ∀ s, (s = 0 ∨ s = 1) → dg n k s = 0 := fun k v s hs => by
    rcases hs with rfl | rfl
    · exact v.1 0 (by decide) p0
    · exact v.1 1 (by decide) p1
  have hs : ∀ c, c < n ^ 1 → Vc n 1 c → q_2 n c < n * n * n ∧ Vm P n (q_2 n c) ∧ p_2 n (q_2 n c) = c := fun c hc vc => by
    obtain ⟨b1, b2, b3⟩ := ar.2 c hc
    obtain ⟨-, a2, -⟩ := ar.1 _ b1 b2
    rw [b3] at a2
    have e0 : gd n 1 c 0 = dg n (q_2 n c) 2 := a2 0 (by decide)
    refine ⟨b1, ⟨fun s hs z => ?_, ?_, ?_, ?_⟩, b3⟩
    · have : s = 0 ∨ s = 1 ∨ s = 2 := by omega
      rcases this with rfl | rfl | rfl
      · exact b2 0 (by decide)
      · exact b2 1 (by decide)
      · exact absurd z p2
    · exact fun z _ => absurd p1 z
    · exact fun _ z => absurd p0 z
    · exact fun _ z => absurd p1 z
  have hp : ∀ j, j < n * n * n → Vm P n j → p_2 n j < n ^ 1 ∧ Vc n 1 (p_2 n j) ∧ Sm P (fun s j => pS (p9 s j)) n j = Ac (fun i j => p9 (h_2 i) j) n 1 (p_2 n j) ∧ Sm P p8 n j = Bc (fun i j => p8 (h_2 i) j) n 1 (p_2 n j) := fun j hj v => by
    obtain ⟨a1, a2, -⟩ := ar.1 j hj (mm j v)
    have e0 : gd n 1 (p_2 n j) 0 = dg n j 2 := a2 0 (by decide)
    refine ⟨a1, ⟨fun z => absurd z (by decide), fun z => absurd z (by decide)⟩, ?_, ?_⟩
    · simp [Sm, yS, Ac, smA, h_2, e0, p0, p1, p2]
    · simp [Sm, yS, Bc, smA, h_2, e0, p0, p1, p2]
  refine ⟨fun k f => fa_map (p := p_2 n) (s := q_2 n) f hp hs (fun j c hj v hc => (ar.1 j hj (mm j v)).2.2 c hc), fun k hk v => (ar.1 k hk (mm k v)).2.1, fun c hc vc => ⟨q_2 n c, (hs c hc vc).1, (hs c hc vc).2.1⟩, fun k hk v => (hp k hk v).2.2⟩
def Tn (P : Nat → Int32) (n a : Nat) (sh p : Nat → Nat) (p8 p9 : Nat → Nat → Int32) : Prop := (a = 1 ∨ a = 2 ∨ a = 3) ∧ (∀ i, i < a → sh i < 3 ∧ ¬ P (sh i) = 0 ∧ cntN P (sh i) = i) ∧ (∀ k, FA (Vm P n) (Sm P (fun s j => pS (p9 s j)) n) (Sm P p8 n) (n * n * n) k → FA (Vc n a) (Ac (fun i j => p9 (sh i) j) n a) (Bc (fun i j => p8 (sh i) j) n a) (n ^ a) (p k)) ∧ (∀ k, k < n * n * n → Vm P n k → ∀ i, i < a → gd n a (p k) i = dg n k (sh i)) ∧ (∀ c, c < n ^ a → Vc n a c → ∃ k, k < n * n * n ∧ Vm P n k) ∧ (∀ k, k < n * n * n → Vm P n k → Sm P (fun s j => pS (p9 s j)) n k = Ac (fun i j => p9 (sh i) j) n a (p k) ∧ Sm P p8 n k = Bc (fun i j => p8 (sh i) j) n a (p k))
theorem tn_all {P : Nat → Int32} {n : Nat} {p8 p9 : Nat → Nat → Int32} (n3 : 3 ≤ n) (hn : n ≤ 16) (h : ¬ cntN P 3 = 0) : ∃ sh p, Tn P n (cntN P 3) sh p p8 p9 := by
  have e0 : cntN P 0 = 0 := cntN_0
  have e1 : cntN P 1 = if P 0 = 0 then 0 else 1 := by rw [cntN_s, cntN_0]
  have e2 : cntN P 2 = if P 1 = 0 then cntN P 1 else cntN P 1 + 1 := cntN_s
  have e3 : cntN P 3 = if P 2 = 0 then cntN P 2 else cntN P 2 + 1 := cntN_s
  by_cases p0 : P 0 = 0
  · skip
    by_cases p1 : P 1 = 0
    · skip
      by_cases p2 : P 2 = 0
      · skip
        have e : cntN P 3 = 0 := by rw [e3, e2, e1]; simp [p0, p1, p2]
        exact absurd e h
      · skip
        have e : cntN P 3 = 1 := by rw [e3, e2, e1]; simp [p0, p1, p2]
        rw [e]
        obtain ⟨t1, t2, t3, t4⟩ := tn_2 (p8 := p8) (p9 := p9) n3 hn p0 p1 p2
        refine ⟨h_2, p_2 n, by decide, fun i hi => ?_, t1, t2, t3, t4⟩
        have hi2 : i = 0 := by omega
        rcases hi2 with rfl
        · exact ⟨by decide, p2, by show cntN P 2 = 0; simp [e0, e1, e2, p0, p1, p2]⟩
    · skip
      by_cases p2 : P 2 = 0
      · skip
        have e : cntN P 3 = 1 := by rw [e3, e2, e1]; simp [p0, p1, p2]
        rw [e]
        obtain ⟨t1, t2, t3, t4⟩ := tn_1 (p8 := p8) (p9 := p9) n3 hn p0 p1 p2
        refine ⟨h_1, p_1 n, by decide, fun i hi => ?_, t1, t2, t3, t4⟩
        have hi2 : i = 0 := by omega
        rcases hi2 with rfl
        · exact ⟨by decide, p1, by show cntN P 1 = 0; simp [e0, e1, e2, p0, p1, p2]⟩
      · skip
        have e : cntN P 3 = 2 := by rw [e3, e2, e1]; simp [p0, p1, p2]
        rw [e]
        obtain ⟨t1, t2, t3, t4⟩ := tn_12 (p8 := p8) (p9 := p9) n3 hn p0 p1 p2
        refine ⟨h_12, p_12 n, by decide, fun i hi => ?_, t1, t2, t3, t4⟩
        have hi2 : i = 0 ∨ i = 1 := by omega
        rcases hi2 with rfl | rfl
        · exact ⟨by decide, p1, by show cntN P 1 = 0; simp [e0, e1, e2, p0, p1, p2]⟩
        · exact ⟨by decide, p2, by show cntN P 2 = 1; simp [e0, e1, e2, p0, p1, p2]⟩
  · skip
    by_cases p1 : P 1 = 0
    · skip
      by_cases p2 : P 2 = 0
      · skip
        have e : cntN P 3 = 1 := by rw [e3, e2, e1]; simp [p0, p1, p2]
        rw [e]
        obtain ⟨t1, t2, t3, t4⟩ := tn_0 (p8 := p8) (p9 := p9) n3 hn p0 p1 p2
        refine ⟨h_0, p_0 n, by decide, fun i hi => ?_, t1, t2, t3, t4⟩
        have hi2 : i = 0 := by omega
        rcases hi2 with rfl
        · exact ⟨by decide, p0, by show cntN P 0 = 0; simp [e0, e1, e2, p0, p1, p2]⟩
      · skip
        have e : cntN P 3 = 2 := by rw [e3, e2, e1]; simp [p0, p1, p2]
        rw [e]
        obtain ⟨t1, t2, t3, t4⟩ := tn_02 (p8 := p8) (p9 := p9) n3 hn p0 p1 p2
        refine ⟨h_02, p_02 n, by decide, fun i hi => ?_, t1, t2, t3, t4⟩
        have hi2 : i = 0 ∨ i = 1 := by omega
        rcases hi2 with rfl | rfl
        · exact ⟨by decide, p0, by show cntN P 0 = 0; simp [e0, e1, e2, p0, p1, p2]⟩
        · exact ⟨by decide, p2, by show cntN P 2 = 1; simp [e0, e1, e2, p0, p1, p2]⟩
    · skip
      by_cases p2 : P 2 = 0
      · skip
        have e : cntN P 3 = 2 := by rw [e3, e2, e1]; simp [p0, p1, p2]
        rw [e]
        obtain ⟨t1, t2, t3, t4⟩ := tn_01 (p8 := p8) (p9 := p9) n3 hn p0 p1 p2
        refine ⟨h_01, p_01 n, by decide, fun i hi => ?_, t1, t2, t3, t4⟩
        have hi2 : i = 0 ∨ i = 1 := by omega
        rcases hi2 with rfl | rfl
        · exact ⟨by decide, p0, by show cntN P 0 = 0; simp [e0, e1, e2, p0, p1, p2]⟩
        · exact ⟨by decide, p1, by show cntN P 1 = 1; simp [e0, e1, e2, p0, p1, p2]⟩
      · skip
        have e : cntN P 3 = 3 := by rw [e3, e2, e1]; simp [p0, p1, p2]
        rw [e]
        obtain ⟨t1, t2, t3, t4⟩ := tn_012 (p8 := p8) (p9 := p9) n3 hn p0 p1 p2
        refine ⟨h_012, p_012 n, by decide, fun i hi => ?_, t1, t2, t3, t4⟩
        have hi2 : i = 0 ∨ i = 1 ∨ i = 2 := by omega
        rcases hi2 with rfl | rfl | rfl
        · exact ⟨by decide, p0, by show cntN P 0 = 0; simp [e0, e1, e2, p0, p1, p2]⟩
        · exact ⟨by decide, p1, by show cntN P 1 = 1; simp [e0, e1, e2, p0, p1, p2]⟩
        · exact ⟨by decide, p2, by show cntN P 2 = 2; simp [e0, e1, e2, p0, p1, p2]⟩
theorem rs_v {J : Im} {r : Nat} {P : Nat → Int32} (h4 : J 214 = P) : ∀ k, k ≤ 3 → (rsN J r k).1 = cntN P k ∧ (∀ s, s < k → ¬ P s = 0 → (rsN J r k).2 203 (60 * r + cntN P s) = J 221 s) ∧ ∀ i, (i < 60 * r ∨ 60 * r + 60 ≤ i) → (rsN J r k).2 203 i = J 203 i := by
  intro k
  induction k with
  | zero =>
    intro _
    rw [rsN_0, cntN_0]
    exact ⟨rfl, fun s hs => absurd hs (Nat.not_lt_zero s), fun _ _ => rfl⟩
  | succ k ih =>
    intro hk
    obtain ⟨i1, i2, i3⟩ := ih (by omega)
    have cle := cntN_le (f := P) k
    rw [rsN_s, rsN_off (by decide), h4, cntN_s]
    by_cases c : P k = 0
    · rw [if_pos c, if_pos c]
      refine ⟨i1, fun s hs hp => ?_, i3⟩
      have : s ≠ k := fun e => hp (by rw [e]; exact c)
      exact i2 s (by omega) hp
    · rw [if_neg c, if_neg c]
      refine ⟨by dsimp only; rw [i1], fun s hs hp => ?_, fun i hi => ?_⟩
      · dsimp only
        rw [i1]
        by_cases e : s = k
        · subst e
          rw [u2_s, rsN_off (by decide)]
        · have := cnt_up (f := P) k s (by omega) hp
          rw [u2_j (by omega)]
          exact i2 s (by omega) hp
      · dsimp only
        rw [i1, u2_j (by omega)]
        exact i3 i hi
theorem rw_at {J : Im} {p : Nat} (hp : p ≠ 101) : ∀ k i, i < k → rwN J p k p i = J 101 i := by
  intro k
  induction k with
  | zero => intro i hi; exact absurd hi (Nat.not_lt_zero i)
  | succ k ih =>
    intro i hi
    rw [rwN_s, rwN_off (Ne.symm hp)]
    by_cases e : i = k
    · subst e
      rw [u2_s]
    · rw [u2_j e]
      exact ih i (by omega)
end
end R42
