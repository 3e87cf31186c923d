/-! GRAPH, pure: chains of lines, levels, what is reached -/
def lev (R : Nat → Nat → Prop) : Nat → Nat → Nat → Prop
  | 0, p, q => p = q
  | k + 1, p, q => ∃ m, R p m ∧ lev R k m q
theorem lev_snoc {R : Nat → Nat → Prop} : ∀ {k p q : Nat}, lev R (k + 1) p q ↔ ∃ m, lev R k p m ∧ R m q
  | 0, p, q => by
    constructor
    · rintro ⟨m, h, rfl⟩
      exact ⟨p, rfl, h⟩
    · rintro ⟨m, rfl, h⟩
      exact ⟨q, h, rfl⟩
  | k + 1, p, q => by
    constructor
    · rintro ⟨m, h, h2⟩
      obtain ⟨m2, h3, h4⟩ := (lev_snoc (k := k)).mp h2
      exact ⟨m2, ⟨m, h, h3⟩, h4⟩
    · rintro ⟨m, ⟨m2, h, h3⟩, h4⟩
      exact ⟨m2, h, (lev_snoc (k := k)).mpr ⟨m, h3, h4⟩⟩
theorem lev_split {R : Nat → Nat → Prop} : ∀ {a b p q : Nat}, lev R (a + b) p q ↔ ∃ m, lev R a p m ∧ lev R b m q
  | 0, b, p, q => by
    rw [Nat.zero_add]
    exact ⟨fun h => ⟨p, rfl, h⟩, fun ⟨m, h1, h2⟩ => by cases h1; exact h2⟩
  | a + 1, b, p, q => by
    rw [show a + 1 + b = (a + b) + 1 by omega]
    constructor
    · rintro ⟨m, h, h2⟩
      obtain ⟨m2, h3, h4⟩ := lev_split.mp h2
      exact ⟨m2, ⟨m, h, h3⟩, h4⟩
    · rintro ⟨m, ⟨m2, h, h3⟩, h4⟩
      exact ⟨m2, h, lev_split.mpr ⟨m, h3, h4⟩⟩
theorem lev_inv {R : Nat → Nat → Prop} : ∀ {k p q : Nat}, lev R k p q ↔ lev (fun a b => R b a) k q p
  | 0, p, q => ⟨fun h => h.symm, fun h => h.symm⟩
  | k + 1, p, q => by
    rw [lev_snoc (R := fun a b => R b a)]
    constructor
    · rintro ⟨m, h, h2⟩
      exact ⟨m, lev_inv.mp h2, h⟩
    · rintro ⟨m, h, h2⟩
      exact ⟨m, h2, lev_inv.mpr h⟩
theorem nz_iff {m : Nat} : m ≠ 0 ↔ ∃ q, m.testBit q = true := by
  constructor
  · intro h
    exact Nat.exists_testBit_of_ne_zero h
  · rintro ⟨q, h⟩ rfl
    rw [Nat.zero_testBit] at h
    cases h
/-- f tells the neighbours by R -/
def RS (R : Nat → Nat → Prop) (f : Nat → Nat) : Prop := (∀ p q, R p q → p < 16 ∧ q < 16) ∧ ∀ p q, p < 16 → ((f p).testBit q = true ↔ R p q)
theorem unS_bit {R : Nat → Nat → Prop} {f : Nat → Nat} (h : RS R f) {m q : Nat} : (unS f m).testBit q = true ↔ ∃ p, m.testBit p = true ∧ R p q := by
  rw [unS, orN_bit, anyB_iff]
  constructor
  · rintro ⟨j, h1, h2⟩
    rw [Bool.and_eq_true] at h2
    exact ⟨j, h2.1, (h.2 j q h1).mp h2.2⟩
  · rintro ⟨p, h1, h2⟩
    have hp := (h.1 p q h2).1
    exact ⟨p, hp, by rw [Bool.and_eq_true]; exact ⟨h1, (h.2 p q hp).mpr h2⟩⟩
theorem stp_iff {R : Nat → Nat → Prop} {f : Nat → Nat} (h : RS R f) {p : Nat} : ∀ (k i m : Nat), (∀ q, m.testBit q = true ↔ lev R i p q) → ∀ j, (j ≤ stp f k m ↔ j = 0 ∨ (j ≤ k ∧ ∃ q, lev R (i + j - 1) p q))
  | 0, i, m, hm, j => by
    rw [stp]
    constructor
    · intro h1; exact Or.inl (by omega)
    · rintro (h1 | ⟨h1, -⟩) <;> omega
  | k + 1, i, m, hm, j => by
    rw [stp]
    split
    · rename_i h0
      constructor
      · intro h1; exact Or.inl (by omega)
      · rintro (h1 | ⟨h1, q, h2⟩)
        · omega
        · rcases Nat.eq_zero_or_pos j with h3 | h3
          · omega
          · exfalso
            rw [show i + j - 1 = i + (j - 1) by omega] at h2
            obtain ⟨m2, h4, -⟩ := lev_split.mp h2
            exact absurd h0 (nz_iff.mpr ⟨m2, (hm m2).mpr h4⟩)
    · rename_i h0
      obtain ⟨q0, hq0⟩ := nz_iff.mp h0
      have hm' : ∀ q, (unS f m).testBit q = true ↔ lev R (i + 1) p q := by
        intro q
        rw [unS_bit h, lev_snoc]
        exact ⟨fun ⟨a, h1, h2⟩ => ⟨a, (hm a).mp h1, h2⟩, fun ⟨a, h1, h2⟩ => ⟨a, (hm a).mpr h1, h2⟩⟩
      have ih := stp_iff h k (i + 1) (unS f m) hm' (j - 1)
      constructor
      · intro h1
        rcases Nat.eq_zero_or_pos j with h3 | h3
        · exact Or.inl h3
        · right
          rcases ih.mp (by omega) with h4 | ⟨h4, q, h5⟩
          · exact ⟨by omega, q0, by rw [show i + j - 1 = i by omega]; exact (hm q0).mp hq0⟩
          · exact ⟨by omega, q, by rw [show i + j - 1 = i + 1 + (j - 1) - 1 by omega]; exact h5⟩
      · rintro (h1 | ⟨h1, q, h2⟩)
        · omega
        · rcases Nat.lt_or_ge j 2 with h3 | h3
          · omega
          · have := ih.mpr (Or.inr ⟨by omega, q, by rw [show i + 1 + (j - 1) - 1 = i + j - 1 by omega]; exact h2⟩)
            omega
def mxN (g : Nat → Nat) : Nat → Nat
  | 0 => 0
  | n + 1 => if mxN g n < g n then g n else mxN g n
theorem mxN_iff {g : Nat → Nat} {j : Nat} : ∀ {n : Nat}, j ≤ mxN g n ↔ j = 0 ∨ ∃ i, i < n ∧ j ≤ g i
  | 0 => by
    rw [mxN]
    constructor
    · intro h; exact Or.inl (by omega)
    · rintro (h | ⟨i, h, -⟩) <;> omega
  | n + 1 => by
    rw [mxN]
    have ih := mxN_iff (g := g) (j := j) (n := n)
    split
    · rename_i h0
      constructor
      · intro h; exact Or.inr ⟨n, by omega, h⟩
      · rintro (h | ⟨i, h1, h2⟩)
        · omega
        · by_cases hi : i = n
          · rw [← hi]; exact h2
          · have := ih.mpr (Or.inr ⟨i, by omega, h2⟩); omega
    · rename_i h0
      constructor
      · intro h
        rcases ih.mp h with h1 | ⟨i, h1, h2⟩
        · exact Or.inl h1
        · exact Or.inr ⟨i, by omega, h2⟩
      · rintro (h | ⟨i, h1, h2⟩)
        · omega
        · by_cases hi : i = n
          · rw [hi] at h2; omega
          · exact ih.mpr (Or.inr ⟨i, by omega, h2⟩)
/-- a row of edges: a i to b i, i < n -/
def Ed (n : Nat) (a b : Nat → Nat) (p q : Nat) : Prop := ∃ i, i < n ∧ a i = p ∧ b i = q
def hgt (n : Nat) (a b : Nat → Nat) : Nat → Nat → Nat
  | 0, _ => 0
  | f + 1, p => mxN (fun i => if a i = p then 1 + hgt n a b f (b i) else 0) n
theorem hgt_iff {n : Nat} {a b : Nat → Nat} : ∀ {f p j : Nat}, j ≤ hgt n a b f p ↔ j = 0 ∨ (j ≤ f ∧ ∃ q, lev (Ed n a b) j p q)
  | 0, p, j => by
    rw [hgt]
    constructor
    · intro h; exact Or.inl (by omega)
    · rintro (h | ⟨h, -⟩) <;> omega
  | f + 1, p, j => by
    rw [hgt, mxN_iff]
    constructor
    · rintro (h | ⟨i, h1, h2⟩)
      · exact Or.inl h
      · split at h2
        · rename_i h3
          rcases Nat.eq_zero_or_pos j with h4 | h4
          · exact Or.inl h4
          · right
            rcases (hgt_iff (n := n) (a := a) (b := b) (f := f) (p := b i) (j := j - 1)).mp (by omega) with h5 | ⟨h5, q, h6⟩
            · exact ⟨by omega, b i, by rw [show j = 0 + 1 by omega]; exact ⟨b i, ⟨i, h1, h3, rfl⟩, rfl⟩⟩
            · exact ⟨by omega, q, by rw [show j = (j - 1) + 1 by omega]; exact ⟨b i, ⟨i, h1, h3, rfl⟩, h6⟩⟩
        · exact Or.inl (by omega)
    · rintro (h | ⟨h1, q, h2⟩)
      · exact Or.inl h
      · rcases Nat.eq_zero_or_pos j with h4 | h4
        · exact Or.inl h4
        · right
          rw [show j = (j - 1) + 1 by omega] at h2
          obtain ⟨m, ⟨i, h5, h6, h7⟩, h8⟩ := h2
          refine ⟨i, h5, ?_⟩
          rw [if_pos h6, h7]
          have := (hgt_iff (n := n) (a := a) (b := b) (f := f) (p := m) (j := j - 1)).mpr (Or.inr ⟨by omega, q, h8⟩)
          omega
theorem stp_hgt {n : Nat} {a b f : Nat → Nat} (h : RS (Ed n a b) f) {p : Nat} (hp : p < 16) (k : Nat) : stp f k (f p) = hgt n a b k p := by
  have e : ∀ j, j ≤ stp f k (f p) ↔ j ≤ hgt n a b k p := by
    intro j
    rw [stp_iff h k 1 (f p) (fun q => by
      rw [h.2 p q hp]
      exact ⟨fun h1 => ⟨q, h1, rfl⟩, fun ⟨m, h1, h2⟩ => by cases h2; exact h1⟩), hgt_iff, show 1 + j - 1 = j by omega]
  have e1 := (e _).mp (Nat.le_refl _)
  have e2 := (e _).mpr (Nat.le_refl _)
  omega
def rchB (n : Nat) (a b : Nat → Nat) : Nat → Nat → Nat → Bool
  | 0, _, _ => false
  | f + 1, p, q => decide (p = q) || anyB (fun i => decide (a i = p) && rchB n a b f (b i) q) n
theorem rchB_iff {n : Nat} {a b : Nat → Nat} : ∀ {f p q : Nat}, rchB n a b f p q = true ↔ ∃ k, k < f ∧ lev (Ed n a b) k p q
  | 0, p, q => by
    rw [rchB]
    constructor
    · intro h; cases h
    · rintro ⟨k, h, -⟩; omega
  | f + 1, p, q => by
    rw [rchB, Bool.or_eq_true, decide_eq_true_eq, anyB_iff]
    constructor
    · rintro (h | ⟨i, h1, h2⟩)
      · exact ⟨0, by omega, h⟩
      · rw [Bool.and_eq_true, decide_eq_true_eq, rchB_iff (f := f)] at h2
        obtain ⟨h2, k, h3, h4⟩ := h2
        exact ⟨k + 1, by omega, b i, ⟨i, h1, h2, rfl⟩, h4⟩
    · rintro ⟨k, h1, h2⟩
      cases k with
      | zero => exact Or.inl h2
      | succ k =>
        obtain ⟨m, ⟨i, h5, h6, h7⟩, h8⟩ := h2
        refine Or.inr ⟨i, h5, ?_⟩
        rw [Bool.and_eq_true, decide_eq_true_eq, rchB_iff (f := f), h7]
        exact ⟨h6, k, by omega, h8⟩
theorem rch_iff {R : Nat → Nat → Prop} {f : Nat → Nat} (h : RS R f) : ∀ {k m q : Nat}, (rch f k m).testBit q = true ↔ ∃ i p, i ≤ k ∧ m.testBit p = true ∧ lev R i p q
  | 0, m, q => by
    rw [rch]
    exact ⟨fun h1 => ⟨0, q, by omega, h1, rfl⟩, fun ⟨i, p, h1, h2, h3⟩ => by rw [show i = 0 by omega] at h3; cases h3; exact h2⟩
  | k + 1, m, q => by
    rw [rch, rch_iff h (k := k)]
    constructor
    · rintro ⟨i, p, h1, h2, h3⟩
      rw [Nat.testBit_or, Bool.or_eq_true, unS_bit h] at h2
      rcases h2 with h2 | ⟨a, h4, h5⟩
      · exact ⟨i, p, by omega, h2, h3⟩
      · exact ⟨i + 1, a, by omega, h4, p, h5, h3⟩
    · rintro ⟨i, p, h1, h2, h3⟩
      cases i with
      | zero => exact ⟨0, p, by omega, by rw [Nat.testBit_or, h2]; rfl, h3⟩
      | succ i =>
        obtain ⟨a, h4, h5⟩ := h3
        exact ⟨i, a, by omega, by rw [Nat.testBit_or, Bool.or_eq_true, unS_bit h]; exact Or.inr ⟨p, h2, h4⟩, h5⟩
theorem rch_rchB {n : Nat} {a b f : Nat → Nat} (h : RS (Ed n a b) f) {p q k : Nat} : (rch f k (2 ^ p)).testBit q = rchB n a b (k + 1) p q := by
  rw [Bool.eq_iff_iff, rch_iff h, rchB_iff]
  constructor
  · rintro ⟨i, m, h1, h2, h3⟩
    rw [Nat.testBit_two_pow, decide_eq_true_eq] at h2
    subst h2
    exact ⟨i, by omega, h3⟩
  · rintro ⟨i, h1, h2⟩
    exact ⟨i, p, by omega, by rw [Nat.testBit_two_pow_self], h2⟩
theorem cset_RS {np : Nat} {L : LSt} (hI : LI np L) : RS (Ed (ln L) (pa L) (ch L)) (cset L) := by
  have h16 := hI.1
  constructor
  · rintro p q ⟨i, h1, rfl, rfl⟩
    have := hI.2.2 i h1
    omega
  · intro p q _
    rw [cset, orN_bit, anyB_iff]
    constructor
    · rintro ⟨j, h1, h2⟩
      rw [Bool.and_eq_true, decide_eq_true_eq, Nat.testBit_two_pow, decide_eq_true_eq] at h2
      exact ⟨j, h1, h2.1, h2.2⟩
    · rintro ⟨j, h1, h2, h3⟩
      exact ⟨j, h1, by rw [Bool.and_eq_true, decide_eq_true_eq, Nat.testBit_two_pow, decide_eq_true_eq]; exact ⟨h2, h3⟩⟩
theorem pset_RS {np : Nat} {L : LSt} (hI : LI np L) : RS (Ed (ln L) (ch L) (pa L)) (pset L) := by
  have h16 := hI.1
  constructor
  · rintro p q ⟨i, h1, rfl, rfl⟩
    have := hI.2.2 i h1
    omega
  · intro p q _
    rw [pset, orN_bit, anyB_iff]
    constructor
    · rintro ⟨j, h1, h2⟩
      rw [Bool.and_eq_true, decide_eq_true_eq, Nat.testBit_two_pow, decide_eq_true_eq] at h2
      exact ⟨j, h1, h2.1, h2.2⟩
    · rintro ⟨j, h1, h2, h3⟩
      exact ⟨j, h1, by rw [Bool.and_eq_true, decide_eq_true_eq, Nat.testBit_two_pow, decide_eq_true_eq]; exact ⟨h2, h3⟩⟩
/-- no chain of f edges begins at p -/
def NC (n : Nat) (a b : Nat → Nat) : Nat → Nat → Prop
  | 0, _ => False
  | f + 1, p => ∀ i, i < n → a i = p → NC n a b f (b i)
theorem NC_iff {n : Nat} {a b : Nat → Nat} : ∀ {f p : Nat}, NC n a b f p ↔ ∀ q, ¬ lev (Ed n a b) f p q
  | 0, p => ⟨fun h => h.elim, fun h => h p rfl⟩
  | f + 1, p => by
    constructor
    · rintro h q ⟨m, ⟨i, h1, h2, h3⟩, h4⟩
      exact NC_iff.mp (h i h1 h2) q (h3 ▸ h4)
    · intro h i h1 h2
      exact NC_iff.mpr (fun q h4 => h q ⟨b i, ⟨i, h1, h2, rfl⟩, h4⟩)
theorem Ed_inv {n : Nat} {a b : Nat → Nat} : (fun p q => Ed n a b q p) = Ed n b a := by
  funext p q
  exact propext ⟨fun ⟨i, h1, h2, h3⟩ => ⟨i, h1, h3, h2⟩, fun ⟨i, h1, h2, h3⟩ => ⟨i, h1, h3, h2⟩⟩
theorem NC_inv {n f : Nat} {a b : Nat → Nat} (h : ∀ p, NC n a b f p) (p : Nat) : NC n b a f p := by
  rw [NC_iff]
  intro q h1
  rw [← Ed_inv, ← lev_inv] at h1
  exact NC_iff.mp (h q) p h1
