/-! BITS: sets of parts as numbers; sums and ors over rows -/
section XBits
variable {G : Gx} {μ : Mth} {d gc gs pc : Nat} {lo : List (Nat × Value)} {st : List Value} {w : Wd} {Q : XRes → Wd → Prop}
def lchk (lo : List (Nat × Value)) : List (Nat × Value) → Prop
  | [] => True
  | (k, v) :: t => lkp lo k = some v ∧ lchk lo t
theorem lchk_mem {lo : List (Nat × Value)} : ∀ {lo' : List (Nat × Value)}, lchk lo lo' → ∀ q ∈ lo', lkp lo q.1 = some q.2
  | [], _, _, h => by cases h
  | (k, v) :: t, ⟨h1, h2⟩, q, h => by
    rcases List.mem_cons.mp h with rfl | h
    · exact h1
    · exact lchk_mem h2 q h
theorem XJ.lcs {lo' : List (Nat × Value)} (h : lchk lo lo') (k : XJ G μ d gc gs pc lo' st w Q) : XJ G μ d gc gs pc lo st w Q := XJ.los (lchk_mem h) k
theorem nI_toBV (a : Nat) : (nI a).toBitVec = BitVec.ofNat 32 a := rfl
theorem nI_or (a b : Nat) : nI a ||| nI b = nI (a ||| b) := by
  apply Int32.toBitVec_inj.mp
  rw [Int32.toBitVec_or, nI_toBV, nI_toBV, nI_toBV]
  apply BitVec.eq_of_getLsbD_eq
  intro i hi
  simp [BitVec.getLsbD_ofNat, Nat.testBit_or, hi]
theorem nI_and (a b : Nat) : nI a &&& nI b = nI (a &&& b) := by
  apply Int32.toBitVec_inj.mp
  rw [Int32.toBitVec_and, nI_toBV, nI_toBV, nI_toBV]
  apply BitVec.eq_of_getLsbD_eq
  intro i hi
  simp [BitVec.getLsbD_ofNat, Nat.testBit_and, hi]
theorem shl1 : ∀ c : Nat, c < 31 → (1 : Int32) <<< (nI c &&& 31) = nI (2 ^ c) := by decide +kernel
theorem and_pow0 {a c : Nat} : a &&& 2 ^ c = 0 ↔ a.testBit c = false := by
  constructor
  · intro h
    have := congrArg (fun x => x.testBit c) h
    simp only [Nat.testBit_and, Nat.testBit_two_pow_self, Bool.and_true, Nat.zero_testBit] at this
    exact this
  · intro h
    apply Nat.eq_of_testBit_eq
    intro i
    rw [Nat.testBit_and, Nat.zero_testBit, Nat.testBit_two_pow]
    by_cases hi : c = i
    · rw [← hi, h]; rfl
    · simp [hi]
theorem nI_bit {a c : Nat} (hc : c < 31) : (nI a &&& nI (2 ^ c) = 0) ↔ a.testBit c = false := by
  have h2 : (2 : Nat) ^ c < 2 ^ 31 := Nat.pow_lt_pow_right (by decide) hc
  have h3 : a &&& 2 ^ c ≤ 2 ^ c := Nat.and_le_right
  rw [nI_and, show (0 : Int32) = nI 0 from rfl, nI_eq (by omega) (by decide)]
  exact and_pow0
def anyB (f : Nat → Bool) : Nat → Bool
  | 0 => false
  | n + 1 => anyB f n || f n
theorem anyB_iff {f : Nat → Bool} : ∀ {n : Nat}, anyB f n = true ↔ ∃ j : Nat, j < n ∧ f j = true
  | 0 => by
    constructor
    · intro h
      cases h
    · rintro ⟨j, h, -⟩
      omega
  | n + 1 => by
    rw [anyB, Bool.or_eq_true, anyB_iff (n := n)]
    constructor
    · rintro (⟨j, h1, h2⟩ | h)
      · exact ⟨j, by omega, h2⟩
      · exact ⟨n, by omega, h⟩
    · rintro ⟨j, h1, h2⟩
      by_cases h : j = n
      · exact Or.inr (h ▸ h2)
      · exact Or.inl ⟨j, by omega, h2⟩
def orN (c : Nat → Bool) (v : Nat → Nat) : Nat → Nat
  | 0 => 0
  | n + 1 => bif c n then orN c v n ||| v n else orN c v n
theorem orN_bit {c : Nat → Bool} {v : Nat → Nat} {q : Nat} : ∀ n : Nat, (orN c v n).testBit q = anyB (fun j => c j && (v j).testBit q) n
  | 0 => by simp [orN, anyB]
  | n + 1 => by
    rw [orN, anyB]
    cases h : c n with
    | true => simp [Nat.testBit_or, orN_bit n]
    | false => simp [orN_bit n]
theorem orN_lt {c : Nat → Bool} {v : Nat → Nat} {k : Nat} : ∀ n : Nat, (∀ j, j < n → c j = true → v j < 2 ^ k) → orN c v n < 2 ^ k
  | 0, _ => Nat.pow_pos (by decide)
  | n + 1, h => by
    have h1 := orN_lt n (fun j hj => h j (by omega))
    rw [orN]
    cases hc : c n with
    | true => exact Nat.or_lt_two_pow h1 (h n (by omega) hc)
    | false => exact h1
/-- the union of the sets f p, p in m -/
def unS (f : Nat → Nat) (m : Nat) : Nat := orN (fun p => m.testBit p) f 16
theorem unS_lt {f : Nat → Nat} {m : Nat} (h : ∀ p, p < 16 → f p < 2 ^ 16) : unS f m < 2 ^ 16 := orN_lt 16 (fun j hj _ => h j hj)
/-- how many steps from m on until nothing is reached, at most k -/
def stp (f : Nat → Nat) : Nat → Nat → Nat
  | 0, _ => 0
  | k + 1, m => if m = 0 then 0 else 1 + stp f k (unS f m)
def rch (f : Nat → Nat) : Nat → Nat → Nat
  | 0, m => m
  | k + 1, m => rch f k (m ||| unS f m)
end XBits
