/-! BITS, pure -/
theorem shl23 : ∀ c : Fin 256, nI c.val <<< ((23 : Int32) &&& 31) = nI (c.val * 8388608) := by decide +kernel
theorem shl52 : ∀ c : Fin 2048, nL c.val <<< ((52 : Int32).toInt64 &&& 63) = nL (c.val * 4503599627370496) := by decide +kernel
theorem nL_or (a b : Nat) : nL a ||| nL b = nL (a ||| b) := by
  apply Int64.toBitVec_inj.mp
  apply BitVec.eq_of_toNat_eq
  show ((BitVec.ofNat 64 a) ||| (BitVec.ofNat 64 b)).toNat = (BitVec.ofNat 64 (a ||| b)).toNat
  rw [BitVec.toNat_or, BitVec.toNat_ofNat, BitVec.toNat_ofNat, BitVec.toNat_ofNat, Nat.or_mod_two_pow]
theorem u32_nI (x : UInt32) : x.toInt32 = nI x.toNat := by
  apply Int32.toBitVec_inj.mp
  apply BitVec.eq_of_toNat_eq
  show x.toBitVec.toNat = (BitVec.ofNat 32 x.toNat).toNat
  rw [BitVec.toNat_ofNat]
  exact (Nat.mod_eq_of_lt x.toBitVec.isLt).symm
theorem u64_nL (x : UInt64) : x.toInt64 = nL x.toNat := by
  apply Int64.toBitVec_inj.mp
  apply BitVec.eq_of_toNat_eq
  show x.toBitVec.toNat = (BitVec.ofNat 64 x.toNat).toNat
  rw [BitVec.toNat_ofNat]
  exact (Nat.mod_eq_of_lt x.toBitVec.isLt).symm
theorem or_add {a t k : Nat} (ht : t < 2 ^ k) : a * 2 ^ k ||| t = a * 2 ^ k + t := by
  rw [← Nat.shiftLeft_eq, Nat.shiftLeft_add_eq_or_of_lt ht]
theorem bits32 {E t : Nat} {x : UInt32} (hx : x.toNat = E * 8388608 + t) (ht : t < 8388608) (hE : E < 256) : nI E <<< ((23 : Int32) &&& 31) ||| Int32.ofNat t = x.toInt32 := by
  rw [shl23 ⟨E, hE⟩, u32_nI, hx, show Int32.ofNat t = nI t from rfl, nI_or]
  exact congrArg nI (or_add (k := 23) ht)
theorem bits64 {E t : Nat} {x : UInt64} (hx : x.toNat = E * 4503599627370496 + t) (ht : t < 4503599627370496) (hE : E < 2048) : (nI E).toInt64 <<< ((52 : Int32).toInt64 &&& 63) ||| Int64.ofNat t = x.toInt64 := by
  rw [nL_i2l (by omega), shl52 ⟨E, hE⟩, u64_nL, hx, show Int64.ofNat t = nL t from rfl, nL_or]
  exact congrArg nL (or_add (k := 52) ht)
/-- what compares how -/
theorem cv_lt {a b : Nat} {t : Nat} {op : CmpOp} : (Op.cmpValue (some (if a < b then Ordering.lt else if a = b ∧ t = 0 then Ordering.eq else Ordering.gt)) op < 0) ↔ a < b := by
  by_cases h : a < b
  · rw [if_pos h]; exact ⟨fun _ => h, fun _ => by cases op <;> decide⟩
  · rw [if_neg h]
    by_cases hP : a = b ∧ t = 0
    · rw [if_pos hP]; exact ⟨fun h2 => absurd h2 (by cases op <;> decide), fun h2 => absurd h2 h⟩
    · rw [if_neg hP]; exact ⟨fun h2 => absurd h2 (by cases op <;> decide), fun h2 => absurd h2 h⟩
theorem z32_E {lo hi : Nat} {x : UInt32} (h : Z32 lo hi x) (h0 : x ≠ 0) : ∃ E t, x.toNat = E * 8388608 + t ∧ t < 8388608 ∧ lo ≤ E ∧ E ≤ hi := by
  rcases h with h | ⟨a, b⟩
  · exact absurd (UInt32.toNat_inj.mp h) h0
  · rw [ft_t32] at a b
    refine ⟨x.toNat / 8388608, x.toNat % 8388608, by omega, by omega, by omega, by omega⟩
theorem z64_E {lo hi : Nat} {x : UInt64} (h : Z64 lo hi x) (h0 : x ≠ 0) : ∃ E t, x.toNat = E * 4503599627370496 + t ∧ t < 4503599627370496 ∧ lo ≤ E ∧ E ≤ hi := by
  rcases h with h | ⟨a, b⟩
  · exact absurd (UInt64.toNat_inj.mp h) h0
  · rw [ft_t64] at a b
    refine ⟨x.toNat / 4503599627370496, x.toNat % 4503599627370496, by omega, by omega, by omega, by omega⟩
