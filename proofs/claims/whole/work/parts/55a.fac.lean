/-! FLOATS: the factors -/
/-- quantity and scrap as the factor of a line -/
def facF (q s : Nat) : UInt32 := FP.fdiv (FP.fmul (FP.i2f (nI q)) (FP.i2f (nI (100 + s)))) 1120403456
/-- zero or between two numbers, by the bits (no sign) -/
def Z32 (lo hi : Nat) (x : UInt32) : Prop := x = 0 ∨ (lo ≤ x.toNat ∧ x.toNat ≤ hi)
set_option maxRecDepth 20000 in
theorem facF_all : ∀ q : Fin 20, ∀ s : Fin 51, 1065353216 ≤ (facF (q.val + 1) s.val).toNat ∧ (facF (q.val + 1) s.val).toNat ≤ 1106247680 := by decide +kernel
theorem facF_b {q s : Nat} (h1 : 1 ≤ q) (h2 : q ≤ 20) (hs : s ≤ 50) : 1065353216 ≤ (facF q s).toNat ∧ (facF q s).toNat ≤ 1106247680 := by
  have h := facF_all ⟨q - 1, by omega⟩ ⟨s, by omega⟩
  rw [show (⟨q - 1, by omega⟩ : Fin 20).val + 1 = q by show q - 1 + 1 = q; omega] at h
  exact h
