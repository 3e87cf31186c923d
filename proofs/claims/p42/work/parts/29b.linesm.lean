/-! REFERENCE: lines (walks by gen/spec29.py) -/
section LinesM
variable {G : Gx} {w : Wd} {t np nl no nm nw en : Nat}
theorem opm {o : Nat} (ho : o ≤ 4) : nI o - 1 = -1 ↔ o = 0 := by
  have : ∀ o : Nat, o < 5 → (nI o - 1 = -1 ↔ o = 0) := by decide +kernel
  exact this o (by omega)
theorem opm_eq {o k : Nat} (ho : o ≤ 4) (hk : k ≤ 4) : nI o - 1 = nI k - 1 ↔ o = k := by
  have : ∀ o : Nat, o < 5 → ∀ k : Nat, k < 5 → (nI o - 1 = nI k - 1 ↔ o = k) := by decide +kernel
  exact this o (by omega) k (by omega)
theorem sh_bit {c k : Nat} (hc : c < 16) (hk : k < 4) : (nI c >>> (nI k &&& 31)) &&& 1 = nI (c / 2 ^ k % 2) := by
  have : ∀ c : Nat, c < 16 → ∀ k : Nat, k < 4 → (nI c >>> (nI k &&& 31)) &&& 1 = nI (c / 2 ^ k % 2) := by decide +kernel
  exact this c hc k hk
theorem hld_0 {L : LSt} {pr : Nat → Nat} {s j : Nat} (hpr : ∀ i, i < 4 → pr i < 4) (ho : op L j = 0) : hld L pr s j = (decide (fi L j ≤ s) && decide (s ≤ la L j)) := by
  have h1 : (15 : Nat).testBit (pr (op L j - 1)) = true := by
    have h2 := hpr (op L j - 1) (by omega)
    have : ∀ k : Nat, k < 4 → (15 : Nat).testBit k = true := by decide
    exact this _ h2
  rw [hld, xcs, if_pos ho, h1, Bool.and_true]
theorem hld_s {L : LSt} {pr : Nat → Nat} {s j : Nat} (ho : op L j ≠ 0) : hld L pr s j = ((decide (fi L j ≤ s) && decide (s ≤ la L j)) && decide (cs L j / 2 ^ pr (op L j - 1) % 2 = 1)) := by
  rw [hld, xcs, if_neg ho, tb_div]
def hgv (n : Nat) (a b : Nat → Nat) (f p i : Nat) : Nat := if a i = p then 1 + hgt n a b f (b i) else 0
theorem mxN_t {g : Nat → Nat} {n : Nat} (h : mxN g n < g n) : g n = mxN g (n + 1) := by rw [mxN, if_pos h]
theorem mxN_f {g : Nat → Nat} {n : Nat} (h : ¬ mxN g n < g n) : mxN g n = mxN g (n + 1) := by rw [mxN, if_neg h]
theorem hgt_le {n : Nat} {a b : Nat → Nat} (f p : Nat) : hgt n a b f p ≤ f := by
  rcases hgt_iff.mp (Nat.le_refl (hgt n a b f p)) with h | ⟨h, -⟩
  · omega
  · exact h
theorem mxN_le {g : Nat → Nat} {n k : Nat} (h : ∀ i, i < n → g i ≤ k) : mxN g n ≤ k := by
  rcases mxN_iff.mp (Nat.le_refl (mxN g n)) with h1 | ⟨i, h1, h2⟩
  · omega
  · have := h i h1; omega
end LinesM
