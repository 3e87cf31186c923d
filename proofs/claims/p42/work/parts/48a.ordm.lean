/-! ORDERS of the reference (walks by gen/spec48.py) -/
section OrdM
variable {G : Gx} {w : Wd} {t np nl no nm nw en : Nat}
/-- the row of choices while an order's are written -/
def chI (O : OSt) (n : Nat) (pr : Nat → Nat) (i k : Nat) : Nat := if k / 4 = n ∧ k % 4 < i then pr (k % 4) else O.2.2.2.2.1 (k / 4) (k % 4)
theorem chI_0 {O : OSt} {n : Nat} {pr : Nat → Nat} : chI O n pr 0 = fun k => O.2.2.2.2.1 (k / 4) (k % 4) := by
  funext k
  exact if_neg (by omega)
theorem chI_4 {O : OSt} {n : Nat} {pr : Nat → Nat} : chI O n pr 4 = fun k => va_up O.2.2.2.2.1 n pr (k / 4) (k % 4) := by
  funext k
  simp only [chI, va_up]
  by_cases h : k / 4 = n
  · rw [if_pos ⟨h, Nat.mod_lt _ (by decide)⟩, if_pos h]
  · rw [if_neg (fun h2 => h h2.1), if_neg h]
theorem chI_s {O : OSt} {n i : Nat} {pr : Nat → Nat} (hi : i < 4) : va_up (nf (chI O n pr i)) (4 * n + i) (nI (pr i)) = nf (chI O n pr (i + 1)) := by
  rw [nf_up]
  congr 1
  funext k
  simp only [chI, va_up]
  by_cases h : k = 4 * n + i
  · subst h
    rw [if_pos rfl, if_pos (by omega), show (4 * n + i) % 4 = i by omega]
  · rw [if_neg h]
    by_cases h2 : k / 4 = n ∧ k % 4 < i
    · rw [if_pos h2, if_pos (by omega)]
    · rw [if_neg h2, if_neg (by omega)]
def mo3 (K : Nat → ClassId) (w : Wd) (O' : OSt) (np nl no nm nw en : Nat) (f : Nat → Nat) : Wd := setM (setM (setM (setM (setM w 39 (m39 w 0 np nl no nm nw en)) 54 (aI K 8 (nf O'.2.1))) 55 (aI K 8 (nf O'.2.2.1))) 56 (aI K 8 (nf O'.2.2.2.1))) 57 (aI K 32 (nf f))
def moW (K : Nat → ClassId) (w : Wd) (O' : OSt) (np nl no nm nw en : Nat) : Wd := setM (mo3 K w O' np nl no nm nw en (fun k => O'.2.2.2.2.1 (k / 4) (k % 4))) 39 (m39 w 0 np nl (no + 1) nm nw en)
end OrdM
