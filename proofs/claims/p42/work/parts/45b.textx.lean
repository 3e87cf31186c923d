/-! TEXT of the class (walks by gen/spec45.py) -/
section TextX
variable {G : Gx} {w : Wd}
theorem TC_snoc {t : Nat → Int32} {T : List Nat} {c : Nat} (h : TC t T) : TC (va_up t T.length (nI c)) (T ++ [c]) := by
  intro j hj
  rw [List.length_append] at hj
  by_cases h4 : j < T.length
  · rw [up_ne (Nat.ne_of_lt h4), show (T ++ [c]).getD j 0 = T.getD j 0 by simp [List.getD, List.getElem?_append_left h4]]
    exact h j h4
  · have h5 : j = T.length := by simp at hj; omega
    subst h5
    rw [up_eq, show (T ++ [c]).getD T.length 0 = c by simp [List.getD]]
theorem pre_lt {a n : Nat} (ha : a < 2 ^ 30) (hn : n < 2 ^ 30) : nI a - 1 < nI n ↔ a ≤ n := by
  rcases Nat.eq_zero_or_pos a with h | h
  · subst h
    refine ⟨fun _ => Nat.zero_le _, fun _ => ?_⟩
    rw [Int32.lt_iff_toInt_lt, nI_toInt (by omega), show (nI 0 - 1).toInt = -1 by decide +kernel]
    omega
  · rw [show (1 : Int32) = nI 1 from rfl, pk_sub (by omega), nI_ltI (by omega) (by omega)]
    omega
theorem add_m1 (x : Int32) : x + Int32.ofInt (-1) = x - 1 := by
  rw [Int32.sub_eq_add_neg]
  rfl
/-- how many digits are still to count -/
def dlN (f v : Nat) : Nat := if v = 0 then 0 else (digN f v).length
theorem dlN_s {f v : Nat} (h : v ≠ 0) : dlN (f + 1) v = dlN f (v / 10) + 1 := by
  rw [dlN, if_neg h, digN, dlN]
  split
  · rename_i h1
    rw [if_neg (by omega), List.length_append]; rfl
  · rename_i h1
    rw [if_pos (by omega)]; rfl
theorem digN_dl {f v : Nat} : (digN (f + 1) v).length = dlN f (v / 10) + 1 := by
  rw [digN, dlN]
  split
  · rename_i h1
    rw [if_neg (by omega), List.length_append]; rfl
  · rename_i h1
    rw [if_pos (by omega)]; rfl
theorem div_pow {f v : Nat} (h : v < 10 ^ (f + 1)) : v / 10 < 10 ^ f := by rw [Nat.div_lt_iff_lt_mul (by decide)]; rw [Nat.pow_succ] at h; exact h
end TextX
