/-! PURE: numbers, tests, codes -/
section XPure
theorem celId {w : Wd} {i : Nat} {e : va_E} (h : cel w i e) : setM w i e = w := setM_id h.2
def inP (p : Int32) (n : Nat) : Bool := !decide (p < 0) && decide (p < nI n)
theorem inP_f1 {p : Int32} {n : Nat} (h : p < 0) : inP p n = false := by simp [inP, h]
theorem inP_f2 {p : Int32} {n : Nat} (h : ¬ p < nI n) : inP p n = false := by simp [inP, h]
theorem inP_t {p : Int32} {n : Nat} (h1 : ¬ p < 0) (h2 : p < nI n) : inP p n = true := by simp [inP, h1, h2]
theorem inP_of {p : Int32} {n : Nat} (hn : n < 2 ^ 31) (h : inP p n = true) : ∃ j : Nat, j < n ∧ p = nI j := by
  simp only [inP, Bool.and_eq_true, Bool.not_eq_true', decide_eq_false_iff_not, decide_eq_true_eq] at h
  obtain ⟨j, hj, rfl⟩ := nI_of h.1
  exact ⟨j, (nI_ltI hj hn).mp h.2, rfl⟩
theorem inP_nI {j n : Nat} (hn : n < 2 ^ 31) (h : j < n) : inP (nI j) n = true := inP_t (nI_pos (by omega)) (nI_lt h hn)
/-- between 0 and n - 1 -/
theorem btw_inP {p : Int32} {n : Nat} (hn : n < 2 ^ 31) : btw p 0 (nI n - 1) = inP p n := by
  have key : (p ≤ nI n - 1) ↔ p < nI n := by
    cases n with
    | zero =>
      have a1 : (p ≤ (nI 0 - 1)) ↔ p.toInt ≤ -1 := by
        rw [Int32.le_iff_toInt_le]
        have : (nI 0 - 1).toInt = -1 := by decide
        rw [this]
      have a2 : (p < nI 0) ↔ p.toInt < 0 := by
        rw [Int32.lt_iff_toInt_lt]
        have : (nI 0).toInt = 0 := by decide
        rw [this]
      rw [a1, a2]
      omega
    | succ k =>
      rw [nI_pred]
      have a1 : (p ≤ nI k) ↔ p.toInt ≤ k := by rw [Int32.le_iff_toInt_le, nI_toInt (by omega)]
      have a2 : (p < nI (k + 1)) ↔ p.toInt < ((k + 1 : Nat) : Int) := by rw [Int32.lt_iff_toInt_lt, nI_toInt hn]
      rw [a1, a2]
      omega
  have k2 : ((0 : Int32) ≤ p) ↔ ¬ p < 0 := Int32.not_lt.symm
  simp only [btw, inP, key, k2]
  cases h : decide (p < 0) <;> simp_all
def isK (k : Int32) : Bool := decide (k = 98) || (decide (k = 109) || decide (k = 112))
theorem isK_of {k : Int32} (h : isK k = true) : k = nI 98 ∨ k = nI 109 ∨ k = nI 112 := by
  simp only [isK, Bool.or_eq_true, decide_eq_true_eq] at h
  exact h
abbrev idx (p : Int32) : Nat := p.toNatClampNeg
theorem idx_nI {n : Nat} (h : n < 2 ^ 31) : idx (nI n) = n := nI_clamp h
/-- the answer of a call of the class: code 0 the value, else the exception of the code -/
def xr (cd : Nat) (es : List String) (v : Value) : XRes := match cd with
  | 0 => .inl (some v)
  | k + 1 => .inr (es.getD k "")
theorem nf_up (f : Nat → Nat) (k x : Nat) : va_up (nf f) k (nI x) = nf (va_up f k x) := by
  funext j
  simp only [va_up, nf]
  split <;> rfl
abbrev eIAE : String := "java/lang/IllegalArgumentException"
abbrev eISE : String := "java/lang/IllegalStateException"
abbrev eIOB : String := "java/lang/IndexOutOfBoundsException"
abbrev eUOE : String := "java/lang/UnsupportedOperationException"
abbrev eNSE : String := "java/util/NoSuchElementException"
/-- a refusal -/
def rOK (b : Bool) (e : String) : XRes := bif b then .inl none else .inr e
theorem rOK_t {b : Bool} {e : String} (h : b = true) : (.inl none : XRes) = rOK b e := by rw [h]; rfl
theorem rOK_f {b : Bool} {e : String} (h : b = false) : (.inr e : XRes) = rOK b e := by rw [h]; rfl
theorem rOK_inl {b : Bool} {e : String} {v : Option Value} (h : (.inl v : XRes) = rOK b e) : b = true ∧ v = none := by
  cases b with
  | true => exact ⟨rfl, by cases h; rfl⟩
  | false => cases h
theorem rOK_inr {b : Bool} {e E : String} (h : (.inr E : XRes) = rOK b e) : b = false ∧ E = e := by
  cases b with
  | true => cases h
  | false => exact ⟨rfl, by cases h; rfl⟩
end XPure
