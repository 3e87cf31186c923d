/-! BASE: small rows that walks use; the state's words -/
section XBase
variable {G : Gx} {μ : Mth} {d gc gs pc : Nat} {lo : List (Nat × Value)} {st : List Value} {w : Wd} {Q : XRes → Wd → Prop}
theorem XJ.top {v v' : Value} (h : v = v') (k : XJ G μ d gc gs pc lo (v' :: st) w Q) : XJ G μ d gc gs pc lo (v :: st) w Q := h ▸ k
theorem XJ.stk {st' : List Value} (h : st = st') (k : XJ G μ d gc gs pc lo st' w Q) : XJ G μ d gc gs pc lo st w Q := h ▸ k
theorem XJ.lc {lo' : List (Nat × Value)} (h : lo = lo') (k : XJ G μ d gc gs pc lo' st w Q) : XJ G μ d gc gs pc lo st w Q := h ▸ k
def bI (b : Bool) : Int32 := bif b then 1 else 0
theorem bI_eq {b : Bool} (h : bI b = 0) : b = false := by cases b with
  | false => rfl
  | true => exact absurd h (by decide)
theorem bI_ne {b : Bool} (h : bI b ≠ 0) : b = true := by cases b with
  | true => rfl
  | false => exact absurd rfl h
theorem rI {a b : Int32} (h : a = b) : (.inl (some (.int a)) : XRes) = .inl (some (.int b)) := by rw [h]
theorem rL {a b : Int64} (h : a = b) : (.inl (some (.long a)) : XRes) = .inl (some (.long b)) := by rw [h]
def btw (a b c : Int32) : Bool := decide (b ≤ a) && decide (a ≤ c)
theorem btw_t {a b c : Int32} (h1 : ¬ a < b) (h2 : ¬ c < a) : btw a b c = true := by
  simp [btw, Int32.not_lt.mp h1, Int32.not_lt.mp h2]
theorem btw_f1 {a b c : Int32} (h1 : a < b) : btw a b c = false := by
  simp [btw, Int32.not_le.mpr h1]
theorem btw_f2 {a b c : Int32} (h2 : c < a) : btw a b c = false := by
  simp [btw, Int32.not_le.mpr h2]
/-- a number between two numbers is a number -/
theorem btw_nI {a : Int32} {b c : Nat} (hb : b < 2 ^ 31) (hc : c < 2 ^ 31) (h : btw a (nI b) (nI c) = true) : ∃ j : Nat, b ≤ j ∧ j ≤ c ∧ a = nI j := by
  simp only [btw, Bool.and_eq_true, decide_eq_true_eq] at h
  obtain ⟨h1, h2⟩ := h
  have h0 : ¬ a < 0 := by
    intro h3
    have := nI_pos' hb
    exact absurd (Int32.lt_of_le_of_lt (Int32.le_trans this h1) h3) Int32.lt_irrefl
  obtain ⟨j, hj, rfl⟩ := nI_of h0
  exact ⟨j, (nI_leI hb hj).mp h1, (nI_leI hj hc).mp h2, rfl⟩
theorem btw_of {j b c : Nat} (hj : j < 2 ^ 31) (hb : b < 2 ^ 31) (hc : c < 2 ^ 31) : btw (nI j) (nI b) (nI c) = (decide (b ≤ j) && decide (j ≤ c)) := by
  simp only [btw, nI_leI hb hj, nI_leI hj hc]
theorem narrow_b (b : Bool) : narrow .boolean (.int (bI b)) = .int (bI b) := by cases b <;> rfl
def nf (f : Nat → Nat) : Nat → Int32 := fun j => nI (f j)
theorem nI_inc (i : Nat) : nI i + Int32.ofInt 1 = nI (i + 1) := nI_1 i
theorem nI_dec (i : Nat) : nI (i + 1) + Int32.ofInt (-1) = nI i := pk_m1 i
end XBase
