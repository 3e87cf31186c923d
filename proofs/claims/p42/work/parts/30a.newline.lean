/-! A NEW LINE, pure: when two lines collide, what is refused, what the lines are then -/
theorem anyB_f {f : Nat → Bool} {n : Nat} (h : ∀ j, j < n → f j = false) : anyB f n = false := by
  cases h1 : anyB f n with
  | false => rfl
  | true =>
    obtain ⟨j, h2, h3⟩ := anyB_iff.mp h1
    rw [h j h2] at h3
    cases h3
theorem anyB_t {f : Nat → Bool} {n j : Nat} (h : j < n) (h2 : f j = true) : anyB f n = true := anyB_iff.mpr ⟨j, h, h2⟩
/-- line j collides with a line at part p, position k, from a to b, option o - 1, set c (o = 0: none) -/
def colB (L : LSt) (p k a b o c j : Nat) : Bool := (decide (pa L j = p) && decide (po L j = k)) && ((decide (fi L j ≤ b) && decide (a ≤ la L j)) && !(decide (op L j ≠ 0) && (decide (op L j = o) && decide (cs L j &&& c = 0))))
def colT (o o2 c c2 : Nat) : Bool := !((!decide (1 ≤ o) || decide (1 ≤ c)) && (!decide (1 ≤ o2) || decide (1 ≤ c2))) || ((!decide (o - 1 = o2 - 1) || !decide (xcs o c &&& xcs o2 c2 = 0)) == !(decide (o ≠ 0) && (decide (o = o2) && decide (c &&& c2 = 0))))
theorem colT_all : ((List.range 5).all fun o => (List.range 5).all fun o2 => (List.range 16).all fun c => (List.range 16).all fun c2 => colT o o2 c c2) = true := by decide +kernel
/-- the same as the class tells it -/
theorem col_x {o o2 c c2 : Nat} (ho : o ≤ 4) (ho2 : o2 ≤ 4) (hc : c < 16) (hc2 : c2 < 16) (h1 : 1 ≤ o → 1 ≤ c) (h2 : 1 ≤ o2 → 1 ≤ c2) :
    (!decide (o - 1 = o2 - 1) || !decide (xcs o c &&& xcs o2 c2 = 0)) = !(decide (o ≠ 0) && (decide (o = o2) && decide (c &&& c2 = 0))) := by
  have h := colT_all
  simp only [List.all_eq_true, List.mem_range] at h
  have h3 := h o (by omega) o2 (by omega) c hc c2 hc2
  have e1 : (!decide (1 ≤ o) || decide (1 ≤ c)) = true := by
    by_cases q : 1 ≤ o
    · simp [q, h1 q]
    · simp [q]
  have e2 : (!decide (1 ≤ o2) || decide (1 ≤ c2)) = true := by
    by_cases q : 1 ≤ o2
    · simp [q, h2 q]
    · simp [q]
  rw [colT, e1, e2] at h3
  exact eq_of_beq h3
def deepB (L : LSt) (p c : Nat) : Bool := decide (4 < hgt (ln L) (ch L) (pa L) 5 p + 1 + hgt (ln L) (pa L) (ch L) 5 c)
def cdL (L : LSt) (p c : Nat) (col : Bool) : Nat := bif rchB (ln L) (pa L) (ch L) 5 c p then 3 else (bif deepB L p c || (col || decide (ln L = 40)) then 4 else 0)
def newL (L : LSt) (p k c q r a b o s : Nat) : LSt := (ln L + 1, va_up (pa L) (ln L) p, va_up (po L) (ln L) k, va_up (ch L) (ln L) c, va_up (qt L) (ln L) q, va_up (sc L) (ln L) r, va_up (fi L) (ln L) a, va_up (la L) (ln L) b, va_up (op L) (ln L) o, va_up (cs L) (ln L) s)
theorem g_up {α β : Type} (g : α → β) (f : Nat → α) (k : Nat) (x : α) : va_up (fun j => g (f j)) k (g x) = fun j => g (va_up f k x j) := by
  funext j
  simp only [va_up]
  split <;> rfl
theorem up2 {f g : Nat → Nat} {h : Nat → Nat → Int32} {k x y : Nat} : va_up (fun j => h (f j) (g j)) k (h x y) = fun j => h (va_up f k x j) (va_up g k y j) := by
  funext j
  simp only [va_up]
  split <;> rfl
/-- chains end: no chain of five lines -/
def NC5 (L : LSt) : Prop := ∀ p, NC (ln L) (pa L) (ch L) 5 p
