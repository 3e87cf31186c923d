/-! REFERENCE: quantities (walks by gen/spec36.py) -/
section QtyM
variable {G : Gx} {w : Wd} {t np nl no nm nw en : Nat}
/-- the levels that hold below p -/
def dptN (L : LSt) (pr : Nat → Nat) (s : Nat) : Nat → Nat → Nat
  | 0, _ => 0
  | f + 1, p => mxN (fun k => oN (fun l => 1 + dptN L pr s f (ch L l)) (lnAt L pr s p (k + 1))) 6
theorem dptN_le {L : LSt} {pr : Nat → Nat} {s : Nat} : ∀ (f p : Nat), dptN L pr s f p ≤ f
  | 0, _ => Nat.le_refl 0
  | f + 1, p => mxN_le (fun i _ => by
      show oN _ (lnAt L pr s p (i + 1)) ≤ f + 1
      cases lnAt L pr s p (i + 1) with
      | none => exact Nat.zero_le _
      | some j => have := dptN_le (L := L) (pr := pr) (s := s) f (ch L j); show 1 + _ ≤ _; omega)
def cdQ (a b s : Int32) (np : Nat) : Nat := bif inP a np && inP b np then (bif btw s 1 999 then 0 else 2) else 1
theorem cdQ_1 {a b s : Int32} {np : Nat} (h : (inP a np && inP b np) = false) : cdQ a b s np = 1 := by rw [cdQ, h]; rfl
theorem cdQ_2 {a b s : Int32} {np : Nat} (h1 : inP a np = true) (h2 : inP b np = true) (h : btw s 1 999 = false) : cdQ a b s np = 2 := by rw [cdQ, h1, h2, h]; rfl
theorem cdQ_0 {a b s : Int32} {np : Nat} (h1 : inP a np = true) (h2 : inP b np = true) (h : btw s 1 999 = true) : cdQ a b s np = 0 := by rw [cdQ, h1, h2, h]; rfl
/-- how many of 0 .. n-1 -/
def cntB (f : Nat → Bool) : Nat → Nat
  | 0 => 0
  | n + 1 => cntB f n + (bif f n then 1 else 0)
theorem cntB_le (f : Nat → Bool) : ∀ n, cntB f n ≤ n
  | 0 => Nat.le_refl 0
  | n + 1 => by have := cntB_le f n; rw [cntB]; cases f n <;> simp <;> omega
end QtyM
