/-! NEED of the reference (walks by gen/spec49.py) -/
section NeedM
variable {G : Gx} {w : Wd} {t np nl no nm nw en : Nat}
theorem s5352 {a b c d : va_E} : setM (setM (setM (setM w 53 a) 52 b) 53 c) 52 d = setM (setM w 53 c) 52 d := by
  rw [setM_comm (i := 52) (k := 53) (by decide), setM_setM, setM_setM]
theorem s53 {a b c : va_E} : setM (setM (setM w 53 a) 52 b) 53 c = setM (setM w 53 c) 52 b := by
  rw [setM_comm (i := 52) (k := 53) (by decide), setM_setM]
/-- what the orders need of c -/
def needN (L : LSt) (O : OSt) (c : Nat) : Nat → Nat
  | 0 => 0
  | k + 1 => needN L O c k + (bif O.2.2.2.2.2 k then 0 else O.2.2.2.1 k * hasN L (O.2.2.2.2.1 k) (O.2.2.1 k) 5 (O.2.1 k) c)
end NeedM
