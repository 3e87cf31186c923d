/-! REFERENCE: list calls, text (walks by gen/spec40.py) -/
section TextM
variable {G : Gx} {w : Wd} {t np nl no nm nw en : Nat}
theorem lsW_39 {K : Nat → ClassId} {a : Nat → Int32} {b : Nat → Int64} {e : va_E} : lsW K (setM w 39 e) t np nl no nm nw en a b = lsW K w t np nl no nm nw en a b := by
  show setM (setM (setM (setM w 39 e) 39 _) 61 _) 62 _ = _
  rw [setM_setM]
  rfl
theorem lsW_t {K : Nat → ClassId} {a : Nat → Int32} {b : Nat → Int64} {t' : Nat} : setM (lsW K w t np nl no nm nw en a b) 39 (m39 w t' np nl no nm nw en) = lsW K w t' np nl no nm nw en a b := by
  show setM (setM (setM (setM w 39 _) 61 _) 62 _) 39 _ = _
  rw [setM_comm (i := 62) (k := 39) (by decide), setM_comm (i := 61) (k := 39) (by decide), setM_setM]
  rfl
def cdI (i : Int32) (n : Nat) : Nat := bif inP i n then 0 else 3
theorem xsN_len {kd : Nat → Nat} {L : LSt} {pr : Nat → Nat} {s p : Nat} (hN : NC5 L) : (listN kd L pr s 5 p 1).length ≤ 1296 := listN_len (hN p)
end TextM
