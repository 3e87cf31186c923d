/-! REFERENCE: lists (walks by gen/spec39.py) -/
section ListM
variable {G : Gx} {w : Wd} {t np nl no nm nw en : Nat}
def lsW (K : Nat → ClassId) (w : Wd) (t np nl no nm nw en : Nat) (a : Nat → Int32) (b : Nat → Int64) : Wd := setM (setM (setM w 39 (m39 w t np nl no nm nw en)) 61 (aI K 1500 a)) 62 (aL K 1500 b)
theorem lsW_id {K : Nat → ClassId} {a : Nat → Int32} {b : Nat → Int64} (h9 : M0 w t np nl no nm nw en) (h1 : cel w 61 (aI K 1500 a)) (h2 : cel w 62 (aL K 1500 b)) : w = lsW K w t np nl no nm nw en a b := by
  rw [lsW, setM_id h9.2, setM_id h1.2, setM_id h2.2]
theorem lsW_lsW {K : Nat → ClassId} {a a' : Nat → Int32} {b b' : Nat → Int64} {t' nw' en' : Nat} : lsW K (lsW K w t np nl no nm nw en a b) t' np nl no nm nw' en' a' b' = lsW K w t' np nl no nm nw' en' a' b' := by
  show setM (setM (setM (setM (setM (setM w 39 _) 61 _) 62 _) 39 (m39 w t' np nl no nm nw' en')) 61 _) 62 _ = _
  rw [setM_comm (i := 62) (k := 39) (by decide), setM_comm (i := 61) (k := 39) (by decide), setM_setM, setM_comm (i := 62) (k := 61) (by decide), setM_setM, setM_setM]
  rfl
theorem lsW_one {K : Nat → ClassId} {a a' : Nat → Int32} {b b' : Nat → Int64} {en' : Nat} : setM (setM (setM (lsW K w t np nl no nm nw en a b) 61 (aI K 1500 a')) 62 (aL K 1500 b')) 39 (m39 w t np nl no nm nw en') = lsW K w t np nl no nm nw en' a' b' := by
  show setM (setM (setM (setM (setM (setM w 39 _) 61 _) 62 _) 61 _) 62 _) 39 _ = _
  rw [setM_comm (i := 62) (k := 61) (by decide), setM_setM, setM_setM, setM_comm (i := 62) (k := 39) (by decide), setM_comm (i := 61) (k := 39) (by decide), setM_setM]
  rfl
end ListM
