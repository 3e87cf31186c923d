/-! REFERENCE: text (walks by gen/spec40b.py) -/
section TextM2
variable {G : Gx} {w : Wd} {t np nl no nm nw en : Nat}
def txW (K : Nat → ClassId) (w : Wd) (t np nl no nm nw en : Nat) (a : Nat → Int32) : Wd := setM (setM w 39 (m39 w t np nl no nm nw en)) 60 (aI K 20000 a)
theorem txW_id {K : Nat → ClassId} {a : Nat → Int32} (h9 : M0 w t np nl no nm nw en) (h1 : cel w 60 (aI K 20000 a)) : w = txW K w t np nl no nm nw en a := by
  rw [txW, setM_id h9.2, setM_id h1.2]
theorem txW_txW {K : Nat → ClassId} {a a' : Nat → Int32} {t' nw' en' : Nat} : txW K (txW K w t np nl no nm nw en a) t' np nl no nm nw' en' a' = txW K w t' np nl no nm nw' en' a' := by
  show setM (setM (setM (setM w 39 _) 60 _) 39 (m39 w t' np nl no nm nw' en')) 60 _ = _
  rw [setM_comm (i := 60) (k := 39) (by decide), setM_setM, setM_setM]
  rfl
theorem txW_one {K : Nat → ClassId} {a a' : Nat → Int32} {nw' : Nat} : setM (setM (txW K w t np nl no nm nw en a) 60 (aI K 20000 a')) 39 (m39 w t np nl no nm nw' en) = txW K w t np nl no nm nw' en a' := by
  show setM (setM (setM (setM w 39 _) 60 _) 60 _) 39 _ = _
  rw [setM_setM, setM_comm (i := 60) (k := 39) (by decide), setM_setM]
  rfl
theorem txW_new {K : Nat → ClassId} {a' : Nat → Int32} {nw' : Nat} : setM (setM w 60 (aI K 20000 a')) 39 (m39 w t np nl no nm nw' en) = txW K w t np nl no nm nw' en a' := by
  rw [setM_comm (i := 60) (k := 39) (by decide)]
  rfl
/-- the text T is written -/
def tW (K : Nat → ClassId) (w : Wd) (t np nl no nm en : Nat) (a : Nat → Int32) (T : List Nat) : Wd := txW K w t np nl no nm T.length en (wr nI a 0 T)
theorem tW_app {K : Nat → ClassId} {a : Nat → Int32} {T ds : List Nat} : txW K (tW K w t np nl no nm en a T) t np nl no nm (T.length + ds.length) en (wr nI (wr nI a 0 T) T.length ds) = tW K w t np nl no nm en a (T ++ ds) := by
  rw [tW, txW_txW, tW, List.length_append, wr_app, Nat.zero_add]
end TextM2
