/-! REFERENCE: lines put, replaced, ended; choices (walks by gen/spec31.py) -/
section PutM
variable {G : Gx} {w : Wd} {t np nl no nm nw en : Nat}
def mPut (K : Nat → ClassId) (w : Wd) (L' : LSt) (np nl no nm nw en : Nat) : Wd := setM (setM (setM (setM (setM (setM (setM (setM (setM (setM (setM w 39 (m39 w 0 np nl no nm nw en)) 43 (aI K 40 (nf (pa L')))) 44 (aI K 40 (nf (po L')))) 45 (aI K 40 (nf (ch L')))) 46 (aI K 40 (nf (qt L')))) 47 (aI K 40 (nf (fi L')))) 48 (aI K 40 (nf (la L')))) 50 (aI K 40 (fun j => nI (op L' j) - 1))) 51 (aI K 40 (nf (cs L')))) 49 (aI K 40 (nf (sc L')))) 39 (m39 w 0 np (nl + 1) no nm nw en)
theorem cdL_3 {L : LSt} {p c : Nat} {b : Bool} (h : rchB (ln L) (pa L) (ch L) 5 c p = true) : cdL L p c b = 3 := by rw [cdL, h]; rfl
theorem cdL_4 {L : LSt} {p c : Nat} {b : Bool} (h : rchB (ln L) (pa L) (ch L) 5 c p = false) (h2 : (deepB L p c || (b || decide (ln L = 40))) = true) : cdL L p c b = 4 := by rw [cdL, h, h2]; rfl
theorem cdL_0 {L : LSt} {p c : Nat} {b : Bool} (h : rchB (ln L) (pa L) (ch L) 5 c p = false) (h1 : deepB L p c = false) (h2 : b = false) (h3 : ln L ≠ 40) : cdL L p c b = 0 := by rw [cdL, h, h1, h2, decide_eq_false h3]; rfl
def cdAL (np : Nat) (L : LSt) (p k c q a b : Int32) : Nat := bif inP p np && inP c np then (bif btw k 1 6 && (btw q 1 20 && (btw a 1 999 && btw b a 999)) then cdL L (idx p) (idx c) (anyB (colB L (idx p) (idx k) (idx a) (idx b) 0 0) (ln L)) else 2) else 1
def cdAV (np : Nat) (L : LSt) (p k c q o s : Int32) : Nat := bif inP p np && inP c np then (bif btw k 1 6 && (btw q 1 20 && (btw o 0 3 && btw s 1 15)) then cdL L (idx p) (idx c) (anyB (colB L (idx p) (idx k) 1 999 (idx o + 1) (idx s)) (ln L)) else 2) else 1
theorem btw_n {x : Int32} {lo hi : Nat} (hlo : lo < 2 ^ 31) (hhi : hi < 2 ^ 31) (h : btw x (nI lo) (nI hi) = true) : ∃ j : Nat, lo ≤ j ∧ j ≤ hi ∧ x = nI j := btw_nI hlo hhi h
end PutM
