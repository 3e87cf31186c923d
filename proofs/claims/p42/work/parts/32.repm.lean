/-! REFERENCE: replaced, ended, scrap, choices (walks by gen/spec32.py) -/
section RepM
variable {G : Gx} {w : Wd} {t np nl no nm nw en : Nat}
theorem cut_n {np : Nat} {L : LSt} {j : Nat} {s : Int32} (hI : LI np L) (hj : j < ln L) (h : cutOK L j s = true) : ∃ n : Nat, fi L j < n ∧ n ≤ la L j ∧ s = nI n := by
  have hb := hI.2.2 j hj
  simp only [cutOK, Bool.and_eq_true, decide_eq_true_eq] at h
  have h0 : ¬ s < 0 := by
    intro h3
    have h4 : nI (fi L j) < 0 := Int32.lt_trans h.1 h3
    exact nI_pos (by omega) h4
  obtain ⟨n, hn, rfl⟩ := nI_of h0
  exact ⟨n, (nI_ltI (by omega) hn).mp h.1, (nI_leI hn (by omega)).mp h.2, rfl⟩
def cdEB (L : LSt) (l s : Int32) : Nat := bif inP l (ln L) then (bif cutOK L (idx l) s then 0 else 2) else 1
def cdSS (L : LSt) (l c : Int32) : Nat := bif inP l (ln L) then (bif btw c 0 50 then 0 else 2) else 1
def cdSC (o c : Int32) : Nat := bif btw o 0 3 then (bif btw c 0 3 then 0 else 2) else 1
def cdC (o : Int32) : Nat := bif btw o 0 3 then 0 else 1
def cdRF (np : Nat) (L : LSt) (l s c q : Int32) : Nat := bif inP l (ln L) && inP c np then (bif btw q 1 20 && cutOK L (idx l) s then cdL L (pa L (idx l)) (idx c) false else 2) else 1
/-- line j ended before s, and a line from s on in its place -/
def repL (L : LSt) (j s c q : Nat) : LSt := (ln L + 1, va_up (pa L) (ln L) (pa L j), va_up (po L) (ln L) (po L j), va_up (ch L) (ln L) c, va_up (qt L) (ln L) q, va_up (sc L) (ln L) (sc L j), va_up (fi L) (ln L) s, va_up (va_up (la L) (ln L) (la L j)) j (s - 1), va_up (op L) (ln L) (op L j), va_up (cs L) (ln L) (cs L j))
end RepM
