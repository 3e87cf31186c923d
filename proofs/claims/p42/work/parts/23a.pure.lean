/-! PARTS, pure: codes and what comes of the parts -/
def cdPC (p c : Int32) (n : Nat) : Nat := bif inP p n then (bif btw c 0 99999 then 0 else 2) else 1
def cdPK (p k : Int32) (n : Nat) : Nat := bif inP p n then (bif isK k then 0 else 2) else 1
def cdP (p : Int32) (n : Nat) : Nat := bif inP p n then 0 else 1
def cdAdd (k c g : Int32) (n : Nat) : Nat := bif isK k && (btw c 0 99999 && btw g 0 99999) then (if n = 16 then 2 else 0) else 1
def upIf (cd : Nat) (f : Nat → Nat) (k x : Nat) : Nat → Nat := if cd = 0 then va_up f k x else f
def addN (cd n : Nat) : Nat := if cd = 0 then n + 1 else n
theorem c99999 : (99999 : Int32) = nI 99999 := by decide
theorem btw_price {c : Int32} (h : btw c 0 99999 = true) : ∃ j : Nat, j ≤ 99999 ∧ c = nI j := by
  rw [c99999] at h
  obtain ⟨j, -, h2, h3⟩ := btw_nI (b := 0) (by decide) (by decide) h
  exact ⟨j, h2, h3⟩
theorem upIf_0 {cd : Nat} {f : Nat → Nat} {k x : Nat} (h : cd = 0) : upIf cd f k x = va_up f k x := if_pos h
theorem upIf_n {cd : Nat} {f : Nat → Nat} {k x : Nat} (h : cd ≠ 0) : upIf cd f k x = f := if_neg h
theorem setM_e {w : Wd} {i : Nat} {e e' : va_E} (h : e = e') : setM w i e = setM w i e' := by rw [h]
theorem cdPC_1 {p c : Int32} {n : Nat} (h : inP p n = false) : cdPC p c n = 1 := by simp [cdPC, h]
theorem cdPC_2 {p c : Int32} {n : Nat} (h : inP p n = true) (h2 : btw c 0 99999 = false) : cdPC p c n = 2 := by simp [cdPC, h, h2]
theorem cdPC_0 {p c : Int32} {n : Nat} (h : inP p n = true) (h2 : btw c 0 99999 = true) : cdPC p c n = 0 := by simp [cdPC, h, h2]
theorem cdPK_1 {p c : Int32} {n : Nat} (h : inP p n = false) : cdPK p c n = 1 := by simp [cdPK, h]
theorem cdPK_2 {p c : Int32} {n : Nat} (h : inP p n = true) (h2 : isK c = false) : cdPK p c n = 2 := by simp [cdPK, h, h2]
theorem cdPK_0 {p c : Int32} {n : Nat} (h : inP p n = true) (h2 : isK c = true) : cdPK p c n = 0 := by simp [cdPK, h, h2]
theorem cdP_1 {p : Int32} {n : Nat} (h : inP p n = false) : cdP p n = 1 := by simp [cdP, h]
theorem cdP_0 {p : Int32} {n : Nat} (h : inP p n = true) : cdP p n = 0 := by simp [cdP, h]
theorem nar_char {k : Nat} (h : k < 65536) : vp_nar .char (nI k) = nI k := by
  have := (pk_charN h).1
  simp only [vp_nar, this]
theorem narrow_c {k : Nat} (h : k < 65536) : narrow .char (.int (nI k)) = .int (nI k) := (pk_charN h).1
