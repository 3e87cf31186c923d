/-! PARTS of the reference (walks by gen/spec24.py) -/
section PartsM
variable {G : Gx} {w : Wd} {t np nl no nm nw en : Nat}
def cdA (p s : Int32) (n : Nat) : Nat := bif inP p n then (bif btw s 1 999 then 0 else 2) else 1
theorem cdA_1 {p s : Int32} {n : Nat} (h : inP p n = false) : cdA p s n = 1 := by simp [cdA, h]
theorem cdA_2 {p s : Int32} {n : Nat} (h : inP p n = true) (h2 : btw s 1 999 = false) : cdA p s n = 2 := by simp [cdA, h, h2]
theorem cdA_0 {p s : Int32} {n : Nat} (h : inP p n = true) (h2 : btw s 1 999 = true) : cdA p s n = 0 := by simp [cdA, h, h2]
theorem cdA_inv {p s : Int32} {n : Nat} (h : cdA p s n = 0) : inP p n = true ∧ btw s 1 999 = true := by
  cases h1 : inP p n <;> cases h2 : btw s 1 999 <;> simp_all [cdA]
def setMP (K : Nat → ClassId) (w : Wd) (P : PSt) : Wd := setM (setM (setM w 40 (aI K 16 (nf P.2.1))) 41 (aI K 16 (nf P.2.2.1))) 42 (aI K 16 (nf P.2.2.2))
theorem setMP_id {K : Nat → ClassId} {P : PSt} (h : MP K w P) : setMP K w P = w := by
  unfold setMP
  rw [celId h.1, celId h.2.1, celId h.2.2]
theorem setMP_add {K : Nat → ClassId} {P : PSt} {k c g : Nat} : setMP K w (addP P 0 k c g) = setM (setM (setM w 40 (aI K 16 (va_up (nf P.2.1) P.1 (nI k)))) 41 (aI K 16 (va_up (nf P.2.2.1) P.1 (nI c)))) 42 (aI K 16 (va_up (nf P.2.2.2) P.1 (nI g))) := by
  unfold setMP addP
  rw [upIf_0 rfl, upIf_0 rfl, upIf_0 rfl]
  simp only [nf_up]
theorem setM_lift {i : Nat} {e : va_E} {K : Nat → ClassId} {P : PSt} (h : i ≠ 40 ∧ i ≠ 41 ∧ i ≠ 42) : setM (setMP K w P) i e = setMP K (setM w i e) P := by
  unfold setMP
  rw [setM_comm (i := 42) (k := i) (Ne.symm h.2.2), setM_comm (i := 41) (k := i) (Ne.symm h.2.1), setM_comm (i := 40) (k := i) (Ne.symm h.1)]
end PartsM
