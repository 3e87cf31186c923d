/-! THE CLASS's text that grows -/
section Room
variable {G : Gx} {w : Wd}
/-- the text's row at another place -/
def relT (K : Nat → ClassId) (w : Wd) (q n cap : Nat) (t : Nat → Int32) : Wd := (fun j => bif Nat.beq j 37 then q else w.1 j, w.2.1, fun j => bif Nat.beq j 36 then oB 5 [.ref q, .int (nI n)] else bif Nat.beq j 37 then aC K cap t else w.2.2 j)
theorem relT_id {K : Nat → ClassId} {n cap : Nat} {t : Nat → Int32} (h : XT2 K w n cap t) : w = relT K w (w.1 37) n cap t := by
  refine wd_ext (fun j => ?_) rfl (fun j => ?_)
  · show w.1 j = bif Nat.beq j 37 then w.1 37 else w.1 j
    by_cases h1 : j = 37
    · subst h1; rfl
    · rw [beq_n h1]; rfl
  · show w.2.2 j = bif Nat.beq j 36 then _ else bif Nat.beq j 37 then _ else w.2.2 j
    by_cases h0 : j = 36
    · subst h0; exact h.1.2
    · by_cases h1 : j = 37
      · subst h1; exact h.2.2
      · rw [beq_n h0, beq_n h1]; rfl
theorem relT_relT {K : Nat → ClassId} {q n cap q' n' cap' : Nat} {t t' : Nat → Int32} : relT K (relT K w q n cap t) q' n' cap' t' = relT K w q' n' cap' t' := by
  refine wd_ext (fun j => ?_) rfl (fun j => ?_)
  · show (bif Nat.beq j 37 then q' else bif Nat.beq j 37 then q else w.1 j) = bif Nat.beq j 37 then q' else w.1 j
    cases Nat.beq j 37 <;> rfl
  · show (bif Nat.beq j 36 then _ else bif Nat.beq j 37 then _ else bif Nat.beq j 36 then _ else bif Nat.beq j 37 then _ else w.2.2 j) = bif Nat.beq j 36 then _ else bif Nat.beq j 37 then _ else w.2.2 j
    cases Nat.beq j 36 <;> cases Nat.beq j 37 <;> rfl
theorem relT_t {K : Nat → ClassId} {q n cap : Nat} {t t' : Nat → Int32} : setM (relT K w q n cap t) 37 (aC K cap t') = relT K w q n cap t' := by
  refine wd_ext (fun j => rfl) rfl (fun j => ?_)
  show (bif Nat.beq j 37 then _ else bif Nat.beq j 36 then _ else bif Nat.beq j 37 then _ else w.2.2 j) = bif Nat.beq j 36 then _ else bif Nat.beq j 37 then _ else w.2.2 j
  by_cases h0 : j = 36
  · subst h0; rfl
  · by_cases h1 : j = 37
    · subst h1; rfl
    · rw [beq_n h0, beq_n h1]; rfl
theorem relT_n {K : Nat → ClassId} {q n cap n' : Nat} {t : Nat → Int32} : setM (relT K w q n cap t) 36 (oB 5 [.ref q, .int (nI n')]) = relT K w q n' cap t := by
  refine wd_ext (fun j => rfl) rfl (fun j => ?_)
  show (bif Nat.beq j 36 then _ else bif Nat.beq j 36 then _ else bif Nat.beq j 37 then _ else w.2.2 j) = bif Nat.beq j 36 then _ else bif Nat.beq j 37 then _ else w.2.2 j
  cases Nat.beq j 36 <;> rfl
theorem fits_ch {n : Nat} (h : n < 65536) : fits .char (.int (nI n)) = true := by
  show (decide ((0 : Int32) ≤ nI n) && decide (nI n ≤ (65535 : Int32))) = true
  rw [show (65535 : Int32) = nI 65535 from rfl, show (0 : Int32) = nI 0 from rfl, decide_eq_true ((nI_leI (by decide) (by omega)).mpr (Nat.zero_le n)), decide_eq_true ((nI_leI (by omega) (by decide)).mpr (show n ≤ 65535 by omega))]
  rfl
def capT (n cap k : Nat) : Nat := if cap < n + k then 2 * (n + k) else cap
theorem capT_ge {n cap k : Nat} : cap ≤ capT n cap k ∧ n + k ≤ capT n cap k := by unfold capT; split <;> omega
/-- the row holds the text -/
def TC (t : Nat → Int32) (T : List Nat) : Prop := ∀ j, j < T.length → t j = nI (T.getD j 0)
end Room
