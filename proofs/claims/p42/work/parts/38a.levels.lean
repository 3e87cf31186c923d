/-! LEVELS that hold, pure -/
/-- a line that holds leads from p to q -/
def HE (L : LSt) (pr : Nat → Nat) (s p q : Nat) : Prop := ∃ i, i < ln L ∧ hld L pr s i = true ∧ pa L i = p ∧ ch L i = q
theorem hcN_lt {np : Nat} {L : LSt} {pr : Nat → Nat} {s : Nat} (h : LI np L) (p : Nat) : hcN L pr s (ln L) p < 2 ^ 16 := orN_lt _ (fun j hj _ => two_lt (by have := (h.2.2 j hj).2.2.1; have := h.1; omega))
theorem hcN_RS {np : Nat} {L : LSt} {pr : Nat → Nat} {s : Nat} (hI : LI np L) : RS (HE L pr s) (hcN L pr s (ln L)) := by
  have h16 := hI.1
  constructor
  · rintro p q ⟨i, h1, _, rfl, rfl⟩
    have := hI.2.2 i h1
    omega
  · intro p q _
    rw [hcN, orN_bit, anyB_iff]
    constructor
    · rintro ⟨j, h1, h2⟩
      rw [Bool.and_eq_true, Bool.and_eq_true, decide_eq_true_eq, Nat.testBit_two_pow, decide_eq_true_eq] at h2
      exact ⟨j, h1, h2.1.1, h2.1.2, h2.2⟩
    · rintro ⟨j, h1, h2, h3, h4⟩
      exact ⟨j, h1, by rw [Bool.and_eq_true, Bool.and_eq_true, decide_eq_true_eq, Nat.testBit_two_pow, decide_eq_true_eq]; exact ⟨⟨h2, h3⟩, h4⟩⟩
theorem dptN_iff {np : Nat} {L : LSt} {pr : Nat → Nat} {s : Nat} (hI : LI np L) (hW : PW L) : ∀ {f p j : Nat}, j ≤ dptN L pr s f p ↔ j = 0 ∨ (j ≤ f ∧ ∃ q, lev (HE L pr s) j p q)
  | 0, p, j => by
    rw [dptN]
    constructor
    · intro h; exact Or.inl (by omega)
    · rintro (h | ⟨h, -⟩) <;> omega
  | f + 1, p, j => by
    rw [dptN, mxN_iff]
    constructor
    · rintro (h | ⟨i, h1, h2⟩)
      · exact Or.inl h
      · cases hx : lnAt L pr s p (i + 1) with
        | none => rw [hx] at h2; exact Or.inl (Nat.le_zero.mp h2)
        | some l =>
          rw [hx] at h2
          have h3 : j ≤ 1 + dptN L pr s f (ch L l) := h2
          have hl := lnAt_some hx
          rcases Nat.eq_zero_or_pos j with h4 | h4
          · exact Or.inl h4
          · right
            rcases (dptN_iff (pr := pr) (s := s) hI hW (f := f) (p := ch L l) (j := j - 1)).mp (by omega) with h5 | ⟨h5, q, h6⟩
            · exact ⟨by omega, ch L l, by rw [show j = 0 + 1 by omega]; exact ⟨ch L l, ⟨l, hl.1, hl.2.1, hl.2.2.1, rfl⟩, rfl⟩⟩
            · exact ⟨by omega, q, by rw [show j = (j - 1) + 1 by omega]; exact ⟨ch L l, ⟨l, hl.1, hl.2.1, hl.2.2.1, rfl⟩, h6⟩⟩
    · rintro (h | ⟨h1, q, h2⟩)
      · exact Or.inl h
      · rcases Nat.eq_zero_or_pos j with h4 | h4
        · exact Or.inl h4
        · right
          rw [show j = (j - 1) + 1 by omega] at h2
          obtain ⟨m, ⟨l, h5, h6, h7, h9⟩, h8⟩ := h2
          have hb := (hI.2.2 l h5).2.1
          refine ⟨po L l - 1, by omega, ?_⟩
          rw [show po L l - 1 + 1 = po L l by omega, lnAt_of hW h5 h6 h7 rfl]
          have h10 := (dptN_iff (pr := pr) (s := s) hI hW (f := f) (p := ch L l) (j := j - 1)).mpr (Or.inr ⟨by omega, q, h9 ▸ h8⟩)
          show j ≤ 1 + dptN L pr s f (ch L l)
          omega
theorem stp_dptN {np : Nat} {L : LSt} {pr : Nat → Nat} {s : Nat} (hI : LI np L) (hW : PW L) {p : Nat} (hp : p < 16) (k : Nat) : stp (hcN L pr s (ln L)) k (hcN L pr s (ln L) p) = dptN L pr s k p := by
  have e : ∀ j, j ≤ stp (hcN L pr s (ln L)) k (hcN L pr s (ln L) p) ↔ j ≤ dptN L pr s k p := by
    intro j
    rw [stp_iff (hcN_RS hI) k 1 (hcN L pr s (ln L) p) (fun q => by
      rw [(hcN_RS hI).2 p q hp]
      exact ⟨fun h1 => ⟨q, h1, rfl⟩, fun ⟨m, h1, h2⟩ => by cases h2; exact h1⟩), dptN_iff hI hW, show 1 + j - 1 = j by omega]
  have e1 := (e _).mp (Nat.le_refl _)
  have e2 := (e _).mpr (Nat.le_refl _)
  omega
theorem set_2728b {w : Wd} {a b c d : va_E} : setM (setM (setM (setM w 27 a) 28 b) 27 c) 28 d = setM (setM w 27 c) 28 d := by
  rw [setM_comm (i := 28) (k := 27) (by decide), setM_setM, setM_setM]
/-- the world after a count for a serial number -/
def qtyW (K : Nat → ClassId) (w : Wd) (L : LSt) (pr : Nat → Nat) (s : Nat) (w' : Wd) : Prop := ∃ a b, w' = setM (setM (selW K w L pr s) 27 (aL K 16 a)) 28 (aL K 16 b)
