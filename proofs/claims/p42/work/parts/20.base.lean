/-! BASE: small rows that walks use; the state's words -/
section XBase
variable {G : Gx} {μ : Mth} {d gc gs pc : Nat} {lo : List (Nat × Value)} {st : List Value} {w : Wd} {Q : XRes → Wd → Prop}
theorem XJ.top {v v' : Value} (h : v = v') (k : XJ G μ d gc gs pc lo (v' :: st) w Q) : XJ G μ d gc gs pc lo (v :: st) w Q := h ▸ k
theorem XJ.stk {st' : List Value} (h : st = st') (k : XJ G μ d gc gs pc lo st' w Q) : XJ G μ d gc gs pc lo st w Q := h ▸ k
theorem XJ.lc {lo' : List (Nat × Value)} (h : lo = lo') (k : XJ G μ d gc gs pc lo' st w Q) : XJ G μ d gc gs pc lo st w Q := h ▸ k
/-- the world by a name -/
theorem XJ.gen (k : ∀ w1 : Wd, w1 = w → XJ G μ d gc gs pc lo st w1 Q) : XJ G μ d gc gs pc lo st w Q := k w rfl
def bI (b : Bool) : Int32 := bif b then 1 else 0
theorem bI_eq {b : Bool} (h : bI b = 0) : b = false := by cases b with
  | false => rfl
  | true => exact absurd h (by decide)
theorem bI_ne {b : Bool} (h : bI b ≠ 0) : b = true := by cases b with
  | true => rfl
  | false => exact absurd rfl h
theorem rI {a b : Int32} (h : a = b) : (.inl (some (.int a)) : XRes) = .inl (some (.int b)) := by rw [h]
theorem rL {a b : Int64} (h : a = b) : (.inl (some (.long a)) : XRes) = .inl (some (.long b)) := by rw [h]
def btw (a b c : Int32) : Bool := decide (b ≤ a) && decide (a ≤ c)
theorem btw_t {a b c : Int32} (h1 : ¬ a < b) (h2 : ¬ c < a) : btw a b c = true := by
  simp [btw, Int32.not_lt.mp h1, Int32.not_lt.mp h2]
theorem btw_f1 {a b c : Int32} (h1 : a < b) : btw a b c = false := by
  simp [btw, Int32.not_le.mpr h1]
theorem btw_f2 {a b c : Int32} (h2 : c < a) : btw a b c = false := by
  simp [btw, Int32.not_le.mpr h2]
/-- a number between two numbers is a number -/
theorem btw_nI {a : Int32} {b c : Nat} (hb : b < 2 ^ 31) (hc : c < 2 ^ 31) (h : btw a (nI b) (nI c) = true) : ∃ j : Nat, b ≤ j ∧ j ≤ c ∧ a = nI j := by
  simp only [btw, Bool.and_eq_true, decide_eq_true_eq] at h
  obtain ⟨h1, h2⟩ := h
  have h0 : ¬ a < 0 := by
    intro h3
    have := nI_pos' hb
    exact absurd (Int32.lt_of_le_of_lt (Int32.le_trans this h1) h3) Int32.lt_irrefl
  obtain ⟨j, hj, rfl⟩ := nI_of h0
  exact ⟨j, (nI_leI hb hj).mp h1, (nI_leI hj hc).mp h2, rfl⟩
theorem btw_of {j b c : Nat} (hj : j < 2 ^ 31) (hb : b < 2 ^ 31) (hc : c < 2 ^ 31) : btw (nI j) (nI b) (nI c) = (decide (b ≤ j) && decide (j ≤ c)) := by
  simp only [btw, nI_leI hb hj, nI_leI hj hc]
theorem narrow_b (b : Bool) : narrow .boolean (.int (bI b)) = .int (bI b) := by cases b <;> rfl
def nf (f : Nat → Nat) : Nat → Int32 := fun j => nI (f j)
theorem nI_inc (i : Nat) : nI i + Int32.ofInt 1 = nI (i + 1) := nI_1 i
theorem nI_dec (i : Nat) : nI (i + 1) + Int32.ofInt (-1) = nI i := pk_m1 i
end XBase
/-! the state -/
/-- count, kinds, cents, grams -/
abbrev PSt : Type := Nat × (Nat → Nat) × (Nat → Nat) × (Nat → Nat)
/-- count; parent, position, child, quantity, scrap, first, last, option + 1 (0: none), set of choices -/
abbrev LSt : Type := Nat × (Nat → Nat) × (Nat → Nat) × (Nat → Nat) × (Nat → Nat) × (Nat → Nat) × (Nat → Nat) × (Nat → Nat) × (Nat → Nat) × (Nat → Nat)
/-- count; part, serial, units, configuration, cancelled -/
abbrev OSt : Type := Nat × (Nat → Nat) × (Nat → Nat) × (Nat → Nat) × (Nat → Nat → Nat) × (Nat → Bool)
abbrev ln (L : LSt) : Nat := L.1
abbrev pa (L : LSt) : Nat → Nat := L.2.1
abbrev po (L : LSt) : Nat → Nat := L.2.2.1
abbrev ch (L : LSt) : Nat → Nat := L.2.2.2.1
abbrev qt (L : LSt) : Nat → Nat := L.2.2.2.2.1
abbrev sc (L : LSt) : Nat → Nat := L.2.2.2.2.2.1
abbrev fi (L : LSt) : Nat → Nat := L.2.2.2.2.2.2.1
abbrev la (L : LSt) : Nat → Nat := L.2.2.2.2.2.2.2.1
abbrev op (L : LSt) : Nat → Nat := L.2.2.2.2.2.2.2.2.1
abbrev cs (L : LSt) : Nat → Nat := L.2.2.2.2.2.2.2.2.2
/-- the set of choices as the class holds it -/
def xcs (o c : Nat) : Nat := if o = 0 then 15 else c
/-- a configuration as one number -/
def cfg (pr : Nat → Nat) : Nat := pr 0 + 4 * pr 1 + 16 * pr 2 + 64 * pr 3
def X0 (w : Wd) (mp cfg : Nat) : Prop := cel w 0 (oB 9 [.ref (w.1 1), .ref (w.1 20), .ref (w.1 26), .ref (w.1 29), .ref (w.1 31), .ref (w.1 33), .ref (w.1 36), .ref (w.1 38), .int (nI mp), .int (nI cfg)])
def XB (w : Wd) : Prop := cel w 1 (oB 0 [.ref (w.1 2), .ref (w.1 6), .ref (w.1 16), .ref (w.1 17), .ref (w.1 18), .ref (w.1 19)])
def XP (K : Nat → ClassId) (w : Wd) (P : PSt) : Prop := cel w 2 (oB 6 [.ref (w.1 3), .ref (w.1 4), .ref (w.1 5), .int (nI P.1)]) ∧ cel w 3 (aC K 16 (nf P.2.1)) ∧ cel w 4 (aI K 16 (nf P.2.2.1)) ∧ cel w 5 (aI K 16 (nf P.2.2.2))
def XL (K : Nat → ClassId) (w : Wd) (L : LSt) : Prop := cel w 6 (oB 3 [.ref (w.1 7), .ref (w.1 8), .ref (w.1 9), .ref (w.1 10), .ref (w.1 11), .ref (w.1 12), .ref (w.1 13), .ref (w.1 14), .ref (w.1 15), .int (nI (ln L))]) ∧ cel w 7 (aI K 40 (nf (pa L))) ∧ cel w 8 (aI K 40 (nf (po L))) ∧ cel w 9 (aI K 40 (nf (ch L))) ∧ cel w 10 (aI K 40 (nf (qt L))) ∧ cel w 11 (aI K 40 (nf (sc L))) ∧ cel w 12 (aI K 40 (nf (fi L))) ∧ cel w 13 (aI K 40 (nf (la L))) ∧ cel w 14 (aI K 40 (fun j => nI (op L j - 1))) ∧ cel w 15 (aI K 40 (fun j => nI (xcs (op L j) (cs L j))))
def XO (K : Nat → ClassId) (w : Wd) (O : OSt) : Prop := cel w 20 (oB 4 [.ref (w.1 21), .ref (w.1 22), .ref (w.1 23), .ref (w.1 24), .ref (w.1 25), .int (nI O.1)]) ∧ cel w 21 (aI K 8 (nf O.2.1)) ∧ cel w 22 (aI K 8 (nf O.2.2.1)) ∧ cel w 23 (aI K 8 (nf O.2.2.2.1)) ∧ cel w 24 (aI K 8 (fun k => nI (cfg (O.2.2.2.2.1 k)))) ∧ cel w 25 (aZ K 8 (fun k => bI (O.2.2.2.2.2 k)))
def XSel (K : Nat → ClassId) (w : Wd) (hc hl : Nat → Int32) : Prop := cel w 18 (aI K 16 (hc)) ∧ cel w 19 (aI K 96 (hl))
def XQ2 (K : Nat → ClassId) (w : Wd) (a b : Nat → Int64) : Prop := cel w 26 (oB 7 [.ref (w.1 27), .ref (w.1 28)]) ∧ cel w 27 (aL K 16 (a)) ∧ cel w 28 (aL K 16 (b))
def XC2 (K : Nat → ClassId) (w : Wd) (c : Nat → UInt32) : Prop := cel w 29 (oB 1 [.ref (w.1 30)]) ∧ cel w 30 (aF K 16 (c))
def XW2 (K : Nat → ClassId) (w : Wd) (c : Nat → UInt64) : Prop := cel w 31 (oB 8 [.ref (w.1 32)]) ∧ cel w 32 (aD K 16 (c))
def XD (K : Nat → ClassId) (w : Wd) (n cap : Nat) (a : Nat → Int32) (q : Nat → Int64) : Prop := cel w 33 (oB 2 [.ref (w.1 34), .ref (w.1 35), .int (nI n)]) ∧ cel w 34 (aI K cap (a)) ∧ cel w 35 (aL K cap (q))
def XT2 (K : Nat → ClassId) (w : Wd) (n cap : Nat) (t : Nat → Int32) : Prop := cel w 36 (oB 5 [.ref (w.1 37), .int (nI n)]) ∧ cel w 37 (aC K cap (t))
def XM (K : Nat → ClassId) (w : Wd) (f : Nat → UInt32) : Prop := cel w 38 (aF K 16 (f))
def MP (K : Nat → ClassId) (w : Wd) (P : PSt) : Prop := cel w 40 (aI K 16 (nf P.2.1)) ∧ cel w 41 (aI K 16 (nf P.2.2.1)) ∧ cel w 42 (aI K 16 (nf P.2.2.2))
def ML (K : Nat → ClassId) (w : Wd) (L : LSt) : Prop := cel w 43 (aI K 40 (nf (pa L))) ∧ cel w 44 (aI K 40 (nf (po L))) ∧ cel w 45 (aI K 40 (nf (ch L))) ∧ cel w 46 (aI K 40 (nf (qt L))) ∧ cel w 47 (aI K 40 (nf (fi L))) ∧ cel w 48 (aI K 40 (nf (la L))) ∧ cel w 49 (aI K 40 (nf (sc L))) ∧ cel w 50 (aI K 40 (fun j => nI (op L j) - 1)) ∧ cel w 51 (aI K 40 (nf (cs L)))
def MC (K : Nat → ClassId) (w : Wd) (pr : Nat → Nat) : Prop := cel w 52 (aI K 4 (nf pr))
def MO (K : Nat → ClassId) (w : Wd) (O : OSt) : Prop := cel w 54 (aI K 8 (nf O.2.1)) ∧ cel w 55 (aI K 8 (nf O.2.2.1)) ∧ cel w 56 (aI K 8 (nf O.2.2.2.1)) ∧ cel w 57 (aI K 32 (fun k => nI (O.2.2.2.2.1 (k / 4) (k % 4)))) ∧ cel w 58 (aZ K 8 (fun k => bI (O.2.2.2.2.2 k)))
def m39 (w : Wd) (t np nl no nm nw en : Nat) : va_E := oB 10 [.int (nI t), .int (nI np), .int (nI nl), .int (nI no), .int (nI nm), .int (nI nw), .int (nI en), .ref (w.1 40), .ref (w.1 41), .ref (w.1 42), .ref (w.1 43), .ref (w.1 44), .ref (w.1 45), .ref (w.1 46), .ref (w.1 47), .ref (w.1 48), .ref (w.1 49), .ref (w.1 50), .ref (w.1 51), .ref (w.1 52), .ref (w.1 53), .ref (w.1 54), .ref (w.1 55), .ref (w.1 56), .ref (w.1 57), .ref (w.1 58), .ref (w.1 59), .ref (w.1 60), .ref (w.1 61), .ref (w.1 62)]
def M0 (w : Wd) (t np nl no nm nw en : Nat) : Prop := cel w 39 (m39 w t np nl no nm nw en)
