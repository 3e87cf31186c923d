/-! THE LAW'S STATE: one for both sides -/
section LawSt
variable {G : Gx} {w w' : Wd}
/-- what is true of parts, lines, choices, orders, how many costs are marked, the marks, the text -/
def IP (P : PSt) (L : LSt) (pr : Nat → Nat) (O : OSt) (mp : Nat) (mk : Nat → UInt32) (T : List Nat) : Prop := PI P ∧ (∀ j, P.2.1 j < 65536) ∧ LW P.1 L ∧ OI P.1 O ∧ (∀ i, i < 4 → pr i < 4) ∧ mp ≤ P.1 ∧ (∀ x, x < mp → Z32 120 234 (mk x)) ∧ T.length ≤ 20000 ∧ ∀ c ∈ T, c < 128
/-- the class's cells -/
def IX (K : Nat → ClassId) (w : Wd) (P : PSt) (L : LSt) (pr : Nat → Nat) (O : OSt) (mp : Nat) (mk : Nat → UInt32) (T : List Nat) (dc tc : Nat) : Prop :=
  X0 w mp (cfg pr) ∧ XB w ∧ XP K w P ∧ XL K w L ∧ XS K w L ∧ (∃ hc hl, XSel K w hc hl) ∧ XO K w O ∧ (∃ a b, XQ2 K w a b) ∧ (∃ c, XC2 K w c) ∧ (∃ c, XW2 K w c) ∧ (∃ n a q, XD K w n dc a q) ∧ (∃ t, XT2 K w T.length tc t ∧ TC t T) ∧ (∃ f, XM K w f ∧ ∀ x, x < mp → f x = mk x) ∧ 16 ≤ dc ∧ dc ≤ 2592 ∧ T.length ≤ tc ∧ tc ≤ 40000
/-- the reference's cells -/
def IM (K : Nat → ClassId) (w : Wd) (P : PSt) (L : LSt) (pr : Nat → Nat) (O : OSt) (mp : Nat) (mk : Nat → UInt32) (T : List Nat) (t : Nat) : Prop :=
  (∃ en, M0 w t P.1 (ln L) O.1 mp T.length en) ∧ MP K w P ∧ ML K w L ∧ MC K w pr ∧ MO K w O ∧ (∃ kf, cel w 53 (aI K 4 kf)) ∧ (∃ f, cel w 59 (aF K 16 f) ∧ ∀ x, x < mp → f x = mk x) ∧ (∃ lt, cel w 60 (aI K 20000 (wr nI lt 0 T))) ∧ (∃ a, cel w 61 (aI K 1500 a)) ∧ (∃ q, cel w 62 (aL K 1500 q))
/-- the four things that the law holds -/
def AD (w : Wd) (a0 a39 a63 a64 : Nat) : Prop := True ∧ w.1 0 = a0 ∧ w.1 39 = a39 ∧ w.1 63 = a63 ∧ w.1 64 = a64
def OUTS (K : Nat → ClassId) (w : Wd) (o : Nat → Int64) (od : Nat → UInt64) : Prop := cel w 63 (aL K 1 o) ∧ cel w 64 (aD K 1 od)
/-- the class's call leaves the rest -/
def FX (w w' : Wd) : Prop := w'.2.1 = w.2.1 ∧ w'.1 0 = w.1 0 ∧ ∀ i, 39 ≤ i → w'.1 i = w.1 i ∧ w'.2.2 i = w.2.2 i
/-- the reference's call leaves the rest -/
def FM (w w' : Wd) : Prop := w'.2.1 = w.2.1 ∧ w'.1 = w.1 ∧ ∀ i, i < 39 ∨ 63 ≤ i → w'.2.2 i = w.2.2 i
theorem FX.rf : FX w w := ⟨rfl, rfl, fun _ _ => ⟨rfl, rfl⟩⟩
theorem FM.rf : FM w w := ⟨rfl, rfl, fun _ _ => rfl⟩
theorem FX.set {i : Nat} {e : va_E} (h : FX w w') (hi : i < 39) : FX w (setM w' i e) :=
  ⟨h.1, h.2.1, fun j hj => ⟨(h.2.2 j hj).1, (setM_ne (by omega)).trans (h.2.2 j hj).2⟩⟩
theorem FM.set {i : Nat} {e : va_E} (h : FM w w') (h1 : 39 ≤ i) (h2 : i < 63) : FM w (setM w' i e) :=
  ⟨h.1, h.2.1, fun j hj => (setM_ne (by omega)).trans (h.2.2 j hj)⟩
theorem bq_ne {i k : Nat} (h : i ≠ k) : Nat.beq i k = false := by
  cases hb : Nat.beq i k with
  | false => rfl
  | true => exact absurd (Nat.eq_of_beq_eq_true hb) h
theorem FX.relD {K : Nat → ClassId} {q1 q2 n cap : Nat} {a : Nat → Int32} {b : Nat → Int64} (h : FX w w') : FX w (relD K w' q1 q2 n cap a b) := by
  refine ⟨h.1, h.2.1, fun j hj => ⟨?_, ?_⟩⟩
  · show (bif Nat.beq j 34 then q1 else bif Nat.beq j 35 then q2 else w'.1 j) = w.1 j
    rw [bq_ne (by omega), bq_ne (by omega)]; exact (h.2.2 j hj).1
  · show (bif Nat.beq j 33 then oB 2 [.ref q1, .ref q2, .int (nI n)] else bif Nat.beq j 34 then aI K cap a else bif Nat.beq j 35 then aL K cap b else w'.2.2 j) = w.2.2 j
    rw [bq_ne (by omega), bq_ne (by omega), bq_ne (by omega)]; exact (h.2.2 j hj).2
theorem FX.relT {K : Nat → ClassId} {q n cap : Nat} {t : Nat → Int32} (h : FX w w') : FX w (relT K w' q n cap t) := by
  refine ⟨h.1, h.2.1, fun j hj => ⟨?_, ?_⟩⟩
  · show (bif Nat.beq j 37 then q else w'.1 j) = w.1 j
    rw [bq_ne (by omega)]; exact (h.2.2 j hj).1
  · show (bif Nat.beq j 36 then oB 5 [.ref q, .int (nI n)] else bif Nat.beq j 37 then aC K cap t else w'.2.2 j) = w.2.2 j
    rw [bq_ne (by omega), bq_ne (by omega)]; exact (h.2.2 j hj).2
theorem cel_fx {i : Nat} {e : va_E} (h : cel w i e) (hF : FX w w') (hi : 39 ≤ i) : cel w' i e := ⟨by rw [hF.1]; exact h.1, (hF.2.2 i hi).2.trans h.2⟩
theorem cel_fm {i : Nat} {e : va_E} (h : cel w i e) (hF : FM w w') (hi : i < 39 ∨ 63 ≤ i) : cel w' i e := ⟨by rw [hF.1]; exact h.1, (hF.2.2 i hi).trans h.2⟩
theorem AD.fx {a0 a39 a63 a64 : Nat} (h : AD w a0 a39 a63 a64) (hF : FX w w') : AD w' a0 a39 a63 a64 :=
  ⟨trivial, hF.2.1.trans h.2.1, (hF.2.2 39 (by decide)).1.trans h.2.2.1, (hF.2.2 63 (by decide)).1.trans h.2.2.2.1, (hF.2.2 64 (by decide)).1.trans h.2.2.2.2⟩
theorem AD.fm {a0 a39 a63 a64 : Nat} (h : AD w a0 a39 a63 a64) (hF : FM w w') : AD w' a0 a39 a63 a64 :=
  ⟨trivial, by rw [hF.2.1]; exact h.2.1, by rw [hF.2.1]; exact h.2.2.1, by rw [hF.2.1]; exact h.2.2.2.1, by rw [hF.2.1]; exact h.2.2.2.2⟩
theorem m39_fx {t np nl no nm nw en : Nat} (hF : FX w w') : m39 w' t np nl no nm nw en = m39 w t np nl no nm nw en := by
  have a : ∀ i, 39 ≤ i → w'.1 i = w.1 i := fun i hi => (hF.2.2 i hi).1
  unfold m39
  rw [a 40 (by decide), a 41 (by decide), a 42 (by decide), a 43 (by decide), a 44 (by decide), a 45 (by decide), a 46 (by decide), a 47 (by decide), a 48 (by decide), a 49 (by decide), a 50 (by decide), a 51 (by decide), a 52 (by decide), a 53 (by decide), a 54 (by decide), a 55 (by decide), a 56 (by decide), a 57 (by decide), a 58 (by decide), a 59 (by decide), a 60 (by decide), a 61 (by decide), a 62 (by decide)]
theorem IM.fx {P : PSt} {L : LSt} {pr : Nat → Nat} {O : OSt} {mp : Nat} {mk : Nat → UInt32} {T : List Nat} {t : Nat} {K : Nat → ClassId} (h : IM K w P L pr O mp mk T t) (hF : FX w w') : IM K w' P L pr O mp mk T t := by
  have a : ∀ {i : Nat} {e : va_E}, 39 ≤ i → cel w i e → cel w' i e := fun hi h => cel_fx h hF hi
  obtain ⟨⟨en, h9⟩, hP, hL, hC, hO, ⟨kf, hK⟩, ⟨f, hX, hf⟩, ⟨lt, h60⟩, ⟨ea, h61⟩, ⟨eb, h62⟩⟩ := h
  have g9 : M0 w' t P.1 (ln L) O.1 mp T.length en := by
    unfold M0
    rw [m39_fx hF]
    exact a (by decide) h9
  exact ⟨⟨en, g9⟩, ⟨a (by decide) hP.1, a (by decide) hP.2.1, a (by decide) hP.2.2⟩,
    ⟨a (by decide) hL.1, a (by decide) hL.2.1, a (by decide) hL.2.2.1, a (by decide) hL.2.2.2.1, a (by decide) hL.2.2.2.2.1, a (by decide) hL.2.2.2.2.2.1, a (by decide) hL.2.2.2.2.2.2.1, a (by decide) hL.2.2.2.2.2.2.2.1, a (by decide) hL.2.2.2.2.2.2.2.2⟩,
    a (by decide) hC, ⟨a (by decide) hO.1, a (by decide) hO.2.1, a (by decide) hO.2.2.1, a (by decide) hO.2.2.2.1, a (by decide) hO.2.2.2.2⟩, ⟨kf, a (by decide) hK⟩, ⟨f, a (by decide) hX, hf⟩, ⟨lt, a (by decide) h60⟩, ⟨ea, a (by decide) h61⟩, ⟨eb, a (by decide) h62⟩⟩
theorem IX.fm {P : PSt} {L : LSt} {pr : Nat → Nat} {O : OSt} {mp : Nat} {mk : Nat → UInt32} {T : List Nat} {dc tc : Nat} {K : Nat → ClassId} (h : IX K w P L pr O mp mk T dc tc) (hF : FM w w') : IX K w' P L pr O mp mk T dc tc := by
  obtain ⟨ρ, N, M⟩ := w
  obtain ⟨ρ', N', M'⟩ := w'
  obtain ⟨e1, e2, e3⟩ := hF
  have e1 : N' = N := e1
  have e2 : ρ' = ρ := e2
  subst e1
  subst e2
  have a : ∀ {i : Nat} {e : va_E}, i < 39 → cel (ρ', N', M) i e → cel (ρ', N', M') i e := fun hi h => ⟨h.1, (e3 _ (Or.inl hi)).trans h.2⟩
  obtain ⟨h0, hB, hP, hL, hXS, ⟨hc, hl, hS⟩, hO, ⟨qa, qb, hQ⟩, ⟨cc, hC⟩, ⟨cw, hWt⟩, ⟨n, da, db, hD⟩, ⟨tt, hT, hTC⟩, ⟨f, hX, hf⟩, hb⟩ := h
  exact ⟨a (by decide) h0, a (by decide) hB, ⟨a (by decide) hP.1, a (by decide) hP.2.1, a (by decide) hP.2.2.1, a (by decide) hP.2.2.2⟩,
    ⟨a (by decide) hL.1, a (by decide) hL.2.1, a (by decide) hL.2.2.1, a (by decide) hL.2.2.2.1, a (by decide) hL.2.2.2.2.1, a (by decide) hL.2.2.2.2.2.1, a (by decide) hL.2.2.2.2.2.2.1, a (by decide) hL.2.2.2.2.2.2.2.1, a (by decide) hL.2.2.2.2.2.2.2.2.1, a (by decide) hL.2.2.2.2.2.2.2.2.2⟩,
    ⟨a (by decide) hXS.1, a (by decide) hXS.2⟩, ⟨hc, hl, a (by decide) hS.1, a (by decide) hS.2⟩,
    ⟨a (by decide) hO.1, a (by decide) hO.2.1, a (by decide) hO.2.2.1, a (by decide) hO.2.2.2.1, a (by decide) hO.2.2.2.2.1, a (by decide) hO.2.2.2.2.2⟩,
    ⟨qa, qb, a (by decide) hQ.1, a (by decide) hQ.2.1, a (by decide) hQ.2.2⟩, ⟨cc, a (by decide) hC.1, a (by decide) hC.2⟩, ⟨cw, a (by decide) hWt.1, a (by decide) hWt.2⟩,
    ⟨n, da, db, a (by decide) hD.1, a (by decide) hD.2.1, a (by decide) hD.2.2⟩, ⟨tt, ⟨a (by decide) hT.1, a (by decide) hT.2⟩, hTC⟩, ⟨f, a (by decide) hX, hf⟩, hb⟩
theorem OUTS.fx {K : Nat → ClassId} {o : Nat → Int64} {od : Nat → UInt64} (h : OUTS K w o od) (hF : FX w w') : OUTS K w' o od := ⟨cel_fx h.1 hF (by decide), cel_fx h.2 hF (by decide)⟩
theorem OUTS.fm {K : Nat → ClassId} {o : Nat → Int64} {od : Nat → UInt64} (h : OUTS K w o od) (hF : FM w w') : OUTS K w' o od := ⟨cel_fm h.1 hF (by decide), cel_fm h.2 hF (by decide)⟩
theorem xr_inl {cd : Nat} {es : List String} {v : Value} {x : Option Value} (h : (.inl x : XRes) = xr cd es v) : cd = 0 ∧ x = some v := by
  cases cd with
  | zero => cases h; exact ⟨rfl, rfl⟩
  | succ k => cases h
theorem xr_inr {cd : Nat} {es : List String} {v : Value} {E : String} (h : (.inr E : XRes) = xr cd es v) : ∃ k, cd = k + 1 ∧ E = es.getD k "" := by
  cases cd with
  | zero => cases h
  | succ k => cases h; exact ⟨k, rfl, rfl⟩
end LawSt
