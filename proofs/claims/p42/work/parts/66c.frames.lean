/-! LINES: frames for the cells of the lines -/
section LinesFr
variable {G : Gx} {w w1 : Wd} {K : Nat → ClassId} {L L' : LSt}
/-- the cells of the lines alone have changed, in the class -/
def FL (w w1 : Wd) : Prop := w1.2.1 = w.2.1 ∧ w1.1 = w.1 ∧ ∀ i, i < 6 ∨ 17 < i → w1.2.2 i = w.2.2 i
/-- and in the reference -/
def FN (w w1 : Wd) : Prop := w1.2.1 = w.2.1 ∧ w1.1 = w.1 ∧ ∀ i, i < 39 ∨ (39 < i ∧ i < 43) ∨ 51 < i → w1.2.2 i = w.2.2 i
theorem FL.rf : FL w w := ⟨rfl, rfl, fun _ _ => rfl⟩
theorem FN.rf : FN w w := ⟨rfl, rfl, fun _ _ => rfl⟩
theorem FL.set {i : Nat} {e : va_E} (h : FL w w1) (h1 : 6 ≤ i) (h2 : i ≤ 17) : FL w (setM w1 i e) := ⟨h.1, h.2.1, fun j hj => (setM_ne (by omega)).trans (h.2.2 j hj)⟩
theorem FN.set {i : Nat} {e : va_E} (h : FN w w1) (h1 : i = 39 ∨ (43 ≤ i ∧ i ≤ 51)) : FN w (setM w1 i e) := ⟨h.1, h.2.1, fun j hj => (setM_ne (by omega)).trans (h.2.2 j hj)⟩
theorem FL_xNew (h : FL w w1) : FL w (xNew K w1 L') :=
  FL.set (FL.set (FL.set (FL.set (FL.set (FL.set (FL.set (FL.set (FL.set (FL.set (FL.set (FL.set (h) (by decide) (by decide)) (by decide) (by decide)) (by decide) (by decide)) (by decide) (by decide)) (by decide) (by decide)) (by decide) (by decide)) (by decide) (by decide)) (by decide) (by decide)) (by decide) (by decide)) (by decide) (by decide)) (by decide) (by decide)) (by decide) (by decide)
theorem FN_mPut {np nl no nm nw en : Nat} (h : FN w w1) : FN w (mPut K w1 L' np nl no nm nw en) :=
  FN.set (FN.set (FN.set (FN.set (FN.set (FN.set (FN.set (FN.set (FN.set (FN.set (FN.set (h) (by decide)) (by decide)) (by decide)) (by decide)) (by decide)) (by decide)) (by decide)) (by decide)) (by decide)) (by decide)) (by decide)
theorem FL.fx (h : FL w w1) : FX w w1 := ⟨h.1, by rw [h.2.1], fun i hi => ⟨by rw [h.2.1], h.2.2 i (Or.inr (by omega))⟩⟩
theorem FN.fm (h : FN w w1) : FM w w1 := ⟨h.1, h.2.1, fun i hi => h.2.2 i (by omega)⟩
theorem cel_fl {i : Nat} {e : va_E} (hF : FL w w1) (h : cel w i e) (hi : i < 6 ∨ 17 < i) : cel w1 i e := ⟨by rw [hF.1]; exact h.1, (hF.2.2 i hi).trans h.2⟩
theorem IX.lines {P : PSt} {pr : Nat → Nat} {O : OSt} {mp : Nat} {mk : Nat → UInt32} {T : List Nat} {dc tc : Nat} (h : IX K w P L pr O mp mk T dc tc) (hF : FL w w1) (gL : XL K w1 L') (gS : XS K w1 L') : IX K w1 P L' pr O mp mk T dc tc := by
  obtain ⟨ρ, N, M⟩ := w
  obtain ⟨ρ', N', M'⟩ := w1
  obtain ⟨e1, e2, e3⟩ := hF
  have e1 : N' = N := e1
  have e2 : ρ' = ρ := e2
  subst e1
  subst e2
  have a : ∀ {i : Nat} {e : va_E}, (i < 6 ∨ 17 < i) → cel (ρ', N', M) i e → cel (ρ', N', M') i e := fun hi h => ⟨h.1, (e3 _ hi).trans h.2⟩
  obtain ⟨h0, hB, hP, hL, hXS, ⟨hc, hl, hS⟩, hO, ⟨qa, qb, hQ⟩, ⟨cc, hC⟩, ⟨cw, hWt⟩, ⟨n, da, db, hD⟩, ⟨tt, hT, hTC⟩, ⟨f, hX, hf⟩, hb⟩ := h
  exact ⟨a (by decide) h0, a (by decide) hB, ⟨a (by decide) hP.1, a (by decide) hP.2.1, a (by decide) hP.2.2.1, a (by decide) hP.2.2.2⟩,
    gL, gS, ⟨hc, hl, a (by decide) hS.1, a (by decide) hS.2⟩,
    ⟨a (by decide) hO.1, a (by decide) hO.2.1, a (by decide) hO.2.2.1, a (by decide) hO.2.2.2.1, a (by decide) hO.2.2.2.2.1, a (by decide) hO.2.2.2.2.2⟩,
    ⟨qa, qb, a (by decide) hQ.1, a (by decide) hQ.2.1, a (by decide) hQ.2.2⟩, ⟨cc, a (by decide) hC.1, a (by decide) hC.2⟩, ⟨cw, a (by decide) hWt.1, a (by decide) hWt.2⟩,
    ⟨n, da, db, a (by decide) hD.1, a (by decide) hD.2.1, a (by decide) hD.2.2⟩, ⟨tt, ⟨a (by decide) hT.1, a (by decide) hT.2⟩, hTC⟩, ⟨f, a (by decide) hX, hf⟩, hb⟩
theorem IM.lines {P : PSt} {pr : Nat → Nat} {O : OSt} {mp : Nat} {mk : Nat → UInt32} {T : List Nat} {t t' en : Nat} (h : IM K w P L pr O mp mk T t) (hF : FN w w1) (g9 : M0 w1 t' P.1 (ln L') O.1 mp T.length en) (gL : ML K w1 L') : IM K w1 P L' pr O mp mk T t' := by
  have a : ∀ {i : Nat} {e : va_E}, (i < 39 ∨ (39 < i ∧ i < 43) ∨ 51 < i) → cel w i e → cel w1 i e := fun hi h => ⟨by rw [hF.1]; exact h.1, (hF.2.2 _ hi).trans h.2⟩
  obtain ⟨-, hP, hL, hC, hO, ⟨kf, hK⟩, ⟨f, hX, hf⟩, ⟨lt, h60⟩, ⟨ea, h61⟩, ⟨eb, h62⟩⟩ := h
  exact ⟨⟨en, g9⟩, ⟨a (by decide) hP.1, a (by decide) hP.2.1, a (by decide) hP.2.2⟩, gL, a (by decide) hC, ⟨a (by decide) hO.1, a (by decide) hO.2.1, a (by decide) hO.2.2.1, a (by decide) hO.2.2.2.1, a (by decide) hO.2.2.2.2⟩, ⟨kf, a (by decide) hK⟩, ⟨f, a (by decide) hX, hf⟩, ⟨lt, a (by decide) h60⟩, ⟨ea, a (by decide) h61⟩, ⟨eb, a (by decide) h62⟩⟩
end LinesFr
