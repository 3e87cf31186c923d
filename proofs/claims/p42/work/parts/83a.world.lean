/-! THE LAW'S WORLD: the class and four rows; what areRight counts -/
section WorldQ
variable {G : Gx} {μ : Mth} {d gc gs pc : Nat} {lo : List (Nat × Value)} {st : List Value} {w w' : Wd} {Q : XRes → Wd → Prop} {K : Nat → ClassId}
def LR (c : Nat) (K : Nat → ClassId) (w : Wd) (a0 a1 a2 a3 a4 : Nat) (f1 f2 f3 f4 : Nat → Int32) : Prop := w.2.1 = c ∧ w.1 0 = a0 ∧ w.1 39 = a1 ∧ w.1 40 = a2 ∧ w.1 41 = a3 ∧ w.1 42 = a4 ∧ cel w 39 (aI K 40 f1) ∧ cel w 40 (aI K 40 f2) ∧ cel w 41 (aI K 40 f3) ∧ cel w 42 (aI K 40 f4)
def AG (L : LSt) (f1 f2 f3 f4 : Nat → Int32) : Prop := ∀ l, l < ln L → f1 l = nI (pa L l) ∧ f2 l = nI (po L l) ∧ f3 l = nI (ch L l) ∧ f4 l = nI (qt L l)
def KD (P : PSt) : Prop := ∀ p, p < 6 → P.2.1 p = 112 → p = 4
section LRs
variable {c a0 a1 a2 a3 a4 : Nat} {f1 f2 f3 f4 : Nat → Int32}
theorem LR.fx (h : LR c K w a0 a1 a2 a3 a4 f1 f2 f3 f4) (hF : FX w w') : LR c K w' a0 a1 a2 a3 a4 f1 f2 f3 f4 :=
  ⟨hF.1.trans h.1, hF.2.1.trans h.2.1, (hF.2.2 39 (by decide)).1.trans h.2.2.1, (hF.2.2 40 (by decide)).1.trans h.2.2.2.1, (hF.2.2 41 (by decide)).1.trans h.2.2.2.2.1, (hF.2.2 42 (by decide)).1.trans h.2.2.2.2.2.1, cel_fx h.2.2.2.2.2.2.1 hF (by decide), cel_fx h.2.2.2.2.2.2.2.1 hF (by decide), cel_fx h.2.2.2.2.2.2.2.2.1 hF (by decide), cel_fx h.2.2.2.2.2.2.2.2.2 hF (by decide)⟩
theorem LR.e0 (h : LR c K w a0 a1 a2 a3 a4 f1 f2 f3 f4) : w.1 0 = a0 := h.2.1
theorem LR.e1 (h : LR c K w a0 a1 a2 a3 a4 f1 f2 f3 f4) : w.1 39 = a1 := h.2.2.1
theorem LR.e2 (h : LR c K w a0 a1 a2 a3 a4 f1 f2 f3 f4) : w.1 40 = a2 := h.2.2.2.1
theorem LR.e3 (h : LR c K w a0 a1 a2 a3 a4 f1 f2 f3 f4) : w.1 41 = a3 := h.2.2.2.2.1
theorem LR.e4 (h : LR c K w a0 a1 a2 a3 a4 f1 f2 f3 f4) : w.1 42 = a4 := h.2.2.2.2.2.1
theorem LR.m1 (h : LR c K w a0 a1 a2 a3 a4 f1 f2 f3 f4) : cel w 39 (aI K 40 f1) := h.2.2.2.2.2.2.1
theorem LR.m2 (h : LR c K w a0 a1 a2 a3 a4 f1 f2 f3 f4) : cel w 40 (aI K 40 f2) := h.2.2.2.2.2.2.2.1
theorem LR.m3 (h : LR c K w a0 a1 a2 a3 a4 f1 f2 f3 f4) : cel w 41 (aI K 40 f3) := h.2.2.2.2.2.2.2.2.1
theorem LR.m4 (h : LR c K w a0 a1 a2 a3 a4 f1 f2 f3 f4) : cel w 42 (aI K 40 f4) := h.2.2.2.2.2.2.2.2.2
/-- without what stands behind the four rows -/
def cutM (w : Wd) : Wd := (w.1, 43, w.2.2)
theorem LR.cut (h : LR 44 K w a0 a1 a2 a3 a4 f1 f2 f3 f4) : LR 43 K (cutM w) a0 a1 a2 a3 a4 f1 f2 f3 f4 :=
  ⟨rfl, h.e0, h.e1, h.e2, h.e3, h.e4, ⟨by show 39 < 43; decide, h.m1.2⟩, ⟨by show 40 < 43; decide, h.m2.2⟩, ⟨by show 41 < 43; decide, h.m3.2⟩, ⟨by show 42 < 43; decide, h.m4.2⟩⟩
theorem LR.s43 {e : va_E} (h : LR 44 K w a0 a1 a2 a3 a4 f1 f2 f3 f4) : LR 44 K (setM w 43 e) a0 a1 a2 a3 a4 f1 f2 f3 f4 :=
  ⟨h.1, h.e0, h.e1, h.e2, h.e3, h.e4, cel.ne (by decide) h.m1, cel.ne (by decide) h.m2, cel.ne (by decide) h.m3, cel.ne (by decide) h.m4⟩
theorem LR.add {q : Nat} {e : va_E} (h : LR 43 K w a0 a1 a2 a3 a4 f1 f2 f3 f4) : LR 44 K (addM w q e) a0 a1 a2 a3 a4 f1 f2 f3 f4 ∧ (addM w q e).1 43 = q ∧ cel (addM w q e) 43 e := by
  obtain ⟨ρ, N, M⟩ := w
  obtain ⟨h0, h1, h2, h3, h4, h5, m1, m2, m3, m4⟩ := h
  have h0 : N = 43 := h0
  subst h0
  exact ⟨⟨rfl, h1, h2, h3, h4, h5, ⟨by show 39 < 44; decide, m1.2⟩, ⟨by show 40 < 44; decide, m2.2⟩, ⟨by show 41 < 44; decide, m3.2⟩, ⟨by show 42 < 44; decide, m4.2⟩⟩, rfl, ⟨by show 43 < 44; decide, rfl⟩⟩
theorem XJ.cut (h : w.2.1 = 44) (k : XJ G μ d gc gs pc lo st (cutM w) Q) : XJ G μ d gc gs pc lo st w Q :=
  XJ.by (w' := cutM w) (fun i => i) (fun i hi => ⟨by have hi : i < 43 := hi; omega, rfl, rfl⟩) (fun i j _ _ h => h) k
end LRs
theorem IX.low {P : PSt} {L : LSt} {pr : Nat → Nat} {O : OSt} {mp : Nat} {mk : Nat → UInt32} {T : List Nat} {dc tc : Nat} (h : IX K w P L pr O mp mk T dc tc) (h1 : ∀ i, i < 39 → w'.1 i = w.1 i ∧ w'.2.2 i = w.2.2 i) (h2 : 39 ≤ w'.2.1) : IX K w' P L pr O mp mk T dc tc := by
  have a : ∀ {i : Nat} {e : va_E}, i < 39 → cel w i e → cel w' i e := fun hi h => ⟨by omega, (h1 _ hi).2.trans h.2⟩
  have E : ∀ i, i < 39 → w'.1 i = w.1 i := fun i hi => (h1 i hi).1
  obtain ⟨h0, hB, hP, hL, hXS, ⟨hc, hl, hS⟩, hO, ⟨qa, qb, hQ⟩, ⟨cc, hC⟩, ⟨cw, hWt⟩, ⟨n, da, db, hD⟩, ⟨tt, hT, hTC⟩, ⟨f, hX, hf⟩, hb⟩ := h
  have g0 : X0 w' mp (cfg pr) := by
    unfold X0
    rw [E 1 (by decide), E 20 (by decide), E 26 (by decide), E 29 (by decide), E 31 (by decide), E 33 (by decide), E 36 (by decide), E 38 (by decide)]
    exact a (by decide) h0
  have gB : XB w' := by
    unfold XB
    rw [E 2 (by decide), E 6 (by decide), E 16 (by decide), E 17 (by decide), E 18 (by decide), E 19 (by decide)]
    exact a (by decide) hB
  have gP : XP K w' P := by
    refine ⟨?_, a (by decide) hP.2.1, a (by decide) hP.2.2.1, a (by decide) hP.2.2.2⟩
    rw [E 3 (by decide), E 4 (by decide), E 5 (by decide)]
    exact a (by decide) hP.1
  have gL : XL K w' L := by
    refine ⟨?_, a (by decide) hL.2.1, a (by decide) hL.2.2.1, a (by decide) hL.2.2.2.1, a (by decide) hL.2.2.2.2.1, a (by decide) hL.2.2.2.2.2.1, a (by decide) hL.2.2.2.2.2.2.1, a (by decide) hL.2.2.2.2.2.2.2.1, a (by decide) hL.2.2.2.2.2.2.2.2.1, a (by decide) hL.2.2.2.2.2.2.2.2.2⟩
    rw [E 7 (by decide), E 8 (by decide), E 9 (by decide), E 10 (by decide), E 11 (by decide), E 12 (by decide), E 13 (by decide), E 14 (by decide), E 15 (by decide)]
    exact a (by decide) hL.1
  have gO : XO K w' O := by
    refine ⟨?_, a (by decide) hO.2.1, a (by decide) hO.2.2.1, a (by decide) hO.2.2.2.1, a (by decide) hO.2.2.2.2.1, a (by decide) hO.2.2.2.2.2⟩
    rw [E 21 (by decide), E 22 (by decide), E 23 (by decide), E 24 (by decide), E 25 (by decide)]
    exact a (by decide) hO.1
  have gQ : XQ2 K w' qa qb := by
    refine ⟨?_, a (by decide) hQ.2.1, a (by decide) hQ.2.2⟩
    rw [E 27 (by decide), E 28 (by decide)]
    exact a (by decide) hQ.1
  have gC : XC2 K w' cc := by
    refine ⟨?_, a (by decide) hC.2⟩
    rw [E 30 (by decide)]
    exact a (by decide) hC.1
  have gW : XW2 K w' cw := by
    refine ⟨?_, a (by decide) hWt.2⟩
    rw [E 32 (by decide)]
    exact a (by decide) hWt.1
  have gD : XD K w' n dc da db := by
    refine ⟨?_, a (by decide) hD.2.1, a (by decide) hD.2.2⟩
    rw [E 34 (by decide), E 35 (by decide)]
    exact a (by decide) hD.1
  have gT : XT2 K w' T.length tc tt := by
    refine ⟨?_, a (by decide) hT.2⟩
    rw [E 37 (by decide)]
    exact a (by decide) hT.1
  exact ⟨g0, gB, gP, gL, ⟨a (by decide) hXS.1, a (by decide) hXS.2⟩, ⟨hc, hl, a (by decide) hS.1, a (by decide) hS.2⟩, gO, ⟨qa, qb, gQ⟩, ⟨cc, gC⟩, ⟨cw, gW⟩, ⟨n, da, db, gD⟩, ⟨tt, gT, hTC⟩, ⟨f, a (by decide) hX, hf⟩, hb⟩
section STs
variable {n : Nat} {P : PSt} {L : LSt} {pr : Nat → Nat} {O : OSt} {mp : Nat} {mk : Nat → UInt32}
theorem ST.low (h : ST n K w P L pr O mp mk) (h1 : ∀ i, i < 39 → w'.1 i = w.1 i ∧ w'.2.2 i = w.2.2 i) (h2 : 39 ≤ w'.2.1) : ST n K w' P L pr O mp mk := by
  obtain ⟨dc, a, b, c, hI⟩ := h
  exact ⟨dc, a, b, c, IX.low hI h1 h2⟩
theorem ST.cut (h : ST n K w P L pr O mp mk) : ST n K (cutM w) P L pr O mp mk := h.low (fun _ _ => ⟨rfl, rfl⟩) (by show 39 ≤ 43; decide)
theorem ST.s43 {e : va_E} (h : ST n K w P L pr O mp mk) (hc : w.2.1 = 44) : ST n K (setM w 43 e) P L pr O mp mk := h.low (fun i hi => ⟨rfl, setM_ne (by omega)⟩) (by show 39 ≤ w.2.1; omega)
theorem ST.add {q : Nat} {e : va_E} (h : ST n K w P L pr O mp mk) (hc : w.2.1 = 43) : ST n K (addM w q e) P L pr O mp mk := by
  refine h.low (fun i hi => ⟨?_, ?_⟩) (by show 39 ≤ w.2.1 + 1; omega)
  · show (bif Nat.beq i w.2.1 then q else w.1 i) = w.1 i
    rw [bq_ne (by omega)]; rfl
  · show (bif Nat.beq i w.2.1 then e else w.2.2 i) = w.2.2 i
    rw [bq_ne (by omega)]; rfl
end STs
/-! pure -/
section PureQ
variable {kd : Nat → Nat} {L : LSt} {pr : Nat → Nat} {s p c l : Nat}
theorem cnt_uq {f : Nat → Bool} : ∀ {n : Nat}, (∀ i j, i < n → j < n → f i = true → f j = true → i = j) → cntB f n ≤ 1
  | 0, _ => Nat.zero_le 1
  | n + 1, h => by
    rw [cntB]
    cases hf : f n with
    | true =>
      have : ¬ 0 < cntB f n := fun h1 => by
        obtain ⟨j, h2, h3⟩ := cnt_pos.mp h1
        have := h j n (by omega) (by omega) h3 hf
        omega
      show cntB f n + 1 ≤ 1
      omega
    | false => exact cnt_uq (fun i j hi hj => h i j (by omega) (by omega))
/-- how many lines up to n hold at a place -/
def hdC (L : LSt) (pr : Nat → Nat) (s n k : Nat) : Nat := cntB (fun l => hld L pr s l && decide (7 * pa L l + po L l = k)) n
theorem hdC_1 {np k : Nat} (hI : LI np L) (hW : PW L) : hdC L pr s (ln L) k ≤ 1 := by
  refine cnt_uq (fun i j hi hj h1 h2 => ?_)
  simp only [Bool.and_eq_true, decide_eq_true_eq] at h1 h2
  have b1 := (hI.2.2 i hi).2.1
  have b2 := (hI.2.2 j hj).2.1
  exact hW.uq hi hj h1.1 h2.1 (by omega) (by omega)
theorem hdC_s {k n : Nat} : hdC L pr s (n + 1) k = hdC L pr s n k + (bif hld L pr s n && decide (7 * pa L n + po L n = k) then 1 else 0) := rfl
theorem hdC_le {n k : Nat} : hdC L pr s n k ≤ n := cntB_le _ n
theorem hdC_up {n : Nat} : va_up (fun k => nI (hdC L pr s n k)) (7 * pa L n + po L n) (nI (hdC L pr s n (7 * pa L n + po L n)) + bI (hld L pr s n)) = fun k => nI (hdC L pr s (n + 1) k) := by
  funext k
  rw [hdC_s]
  by_cases h : k = 7 * pa L n + po L n
  · subst h
    rw [va_up_self, decide_eq_true rfl, Bool.and_true]
    cases hld L pr s n with
    | true => exact nI_add _ _
    | false => exact nI_add _ 0
  · rw [va_up_ne _ _ h, decide_eq_false (fun e => h e.symm), Bool.and_false]
    rfl
/-- no line of p that holds has a phantom -/
def plB (kd : Nat → Nat) (L : LSt) (pr : Nat → Nat) (s p : Nat) : Nat → Bool
  | 0 => true
  | n + 1 => plB kd L pr s p n && !(ownB L pr s p n && decide (kd (ch L n) = 112))
theorem plB_all : ∀ {n : Nat}, plB kd L pr s p n = true → ∀ j, j < n → ownB L pr s p j = true → kd (ch L j) ≠ 112
  | 0, _, j, hj, _ => absurd hj (Nat.not_lt_zero j)
  | n + 1, h, j, hj, ho => by
    rw [plB, Bool.and_eq_true] at h
    by_cases e : j = n
    · subst e
      rw [ho] at h
      intro hk
      rw [decide_eq_true hk] at h
      exact nomatch h.2
    · exact plB_all h.1 j (by omega) ho
theorem pl_0 (h : ownB L pr s p l = false) : plB kd L pr s p (l + 1) = (plB kd L pr s p l && true) := by rw [plB, h]; rfl
theorem pl_1 (hk : ¬ kd (ch L l) = 112) : plB kd L pr s p (l + 1) = (plB kd L pr s p l && true) := by rw [plB, decide_eq_false hk, Bool.and_false]; rfl
theorem pl_2 (h : ownB L pr s p l = true) (hk : kd (ch L l) = 112) : plB kd L pr s p (l + 1) = (plB kd L pr s p l && false) := by rw [plB, h, decide_eq_true hk]; rfl
theorem bI_1 {b : Bool} : bI b &&& 1 = bI (b && true) := by cases b <;> rfl
theorem bI_0 {b : Bool} : bI b &&& 0 = bI (b && false) := by cases b <;> rfl
theorem bI_eq1 {b : Bool} (h : bI b = 1) : b = true := by
  cases b with
  | true => rfl
  | false => exact absurd h (by decide)
theorem bI_ne1 {b : Bool} (h : bI b ≠ 1) : b = false := by
  cases b with
  | true => exact absurd rfl h
  | false => rfl
theorem dir_0 (h : ownB L pr s p l = false) : dirN L pr s p (l + 1) = dirN L pr s p l + 0 := by
  show cntB _ l + (bif ownB L pr s p l then 1 else 0) = _
  rw [h]; rfl
theorem dir_1 (h : ownB L pr s p l = true) : dirN L pr s p (l + 1) = dirN L pr s p l + 1 := by
  show cntB _ l + (bif ownB L pr s p l then 1 else 0) = _
  rw [h]; rfl
theorem dir_le {n : Nat} : dirN L pr s p n ≤ n := cntB_le _ n
theorem own_0 (h : pa L l ≠ p) : ownB L pr s p l = false := by rw [ownB, decide_eq_false h, Bool.and_false]
theorem own_h (h : hld L pr s l = false) : ownB L pr s p l = false := by rw [ownB, h]; rfl
theorem own_1 (h : pa L l = p) (h2 : hld L pr s l = true) : ownB L pr s p l = true := own_iff.mpr ⟨h2, h⟩
theorem all_s : allN L pr s p c (l + 1) = allN L pr s p c l + (if (ownB L pr s p l && decide (p ≠ c)) = true then qt L l * hasN L pr s 5 (ch L l) c else 0) := by
  rw [allN, allN, sumP, Nat.add_assoc]
theorem all_0 (h : (ownB L pr s p l && decide (p ≠ c)) = false) : allN L pr s p c (l + 1) = allN L pr s p c l + 0 := by
  rw [all_s, if_neg (by rw [h]; decide)]
theorem all_1 (h : ownB L pr s p l = true) (h2 : p ≠ c) : allN L pr s p c (l + 1) = allN L pr s p c l + qt L l * hasN L pr s 5 (ch L l) c := by
  rw [all_s, if_pos (by rw [h, decide_eq_true h2]; rfl)]
theorem oth_0 {f : Nat} (h : ¬ (c ≠ p ∧ kd c ≠ 112)) : othN kd L pr s f p (c + 1) = othN kd L pr s f p c + 0 := by
  rw [othN, othN, sumP, if_neg h]
theorem oth_1 {f : Nat} (h : c ≠ p) (h2 : kd c ≠ 112) : othN kd L pr s f p (c + 1) = othN kd L pr s f p c + hasN L pr s f p c := by
  rw [othN, othN, sumP, if_pos ⟨h, h2⟩]
theorem sumP_bd {g : Nat → Nat} {b : Nat} : ∀ {n : Nat}, (∀ k, k < n → g k ≤ b) → sumP g n ≤ n * b
  | 0, _ => by rw [sumP]; omega
  | n + 1, h => by
    have h1 := sumP_bd (n := n) (fun k hk => h k (by omega))
    have h2 := h n (by omega)
    rw [sumP, Nat.succ_mul]; omega
theorem oth_63 {np : Nat} (hI : LI np L) : othN kd L pr s 5 p 6 < 2 ^ 63 := by
  have h : othN kd L pr s 5 p 6 ≤ 6 * 120 ^ 5 := sumP_bd (fun k _ => by
    split
    · exact hasN_le hI 5 p k
    · exact Nat.zero_le _)
  exact Nat.lt_of_le_of_lt h (by decide)
theorem len_36 {P : PSt} {O : OSt} {mp : Nat} {mk : Nat → UInt32} {T : List Nat} (hIP : IP P L pr O mp mk T) (h6 : P.1 = 6) (hk : KD P) : len36 P L pr s := fun a =>
  list_short hIP.2.2.1.2.2 (fun j hj h => hk _ (by have := (hIP.2.2.1.1.2.2 j hj).2.2.1; omega) h)
theorem opt_ns {α : Type} (x : Option α) : x = none ∨ ∃ b, x = some b := by
  cases x with
  | none => exact Or.inl rfl
  | some b => exact Or.inr ⟨b, rfl⟩
theorem lcmp_s (x : Int64) : lg_cmp x x = 0 := (lg_cmp_eq x x).mpr rfl
theorem lcmp_le {a b : Nat} (ha : a < 2 ^ 63) (hb : b < 2 ^ 63) (h : a ≤ b) : ¬ 0 < lg_cmp (nL a) (nL b) := by
  rw [lg_cmp_gt, Int64.lt_iff_toInt_lt, nL_toInt ha, nL_toInt hb]
  omega
end PureQ
end WorldQ
