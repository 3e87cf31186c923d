/-! HELD LINES, pure; rows of numbers that agree below their length -/
section XArr
variable {G : Gx} {μ : Mth} {d gc gs pc : Nat} {lo : List (Nat × Value)} {st : List Value} {w : Wd} {Q : XRes → Wd → Prop}
theorem arrV_ext {cA : ClassId} {n : Nat} {f g : Nat → Value} (h : ∀ j, j < n → f j = g j) : arrV cA n f = arrV cA n g := by
  simp only [arrV]
  congr 1
  apply Array.ext
  · simp
  · intro i h1 h2
    simp at h1 h2 ⊢
    exact h i h1
theorem WG.ext {i : Nat} {e e' : va_E} {H : Heap} (hM : cel w i e) (he : ∀ q, va_at G.2.1 vwCl (q, e) H → va_at G.2.1 vwCl (q, e') H) (h : WG G w H) : WG G (setM w i e') H := by
  rw [WG, ← xw_set hM.1]
  refine ⟨fun k q hk => ?_, ?_, fun k q hk => ?_⟩
  · rw [List.getElem?_set] at hk
    split at hk
    · split at hk
      · cases hk
        exact he _ (h.1 i _ hM.at)
      · cases hk
    · exact h.1 k q hk
  · intro a b p q ha hb hpq
    have key : ∀ (k : Nat) (q : Nat × va_E), ((xw w).set i (w.1 i, e'))[k]? = some q → ∃ q', (xw w)[k]? = some q' ∧ q'.1 = q.1 := by
      intro k q hk
      rw [List.getElem?_set] at hk
      split at hk
      · rename_i hik
        split at hk
        · cases hk
          exact ⟨(w.1 i, e), hik ▸ hM.at, rfl⟩
        · cases hk
      · exact ⟨q, hk, rfl⟩
    obtain ⟨p', h1, h2⟩ := key a p ha
    obtain ⟨q', h3, h4⟩ := key b q hb
    exact h.2.1 a b p' q' h1 h3 (by rw [h2, h4, hpq])
  · rw [List.getElem?_set] at hk
    split at hk
    · split at hk
      · cases hk
        exact h.2.2 i (w.1 i, e) hM.at
      · cases hk
    · exact h.2.2 k q hk
theorem XJ.ext {i : Nat} {e e' : va_E} (hM : cel w i e) (he : ∀ q H, va_at G.2.1 vwCl (q, e) H → va_at G.2.1 vwCl (q, e') H) (k : XJ G μ d gc gs pc lo st (setM w i e') Q) : XJ G μ d gc gs pc lo st w Q := by
  intro p e1 R s m args below meth c hc mc ms H locs cells slots ls h1 h2 h3 h4 hw hS hl
  exact k p e1 R s m args below meth c hc mc ms H locs cells slots ls h1 h2 h3 h4 (hw.ext hM (fun q => he q H)) hS hl
theorem XJ.extI {i n : Nat} {f g : Nat → Int32} (hM : cel w i (aI G.2.2.1 n f)) (h : ∀ j, j < n → f j = g j) (k : XJ G μ d gc gs pc lo st (setM w i (aI G.2.2.1 n g)) Q) : XJ G μ d gc gs pc lo st w Q := by
  refine XJ.ext hM (fun q H h1 => ?_) k
  have e : vp_cell (G.2.2.1 0) (n, .inl f) = vp_cell (G.2.2.1 0) (n, .inl g) := by
    show arrV _ n (fun j => .int (f j)) = arrV _ n (fun j => .int (g j))
    exact arrV_ext (fun j hj => by rw [h j hj])
  show H[q]? = _
  rw [show vp_cell _ _ = vp_cell (G.2.2.1 0) (n, .inl f) from e.symm]
  exact h1
end XArr
def lst (f : Nat → Bool) : Nat → Option Nat
  | 0 => none
  | n + 1 => bif f n then some n else lst f n
def oI : Option Nat → Int32
  | none => -1
  | some j => nI j
theorem lst_some {f : Nat → Bool} : ∀ {n j : Nat}, lst f n = some j → j < n ∧ f j = true
  | 0, j, h => by cases h
  | n + 1, j, h => by
    rw [lst] at h
    cases hf : f n with
    | true => rw [hf] at h; cases h; exact ⟨by omega, hf⟩
    | false => rw [hf] at h; have := lst_some (n := n) h; exact ⟨by omega, this.2⟩
theorem lst_none {f : Nat → Bool} : ∀ {n : Nat}, lst f n = none → ∀ j, j < n → f j = false
  | 0, _, j, h => by omega
  | n + 1, h, j, hj => by
    rw [lst] at h
    cases hf : f n with
    | true => rw [hf] at h; cases h
    | false =>
      rw [hf] at h
      by_cases hjn : j = n
      · rw [hjn]; exact hf
      · exact lst_none (n := n) h j (by omega)
theorem lst_eq {f : Nat → Bool} {n j : Nat} (hj : j < n) (hf : f j = true) (hu : ∀ i, i < n → f i = true → i = j) : lst f n = some j := by
  cases h : lst f n with
  | none => rw [lst_none h j hj] at hf; cases hf
  | some i => have := lst_some h; rw [hu i this.1 this.2]
theorem lst_no {f : Nat → Bool} {n : Nat} (h : ∀ j, j < n → f j = false) : lst f n = none := by
  cases h1 : lst f n with
  | none => rfl
  | some i => have := lst_some h1; rw [h i this.1] at this; cases this.2
theorem lst_congr {f g : Nat → Bool} : ∀ {n : Nat}, (∀ j, j < n → f j = g j) → lst f n = lst g n
  | 0, _ => rfl
  | n + 1, h => by rw [lst, lst, h n (by omega), lst_congr (n := n) (fun j hj => h j (by omega))]
theorem oI_lt {x : Option Nat} {n : Nat} (h : ∀ j, x = some j → j < n) (hn : n < 2 ^ 31) : oI x = -1 ↔ x = none := by
  cases x with
  | none => exact ⟨fun _ => rfl, fun _ => rfl⟩
  | some j =>
    constructor
    · intro h1
      have h2 := h j rfl
      have h3 : (nI j).toInt = -1 := by
        have : nI j = -1 := h1
        rw [this]; decide
      rw [nI_toInt (by omega)] at h3
      omega
    · intro h1; cases h1
/-- the line that holds at a part's position -/
def lnAt (L : LSt) (pr : Nat → Nat) (s p k : Nat) : Option Nat := lst (fun j => hld L pr s j && (decide (pa L j = p) && decide (po L j = k))) (ln L)
def hlN (L : LSt) (pr : Nat → Nat) (s n q : Nat) : Int32 := oI (lst (fun j => hld L pr s j && decide (plc (pa L j) (po L j) = q)) n)
def hcN (L : LSt) (pr : Nat → Nat) (s n p : Nat) : Nat := orN (fun j => hld L pr s j && decide (pa L j = p)) (fun j => 2 ^ ch L j) n
theorem plc_inj {p q k m : Nat} (h1 : 1 ≤ k) (h2 : k ≤ 6) (h3 : 1 ≤ m) (h4 : m ≤ 6) : plc p k = plc q m ↔ (p = q ∧ k = m) := by
  unfold plc
  constructor
  · intro h; omega
  · rintro ⟨rfl, rfl⟩; rfl
theorem hlN_at {np : Nat} {L : LSt} (hI : LI np L) {pr : Nat → Nat} {s p k : Nat} (h1 : 1 ≤ k) (h2 : k ≤ 6) : hlN L pr s (ln L) (plc p k) = oI (lnAt L pr s p k) := by
  unfold hlN lnAt
  congr 1
  apply lst_congr
  intro j hj
  have hb := (hI.2.2 j hj).2.1
  have e : decide (plc (pa L j) (po L j) = plc p k) = (decide (pa L j = p) && decide (po L j = k)) := by
    rw [← Bool.decide_and]
    exact decide_eq_decide.mpr (plc_inj hb.1 hb.2 h1 h2)
  rw [e]
/-- two lines never collide -/
def PW (L : LSt) : Prop := ∀ i j : Nat, i < ln L → j < ln L → i ≠ j → pa L i = pa L j → po L i = po L j → ¬ ((fi L i ≤ la L j ∧ fi L j ≤ la L i) ∧ (op L i - 1 ≠ op L j - 1 ∨ xcs (op L i) (cs L i) &&& xcs (op L j) (cs L j) ≠ 0))
theorem PW.uq {L : LSt} (h : PW L) {pr : Nat → Nat} {s i j : Nat} (hi : i < ln L) (hj : j < ln L) (h1 : hld L pr s i = true) (h2 : hld L pr s j = true) (h3 : pa L i = pa L j) (h4 : po L i = po L j) : i = j := by
  by_cases hij : i = j
  · exact hij
  · exfalso
    simp only [hld, Bool.and_eq_true, decide_eq_true_eq] at h1 h2
    refine h i j hi hj hij h3 h4 ⟨⟨by omega, by omega⟩, ?_⟩
    by_cases ho : op L i - 1 = op L j - 1
    · refine Or.inr (fun h0 => ?_)
      have hb := congrArg (fun x => x.testBit (pr (op L i - 1))) h0
      simp only [Nat.testBit_and, Nat.zero_testBit] at hb
      rw [h1.2, ho, h2.2] at hb
      cases hb
    · exact Or.inl ho
theorem lnAt_of {L : LSt} (h : PW L) {pr : Nat → Nat} {s p k j : Nat} (hj : j < ln L) (h1 : hld L pr s j = true) (h3 : pa L j = p) (h4 : po L j = k) : lnAt L pr s p k = some j := by
  refine lst_eq hj (by rw [h1, decide_eq_true h3, decide_eq_true h4]; rfl) (fun i hi hf => ?_)
  simp only [Bool.and_eq_true, decide_eq_true_eq] at hf
  exact h.uq hi hj hf.1 h1 (hf.2.1.trans h3.symm) (hf.2.2.trans h4.symm)
theorem lnAt_some {L : LSt} {pr : Nat → Nat} {s p k j : Nat} (h : lnAt L pr s p k = some j) : j < ln L ∧ hld L pr s j = true ∧ pa L j = p ∧ po L j = k := by
  have := lst_some h
  simp only [Bool.and_eq_true, decide_eq_true_eq] at this
  exact ⟨this.1, this.2.1, this.2.2.1, this.2.2.2⟩
theorem tb_div (c k : Nat) : c.testBit k = decide (c / 2 ^ k % 2 = 1) := Nat.testBit_eq_decide_div_mod_eq
