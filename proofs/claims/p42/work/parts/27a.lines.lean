/-! LINES, pure -/
def subS (a m : Nat) : Bool := decide (a &&& m = a)
theorem subS_iff {a m : Nat} : subS a m = true ↔ ∀ i : Nat, a.testBit i = true → m.testBit i = true := by
  rw [subS, decide_eq_true_eq]
  constructor
  · intro h i hi
    rw [← h, Nat.testBit_and, Bool.and_eq_true] at hi
    exact hi.2
  · intro h
    apply Nat.eq_of_testBit_eq
    intro i
    rw [Nat.testBit_and]
    cases ha : a.testBit i with
    | false => rfl
    | true => rw [h i ha]; rfl
theorem nI_sub {a m : Nat} (ha : a < 2 ^ 31) (hm : m < 2 ^ 31) : (nI a &&& (nI m ^^^ (-1)) = 0) ↔ subS a m = true := by
  rw [subS_iff]
  have e : (nI a &&& (nI m ^^^ (-1))).toBitVec = BitVec.ofNat 32 a &&& (BitVec.ofNat 32 m ^^^ BitVec.allOnes 32) := rfl
  constructor
  · intro h i hi
    have h0 : (nI a &&& (nI m ^^^ (-1))).toBitVec.getLsbD i = false := by rw [h]; simp
    rw [e] at h0
    have hi32 : i < 32 := by
      rcases Nat.lt_or_ge i 32 with h1 | h1
      · exact h1
      · have := Nat.testBit_lt_two_pow (x := a) (i := i) (Nat.lt_of_lt_of_le ha (Nat.pow_le_pow_right (by decide) (by omega)))
        rw [this] at hi; cases hi
    simp only [BitVec.getLsbD_and, BitVec.getLsbD_xor, BitVec.getLsbD_allOnes, BitVec.getLsbD_ofNat, hi32, hi, decide_true, Bool.true_and] at h0
    cases hm2 : m.testBit i with
    | true => rfl
    | false => rw [hm2] at h0; cases h0
  · intro h
    apply Int32.toBitVec_inj.mp
    rw [e]
    apply BitVec.eq_of_getLsbD_eq
    intro i hi
    simp only [BitVec.getLsbD_and, BitVec.getLsbD_xor, BitVec.getLsbD_allOnes, BitVec.getLsbD_ofNat, hi, decide_true, Bool.true_and]
    cases ha2 : a.testBit i with
    | true => rw [h i ha2]; simp
    | false => simp
theorem cfg_at {pr : Nat → Nat} (h : ∀ i, i < 4 → pr i < 4) : ∀ o : Nat, o < 4 → cfg pr / 4 ^ o % 4 = pr o := by
  intro o ho
  have h0 := h 0 (by decide)
  have h1 := h 1 (by decide)
  have h2 := h 2 (by decide)
  have h3 := h 3 (by decide)
  unfold cfg
  match o, ho with
  | 0, _ => omega
  | 1, _ => omega
  | 2, _ => omega
  | 3, _ => omega
theorem cfg_lt {pr : Nat → Nat} (h : ∀ i, i < 4 → pr i < 4) : cfg pr < 256 := by
  have h0 := h 0 (by decide)
  have h1 := h 1 (by decide)
  have h2 := h 2 (by decide)
  have h3 := h 3 (by decide)
  unfold cfg
  omega
theorem choice_sh {pr : Nat → Nat} (h : ∀ i, i < 4 → pr i < 4) : ∀ o : Nat, o < 4 → (nI (cfg pr) >>> (nI (2 * o) &&& 31)) &&& 3 = nI (pr o) := by
  intro o ho
  have hs : ∀ o : Nat, o < 4 → ((nI (2 * o) &&& 31).toBitVec.smod 32).toNat = 2 * o := by decide +kernel
  rw [pk_shrN (by have := cfg_lt h; omega) _ (2 * o) (hs o ho), show (3 : Int32) = nI 3 from rfl, nI_and]
  rw [show (3 : Nat) = 2 ^ 2 - 1 from rfl, Nat.and_two_pow_sub_one_eq_mod, Nat.pow_mul]
  rw [show (2 : Nat) ^ 2 = 4 from rfl, cfg_at h o ho]
/-- line j holds for the serial number s and the configuration pr -/
def hld (L : LSt) (pr : Nat → Nat) (s j : Nat) : Bool := (decide (fi L j ≤ s) && decide (s ≤ la L j)) && (xcs (op L j) (cs L j)).testBit (pr (op L j - 1))
/-- the lines are as the document has them -/
def LI (np : Nat) (L : LSt) : Prop := np ≤ 16 ∧ ln L ≤ 40 ∧ ∀ j, j < ln L → pa L j < np ∧ (1 ≤ po L j ∧ po L j ≤ 6) ∧ ch L j < np ∧ (1 ≤ qt L j ∧ qt L j ≤ 20) ∧ sc L j ≤ 50 ∧ (1 ≤ fi L j ∧ fi L j ≤ la L j ∧ la L j ≤ 999) ∧ op L j ≤ 4 ∧ cs L j < 16 ∧ (1 ≤ op L j → 1 ≤ cs L j)
theorem xcs_lt {o c : Nat} (h : c < 16) : xcs o c < 16 := by unfold xcs; split <;> omega
/-- where a part's place stands among the held lines -/
def plc (p k : Nat) : Nat := p * 6 + k - 1
def cset (L : LSt) (p : Nat) : Nat := orN (fun j => decide (pa L j = p)) (fun j => 2 ^ ch L j) (ln L)
def pset (L : LSt) (c : Nat) : Nat := orN (fun j => decide (ch L j = c)) (fun j => 2 ^ pa L j) (ln L)
def XS (K : Nat → ClassId) (w : Wd) (L : LSt) : Prop := cel w 16 (aI K 16 (nf (cset L))) ∧ cel w 17 (aI K 16 (nf (pset L)))
theorem two_lt {c : Nat} (h : c < 16) : 2 ^ c < 2 ^ 16 := Nat.pow_lt_pow_right (by decide) h
theorem cset_lt {np : Nat} {L : LSt} (h : LI np L) (p : Nat) : cset L p < 2 ^ 16 := orN_lt _ (fun j hj _ => two_lt (by have := (h.2.2 j hj).2.2.1; have := h.1; omega))
theorem pset_lt {np : Nat} {L : LSt} (h : LI np L) (p : Nat) : pset L p < 2 ^ 16 := orN_lt _ (fun j hj _ => two_lt (by have := (h.2.2 j hj).1; have := h.1; omega))
