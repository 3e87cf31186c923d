/-! QUANTITIES, pure -/
def nL (n : Nat) : Int64 := Int64.ofNat n
theorem nL_add (a b : Nat) : nL a + nL b = nL (a + b) := (Int64.ofNat_add a b).symm
theorem nL_mul (a b : Nat) : nL a * nL b = nL (a * b) := (Int64.ofNat_mul a b).symm
theorem nL_toInt {n : Nat} (h : n < 2 ^ 63) : (nL n).toInt = n := Int64.toInt_ofNat_of_lt h
theorem nL_i2l {n : Nat} (h : n < 2 ^ 31) : (nI n).toInt64 = nL n := by
  apply Int64.toInt_inj.mp
  rw [Int32.toInt_toInt64, nI_toInt h, nL_toInt (by omega)]
theorem nL_gt0 {n : Nat} (h : n < 2 ^ 63) : lg_cmp (nL n) 0 ≤ 0 ↔ n = 0 := by
  rw [lg_cmp_le, Int64.le_iff_toInt_le, nL_toInt h]
  show (n : Int) ≤ 0 ↔ n = 0
  omega
theorem oI_none {x : Option Nat} {n : Nat} (h : ∀ j, x = some j → j < n) (hn : n < 2 ^ 31) (h1 : oI x = -1) : x = none := (oI_lt h hn).mp h1
theorem oI_some {x : Option Nat} {n : Nat} (_h : ∀ j, x = some j → j < n) (_hn : n < 2 ^ 31) (h1 : ¬ oI x = -1) : ∃ j, x = some j := by
  cases x with
  | none => exact absurd rfl h1
  | some j => exact ⟨j, rfl⟩
/-- the sum over the positions from 1 to n -/
def sK (g : Nat → Nat) : Nat → Nat
  | 0 => 0
  | n + 1 => sK g n + g (n + 1)
def oN (g : Nat → Nat) : Option Nat → Nat
  | none => 0
  | some l => g l
theorem sK_0 {g : Nat → Nat} : ∀ {n : Nat}, (∀ k, 1 ≤ k → k ≤ n → g k = 0) → sK g n = 0
  | 0, _ => rfl
  | n + 1, h => by rw [sK, sK_0 (n := n) (fun k h1 h2 => h k h1 (by omega)), h (n + 1) (by omega) (by omega)]
theorem sK_congr {g g' : Nat → Nat} : ∀ {n : Nat}, (∀ k, 1 ≤ k → k ≤ n → g k = g' k) → sK g n = sK g' n
  | 0, _ => rfl
  | n + 1, h => by rw [sK, sK, sK_congr (n := n) (fun k h1 h2 => h k h1 (by omega)), h (n + 1) (by omega) (by omega)]
theorem sK_add {g g' : Nat → Nat} : ∀ {n : Nat}, sK (fun k => g k + g' k) n = sK g n + sK g' n
  | 0 => rfl
  | n + 1 => by rw [sK, sK, sK, sK_add (n := n)]; omega
theorem sK_mul {g : Nat → Nat} {c : Nat} : ∀ {n : Nat}, sK (fun k => c * g k) n = c * sK g n
  | 0 => rfl
  | n + 1 => by rw [sK, sK, sK_mul (n := n), Nat.mul_add]
theorem sK_le {g : Nat → Nat} {b : Nat} : ∀ {n : Nat}, (∀ k, 1 ≤ k → k ≤ n → g k ≤ b) → sK g n ≤ n * b
  | 0, _ => by rw [sK]; omega
  | n + 1, h => by
    have h1 := sK_le (n := n) (fun k h1 h2 => h k h1 (by omega))
    have h2 := h (n + 1) (by omega) (by omega)
    rw [sK, Nat.succ_mul]
    omega
/-- what the lines of p say that hold -/
def atS (L : LSt) (pr : Nat → Nat) (s p : Nat) (g : Nat → Nat) : Nat := sK (fun k => oN g (lnAt L pr s p k)) 6
/-- how often c is in p -/
def hasN (L : LSt) (pr : Nat → Nat) (s : Nat) : Nat → Nat → Nat → Nat
  | 0, _, _ => 0
  | f + 1, p, c => if p = c then 1 else atS L pr s p (fun l => qt L l * hasN L pr s f (ch L l) c)
theorem atS_congr {L : LSt} {pr : Nat → Nat} {s p : Nat} {g g' : Nat → Nat} (h : ∀ j, j < ln L → hld L pr s j = true → pa L j = p → g j = g' j) : atS L pr s p g = atS L pr s p g' := by
  refine sK_congr (fun k h1 h2 => ?_)
  cases hx : lnAt L pr s p k with
  | none => rfl
  | some j => have := lnAt_some hx; exact h j this.1 this.2.1 this.2.2.1
theorem atS_0 {L : LSt} {pr : Nat → Nat} {s p : Nat} {g : Nat → Nat} (h : ∀ j, j < ln L → hld L pr s j = true → pa L j = p → g j = 0) : atS L pr s p g = 0 := by
  refine sK_0 (fun k h1 h2 => ?_)
  cases hx : lnAt L pr s p k with
  | none => rfl
  | some j => have := lnAt_some hx; exact h j this.1 this.2.1 this.2.2.1
theorem atS_add {L : LSt} {pr : Nat → Nat} {s p : Nat} {g g' : Nat → Nat} : atS L pr s p (fun l => g l + g' l) = atS L pr s p g + atS L pr s p g' := by
  rw [atS, atS, atS, ← sK_add]
  refine sK_congr (fun k _ _ => ?_)
  cases lnAt L pr s p k <;> rfl
theorem atS_le {L : LSt} {pr : Nat → Nat} {s p b : Nat} {g : Nat → Nat} (h : ∀ j, j < ln L → g j ≤ b) : atS L pr s p g ≤ 6 * b := by
  refine sK_le (fun k h1 h2 => ?_)
  cases hx : lnAt L pr s p k with
  | none => exact Nat.zero_le _
  | some j => exact h j (lnAt_some hx).1
theorem hasN_le {np : Nat} {L : LSt} {pr : Nat → Nat} {s : Nat} (hI : LI np L) : ∀ (f p c : Nat), hasN L pr s f p c ≤ 120 ^ f
  | 0, _, _ => by rw [hasN]; decide
  | f + 1, p, c => by
    have h0 : 0 < 120 ^ f := Nat.pow_pos (by decide)
    rw [hasN]
    split
    · exact Nat.pow_pos (by decide)
    · refine Nat.le_trans (atS_le (b := 20 * 120 ^ f) (fun j hj => ?_)) (by rw [Nat.pow_succ]; omega)
      exact Nat.mul_le_mul (hI.2.2 j hj).2.2.2.1.2 (hasN_le hI f _ c)
/-- the weight of the walks of i lines from p to c -/
def wlk (L : LSt) (pr : Nat → Nat) (s : Nat) : Nat → Nat → Nat → Nat
  | 0, p, c => if p = c then 1 else 0
  | i + 1, p, c => atS L pr s p (fun l => qt L l * wlk L pr s i (ch L l) c)
def wsum (L : LSt) (pr : Nat → Nat) (s : Nat) : Nat → Nat → Nat → Nat
  | 0, p, c => wlk L pr s 0 p c
  | f + 1, p, c => wsum L pr s f p c + wlk L pr s (f + 1) p c
theorem wlk_lev {L : LSt} {pr : Nat → Nat} {s : Nat} : ∀ {i p c : Nat}, wlk L pr s i p c ≠ 0 → lev (Ed (ln L) (pa L) (ch L)) i p c
  | 0, p, c, h => by
    rw [wlk] at h
    by_cases h1 : p = c
    · exact h1
    · rw [if_neg h1] at h; exact absurd rfl h
  | i + 1, p, c, h => by
    rcases Classical.em (∃ j, j < ln L ∧ pa L j = p ∧ wlk L pr s i (ch L j) c ≠ 0) with h1 | h1
    · obtain ⟨j, h2, h3, h4⟩ := h1
      exact ⟨ch L j, ⟨j, h2, h3, rfl⟩, wlk_lev h4⟩
    · refine absurd (atS_0 (fun j h2 _ h3 => ?_)) h
      have h5 : wlk L pr s i (ch L j) c = 0 := Classical.byContradiction (fun h6 => h1 ⟨j, h2, h3, h6⟩)
      rw [h5]; rfl
theorem lev_add {R : Nat → Nat → Prop} : ∀ {a b p q r : Nat}, lev R a p q → lev R b q r → lev R (a + b) p r
  | 0, b, p, q, r, h, h2 => by rw [Nat.zero_add]; exact (show p = q from h) ▸ h2
  | a + 1, b, p, q, r, ⟨m, h1, h3⟩, h2 => by rw [show a + 1 + b = a + b + 1 by omega]; exact ⟨m, h1, lev_add h3 h2⟩
theorem lev_loop {R : Nat → Nat → Prop} {c i : Nat} (h : lev R (i + 1) c c) : ∀ n : Nat, lev R (n * (i + 1)) c c
  | 0 => by rw [Nat.zero_mul]; rfl
  | n + 1 => by rw [Nat.succ_mul]; exact lev_add (lev_loop h n) h
theorem lev_cut {R : Nat → Nat → Prop} : ∀ {a b p r : Nat}, lev R (a + b) p r → ∃ q, lev R a p q
  | 0, _, p, _, _ => ⟨p, rfl⟩
  | a + 1, b, p, r, h => by
    rw [show a + 1 + b = a + b + 1 by omega] at h
    obtain ⟨m, h1, h2⟩ := h
    obtain ⟨q, h3⟩ := lev_cut h2
    exact ⟨q, m, h1, h3⟩
theorem no_loop {L : LSt} (hN : NC5 L) {i c : Nat} : ¬ lev (Ed (ln L) (pa L) (ch L)) (i + 1) c c := by
  intro h
  have h1 := lev_loop h 5
  rw [show 5 * (i + 1) = 5 + 5 * i by omega] at h1
  obtain ⟨q, h2⟩ := lev_cut h1
  exact NC_iff.mp (hN c) q h2
theorem wlk_loop {L : LSt} {pr : Nat → Nat} {s i c : Nat} (hN : NC5 L) : wlk L pr s (i + 1) c c = 0 :=
  Classical.byContradiction (fun h => no_loop hN (wlk_lev h))
theorem wsum_s {L : LSt} {pr : Nat → Nat} {s p c : Nat} : ∀ {f : Nat}, wsum L pr s (f + 1) p c = wlk L pr s 0 p c + atS L pr s p (fun l => qt L l * wsum L pr s f (ch L l) c)
  | 0 => rfl
  | f + 1 => by
    rw [wsum, wsum_s (f := f), Nat.add_assoc, show wlk L pr s (f + 1 + 1) p c = atS L pr s p (fun l => qt L l * wlk L pr s (f + 1) (ch L l) c) from rfl, ← atS_add]
    congr 1
    refine atS_congr (fun j _ _ _ => ?_)
    rw [wsum, Nat.mul_add]
theorem wsum_loop {L : LSt} {pr : Nat → Nat} {s c : Nat} (hN : NC5 L) : ∀ {f : Nat}, wsum L pr s f c c = 1
  | 0 => if_pos rfl
  | f + 1 => by rw [wsum, wsum_loop hN (f := f), wlk_loop hN]
/-- counted along the lines or level by level -/
theorem has_wsum {L : LSt} {pr : Nat → Nat} {s : Nat} (hN : NC5 L) : ∀ {f p c : Nat}, NC (ln L) (pa L) (ch L) (f + 1) p → hasN L pr s (f + 1) p c = wsum L pr s f p c
  | 0, p, c, h => by
    rw [hasN, wsum, wlk]
    split
    · rfl
    · exact atS_0 (fun j h1 _ h2 => (h j h1 h2).elim)
  | f + 1, p, c, h => by
    rw [hasN]
    by_cases h1 : p = c
    · rw [if_pos h1, h1, wsum_loop hN]
    · rw [if_neg h1, wsum_s, wlk, if_neg h1, Nat.zero_add]
      exact atS_congr (fun j h2 _ h3 => by rw [has_wsum hN (h j h2 h3)])
