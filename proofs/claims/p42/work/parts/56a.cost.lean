/-! COSTS and weights, pure -/
theorem ft_tov {x : UInt32} (h : x &&& 0x7fffffff ≤ 0x7f800000) : vf_n32 x := h
theorem ft_tovd {x : UInt64} (h : x &&& 0x7fffffffffffffff ≤ 0x7ff0000000000000) : vf_n64 x := h
theorem z_nn {lo hi : Nat} {x : UInt32} (h : Z32 lo hi x) (h2 : hi ≤ 254) : vf_n32 x := ft_z32_nan h h2
theorem z_nnd {lo hi : Nat} {x : UInt64} (h : Z64 lo hi x) (h2 : hi ≤ 2046) : vf_n64 x := ft_z64_nan h h2
theorem z_0 {lo hi : Nat} : Z32 lo hi 0 := Or.inl rfl
theorem z_0d {lo hi : Nat} : Z64 lo hi 0 := Or.inl rfl
theorem i2f_z {a k hi : Nat} (ha : a < 2 ^ k) (hk : a < 2 ^ 31) (hh : 127 + k ≤ hi) (h2 : hi ≤ 254) : Z32 127 hi (FP.i2f (nI a)) := ft_z_i2f (nI_toInt hk) ha hh h2
theorem i2d_z {a k hi : Nat} (ha : a < 2 ^ k) (hk : a < 2 ^ 31) (hh : 1023 + k ≤ hi) (h2 : hi ≤ 2046) : Z64 1023 hi (FP.i2d (nI a)) := ft_z_i2d (nI_toInt hk) ha hh h2
theorem facM_z {q s : Nat} (h2 : q ≤ 20) (hs : s ≤ 50) : Z32 127 143 (FP.fmul (FP.i2f (nI q)) (FP.i2f (nI (100 + s)))) :=
  ft_z_fmul (i2f_z (k := 5) (hi := 132) (by omega) (by omega) (by omega) (by omega)) (i2f_z (k := 8) (hi := 135) (by omega) (by omega) (by omega) (by omega)) (by omega) (by omega) (by omega) (by omega) (by omega) (by omega) (by omega) (by omega) (by omega) (by omega)
theorem facF_z {q s : Nat} (h1 : 1 ≤ q) (h2 : q ≤ 20) (hs : s ≤ 50) : Z32 127 132 (facF q s) := by
  obtain ⟨a, b⟩ := facF_b h1 h2 hs
  exact Or.inr ⟨a, Nat.le_trans b (by decide)⟩
/-- what a part costs itself -/
def ownF (P : PSt) (p : Nat) : UInt32 := FP.fdiv (FP.i2f (nI (P.2.2.1 p))) 1120403456
theorem ownF_z {P : PSt} {p : Nat} (h : P.2.2.1 p ≤ 99999) : Z32 120 139 (ownF P p) := by
  unfold ownF
  exact ft_z_f100 (lo := 127) (hi := 144) (i2f_z (k := 17) (hi := 144) (by omega) (by omega) (by omega) (by omega)) (by omega) (by omega) (by omega)
/-- what a line adds -/
def mrF (L : LSt) (g : Nat → UInt32) (l : Nat) : UInt32 := FP.fmul (facF (qt L l) (sc L l)) (g (ch L l))
theorem mulF_z {q s h : Nat} {x : UInt32} (h1 : 1 ≤ q) (h2 : q ≤ 20) (hs : s ≤ 50) (hx : Z32 120 h x) (hh : h + 7 ≤ 254) (h3 : 1 ≤ h) : Z32 120 (h + 7) (FP.fmul (facF q s) x) :=
  ft_z_fmul (facF_z h1 h2 hs) hx (by omega) (by omega) (by omega) (by omega) (by omega) (by omega) (by omega) (by omega) (by omega) (by omega)
def oF (g : Nat → UInt32) (a : UInt32) : Option Nat → UInt32
  | none => a
  | some l => FP.fadd a (g l)
/-- the sum over the lines of p that hold, up to position n -/
def sF (L : LSt) (pr : Nat → Nat) (s p : Nat) (g : Nat → UInt32) (a : UInt32) : Nat → UInt32
  | 0 => a
  | n + 1 => oF g (sF L pr s p g a n) (lnAt L pr s p (n + 1))
theorem sF_congr {L : LSt} {pr : Nat → Nat} {s p : Nat} {g g' : Nat → UInt32} {a : UInt32} (h : ∀ j, j < ln L → hld L pr s j = true → pa L j = p → g j = g' j) : ∀ n, sF L pr s p g a n = sF L pr s p g' a n
  | 0 => rfl
  | n + 1 => by
    rw [sF, sF, sF_congr h n]
    cases hx : lnAt L pr s p (n + 1) with
    | none => rfl
    | some j => have := lnAt_some hx; show FP.fadd _ _ = FP.fadd _ _; rw [h j this.1 this.2.1 this.2.2.1]
theorem sF_z {L : LSt} {pr : Nat → Nat} {s p : Nat} {g : Nat → UInt32} {a : UInt32} {h : Nat} (hg : ∀ j, j < ln L → hld L pr s j = true → pa L j = p → Z32 120 h (g j)) (ha : Z32 120 h a) (h1 : 1 ≤ h) : ∀ n, h + 2 * n ≤ 254 → Z32 120 (h + 2 * n) (sF L pr s p g a n)
  | 0, _ => ha
  | n + 1, hn => by
    have ih := sF_z hg ha h1 n (by omega)
    rw [sF]
    cases hx : lnAt L pr s p (n + 1) with
    | none => exact ft_z32_mono ih (Nat.le_refl _) (by omega)
    | some j =>
      have := lnAt_some hx
      rw [show h + 2 * (n + 1) = h + 2 * n + 2 by omega]
      exact ft_z_fadd (lo := 120) (hi := h + 2 * n) ih (ft_z32_mono (hg j this.1 this.2.1 this.2.2.1) (Nat.le_refl _) (Nat.le_add_right _ _)) (by omega) (by omega) (by omega)
/-- the price of p -/
def priF (P : PSt) (L : LSt) (pr : Nat → Nat) (s : Nat) : Nat → Nat → UInt32
  | 0, _ => 0
  | f + 1, p => sF L pr s p (mrF L (priF P L pr s f)) (ownF P p) 6
theorem sFm_z {np : Nat} {P : PSt} {L : LSt} {pr : Nat → Nat} {s p h n : Nat} {g : Nat → UInt32} (hI : LI np L) (hP : P.2.2.1 p ≤ 99999) (hg : ∀ j, j < ln L → hld L pr s j = true → pa L j = p → Z32 120 h (g (ch L j))) (h0 : 139 ≤ h) (hh : h + 7 + 2 * n ≤ 254) :
    Z32 120 (h + 7 + 2 * n) (sF L pr s p (mrF L g) (ownF P p) n) :=
  sF_z (fun j h1 h2 h3 => mulF_z (hI.2.2 j h1).2.2.2.1.1 (hI.2.2 j h1).2.2.2.1.2 (hI.2.2 j h1).2.2.2.2.1 (hg j h1 h2 h3) (by omega) (by omega)) (ft_z32_mono (ownF_z hP) (Nat.le_refl _) (by omega)) (by omega) n hh
theorem priF_z {np : Nat} {P : PSt} {L : LSt} {pr : Nat → Nat} {s : Nat} (hI : LI np L) (hP : ∀ p, p < np → P.2.2.1 p ≤ 99999) : ∀ f p, f ≤ 5 → p < np → Z32 120 (139 + 19 * f) (priF P L pr s f p)
  | 0, _, _, _ => z_0
  | f + 1, p, hf, hp => ft_z32_mono (sFm_z (n := 6) hI (hP p hp) (fun j h1 _ _ => priF_z hI hP f _ (by omega) (hI.2.2 j h1).2.2.1) (by omega) (by omega)) (Nat.le_refl _) (by omega)
theorem priF_s {P : PSt} {L : LSt} {pr : Nat → Nat} {s : Nat} : ∀ f p, NC (ln L) (pa L) (ch L) f p → priF P L pr s (f + 1) p = priF P L pr s f p
  | 0, _, h => h.elim
  | f + 1, p, h => by
    rw [priF, priF]
    refine sF_congr (fun j h1 _ h3 => ?_) 6
    show FP.fmul _ _ = FP.fmul _ _
    rw [priF_s f _ (h j h1 h3)]
theorem mr_nn {np : Nat} {L : LSt} {g : Nat → UInt32} {j h : Nat} (hI : LI np L) (hj : j < ln L) (hg : Z32 120 h (g (ch L j))) (h0 : 1 ≤ h) (hh : h + 7 ≤ 254) : vf_n32 (mrF L g j) :=
  z_nn (mulF_z (hI.2.2 j hj).2.2.2.1.1 (hI.2.2 j hj).2.2.2.1.2 (hI.2.2 j hj).2.2.2.2.1 hg hh h0) hh
theorem sF_nn {np : Nat} {P : PSt} {L : LSt} {pr : Nat → Nat} {s p h n j : Nat} {g : Nat → UInt32} (hI : LI np L) (hP : P.2.2.1 p ≤ 99999) (hg : ∀ j, j < ln L → hld L pr s j = true → pa L j = p → Z32 120 h (g (ch L j))) (h0 : 139 ≤ h) (hh : h + 7 + 2 * (n + 1) ≤ 254)
    (hx : lnAt L pr s p (n + 1) = some j) : vf_n32 (FP.fadd (sF L pr s p (mrF L g) (ownF P p) n) (mrF L g j)) := by
  have h1 := sFm_z (n := n + 1) hI hP hg h0 hh
  rw [sF, hx] at h1
  exact z_nn h1 (by omega)
/-! weights -/
def ownW (P : PSt) (p : Nat) : UInt64 := FP.ddiv (FP.i2d (nI (P.2.2.2 p))) 4652007308841189376
theorem ownW_z {P : PSt} {p : Nat} (h : P.2.2.2 p ≤ 99999) : Z64 1013 1032 (ownW P p) := by
  unfold ownW
  exact ft_z_d1000 (lo := 1023) (hi := 1040) (i2d_z (k := 17) (hi := 1040) (by omega) (by omega) (by omega) (by omega)) (by omega) (by omega) (by omega)
def mrW (L : LSt) (g : Nat → UInt64) (l : Nat) : UInt64 := FP.dmul (FP.i2d (nI (qt L l))) (g (ch L l))
theorem mulW_z {q h : Nat} {x : UInt64} (h2 : q ≤ 20) (hx : Z64 1013 h x) (hh : h + 7 ≤ 2046) (h3 : 1 ≤ h) : Z64 1013 (h + 7) (FP.dmul (FP.i2d (nI q)) x) :=
  ft_z_dmul (i2d_z (k := 5) (hi := 1028) (by omega) (by omega) (by omega) (by omega)) hx (by omega) (by omega) (by omega) (by omega) (by omega) (by omega) (by omega) (by omega) (by omega) (by omega)
def oWt (g : Nat → UInt64) (a : UInt64) : Option Nat → UInt64
  | none => a
  | some l => FP.dadd a (g l)
def sW (L : LSt) (pr : Nat → Nat) (s p : Nat) (g : Nat → UInt64) (a : UInt64) : Nat → UInt64
  | 0 => a
  | n + 1 => oWt g (sW L pr s p g a n) (lnAt L pr s p (n + 1))
theorem sW_congr {L : LSt} {pr : Nat → Nat} {s p : Nat} {g g' : Nat → UInt64} {a : UInt64} (h : ∀ j, j < ln L → hld L pr s j = true → pa L j = p → g j = g' j) : ∀ n, sW L pr s p g a n = sW L pr s p g' a n
  | 0 => rfl
  | n + 1 => by
    rw [sW, sW, sW_congr h n]
    cases hx : lnAt L pr s p (n + 1) with
    | none => rfl
    | some j => have := lnAt_some hx; show FP.dadd _ _ = FP.dadd _ _; rw [h j this.1 this.2.1 this.2.2.1]
theorem sW_z {L : LSt} {pr : Nat → Nat} {s p : Nat} {g : Nat → UInt64} {a : UInt64} {h : Nat} (hg : ∀ j, j < ln L → hld L pr s j = true → pa L j = p → Z64 1013 h (g j)) (ha : Z64 1013 h a) (h1 : 1 ≤ h) : ∀ n, h + 2 * n ≤ 2046 → Z64 1013 (h + 2 * n) (sW L pr s p g a n)
  | 0, _ => ha
  | n + 1, hn => by
    have ih := sW_z hg ha h1 n (by omega)
    rw [sW]
    cases hx : lnAt L pr s p (n + 1) with
    | none => exact ft_z64_mono (lo2 := 1013) (hi2 := h + 2 * (n + 1)) ih (Nat.le_refl _) (by omega)
    | some j =>
      have := lnAt_some hx
      rw [show h + 2 * (n + 1) = h + 2 * n + 2 by omega]
      exact ft_z_dadd (lo := 1013) (hi := h + 2 * n) ih (ft_z64_mono (hg j this.1 this.2.1 this.2.2.1) (Nat.le_refl _) (Nat.le_add_right _ _)) (by omega) (by omega) (by omega)
def masF (P : PSt) (L : LSt) (pr : Nat → Nat) (s : Nat) : Nat → Nat → UInt64
  | 0, _ => 0
  | f + 1, p => sW L pr s p (mrW L (masF P L pr s f)) (ownW P p) 6
theorem sWm_z {np : Nat} {P : PSt} {L : LSt} {pr : Nat → Nat} {s p h n : Nat} {g : Nat → UInt64} (hI : LI np L) (hP : P.2.2.2 p ≤ 99999) (hg : ∀ j, j < ln L → hld L pr s j = true → pa L j = p → Z64 1013 h (g (ch L j))) (h0 : 1032 ≤ h) (hh : h + 7 + 2 * n ≤ 2046) :
    Z64 1013 (h + 7 + 2 * n) (sW L pr s p (mrW L g) (ownW P p) n) :=
  sW_z (fun j h1 h2 h3 => mulW_z (hI.2.2 j h1).2.2.2.1.2 (hg j h1 h2 h3) (by omega) (by omega)) (ft_z64_mono (ownW_z hP) (Nat.le_refl _) (by omega)) (by omega) n hh
theorem masF_z {np : Nat} {P : PSt} {L : LSt} {pr : Nat → Nat} {s : Nat} (hI : LI np L) (hP : ∀ p, p < np → P.2.2.2 p ≤ 99999) : ∀ f p, f ≤ 5 → p < np → Z64 1013 (1032 + 19 * f) (masF P L pr s f p)
  | 0, _, _, _ => z_0d
  | f + 1, p, hf, hp => ft_z64_mono (sWm_z (n := 6) hI (hP p hp) (fun j h1 _ _ => masF_z hI hP f _ (by omega) (hI.2.2 j h1).2.2.1) (by omega) (by omega)) (Nat.le_refl _) (by omega)
theorem masF_s {P : PSt} {L : LSt} {pr : Nat → Nat} {s : Nat} : ∀ f p, NC (ln L) (pa L) (ch L) f p → masF P L pr s (f + 1) p = masF P L pr s f p
  | 0, _, h => h.elim
  | f + 1, p, h => by
    rw [masF, masF]
    refine sW_congr (fun j h1 _ h3 => ?_) 6
    show FP.dmul _ _ = FP.dmul _ _
    rw [masF_s f _ (h j h1 h3)]
theorem mrW_nn {np : Nat} {L : LSt} {g : Nat → UInt64} {j h : Nat} (hI : LI np L) (hj : j < ln L) (hg : Z64 1013 h (g (ch L j))) (h0 : 1 ≤ h) (hh : h + 7 ≤ 2046) : vf_n64 (mrW L g j) :=
  z_nnd (mulW_z (hI.2.2 j hj).2.2.2.1.2 hg hh h0) hh
theorem sW_nn {np : Nat} {P : PSt} {L : LSt} {pr : Nat → Nat} {s p h n j : Nat} {g : Nat → UInt64} (hI : LI np L) (hP : P.2.2.2 p ≤ 99999) (hg : ∀ j, j < ln L → hld L pr s j = true → pa L j = p → Z64 1013 h (g (ch L j))) (h0 : 1032 ≤ h) (hh : h + 7 + 2 * (n + 1) ≤ 2046)
    (hx : lnAt L pr s p (n + 1) = some j) : vf_n64 (FP.dadd (sW L pr s p (mrW L g) (ownW P p) n) (mrW L g j)) := by
  have h1 := sWm_z (n := n + 1) hI hP hg h0 hh
  rw [sW, hx] at h1
  exact z_nnd h1 (by omega)
/-! which parts are ready -/
theorem rdy_nc {L : LSt} {f p : Nat} (h : NC (ln L) (pa L) (ch L) f p) : ∀ k, NC (ln L) (pa L) (ch L) (f + k) p := by
  intro k
  induction k with
  | zero => exact h
  | succ k ih =>
    have : ∀ f p, NC (ln L) (pa L) (ch L) f p → NC (ln L) (pa L) (ch L) (f + 1) p := by
      intro f
      induction f with
      | zero => intro p h; exact h.elim
      | succ f ih => intro p h i hi hp; exact ih _ (h i hi hp)
    exact this _ _ ih
theorem hcN_sub {L : LSt} {pr : Nat → Nat} {s p R : Nat} : subS (hcN L pr s (ln L) p) R = true ↔ ∀ j, j < ln L → hld L pr s j = true → pa L j = p → R.testBit (ch L j) = true := by
  rw [subS_iff]
  constructor
  · intro h j h1 h2 h3
    apply h
    rw [hcN, orN_bit, anyB_iff]
    refine ⟨j, h1, ?_⟩
    rw [h2, decide_eq_true h3, Nat.testBit_two_pow_self]; rfl
  · intro h i hi
    rw [hcN, orN_bit, anyB_iff] at hi
    obtain ⟨j, h1, h2⟩ := hi
    rw [Bool.and_eq_true, Bool.and_eq_true, decide_eq_true_eq] at h2
    have h3 : ch L j = i := by
      have := h2.2
      rw [Nat.testBit_two_pow] at this
      exact of_decide_eq_true this
    rw [← h3]
    exact h j h1 h2.1.1 h2.1.2
theorem or_bit {R q x : Nat} : (R ||| 2 ^ q).testBit x = true ↔ (R.testBit x = true ∨ x = q) := by
  rw [Nat.testBit_or, Nat.testBit_two_pow, Bool.or_eq_true, decide_eq_true_eq]
  constructor
  · intro h; rcases h with h | h
    · exact Or.inl h
    · exact Or.inr h.symm
  · intro h; rcases h with h | h
    · exact Or.inl h
    · exact Or.inr h.symm
theorem or_lt {R q : Nat} (h : R < 2 ^ 16) (hq : q < 16) : R ||| 2 ^ q < 2 ^ 16 := Nat.or_lt_two_pow h (Nat.pow_lt_pow_right (by decide) hq)
/-- what the round knows: the ready parts' numbers are right -/
def rdC {α : Type} (v c : Nat → α) (R : Nat) : Prop := R < 2 ^ 16 ∧ ∀ x, R.testBit x = true → c x = v x
def rdN (L : LSt) (np f R : Nat) : Prop := ∀ x, x < np → NC (ln L) (pa L) (ch L) f x → R.testBit x = true
theorem rdC_up {α : Type} {v c : Nat → α} {R q : Nat} {y : α} (h : rdC v c R) (hq : q < 16) (hy : y = v q) : rdC v (va_up c q y) (R ||| 2 ^ q) := by
  refine ⟨or_lt h.1 hq, fun x hx => ?_⟩
  by_cases h1 : x = q
  · show (if x = q then y else c x) = v x
    rw [if_pos h1, h1]; exact hy
  · show (if x = q then y else c x) = v x
    rw [if_neg h1]
    exact h.2 x ((or_bit.mp hx).resolve_right h1)
theorem rdN_up {L : LSt} {np f R q : Nat} (h : rdN L np f R) : rdN L np f (R ||| 2 ^ q) := fun x hx h2 => or_bit.mpr (Or.inl (h x hx h2))
theorem rdN_s {L : LSt} {f R q : Nat} (h : rdN L q f R) (h2 : R.testBit q = true) : rdN L (q + 1) f R := fun x hx h3 => by
  by_cases h4 : x = q
  · rw [h4]; exact h2
  · exact h x (by omega) h3
theorem rdN_no {L : LSt} {np f R q : Nat} {pr : Nat → Nat} {s : Nat} (hI : LI np L) (h : rdN L q (f + 1) R) (hd : rdN L np f R) (h2 : subS (hcN L pr s (ln L) q) R = false) : rdN L (q + 1) (f + 1) R := fun x hx h3 => by
  by_cases h4 : x = q
  · refine absurd (hcN_sub.mpr (fun j h5 _ h6 => hd _ (hI.2.2 j h5).2.2.1 (h3 j h5 (h4 ▸ h6)))) (by rw [h2]; decide)
  · exact h x (by omega) h3
theorem rd_val {P : PSt} {L : LSt} {pr : Nat → Nat} {s q R : Nat} {c : Nat → UInt32} (hN : NC5 L) (hc : rdC (priF P L pr s 5) c R) (h : subS (hcN L pr s (ln L) q) R = true) : sF L pr s q (mrF L c) (ownF P q) 6 = priF P L pr s 5 q := by
  rw [← priF_s 5 q (hN q), priF]
  refine sF_congr (fun j h1 h2 h3 => ?_) 6
  show FP.fmul _ _ = FP.fmul _ _
  rw [hc.2 _ (hcN_sub.mp h j h1 h2 h3)]
theorem rd_z {np : Nat} {P : PSt} {L : LSt} {pr : Nat → Nat} {s q R : Nat} {c : Nat → UInt32} (hI : LI np L) (hP : ∀ p, p < np → P.2.2.1 p ≤ 99999) (hc : rdC (priF P L pr s 5) c R) (h : subS (hcN L pr s (ln L) q) R = true) : ∀ j, j < ln L → hld L pr s j = true → pa L j = q → Z32 120 234 (c (ch L j)) :=
  fun j h1 h2 h3 => by rw [hc.2 _ (hcN_sub.mp h j h1 h2 h3)]; exact priF_z hI hP 5 _ (by omega) (hI.2.2 j h1).2.2.1
theorem rd_valW {P : PSt} {L : LSt} {pr : Nat → Nat} {s q R : Nat} {c : Nat → UInt64} (hN : NC5 L) (hc : rdC (masF P L pr s 5) c R) (h : subS (hcN L pr s (ln L) q) R = true) : sW L pr s q (mrW L c) (ownW P q) 6 = masF P L pr s 5 q := by
  rw [← masF_s 5 q (hN q), masF]
  refine sW_congr (fun j h1 h2 h3 => ?_) 6
  show FP.dmul _ _ = FP.dmul _ _
  rw [hc.2 _ (hcN_sub.mp h j h1 h2 h3)]
theorem rd_zW {np : Nat} {P : PSt} {L : LSt} {pr : Nat → Nat} {s q R : Nat} {c : Nat → UInt64} (hI : LI np L) (hP : ∀ p, p < np → P.2.2.2 p ≤ 99999) (hc : rdC (masF P L pr s 5) c R) (h : subS (hcN L pr s (ln L) q) R = true) : ∀ j, j < ln L → hld L pr s j = true → pa L j = q → Z64 1013 1127 (c (ch L j)) :=
  fun j h1 h2 h3 => by rw [hc.2 _ (hcN_sub.mp h j h1 h2 h3)]; exact masF_z hI hP 5 _ (by omega) (hI.2.2 j h1).2.2.1
theorem rd_end {α : Type} {v c : Nat → α} {L : LSt} {np R : Nat} (hN : NC5 L) (hc : rdC v c R) (h : rdN L np 5 R) : ∀ x, x < np → c x = v x := fun x hx => hc.2 x (h x hx (hN x))
theorem rF {a b : UInt32} (h : a = b) : (.inl (some (.float a)) : XRes) = .inl (some (.float b)) := by rw [h]
theorem rD {a b : UInt64} (h : a = b) : (.inl (some (.double a)) : XRes) = .inl (some (.double b)) := by rw [h]
