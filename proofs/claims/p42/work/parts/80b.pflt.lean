/-! FLOATS: what rounding doesn't undercut -/
/-- a normal number that isn't above an exact one isn't above it rounded -/
theorem ft_ge {f : FP.Core.Fmt} (g : ft_Gd f) {A E t hi : Nat} {e : Int} (ht0 : t < f.tails) (h1 : 1 ≤ E) (hA : 0 < A) (h2 : hi ≤ 2 * f.emax) (hb : ¬ ft_P2 A 1 ((hi : Int) - f.emax - e))
    (h : (f.tails + t) * 2 ^ (f.qmin + ((E : Int) - 1) - e).toNat ≤ A * 2 ^ (e - (f.qmin + ((E : Int) - 1))).toNat) :
    E * f.tails + t ≤ FP.Core.encode f (FP.Core.roundRatio f false A 1 e) := by
  have hp := g.1
  have tp := ft_tails_pos f
  have ht : f.tails = 2 ^ (f.p - 1) := rfl
  have qm : f.qmin = 2 - (f.emax : Int) - (f.p : Int) := rfl
  have qx : f.qmax = (f.emax : Int) - (f.p : Int) + 1 := rfl
  obtain ⟨Y, hY⟩ : ∃ Y : Int, Y = f.qmin + ((E : Int) - 1) := ⟨_, rfl⟩
  rw [← hY] at h
  obtain ⟨l1, l2⟩ := ft_P2_lead hA (show 0 < 1 by decide)
  obtain ⟨l, hl⟩ : ∃ l, l = FP.Core.leading A 1 := ⟨_, rfl⟩
  rw [← hl] at l1 l2
  have m1 := ft_P2_lt l1 hb
  have p1 : ft_P2 A 1 ((Y - e) + ((f.p - 1 : Nat) : Int)) := by
    rw [ft_P2_shift, Nat.one_mul, show -(Y - e) = e - Y by omega, ← ht]
    refine Nat.le_trans ?_ h
    rw [Nat.mul_comm]
    exact Nat.mul_le_mul_right _ (Nat.le_add_right _ _)
  have m2 := ft_P2_lt p1 l2
  obtain ⟨c, hc, c1, c2, c3⟩ := ft_enc (f := f) (by omega) false hA (by decide) l1 l2 (e := e) (by omega) (by omega)
  rw [show false.toNat = 0 from rfl, Nat.zero_mul, Nat.zero_mul, Nat.zero_add] at hc
  rw [hc]
  obtain ⟨Q, hQ⟩ : ∃ Q : Int, Q = l + e - ((f.p : Int) - 1) := ⟨_, rfl⟩
  rw [← hQ] at c3 ⊢
  rcases Int.lt_or_le Y Q with h3 | h3
  · have r1 := Nat.mul_le_mul_right f.tails (show E ≤ (Q - f.qmin).toNat by omega)
    omega
  · have e1 : Q = Y := by omega
    subst e1
    have g1 : f.tails + t ≤ c := by
      rw [c3]
      refine FP.Core.nearest_ge (by unfold FP.Core.unitsDen; rw [Nat.one_mul]; exact Nat.pow_pos (by decide)) ?_
      unfold FP.Core.unitsDen FP.Core.unitsNum
      rw [Nat.one_mul]
      exact h
    have r1 : (Q - f.qmin).toNat = E - 1 := by omega
    have r2 : E * f.tails = (E - 1) * f.tails + f.tails := by
      obtain ⟨k, rfl⟩ : ∃ k, E = k + 1 := ⟨E - 1, by omega⟩
      rw [Nat.add_mul, Nat.one_mul]; rfl
    rw [r1]
    omega
theorem ft_split {f : FP.Core.Fmt} {lo hi n : Nat} (h : lo * f.tails ≤ n ∧ n ≤ hi * f.tails) : ∃ E t, n = E * f.tails + t ∧ t < f.tails ∧ lo ≤ E ∧ E ≤ hi := by
  have tp := ft_tails_pos f
  refine ⟨n / f.tails, n % f.tails, by rw [Nat.mul_comm]; exact (Nat.div_add_mod _ _).symm, Nat.mod_lt n tp, (Nat.le_div_iff_mul_le tp).mpr h.1, ?_⟩
  have := Nat.div_le_div_right (c := f.tails) h.2
  rwa [Nat.mul_div_cancel _ tp] at this
theorem ft_sum_eq {c d : Nat} {q r : Int} : FP.Core.exactSum (.fin false c q) (.fin false d r) = .fin false (c * 2 ^ (q - min q r).toNat + d * 2 ^ (r - min q r).toNat) (min q r) := by
  show FP.Core.Datum.fin (FP.Core.sumSign false false (FP.Core.sumUnits false c q false d r (min q r))) (FP.Core.sumUnits false c q false d r (min q r)).natAbs (min q r) = _
  have e2 : FP.Core.sumUnits false c q false d r (min q r) = ((c * 2 ^ (q - min q r).toNat + d * 2 ^ (r - min q r).toNat : Nat) : Int) := by
    show (if false = true then _ else ((FP.Core.inUnits c q (min q r) : Nat) : Int)) + (if false = true then _ else ((FP.Core.inUnits d r (min q r) : Nat) : Int)) = _
    rw [if_neg (by decide), if_neg (by decide)]
    unfold FP.Core.inUnits
    rw [Int.natCast_add]
  rw [e2, Int.natAbs_natCast]
  have e3 : FP.Core.sumSign false false ((c * 2 ^ (q - min q r).toNat + d * 2 ^ (r - min q r).toNat : Nat) : Int) = false := by
    unfold FP.Core.sumSign
    split
    · rfl
    · rw [decide_eq_false_iff_not]; omega
  rw [e3]
/-- a sum isn't below its first -/
theorem ft_sum_ge {f : FP.Core.Fmt} (g : ft_Gd f) {lo hi x y : Nat} (hx : ft_ZN f lo hi x) (hy : ft_ZN f lo hi y) (h1 : 1 ≤ lo) (h2 : hi + 2 ≤ 2 * f.emax) (h3 : 1 ≤ hi) :
    x ≤ FP.Core.encode f (FP.Core.round f (FP.Core.exactSum (FP.Core.decode f x) (FP.Core.decode f y))) := by
  rcases hx with hx | hx
  · rw [hx]; exact Nat.zero_le _
  · obtain ⟨E, t, rfl, ht0, hE, hE2⟩ := ft_split hx
    obtain ⟨d, r, hd, dz, du, rl, rr, ru⟩ := ft_zd_of g hy h1 (by omega) h3
    rw [hd, ft_dec_pos g ht0 (by omega) (by omega), ft_sum_eq]
    have tp := ft_tails_pos f
    have hp := g.1
    have ht : f.tails = 2 ^ (f.p - 1) := rfl
    have ht2 := ft_pw f.p (by omega)
    have qm : f.qmin = 2 - (f.emax : Int) - (f.p : Int) := rfl
    have pos : ∀ k, 0 < 2 ^ k := fun k => Nat.pow_pos (by decide)
    obtain ⟨Y, hY⟩ : ∃ Y : Int, Y = f.qmin + ((E : Int) - 1) := ⟨_, rfl⟩
    rw [← hY]
    obtain ⟨m, hm⟩ : ∃ m, m = min Y r := ⟨_, rfl⟩
    rw [← hm]
    show _ ≤ FP.Core.encode f (FP.Core.roundRatio f false _ 1 m)
    refine ft_ge (hi := hi + 2) g ht0 (by omega) ?_ h2 ?_ ?_
    · have := Nat.mul_pos (show 0 < f.tails + t by omega) (pos (Y - m).toNat)
      omega
    · obtain ⟨Z, hZ⟩ : ∃ Z : Int, Z = f.qmin + ((hi : Int) - 1) := ⟨_, rfl⟩
      refine ft_nP2_one (k := f.p + (Z - m).toNat + 1) ?_ (by omega)
      rw [Nat.pow_succ, Nat.mul_two]
      have k1 : (f.tails + t) * 2 ^ (Y - m).toNat < 2 ^ (f.p + (Z - m).toNat) := by
        rw [Nat.pow_add]
        exact Nat.mul_lt_mul_of_lt_of_le (by omega) (Nat.pow_le_pow_right (by decide) (by omega)) (pos _)
      have k2 : d * 2 ^ (r - m).toNat < 2 ^ (f.p + (Z - m).toNat) := by
        rw [Nat.pow_add]
        exact Nat.mul_lt_mul_of_lt_of_le (by omega) (Nat.pow_le_pow_right (by decide) (by omega)) (pos _)
      omega
    · rw [← hY, show (m - Y).toNat = 0 by omega, Nat.pow_zero, Nat.mul_one]
      exact Nat.le_add_right _ _
/-- a product by one or more isn't below the other -/
theorem ft_prod_ge {f : FP.Core.Fmt} (g : ft_Gd f) {hi lo2 hi2 x y : Nat} (hx : f.emax * f.tails ≤ x ∧ x ≤ hi * f.tails) (hy : ft_ZN f lo2 hi2 y) (h1 : 1 ≤ lo2) (h2 : hi ≤ 2 * f.emax) (h3 : hi2 ≤ 2 * f.emax) (h5 : 1 ≤ hi2) (hh : hi + hi2 + 2 ≤ 3 * f.emax) :
    y ≤ FP.Core.encode f (FP.Core.round f (FP.Core.exactProduct (FP.Core.decode f x) (FP.Core.decode f y))) := by
  rcases hy with hy | hy
  · rw [hy]; exact Nat.zero_le _
  · have he := g.2.2
    have hp := g.1
    have tp := ft_tails_pos f
    have ht : f.tails = 2 ^ (f.p - 1) := rfl
    have ht2 := ft_pw f.p (by omega)
    have qm : f.qmin = 2 - (f.emax : Int) - (f.p : Int) := rfl
    obtain ⟨E, t, rfl, ht0, hE, hE2⟩ := ft_split hx
    obtain ⟨F, u, rfl, hu0, hF, hF2⟩ := ft_split hy
    rw [ft_dec_pos g ht0 (by omega) (by omega), ft_dec_pos g hu0 (by omega) (by omega)]
    obtain ⟨X, hX⟩ : ∃ X : Int, X = f.qmin + ((E : Int) - 1) := ⟨_, rfl⟩
    obtain ⟨Y, hY⟩ : ∃ Y : Int, Y = f.qmin + ((F : Int) - 1) := ⟨_, rfl⟩
    rw [← hX, ← hY]
    show _ ≤ FP.Core.encode f (FP.Core.roundRatio f false ((f.tails + t) * (f.tails + u)) 1 (X + Y))
    refine ft_ge (hi := hi + hi2 + 2 - f.emax) g hu0 (by omega) (Nat.mul_pos (by omega) (by omega)) (by omega) ?_ ?_
    · refine ft_nP2_one (k := f.p + f.p) ?_ (by omega)
      rw [Nat.pow_add]
      exact Nat.mul_lt_mul_of_lt_of_le (by omega) (by omega) (by omega)
    · rw [← hY, Nat.mul_comm (f.tails + t), Nat.mul_assoc]
      refine Nat.mul_le_mul_left _ ?_
      rcases Int.lt_or_le X 0 with h6 | h6
      · rw [show (X + Y - Y).toNat = 0 by omega, Nat.pow_zero, Nat.mul_one]
        refine Nat.le_trans ?_ (Nat.le_add_right f.tails t)
        rw [ht]
        exact Nat.pow_le_pow_right (by decide) (by omega)
      · rw [show (Y - (X + Y)).toNat = 0 by omega, Nat.pow_zero]
        exact Nat.mul_pos (by omega) (Nat.pow_pos (by decide))
/-- numbers that aren't negative are ordered as their bits -/
theorem ft_cmp_ge {f : FP.Core.Fmt} (g : ft_Gd f) {lo hi x y : Nat} (hx : ft_ZN f lo hi x) (hy : ft_ZN f lo hi y) (h1 : 1 ≤ lo) (h2 : hi ≤ 2 * f.emax) (h : y ≤ x) : ∃ o, FP.Core.cmp f x y = some o ∧ o ≠ .lt := by
  have tp := ft_tails_pos f
  rcases hy with hy | hy
  · subst hy
    rcases hx with hx | hx
    · subst hx; exact ⟨_, ft_cmp_00 g, by decide⟩
    · obtain ⟨E, t, rfl, ht0, hE, hE2⟩ := ft_split hx
      exact ⟨_, ft_cmp_zero g ht0 (by omega) (by omega), by decide⟩
  · rcases hx with hx | hx
    · have := Nat.mul_pos (show 0 < lo by omega) tp
      omega
    · obtain ⟨E, t, rfl, ht0, hE, hE2⟩ := ft_split hx
      obtain ⟨F, u, rfl, hu0, hF, hF2⟩ := ft_split hy
      unfold FP.Core.cmp
      rw [ft_dec_pos g ht0 (by omega) (by omega), ft_dec_pos g hu0 (by omega) (by omega)]
      refine ⟨_, rfl, ?_⟩
      show compare ((FP.Core.inUnits (f.tails + t) _ _ : Nat) : Int) ((FP.Core.inUnits (f.tails + u) _ _ : Nat) : Int) ≠ .lt
      unfold FP.Core.inUnits
      rw [ne_eq, Int.compare_eq_lt]
      have hFE : F ≤ E := by
        rcases Nat.lt_or_ge E F with h3 | h3
        · have r1 := Nat.mul_le_mul_right f.tails (show E + 1 ≤ F by omega)
          rw [Nat.add_mul, Nat.one_mul] at r1
          omega
        · exact h3
      obtain ⟨a, ha⟩ : ∃ a, a = (f.qmin + ((E : Int) - 1) - min (f.qmin + ((E : Int) - 1)) (f.qmin + ((F : Int) - 1))).toNat := ⟨_, rfl⟩
      rw [← ha, show (f.qmin + ((F : Int) - 1) - min (f.qmin + ((E : Int) - 1)) (f.qmin + ((F : Int) - 1))).toNat = 0 by omega, Nat.pow_zero, Nat.mul_one]
      by_cases h4 : E = F
      · subst h4
        rw [show a = 0 by omega, Nat.pow_zero, Nat.mul_one]
        omega
      · rw [show a = (a - 1) + 1 by omega, Nat.pow_succ, ← Nat.mul_assoc]
        have : (f.tails + t) * 1 ≤ (f.tails + t) * 2 ^ (a - 1) := Nat.mul_le_mul_left _ (Nat.pow_pos (by decide))
        omega
theorem cmpv_ge {r : Option Ordering} {op : CmpOp} (h : ∃ o, r = some o ∧ o ≠ .lt) : ¬ Op.cmpValue r op < 0 := by
  obtain ⟨o, rfl, h⟩ := h
  cases o with
  | lt => exact absurd rfl h
  | eq => show ¬ (0 : Int32) < 0; decide
  | gt => show ¬ (1 : Int32) < 0; decide
theorem fcmp_ge {lo hi : Nat} {x y : UInt32} {op : CmpOp} (hx : Z32 lo hi x) (hy : Z32 lo hi y) (h1 : 1 ≤ lo) (h2 : hi ≤ 254) (h : y.toNat ≤ x.toNat) : ¬ Op.cmpValue (FP.fcmp x y) op < 0 :=
  cmpv_ge (ft_cmp_ge ft_gd32 hx hy h1 (by show hi ≤ 254; omega) h)
theorem fadd_ge {lo hi : Nat} {x y : UInt32} (hx : Z32 lo hi x) (hy : Z32 lo hi y) (h1 : 1 ≤ lo) (h2 : hi + 2 ≤ 254) (h3 : 1 ≤ hi) : x.toNat ≤ (FP.fadd x y).toNat := by
  have h := ft_sum_ge ft_gd32 hx hy h1 (by show hi + 2 ≤ 254; omega) h3
  have hz := ft_zn_le (ft_zsum ft_gd32 (ft_zd_of ft_gd32 hx h1 (by show hi ≤ 254; omega) h3) (ft_zd_of ft_gd32 hy h1 (by show hi ≤ 254; omega) h3) h1 (by show hi + 2 ≤ 254; omega))
  rw [ft_t32] at hz
  unfold FP.fadd FP.Core.fadd FP.Core.add
  rw [ft_o32 (by omega)]
  exact h
theorem fadd_ge2 {lo hi : Nat} {x y : UInt32} (hx : Z32 lo hi x) (hy : Z32 lo hi y) (h1 : 1 ≤ lo) (h2 : hi + 2 ≤ 254) (h3 : 1 ≤ hi) : y.toNat ≤ (FP.fadd x y).toNat := by
  have e : FP.fadd x y = FP.fadd y x := FP.Core.fadd_comm x y
  rw [e]
  exact fadd_ge hy hx h1 h2 h3
theorem fmul_ge {h lo2 hi2 : Nat} {x y : UInt32} (hx : 127 * 8388608 ≤ x.toNat ∧ x.toNat ≤ h * 8388608) (hy : Z32 lo2 hi2 y) (h1 : 1 ≤ lo2) (h2 : h ≤ 254) (h3 : hi2 ≤ 254) (h5 : 1 ≤ hi2) (hh : h + hi2 + 2 ≤ 381) : y.toNat ≤ (FP.fmul x y).toNat := by
  have hx2 : FP.Core.b32.emax * FP.Core.b32.tails ≤ x.toNat ∧ x.toNat ≤ h * FP.Core.b32.tails := by rw [ft_t32]; exact hx
  have hm := ft_prod_ge ft_gd32 hx2 hy h1 (by show h ≤ 254; omega) (by show hi2 ≤ 254; omega) h5 (by show h + hi2 + 2 ≤ 3 * 127; omega)
  have h127 : 127 ≤ h := by omega
  have hz := ft_zn_le (ft_zprod (lo' := lo2) (hi' := h + hi2 + 2 - 127) ft_gd32 (ft_zd_of ft_gd32 (lo := 127) (Or.inr hx2) (by omega) (by show h ≤ 254; omega) (by omega)) (ft_zd_of ft_gd32 hy h1 (by show hi2 ≤ 254; omega) h5) h1 (by show h + hi2 + 2 - 127 ≤ 254; omega) (by show lo2 + 127 ≤ 127 + lo2; omega) (by show h + hi2 + 2 ≤ h + hi2 + 2 - 127 + 127; omega))
  rw [ft_t32] at hz
  unfold FP.fmul FP.Core.fmul FP.Core.mul
  rw [ft_o32 (by omega)]
  exact hm
/-! costs -/
theorem sF_ge0 {L : LSt} {pr : Nat → Nat} {s p : Nat} {g : Nat → UInt32} {a : UInt32} {h : Nat} (hg : ∀ j, j < ln L → hld L pr s j = true → pa L j = p → Z32 120 h (g j)) (ha : Z32 120 h a) (h1 : 1 ≤ h) : ∀ n m, n ≤ m → h + 2 * m ≤ 254 → (sF L pr s p g a n).toNat ≤ (sF L pr s p g a m).toNat := by
  intro n m hnm hm
  induction m with
  | zero => rw [show n = 0 by omega]; exact Nat.le_refl _
  | succ m ih =>
    by_cases e : n = m + 1
    · rw [e]; exact Nat.le_refl _
    · refine Nat.le_trans (ih (by omega) (by omega)) ?_
      have hz := sF_z hg ha h1 m (by omega)
      rw [sF]
      cases hx : lnAt L pr s p (m + 1) with
      | none => exact Nat.le_refl _
      | some j =>
        have := lnAt_some hx
        exact fadd_ge hz (ft_z32_mono (hg j this.1 this.2.1 this.2.2.1) (Nat.le_refl _) (Nat.le_add_right _ _)) (by omega) (by omega) (by omega)
/-- a part costs no less than a line of it adds -/
theorem sF_line {np : Nat} {L : LSt} {pr : Nat → Nat} {s p j : Nat} {g : Nat → UInt32} {a : UInt32} {h : Nat} (hI : LI np L) (hW : PW L) (hg : ∀ j, j < ln L → hld L pr s j = true → pa L j = p → Z32 120 h (g j)) (ha : Z32 120 h a) (h1 : 1 ≤ h) (hm : h + 12 ≤ 254) (hj : j < ln L) (hh : hld L pr s j = true) (hp : pa L j = p) : (g j).toNat ≤ (sF L pr s p g a 6).toNat := by
  have hb := (hI.2.2 j hj).2.1
  obtain ⟨k, hk⟩ : ∃ k, po L j = k + 1 := ⟨po L j - 1, by omega⟩
  have hz := sF_z hg ha h1 k (by omega)
  have hx : lnAt L pr s p (k + 1) = some j := lnAt_of hW hj hh hp hk
  refine Nat.le_trans ?_ (sF_ge0 hg ha h1 (k + 1) 6 (by omega) (by omega))
  rw [sF, hx]
  exact fadd_ge2 hz (ft_z32_mono (hg j hj hh hp) (Nat.le_refl _) (Nat.le_add_right _ _)) (by omega) (by omega) (by omega)
theorem mr_ge {q s h : Nat} {x : UInt32} (h1 : 1 ≤ q) (h2 : q ≤ 20) (hs : s ≤ 50) (hx : Z32 120 h x) (h3 : 1 ≤ h) (hh : h + 7 ≤ 254) : x.toNat ≤ (FP.fmul (facF q s) x).toNat := by
  obtain ⟨a, b⟩ := facF_b h1 h2 hs
  exact fmul_ge (h := 132) ⟨a, Nat.le_trans b (by decide)⟩ hx (by omega) (by omega) (by omega) h3 (by omega)
/-- a part costs no less than each child of it -/
theorem pri_child {np : Nat} {P : PSt} {L : LSt} {pr : Nat → Nat} {s p j : Nat} (hI : LI np L) (hW : PW L) (hN : NC5 L) (hP : ∀ p, p < np → P.2.2.1 p ≤ 99999) (hp0 : p < np) (hj : j < ln L) (hh : hld L pr s j = true) (hp : pa L j = p) : (priF P L pr s 5 (ch L j)).toNat ≤ (priF P L pr s 5 p).toNat := by
  have e : ∀ j, j < ln L → priF P L pr s 5 (ch L j) = priF P L pr s 4 (ch L j) := fun j hj => priF_s 4 _ (hN (pa L j) j hj rfl)
  have hz : ∀ j, j < ln L → Z32 120 215 (priF P L pr s 4 (ch L j)) := fun j hj => priF_z hI hP 4 _ (by omega) (hI.2.2 j hj).2.2.1
  rw [e j hj]
  have hb := hI.2.2 j hj
  refine Nat.le_trans (mr_ge hb.2.2.2.1.1 hb.2.2.2.1.2 hb.2.2.2.2.1 (hz j hj) (by omega) (by omega)) ?_
  rw [priF]
  exact sF_line (g := mrF L (priF P L pr s 4)) (h := 222) hI hW (fun i h1 _ _ => mulF_z (hI.2.2 i h1).2.2.2.1.1 (hI.2.2 i h1).2.2.2.1.2 (hI.2.2 i h1).2.2.2.2.1 (hz i h1) (by omega) (by omega)) (ft_z32_mono (ownF_z (hP p hp0)) (Nat.le_refl _) (by omega)) (by omega) (by omega) hj hh hp
