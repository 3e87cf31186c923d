/-! FLOATS: magnitudes and exact results -/
def ft_P2 (num den : Nat) (j : Int) : Prop := den * 2 ^ j.toNat ≤ num * 2 ^ (-j).toNat
theorem ft_P2_shift (num den : Nat) (j : Int) (n : Nat) : ft_P2 num den (j + n) ↔ den * 2 ^ j.toNat * 2 ^ n ≤ num * 2 ^ (-j).toNat := by
  unfold ft_P2
  rcases Int.lt_or_le j 0 with h | h
  · rcases Int.lt_or_le (j + n) 0 with h2 | h2
    · obtain ⟨a, ha⟩ : ∃ a : Nat, a = (-(j + n)).toNat := ⟨_, rfl⟩
      have e1 : (j + n).toNat = 0 := by omega
      have e2 : j.toNat = 0 := by omega
      have e3 : (-j).toNat = a + n := by omega
      rw [e1, e2, e3, ← ha, Nat.pow_add, ← Nat.mul_assoc]
      simp only [Nat.pow_zero, Nat.mul_one]
      exact (Nat.mul_le_mul_right_iff (Nat.pow_pos (by decide))).symm
    · obtain ⟨a, ha⟩ : ∃ a : Nat, a = (j + n).toNat := ⟨_, rfl⟩
      have e1 : (-(j + n)).toNat = 0 := by omega
      have e2 : j.toNat = 0 := by omega
      have e3 : n = a + (-j).toNat := by omega
      rw [e1, e2, ← ha]
      simp only [Nat.pow_zero, Nat.mul_one]
      have e4 : den * 2 ^ n = den * 2 ^ a * 2 ^ (-j).toNat := by
        rw [Nat.mul_assoc, ← Nat.pow_add, ← e3]
      rw [e4]
      exact (Nat.mul_le_mul_right_iff (Nat.pow_pos (by decide))).symm
  · have e1 : (-(j + n)).toNat = 0 := by omega
    have e2 : (-j).toNat = 0 := by omega
    have e3 : (j + n).toNat = j.toNat + n := by omega
    rw [e1, e2, e3, Nat.pow_add, Nat.mul_assoc]
theorem ft_P2_anti {num den : Nat} {j k : Int} (h : ft_P2 num den k) (hk : j ≤ k) : ft_P2 num den j := by
  obtain ⟨n, hn⟩ : ∃ n : Nat, k = j + n := ⟨(k - j).toNat, by omega⟩
  rw [hn, ft_P2_shift] at h
  unfold ft_P2
  exact Nat.le_trans (Nat.le_mul_of_pos_right _ (Nat.pow_pos (by decide))) h
theorem ft_P2_lt {num den : Nat} {j k : Int} (h : ft_P2 num den j) (h2 : ¬ ft_P2 num den k) : j < k := by
  rcases Int.lt_or_le j k with h3 | h3
  · exact h3
  · exact absurd (ft_P2_anti h h3) h2
theorem ft_P2_lead {num den : Nat} (hn : 0 < num) (hd : 0 < den) : ft_P2 num den (FP.Core.leading num den) ∧ ¬ ft_P2 num den (FP.Core.leading num den + 1) := by
  have n1 := Nat.log2_self_le (n := num) (by omega)
  have n2 := Nat.lt_log2_self (n := num)
  have d1 := Nat.log2_self_le (n := den) (by omega)
  have d2 := Nat.lt_log2_self (n := den)
  obtain ⟨a, ha⟩ : ∃ a, a = num.log2 := ⟨_, rfl⟩
  obtain ⟨b, hb⟩ : ∃ b, b = den.log2 := ⟨_, rfl⟩
  rw [← ha] at n1 n2
  rw [← hb] at d1 d2
  have up : ¬ ft_P2 num den ((a : Int) - b + 1) := by
    unfold ft_P2
    rcases Int.lt_or_le ((a : Int) - b + 1) 0 with h | h
    · have e1 : ((a : Int) - b + 1).toNat = 0 := by omega
      have e2 : b = (a + 1) + (-((a : Int) - b + 1)).toNat := by omega
      rw [e1, Nat.pow_zero, Nat.mul_one, Nat.not_le]
      refine Nat.lt_of_lt_of_le ?_ d1
      conv => rhs; rw [e2, Nat.pow_add]
      exact (Nat.mul_lt_mul_right (Nat.pow_pos (by decide))).mpr n2
    · have e1 : (-((a : Int) - b + 1)).toNat = 0 := by omega
      have e2 : a + 1 = b + ((a : Int) - b + 1).toNat := by omega
      rw [e1, Nat.pow_zero, Nat.mul_one, Nat.not_le]
      refine Nat.lt_of_lt_of_le n2 ?_
      rw [e2, Nat.pow_add]
      exact Nat.mul_le_mul_right _ d1
  have lo : ft_P2 num den ((a : Int) - b - 1) := by
    unfold ft_P2
    rcases Int.lt_or_le ((a : Int) - b - 1) 0 with h | h
    · have e1 : ((a : Int) - b - 1).toNat = 0 := by omega
      have e2 : b + 1 = a + (-((a : Int) - b - 1)).toNat := by omega
      rw [e1, Nat.pow_zero, Nat.mul_one]
      refine Nat.le_of_lt (Nat.lt_of_lt_of_le d2 ?_)
      rw [e2, Nat.pow_add]
      exact Nat.mul_le_mul_right _ n1
    · have e1 : (-((a : Int) - b - 1)).toNat = 0 := by omega
      have e2 : a = (b + 1) + ((a : Int) - b - 1).toNat := by omega
      rw [e1, Nat.pow_zero, Nat.mul_one]
      refine Nat.le_of_lt (Nat.lt_of_lt_of_le ?_ n1)
      conv => rhs; rw [e2, Nat.pow_add]
      exact (Nat.mul_lt_mul_right (Nat.pow_pos (by decide))).mpr d2
  unfold FP.Core.leading
  simp only []
  rw [← ha, ← hb]
  split
  · rename_i h; exact ⟨h, up⟩
  · rename_i h
    refine ⟨lo, ?_⟩
    intro h2
    apply h
    have e : (a : Int) - b - 1 + 1 = (a : Int) - b := by omega
    rw [e] at h2
    exact h2
theorem ft_lead_eq {num den : Nat} (hn : 0 < num) (hd : 0 < den) {l : Int} (h1 : ft_P2 num den l) (h2 : ¬ ft_P2 num den (l + 1)) : FP.Core.leading num den = l := by
  obtain ⟨g1, g2⟩ := ft_P2_lead hn hd
  have a := ft_P2_lt h1 g2
  have b := ft_P2_lt g1 h2
  omega
theorem ft_nearest_bounds {A B T : Nat} (hB : 0 < B) (h1 : B * T ≤ A) (h2 : A < B * (2 * T)) : T ≤ FP.Core.nearest A B ∧ FP.Core.nearest A B ≤ 2 * T := by
  have q1 : T ≤ A / B := (Nat.le_div_iff_mul_le hB).mpr (by rw [Nat.mul_comm]; exact h1)
  have q2 : A / B < 2 * T := (Nat.div_lt_iff_lt_mul hB).mpr (by rw [Nat.mul_comm]; exact h2)
  unfold FP.Core.nearest
  split
  · omega
  · split
    · omega
    · have := Nat.mod_two_eq_zero_or_one (A / B)
      rcases this with h | h <;> omega
theorem ft_nearest_one (A : Nat) : FP.Core.nearest A 1 = A := by
  unfold FP.Core.nearest
  rw [Nat.mod_one, Nat.div_one]
  simp
theorem ft_nearest_mul (A B : Nat) (hB : 0 < B) : FP.Core.nearest (A * B) B = A := by
  unfold FP.Core.nearest
  rw [Nat.mul_mod_left, Nat.mul_div_cancel _ hB]
  simp [hB]
theorem ft_pw (p : Nat) (hp : 1 ≤ p) : 2 ^ p = 2 * 2 ^ (p - 1) := by
  obtain ⟨k, rfl⟩ : ∃ k, p = k + 1 := ⟨p - 1, by omega⟩
  rw [Nat.pow_succ, Nat.mul_comm]; rfl
theorem ft_enc_fin {f : FP.Core.Fmt} {s : Bool} {c : Nat} {q : Int} (h : ¬ c < f.tails) : FP.Core.encode f (.fin s c q) = FP.Core.assemble f s ((q - f.qmin).toNat + 1) (c - f.tails) := by
  show (if c < f.tails then _ else _) = _
  rw [if_neg h]
theorem ft_enc {f : FP.Core.Fmt} (hp : 1 ≤ f.p) (s : Bool) {num den : Nat} {e l : Int} (hn : 0 < num) (hd : 0 < den)
    (h1 : ft_P2 num den l) (h2 : ¬ ft_P2 num den (l + 1)) (hq : f.qmin ≤ l + e - ((f.p : Int) - 1)) (hq2 : l + e - ((f.p : Int) - 1) + 1 ≤ f.qmax) :
    ∃ c, FP.Core.encode f (FP.Core.roundRatio f s num den e) = s.toNat * f.exps * f.tails + ((l + e - ((f.p : Int) - 1) - f.qmin).toNat * f.tails + c) ∧ f.tails ≤ c ∧ c ≤ 2 * f.tails
      ∧ c = FP.Core.nearest (FP.Core.unitsNum num e (l + e - ((f.p : Int) - 1))) (FP.Core.unitsDen den e (l + e - ((f.p : Int) - 1))) := by
  have hl := ft_lead_eq hn hd h1 h2
  have hqq : FP.Core.quantum f num den e = l + e - ((f.p : Int) - 1) := by unfold FP.Core.quantum; rw [hl]; omega
  obtain ⟨q, eq⟩ : ∃ q, q = l + e - ((f.p : Int) - 1) := ⟨_, rfl⟩
  rw [← eq] at hq hq2 hqq ⊢
  refine ⟨_, ?_, ?_, ?_, rfl⟩
  rotate_left
  · have hm : l = (q - e) + ((f.p - 1 : Nat) : Int) := by omega
    have g1 : FP.Core.unitsDen den e q * f.tails ≤ FP.Core.unitsNum num e q := by
      rw [hm, ft_P2_shift] at h1
      unfold FP.Core.unitsDen FP.Core.unitsNum FP.Core.Fmt.tails
      have : (-(q - e)).toNat = (e - q).toNat := by omega
      rw [this] at h1
      exact h1
    have g2 : FP.Core.unitsNum num e q < FP.Core.unitsDen den e q * (2 * f.tails) := by
      have hm2 : l + 1 = (q - e) + ((f.p : Nat) : Int) := by omega
      rw [hm2, ft_P2_shift, Nat.not_le] at h2
      unfold FP.Core.unitsDen FP.Core.unitsNum FP.Core.Fmt.tails
      rw [← ft_pw f.p hp]
      have : (-(q - e)).toNat = (e - q).toNat := by omega
      rw [this] at h2
      exact h2
    exact (ft_nearest_bounds (Nat.mul_pos hd (Nat.pow_pos (by decide))) g1 g2).1
  · have g1 : FP.Core.unitsDen den e q * f.tails ≤ FP.Core.unitsNum num e q := by
      have hm : l = (q - e) + ((f.p - 1 : Nat) : Int) := by omega
      rw [hm, ft_P2_shift] at h1
      unfold FP.Core.unitsDen FP.Core.unitsNum FP.Core.Fmt.tails
      have : (-(q - e)).toNat = (e - q).toNat := by omega
      rw [this] at h1
      exact h1
    have g2 : FP.Core.unitsNum num e q < FP.Core.unitsDen den e q * (2 * f.tails) := by
      have hm2 : l + 1 = (q - e) + ((f.p : Nat) : Int) := by omega
      rw [hm2, ft_P2_shift, Nat.not_le] at h2
      unfold FP.Core.unitsDen FP.Core.unitsNum FP.Core.Fmt.tails
      rw [← ft_pw f.p hp]
      have : (-(q - e)).toNat = (e - q).toNat := by omega
      rw [this] at h2
      exact h2
    exact (ft_nearest_bounds (Nat.mul_pos hd (Nat.pow_pos (by decide))) g1 g2).2
  · have g1 : f.tails ≤ FP.Core.nearest (FP.Core.unitsNum num e q) (FP.Core.unitsDen den e q) ∧ FP.Core.nearest (FP.Core.unitsNum num e q) (FP.Core.unitsDen den e q) ≤ 2 * f.tails := by
      have hm : l = (q - e) + ((f.p - 1 : Nat) : Int) := by omega
      have hm2 : l + 1 = (q - e) + ((f.p : Nat) : Int) := by omega
      have ee : (-(q - e)).toNat = (e - q).toNat := by omega
      rw [hm, ft_P2_shift, ee] at h1
      rw [hm2, ft_P2_shift, ee, Nat.not_le] at h2
      refine ft_nearest_bounds (Nat.mul_pos hd (Nat.pow_pos (by decide))) h1 ?_
      unfold FP.Core.unitsDen FP.Core.unitsNum FP.Core.Fmt.tails
      rw [← ft_pw f.p hp]
      exact h2
    unfold FP.Core.roundRatio
    rw [if_neg (by omega)]
    unfold FP.Core.roundAt
    rw [hqq]
    obtain ⟨c, hc⟩ : ∃ c, c = FP.Core.nearest (FP.Core.unitsNum num e q) (FP.Core.unitsDen den e q) := ⟨_, rfl⟩
    rw [← hc] at g1 ⊢
    have hp2 := ft_pw f.p hp
    have ht : f.tails = 2 ^ (f.p - 1) := rfl
    unfold FP.Core.settle
    split
    · unfold FP.Core.bound
      rw [if_pos (by omega)]
      rw [ft_enc_fin (by omega)]
      unfold FP.Core.assemble
      rw [Nat.add_mul, Nat.add_mul, Nat.one_mul]
      omega
    · unfold FP.Core.bound
      rw [if_pos (by omega)]
      rw [ft_enc_fin (by omega)]
      unfold FP.Core.assemble
      have e3 : (q + 1 - f.qmin).toNat = (q - f.qmin).toNat + 1 := by omega
      rw [e3]
      simp only [Nat.add_mul, Nat.one_mul]
      omega
def ft_Gd (f : FP.Core.Fmt) : Prop := 2 ≤ f.p ∧ f.exps = 2 * f.emax + 2 ∧ f.p ≤ f.emax
theorem ft_gd32 : ft_Gd FP.Core.b32 := ⟨by decide, by decide, by decide⟩
theorem ft_gd64 : ft_Gd FP.Core.b64 := ⟨by decide, by decide, by decide⟩
theorem ft_tails_pos (f : FP.Core.Fmt) : 0 < f.tails := Nat.pow_pos (by decide)
theorem ft_dec_norm {f : FP.Core.Fmt} (g : ft_Gd f) (s : Bool) {E t : Nat} (ht : t < f.tails) (h1 : 1 ≤ E) (h2 : E ≤ 2 * f.emax) :
    FP.Core.decode f (s.toNat * f.exps * f.tails + (E * f.tails + t)) = .fin s (f.tails + t) (f.qmin + ((E : Int) - 1)) := by
  have hx := g.2.1
  have e0 : s.toNat * f.exps * f.tails + (E * f.tails + t) = (s.toNat * f.exps + E) * f.tails + t := by rw [Nat.add_mul]; omega
  have tp := ft_tails_pos f
  have e1 : ((s.toNat * f.exps + E) * f.tails + t) / f.tails = s.toNat * f.exps + E := by
    rw [Nat.mul_comm, Nat.mul_add_div tp, Nat.div_eq_of_lt ht]; rfl
  have e2 : ((s.toNat * f.exps + E) * f.tails + t) % f.tails = t := by
    rw [Nat.mul_comm, Nat.mul_add_mod, Nat.mod_eq_of_lt ht]
  have e3 : (s.toNat * f.exps + E) % f.exps = E := by
    rw [Nat.mul_comm, Nat.mul_add_mod, Nat.mod_eq_of_lt (by omega)]
  have e4 : (s.toNat * f.exps + E) / f.exps = s.toNat := by
    rw [Nat.mul_comm, Nat.mul_add_div (by omega), Nat.div_eq_of_lt (by omega)]; rfl
  have e5 : (s.toNat % 2 == 1) = s := by cases s <;> rfl
  rw [e0]
  unfold FP.Core.decode FP.Core.fieldE FP.Core.fieldT FP.Core.fieldS
  rw [e1, e2, e3, e4, e5]
  rw [if_neg (by omega), if_neg (by omega)]
theorem ft_dec_pos {f : FP.Core.Fmt} (g : ft_Gd f) {E t : Nat} (ht : t < f.tails) (h1 : 1 ≤ E) (h2 : E ≤ 2 * f.emax) :
    FP.Core.decode f (E * f.tails + t) = .fin false (f.tails + t) (f.qmin + ((E : Int) - 1)) := by
  have h := ft_dec_norm g false ht h1 h2
  rw [show false.toNat = 0 from rfl, Nat.zero_mul, Nat.zero_mul, Nat.zero_add] at h
  exact h
theorem ft_dec_zero {f : FP.Core.Fmt} (g : ft_Gd f) : FP.Core.decode f 0 = .fin false 0 f.qmin := by
  have hx := g.2.1
  unfold FP.Core.decode FP.Core.fieldE FP.Core.fieldT FP.Core.fieldS
  rw [Nat.zero_div, Nat.zero_mod, Nat.zero_mod, if_neg (by omega), if_pos rfl]
  rw [Nat.zero_div]
  rfl
def ft_ZN (f : FP.Core.Fmt) (lo hi : Nat) (n : Nat) : Prop := n = 0 ∨ (lo * f.tails ≤ n ∧ n ≤ hi * f.tails)
def ft_ZD (f : FP.Core.Fmt) (lo hi : Nat) (d : FP.Core.Datum) : Prop := ∃ c q, d = .fin false c q ∧ (c = 0 ∨ f.tails ≤ c) ∧ c < 2 * f.tails ∧ (c = 0 ∨ f.qmin + ((lo : Int) - 1) ≤ q) ∧ f.qmin ≤ q ∧ q ≤ f.qmin + ((hi : Int) - 1)
theorem ft_zd_of {f : FP.Core.Fmt} (g : ft_Gd f) {lo hi n : Nat} (h : ft_ZN f lo hi n) (h1 : 1 ≤ lo) (h2 : hi ≤ 2 * f.emax) (h3 : 1 ≤ hi) : ft_ZD f lo hi (FP.Core.decode f n) := by
  have tp := ft_tails_pos f
  rcases h with h | ⟨ha, hb⟩
  · rw [h, ft_dec_zero g]
    exact ⟨0, _, rfl, Or.inl rfl, by omega, Or.inl rfl, by omega, by omega⟩
  · have e : n = n / f.tails * f.tails + n % f.tails := by rw [Nat.mul_comm]; exact (Nat.div_add_mod _ _).symm
    have m := Nat.mod_lt n tp
    have l1 : lo ≤ n / f.tails := (Nat.le_div_iff_mul_le tp).mpr ha
    have l2 : n / f.tails ≤ hi := by
      have := Nat.div_le_div_right (c := f.tails) hb
      rwa [Nat.mul_div_cancel _ tp] at this
    rw [e, ft_dec_pos g m (by omega) (by omega)]
    exact ⟨_, _, rfl, Or.inr (by omega), by omega, Or.inr (by omega), by omega, by omega⟩
theorem ft_P2_one {num k : Nat} {j : Int} (h : 2 ^ k ≤ num) (hj : j ≤ k) : ft_P2 num 1 j := by
  refine ft_P2_anti (k := (k : Int)) ?_ hj
  unfold ft_P2
  have e1 : (-(k : Int)).toNat = 0 := by omega
  rw [Int.toNat_natCast, e1, Nat.pow_zero, Nat.mul_one, Nat.one_mul]
  exact h
theorem ft_nP2_one {num k : Nat} {j : Int} (h : num < 2 ^ k) (hj : (k : Int) ≤ j) : ¬ ft_P2 num 1 j := by
  intro h2
  have h3 := ft_P2_anti h2 hj
  unfold ft_P2 at h3
  have e1 : (-(k : Int)).toNat = 0 := by omega
  rw [Int.toNat_natCast, e1, Nat.pow_zero, Nat.mul_one, Nat.one_mul] at h3
  omega
theorem ft_enc_zero {f : FP.Core.Fmt} (s : Bool) : FP.Core.encode f (.fin s 0 f.qmin) = FP.Core.assemble f s 0 0 := by
  show (if 0 < f.tails then _ else _) = _
  rw [if_pos (ft_tails_pos f)]
theorem ft_mag {f : FP.Core.Fmt} (g : ft_Gd f) {lo hi num den : Nat} {e : Int} (hd : 0 < den) (h1 : 1 ≤ lo) (h2 : hi ≤ 2 * f.emax)
    (h : num = 0 ∨ (ft_P2 num den ((lo : Int) - f.emax - e) ∧ ¬ ft_P2 num den ((hi : Int) - f.emax - e))) :
    ft_ZN f lo hi (FP.Core.encode f (FP.Core.roundRatio f false num den e)) := by
  by_cases hz : num = 0
  · left
    rw [hz]
    show FP.Core.encode f (.fin false 0 f.qmin) = 0
    rw [ft_enc_zero]
    unfold FP.Core.assemble
    simp
  · right
    have hn : 0 < num := by omega
    obtain ⟨a, b⟩ := h.resolve_left hz
    obtain ⟨l1, l2⟩ := ft_P2_lead hn hd
    have m1 := ft_P2_lt a l2
    have m2 := ft_P2_lt l1 b
    have hp := g.1
    have qm : f.qmin = 2 - (f.emax : Int) - (f.p : Int) := rfl
    have qx : f.qmax = (f.emax : Int) - (f.p : Int) + 1 := rfl
    obtain ⟨c, hc, c1, c2, -⟩ := ft_enc (f := f) (by omega) false hn hd l1 l2 (e := e) (by omega) (by omega)
    rw [show false.toNat = 0 from rfl, Nat.zero_mul, Nat.zero_mul, Nat.zero_add] at hc
    rw [hc]
    have q1 : lo - 1 ≤ (FP.Core.leading num den + e - ((f.p : Int) - 1) - f.qmin).toNat := by omega
    have q2 : (FP.Core.leading num den + e - ((f.p : Int) - 1) - f.qmin).toNat + 2 ≤ hi := by omega
    have r1 := Nat.mul_le_mul_right f.tails q1
    have r2 := Nat.mul_le_mul_right f.tails q2
    rw [Nat.add_mul] at r2
    have r3 : lo * f.tails = (lo - 1) * f.tails + f.tails := by
      obtain ⟨k, rfl⟩ : ∃ k, lo = k + 1 := ⟨lo - 1, by omega⟩
      rw [Nat.add_mul, Nat.one_mul]; rfl
    omega
theorem ft_zsum {f : FP.Core.Fmt} (g : ft_Gd f) {lo hi : Nat} {x y : FP.Core.Datum} (hx : ft_ZD f lo hi x) (hy : ft_ZD f lo hi y) (h1 : 1 ≤ lo) (h2 : hi + 2 ≤ 2 * f.emax) :
    ft_ZN f lo (hi + 2) (FP.Core.encode f (FP.Core.round f (FP.Core.exactSum x y))) := by
  obtain ⟨c, q, rfl, cz, cu, ql, qq, qu⟩ := hx
  obtain ⟨d, r, rfl, dz, du, rl, rr, ru⟩ := hy
  have hp := g.1
  have qm : f.qmin = 2 - (f.emax : Int) - (f.p : Int) := rfl
  have ht : f.tails = 2 ^ (f.p - 1) := rfl
  have ht2 := ft_pw f.p (by omega)
  have e1 : FP.Core.exactSum (.fin false c q) (.fin false d r) = .fin false (c * 2 ^ (q - min q r).toNat + d * 2 ^ (r - min q r).toNat) (min q r) := by
    show FP.Core.Datum.fin (FP.Core.sumSign false false (FP.Core.sumUnits false c q false d r (min q r))) (FP.Core.sumUnits false c q false d r (min q r)).natAbs (min q r) = _
    have e2 : FP.Core.sumUnits false c q false d r (min q r) = ((c * 2 ^ (q - min q r).toNat + d * 2 ^ (r - min q r).toNat : Nat) : Int) := by
      show (if false = true then _ else ((FP.Core.inUnits c q (min q r) : Nat) : Int)) + (if false = true then _ else ((FP.Core.inUnits d r (min q r) : Nat) : Int)) = _
      rw [if_neg (by decide), if_neg (by decide)]
      unfold FP.Core.inUnits
      rw [Int.natCast_add]
    rw [e2, Int.natAbs_natCast]
    have e3 : FP.Core.sumSign false false ((c * 2 ^ (q - min q r).toNat + d * 2 ^ (r - min q r).toNat : Nat) : Int) = false := by
      unfold FP.Core.sumSign
      split
      · rfl
      · rw [decide_eq_false_iff_not]; omega
    rw [e3]
  rw [e1]
  show ft_ZN f lo (hi + 2) (FP.Core.encode f (FP.Core.roundRatio f false _ 1 _))
  refine ft_mag g (by decide) h1 h2 ?_
  obtain ⟨e, he⟩ : ∃ e, e = min q r := ⟨_, rfl⟩
  rw [← he]
  have pos : ∀ k, 0 < 2 ^ k := fun k => Nat.pow_pos (by decide)
  by_cases hz : c = 0 ∧ d = 0
  · left; rw [hz.1, hz.2]; simp
  · right
    constructor
    · by_cases hc : c = 0
      · have hd : d ≠ 0 := fun h => hz ⟨hc, h⟩
        have d1 := dz.resolve_left hd
        have d2 := rl.resolve_left hd
        refine ft_P2_one (k := f.p - 1 + (r - e).toNat) ?_ (by omega)
        rw [Nat.pow_add, ← ht]
        exact Nat.le_trans (Nat.mul_le_mul_right _ d1) (Nat.le_add_left _ _)
      · have c1 := cz.resolve_left hc
        have c2 := ql.resolve_left hc
        refine ft_P2_one (k := f.p - 1 + (q - e).toNat) ?_ (by omega)
        rw [Nat.pow_add, ← ht]
        exact Nat.le_trans (Nat.mul_le_mul_right _ c1) (Nat.le_add_right _ _)
    · obtain ⟨Q, hQ⟩ : ∃ Q : Int, Q = f.qmin + ((hi : Int) - 1) := ⟨_, rfl⟩
      refine ft_nP2_one (k := f.p + (Q - e).toNat + 1) ?_ (by omega)
      rw [Nat.pow_succ, Nat.mul_two]
      have k1 : c * 2 ^ (q - e).toNat < 2 ^ (f.p + (Q - e).toNat) := by
        rw [Nat.pow_add]
        exact Nat.mul_lt_mul_of_lt_of_le (by omega) (Nat.pow_le_pow_right (by decide) (by omega)) (pos _)
      have k2 : d * 2 ^ (r - e).toNat < 2 ^ (f.p + (Q - e).toNat) := by
        rw [Nat.pow_add]
        exact Nat.mul_lt_mul_of_lt_of_le (by omega) (Nat.pow_le_pow_right (by decide) (by omega)) (pos _)
      omega
theorem ft_zprod {f : FP.Core.Fmt} (g : ft_Gd f) {lo hi lo2 hi2 lo' hi' : Nat} {x y : FP.Core.Datum} (hx : ft_ZD f lo hi x) (hy : ft_ZD f lo2 hi2 y) (h1 : 1 ≤ lo') (h2 : hi' ≤ 2 * f.emax)
    (hl : lo' + f.emax ≤ lo + lo2) (hh : hi + hi2 + 2 ≤ hi' + f.emax) :
    ft_ZN f lo' hi' (FP.Core.encode f (FP.Core.round f (FP.Core.exactProduct x y))) := by
  obtain ⟨c, q, rfl, cz, cu, ql, qq, qu⟩ := hx
  obtain ⟨d, r, rfl, dz, du, rl, rr, ru⟩ := hy
  have hp := g.1
  have qm : f.qmin = 2 - (f.emax : Int) - (f.p : Int) := rfl
  have ht : f.tails = 2 ^ (f.p - 1) := rfl
  have ht2 := ft_pw f.p (by omega)
  show ft_ZN f lo' hi' (FP.Core.encode f (FP.Core.roundRatio f false (c * d) 1 (q + r)))
  refine ft_mag g (by decide) h1 h2 ?_
  by_cases hc : c = 0
  · left; rw [hc, Nat.zero_mul]
  · by_cases hd : d = 0
    · left; rw [hd, Nat.mul_zero]
    · right
      have c1 := cz.resolve_left hc
      have c2 := ql.resolve_left hc
      have d1 := dz.resolve_left hd
      have d2 := rl.resolve_left hd
      constructor
      · refine ft_P2_one (k := (f.p - 1) + (f.p - 1)) ?_ (by omega)
        rw [Nat.pow_add, ← ht]
        exact Nat.mul_le_mul c1 d1
      · refine ft_nP2_one (k := f.p + f.p) ?_ (by omega)
        rw [Nat.pow_add]
        exact Nat.mul_lt_mul_of_lt_of_le (by omega) (by omega) (by omega)
theorem ft_zquot {f : FP.Core.Fmt} (g : ft_Gd f) {lo hi E t lo' hi' : Nat} {x : FP.Core.Datum} (hx : ft_ZD f lo hi x) (ht0 : t < f.tails) (hE : 1 ≤ E) (hE2 : E ≤ 2 * f.emax) (h1 : 1 ≤ lo') (h2 : hi' ≤ 2 * f.emax)
    (hl : lo' + E + 1 ≤ lo + f.emax) (hh : hi + f.emax + 1 ≤ hi' + E) :
    ft_ZN f lo' hi' (FP.Core.encode f (FP.Core.quotient f x (FP.Core.decode f (E * f.tails + t)))) := by
  rw [ft_dec_pos g ht0 hE hE2]
  obtain ⟨c, q, rfl, cz, cu, ql, qq, qu⟩ := hx
  have hp := g.1
  have qm : f.qmin = 2 - (f.emax : Int) - (f.p : Int) := rfl
  have tp := ft_tails_pos f
  have e : FP.Core.quotient f (.fin false c q) (.fin false (f.tails + t) (f.qmin + ((E : Int) - 1))) = FP.Core.roundRatio f false c (f.tails + t) (q - (f.qmin + ((E : Int) - 1))) := by
    show (if f.tails + t = 0 then _ else _) = _
    rw [if_neg (by omega)]
    rfl
  rw [e]
  refine ft_mag g (by omega) h1 h2 ?_
  by_cases hc : c = 0
  · left; exact hc
  · right
    have c1 := cz.resolve_left hc
    have c2 := ql.resolve_left hc
    constructor
    · refine ft_P2_anti (k := -1) ?_ (by omega)
      unfold ft_P2
      simp
      omega
    · intro h3
      have h4 : ft_P2 c (f.tails + t) 1 := ft_P2_anti h3 (by omega)
      unfold ft_P2 at h4
      simp at h4
      omega
theorem ft_zint {f : FP.Core.Fmt} (g : ft_Gd f) {a k hi : Nat} (ha : a < 2 ^ k) (hh : f.emax + k ≤ hi) (h2 : hi ≤ 2 * f.emax) :
    ft_ZN f f.emax hi (FP.Core.fromInt f (a : Int)) := by
  have he := g.2.2
  have hp := g.1
  unfold FP.Core.fromInt FP.Core.ofInt
  have e1 : decide ((a : Int) < 0) = false := by rw [decide_eq_false_iff_not]; omega
  rw [e1, Int.natAbs_natCast]
  show ft_ZN f f.emax hi (FP.Core.encode f (FP.Core.roundRatio f false a 1 0))
  refine ft_mag g (by decide) (by omega) h2 ?_
  by_cases hz : a = 0
  · left; exact hz
  · right
    exact ⟨ft_P2_one (k := 0) (by omega) (by omega), ft_nP2_one ha (by omega)⟩
theorem ft_lead_pow {num k : Nat} (h1 : 2 ^ k ≤ num) (h2 : num < 2 ^ (k + 1)) : ft_P2 num 1 (k : Int) ∧ ¬ ft_P2 num 1 ((k : Int) + 1) :=
  ⟨ft_P2_one h1 (by omega), ft_nP2_one h2 (by omega)⟩
theorem ft_sq_lt {f : FP.Core.Fmt} {c : Nat} (h : c < 2 * f.tails) : c * f.tails < 2 ^ (f.p - 1 + (f.p - 1) + 1) := by
  rw [Nat.pow_succ, Nat.pow_add]
  show _ < f.tails * f.tails * 2
  have := (Nat.mul_lt_mul_right (ft_tails_pos f)).mpr h
  rw [Nat.mul_assoc 2, Nat.mul_comm 2] at this
  exact this
theorem ft_half {f : FP.Core.Fmt} (g : ft_Gd f) {E t : Nat} (ht0 : t < f.tails) (h1 : 2 ≤ E) (h2 : E ≤ 2 * f.emax) :
    FP.Core.encode f (FP.Core.quotient f (FP.Core.decode f (E * f.tails + t)) (FP.Core.decode f ((f.emax + 1) * f.tails))) = (E - 1) * f.tails + t := by
  have hp := g.1
  have he := g.2.2
  have tp := ft_tails_pos f
  have qm : f.qmin = 2 - (f.emax : Int) - (f.p : Int) := rfl
  have qx : f.qmax = (f.emax : Int) - (f.p : Int) + 1 := rfl
  have d2 := ft_dec_pos g (E := f.emax + 1) (t := 0) tp (by omega) (by omega)
  simp only [Nat.add_zero] at d2
  rw [d2, ft_dec_pos g ht0 (by omega) h2]
  obtain ⟨e, he2⟩ : ∃ e : Int, e = f.qmin + ((E : Int) - 1) - (f.qmin + (((f.emax + 1 : Nat) : Int) - 1)) := ⟨_, rfl⟩
  have e1 : FP.Core.quotient f (.fin false (f.tails + t) (f.qmin + ((E : Int) - 1))) (.fin false f.tails (f.qmin + (((f.emax + 1 : Nat) : Int) - 1))) = FP.Core.roundRatio f false (f.tails + t) f.tails e := by
    rw [he2]
    show (if f.tails = 0 then _ else _) = _
    rw [if_neg (by omega)]
    rfl
  rw [e1]
  have l1 : ft_P2 (f.tails + t) f.tails 0 := by unfold ft_P2; simp
  have l2 : ¬ ft_P2 (f.tails + t) f.tails (0 + 1) := by unfold ft_P2; simp; omega
  obtain ⟨c, hc, -, -, c3⟩ := ft_enc (f := f) (by omega) false (by omega) tp l1 l2 (e := e) (by omega) (by omega)
  rw [show false.toNat = 0 from rfl, Nat.zero_mul, Nat.zero_mul, Nat.zero_add] at hc
  rw [hc]
  have u1 : FP.Core.unitsNum (f.tails + t) e (0 + e - ((f.p : Int) - 1)) = (f.tails + t) * f.tails := by
    unfold FP.Core.unitsNum
    have : (e - (0 + e - ((f.p : Int) - 1))).toNat = f.p - 1 := by omega
    rw [this]; rfl
  have u2 : FP.Core.unitsDen f.tails e (0 + e - ((f.p : Int) - 1)) = f.tails := by
    unfold FP.Core.unitsDen
    have : (0 + e - ((f.p : Int) - 1) - e).toNat = 0 := by omega
    rw [this, Nat.pow_zero, Nat.mul_one]
  rw [u1, u2, ft_nearest_mul _ _ tp] at c3
  have u3 : (0 + e - ((f.p : Int) - 1) - f.qmin).toNat = E - 2 := by omega
  rw [c3, u3]
  obtain ⟨k, rfl⟩ : ∃ k, E = k + 2 := ⟨E - 2, by omega⟩
  have : k + 2 - 1 = k + 1 := by omega
  rw [this, Nat.add_mul]
  have : k + 2 - 2 = k := by omega
  rw [this]
  omega
theorem ft_twice {f : FP.Core.Fmt} (g : ft_Gd f) {E t : Nat} (ht0 : t < f.tails) (h1 : 1 ≤ E) (h2 : E + 2 ≤ 2 * f.emax) :
    FP.Core.encode f (FP.Core.round f (FP.Core.exactProduct (FP.Core.decode f (E * f.tails + t)) (FP.Core.decode f ((f.emax + 1) * f.tails)))) = (E + 1) * f.tails + t := by
  have hp := g.1
  have he := g.2.2
  have tp := ft_tails_pos f
  have ht : f.tails = 2 ^ (f.p - 1) := rfl
  have ht2 := ft_pw f.p (by omega)
  have qm : f.qmin = 2 - (f.emax : Int) - (f.p : Int) := rfl
  have qx : f.qmax = (f.emax : Int) - (f.p : Int) + 1 := rfl
  have d2 := ft_dec_pos g (E := f.emax + 1) (t := 0) tp (by omega) (by omega)
  simp only [Nat.add_zero] at d2
  rw [d2, ft_dec_pos g ht0 h1 (by omega)]
  obtain ⟨e, he2⟩ : ∃ e : Int, e = f.qmin + ((E : Int) - 1) + (f.qmin + (((f.emax + 1 : Nat) : Int) - 1)) := ⟨_, rfl⟩
  show FP.Core.encode f (FP.Core.roundRatio f false ((f.tails + t) * f.tails) 1 (f.qmin + ((E : Int) - 1) + (f.qmin + (((f.emax + 1 : Nat) : Int) - 1)))) = _
  rw [← he2]
  obtain ⟨l1, l2⟩ := ft_lead_pow (num := (f.tails + t) * f.tails) (k := (f.p - 1) + (f.p - 1)) (by rw [Nat.pow_add, ← ht]; exact Nat.mul_le_mul_right _ (Nat.le_add_right _ _))
    (ft_sq_lt (c := f.tails + t) (by omega))
  obtain ⟨c, hc, -, -, c3⟩ := ft_enc (f := f) (by omega) false (Nat.mul_pos (by omega) tp) (by decide) l1 l2 (e := e) (by omega) (by omega)
  rw [show false.toNat = 0 from rfl, Nat.zero_mul, Nat.zero_mul, Nat.zero_add] at hc
  rw [hc]
  obtain ⟨Q, hQ⟩ : ∃ Q : Int, Q = ((f.p - 1 + (f.p - 1) : Nat) : Int) + e - ((f.p : Int) - 1) := ⟨_, rfl⟩
  rw [← hQ] at c3 ⊢
  have u1 : FP.Core.unitsNum ((f.tails + t) * f.tails) e Q = (f.tails + t) * f.tails := by
    unfold FP.Core.unitsNum
    have : (e - Q).toNat = 0 := by omega
    rw [this, Nat.pow_zero, Nat.mul_one]
  have u2 : FP.Core.unitsDen 1 e Q = f.tails := by
    unfold FP.Core.unitsDen
    have : (Q - e).toNat = f.p - 1 := by omega
    rw [this, Nat.one_mul]; rfl
  rw [u1, u2, ft_nearest_mul _ _ tp] at c3
  have u3 : (Q - f.qmin).toNat = E := by omega
  rw [c3, u3, Nat.add_mul]
  omega
theorem ft_frac {f : FP.Core.Fmt} (g : ft_Gd f) {t : Nat} (ht0 : t < f.tails) :
    ∃ n m, FP.Core.encode f (FP.Core.round f (FP.Core.exactSum (FP.Core.decode f (f.emax * f.tails + t)) (FP.Core.negate (FP.Core.decode f (f.emax * f.tails))))) = n
      ∧ n ≤ (2 * f.emax) * f.tails
      ∧ FP.Core.encode f (FP.Core.round f (FP.Core.exactProduct (FP.Core.decode f n) (FP.Core.decode f ((f.emax + (f.p - 1)) * f.tails)))) = m ∧ m ≤ (2 * f.emax) * f.tails
      ∧ ∃ q, FP.Core.decode f m = .fin false (t * 2 ^ (-q : Int).toNat) q ∧ q ≤ 0 := by
  have hp := g.1
  have he := g.2.2
  have tp := ft_tails_pos f
  have ht : f.tails = 2 ^ (f.p - 1) := rfl
  have ht2 := ft_pw f.p (by omega)
  have qm : f.qmin = 2 - (f.emax : Int) - (f.p : Int) := rfl
  have qx : f.qmax = (f.emax : Int) - (f.p : Int) + 1 := rfl
  have d1 := ft_dec_pos g (E := f.emax) (t := 0) tp (by omega) (by omega)
  simp only [Nat.add_zero] at d1
  have d8 := ft_dec_pos g (E := f.emax + (f.p - 1)) (t := 0) tp (by omega) (by omega)
  simp only [Nat.add_zero] at d8
  rw [d1, ft_dec_pos g ht0 (by omega) (by omega), d8]
  obtain ⟨e, he2⟩ : ∃ e : Int, e = f.qmin + ((f.emax : Int) - 1) := ⟨_, rfl⟩
  rw [← he2]
  have s1 : FP.Core.exactSum (.fin false (f.tails + t) e) (FP.Core.negate (.fin false f.tails e)) = .fin false t e := by
    show FP.Core.Datum.fin (FP.Core.sumSign false true (FP.Core.sumUnits false (f.tails + t) e true f.tails e (min e e))) (FP.Core.sumUnits false (f.tails + t) e true f.tails e (min e e)).natAbs (min e e) = _
    have e2 : FP.Core.sumUnits false (f.tails + t) e true f.tails e (min e e) = (t : Int) := by
      show (if false = true then _ else ((FP.Core.inUnits (f.tails + t) e (min e e) : Nat) : Int)) + (if true = true then -((FP.Core.inUnits f.tails e (min e e) : Nat) : Int) else _) = _
      rw [if_neg (by decide), if_pos rfl]
      unfold FP.Core.inUnits
      have : (e - min e e).toNat = 0 := by omega
      rw [this, Nat.pow_zero, Nat.mul_one, Nat.mul_one]
      omega
    rw [e2, Int.natAbs_natCast, show min e e = e by omega]
    have e3 : FP.Core.sumSign false true (t : Int) = false := by
      unfold FP.Core.sumSign
      split
      · rfl
      · rw [decide_eq_false_iff_not]; omega
    rw [e3]
  rw [s1]
  by_cases hz : t = 0
  · have a0 : FP.Core.assemble f false 0 0 = 0 := by unfold FP.Core.assemble; simp
    refine ⟨0, 0, ?_, Nat.zero_le _, ?_, Nat.zero_le _, f.qmin, ?_, by omega⟩
    · rw [hz]
      show FP.Core.encode f (.fin false 0 f.qmin) = 0
      rw [ft_enc_zero]; exact a0
    · rw [ft_dec_zero g]
      show (FP.Core.encode f (FP.Core.roundRatio f false (0 * f.tails) 1 _)) = _
      rw [Nat.zero_mul]
      show (FP.Core.encode f (.fin false 0 f.qmin)) = _
      rw [ft_enc_zero]; exact a0
    · rw [hz, Nat.zero_mul, ft_dec_zero g]
  · have hn : 0 < t := by omega
    obtain ⟨k, hk⟩ : ∃ k, k = t.log2 := ⟨_, rfl⟩
    have k1 : 2 ^ k ≤ t := by rw [hk]; exact Nat.log2_self_le (by omega)
    have k2 : t < 2 ^ (k + 1) := by rw [hk]; exact Nat.lt_log2_self
    have k3 : k < f.p - 1 := by
      rcases Nat.lt_or_ge k (f.p - 1) with h | h
      · exact h
      · have := Nat.pow_le_pow_right (n := 2) (by decide) h
        omega
    obtain ⟨l1, l2⟩ := ft_lead_pow k1 k2
    obtain ⟨c, hc, c1, c2, c3⟩ := ft_enc (f := f) (by omega) false hn (by decide) l1 l2 (e := e) (by omega) (by omega)
    rw [show false.toNat = 0 from rfl, Nat.zero_mul, Nat.zero_mul, Nat.zero_add] at hc
    obtain ⟨Q, hQ⟩ : ∃ Q : Int, Q = (k : Int) + e - ((f.p : Int) - 1) := ⟨_, rfl⟩
    rw [← hQ] at c3 hc
    have u1 : FP.Core.unitsNum t e Q = t * 2 ^ (f.p - 1 - k) := by
      unfold FP.Core.unitsNum
      have : (e - Q).toNat = f.p - 1 - k := by omega
      rw [this]
    have u2 : FP.Core.unitsDen 1 e Q = 1 := by
      unfold FP.Core.unitsDen
      have : (Q - e).toNat = 0 := by omega
      rw [this]
    rw [u1, u2, ft_nearest_one] at c3
    have c4 : c < 2 * f.tails := by
      rw [c3, ht]
      have : 2 * 2 ^ (f.p - 1) = 2 ^ (k + 1) * 2 ^ (f.p - 1 - k) := by
        rw [← Nat.pow_add, show k + 1 + (f.p - 1 - k) = f.p by omega, ← ht2]
      rw [this]
      exact (Nat.mul_lt_mul_right (Nat.pow_pos (by decide))).mpr k2
    have u3 : (Q - f.qmin).toNat = k + f.emax - (f.p - 1) - 1 := by omega
    obtain ⟨u, hu⟩ : ∃ u, c = f.tails + u := ⟨c - f.tails, by omega⟩
    have n1 : (Q - f.qmin).toNat * f.tails + c = (k + f.emax - (f.p - 1)) * f.tails + u := by
      rw [u3, hu]
      obtain ⟨z, hz⟩ : ∃ z, k + f.emax - (f.p - 1) = z + 1 := ⟨k + f.emax - (f.p - 1) - 1, by omega⟩
      rw [hz, Nat.add_sub_cancel, Nat.add_mul]; omega
    refine ⟨(k + f.emax - (f.p - 1)) * f.tails + u, (k + f.emax) * f.tails + u, by rw [← n1, ← hc]; rfl, ?_, ?_⟩
    · have := Nat.mul_le_mul_right f.tails (show k + f.emax - (f.p - 1) + 1 ≤ 2 * f.emax by omega)
      rw [Nat.add_mul, Nat.one_mul] at this
      omega
    rw [ft_dec_pos g (E := k + f.emax - (f.p - 1)) (by omega) (by omega) (by omega), ← hu]
    have q1 : f.qmin + (((k + f.emax - (f.p - 1) : Nat) : Int) - 1) = Q := by omega
    rw [q1]
    obtain ⟨e', he'⟩ : ∃ e' : Int, e' = Q + (f.qmin + (((f.emax + (f.p - 1) : Nat) : Int) - 1)) := ⟨_, rfl⟩
    show FP.Core.encode f (FP.Core.roundRatio f false (c * f.tails) 1 (Q + (f.qmin + (((f.emax + (f.p - 1) : Nat) : Int) - 1)))) = _ ∧ _
    rw [← he']
    obtain ⟨m1, m2⟩ := ft_lead_pow (num := c * f.tails) (k := (f.p - 1) + (f.p - 1)) (by rw [Nat.pow_add, ← ht]; exact Nat.mul_le_mul_right _ c1)
      (ft_sq_lt (by omega))
    obtain ⟨d, hd, b1, b2, b3⟩ := ft_enc (f := f) (by omega) false (Nat.mul_pos (by omega) tp) (by decide) m1 m2 (e := e') (by omega) (by omega)
    rw [show false.toNat = 0 from rfl, Nat.zero_mul, Nat.zero_mul, Nat.zero_add] at hd
    obtain ⟨R, hR⟩ : ∃ R : Int, R = ((f.p - 1 + (f.p - 1) : Nat) : Int) + e' - ((f.p : Int) - 1) := ⟨_, rfl⟩
    rw [← hR] at b3 hd
    have v1 : FP.Core.unitsNum (c * f.tails) e' R = c * f.tails := by
      unfold FP.Core.unitsNum
      have : (e' - R).toNat = 0 := by omega
      rw [this, Nat.pow_zero, Nat.mul_one]
    have v2 : FP.Core.unitsDen 1 e' R = f.tails := by
      unfold FP.Core.unitsDen
      have : (R - e').toNat = f.p - 1 := by omega
      rw [this, Nat.one_mul]; rfl
    rw [v1, v2, ft_nearest_mul _ _ tp] at b3
    have v3 : (R - f.qmin).toNat = k + f.emax - 1 := by omega
    have n2 : (R - f.qmin).toNat * f.tails + d = (k + f.emax) * f.tails + u := by
      rw [v3, b3, hu]
      obtain ⟨z, hz⟩ : ∃ z, k + f.emax = z + 1 := ⟨k + f.emax - 1, by omega⟩
      rw [hz, Nat.add_sub_cancel, Nat.add_mul]; omega
    refine ⟨by rw [hd, n2], ?_, ?_⟩
    · have := Nat.mul_le_mul_right f.tails (show k + f.emax + 1 ≤ 2 * f.emax by omega)
      rw [Nat.add_mul (k + f.emax), Nat.one_mul] at this
      omega
    rw [ft_dec_pos g (by omega) (by omega) (by omega), ← hu, c3]
    refine ⟨f.qmin + (((k + f.emax : Nat) : Int) - 1), ?_, by omega⟩
    have : (-(f.qmin + (((k + f.emax : Nat) : Int) - 1))).toNat = f.p - 1 - k := by omega
    rw [this]
theorem ft_trunc_of {t : Nat} {q : Int} (hq : q ≤ 0) : FP.Core.truncate false (t * 2 ^ (-q : Int).toNat) q = (t : Int) := by
  show (if false = true then -((t * 2 ^ (-q : Int).toNat * 2 ^ q.toNat / 2 ^ (-q).toNat : Nat) : Int) else ((t * 2 ^ (-q : Int).toNat * 2 ^ q.toNat / 2 ^ (-q).toNat : Nat) : Int)) = _
  rw [if_neg (by decide)]
  have : q.toNat = 0 := by omega
  rw [this, Nat.pow_zero, Nat.mul_one, Nat.mul_div_cancel _ (Nat.pow_pos (by decide))]
theorem ft_cmp_pow {f : FP.Core.Fmt} (g : ft_Gd f) {E t F : Nat} (ht0 : t < f.tails) (h1 : 1 ≤ E) (h2 : E ≤ 2 * f.emax) (h3 : 1 ≤ F) (h4 : F ≤ 2 * f.emax) :
    FP.Core.cmp f (E * f.tails + t) (F * f.tails) = some (if E < F then .lt else if E = F ∧ t = 0 then .eq else .gt) := by
  have tp := ft_tails_pos f
  have d1 := ft_dec_pos g (E := F) (t := 0) tp h3 h4
  simp only [Nat.add_zero] at d1
  unfold FP.Core.cmp
  rw [ft_dec_pos g ht0 h1 h2, d1]
  show some (compare (if false = true then _ else ((FP.Core.inUnits (f.tails + t) _ _ : Nat) : Int)) (if false = true then _ else ((FP.Core.inUnits f.tails _ _ : Nat) : Int))) = _
  rw [if_neg (by decide), if_neg (by decide)]
  unfold FP.Core.inUnits
  obtain ⟨a, ha⟩ : ∃ a, a = (f.qmin + ((E : Int) - 1) - min (f.qmin + ((E : Int) - 1)) (f.qmin + ((F : Int) - 1))).toNat := ⟨_, rfl⟩
  obtain ⟨b, hb⟩ : ∃ b, b = (f.qmin + ((F : Int) - 1) - min (f.qmin + ((E : Int) - 1)) (f.qmin + ((F : Int) - 1))).toNat := ⟨_, rfl⟩
  rw [← ha, ← hb]
  congr 1
  rcases Nat.lt_trichotomy E F with h | h | h
  · rw [if_pos h]
    have a0 : a = 0 := by omega
    have b0 : b = (b - 1) + 1 := by omega
    rw [a0, b0, Nat.pow_zero, Nat.mul_one, Nat.pow_succ]
    rw [Int.compare_eq_lt]
    have : f.tails * 1 ≤ f.tails * 2 ^ (b - 1) := Nat.mul_le_mul_left _ (Nat.pow_pos (by decide))
    rw [← Nat.mul_assoc]
    omega
  · rw [if_neg (by omega)]
    have a0 : a = 0 := by omega
    have b0 : b = 0 := by omega
    rw [a0, b0, Nat.pow_zero, Nat.mul_one, Nat.mul_one]
    by_cases hz : t = 0
    · rw [if_pos ⟨h, hz⟩, hz, Int.compare_eq_eq]; rfl
    · rw [if_neg (by omega), Int.compare_eq_gt]; omega
  · rw [if_neg (by omega), if_neg (by omega)]
    have b0 : b = 0 := by omega
    have a0 : a = (a - 1) + 1 := by omega
    rw [b0, a0, Nat.pow_zero, Nat.mul_one, Nat.pow_succ]
    rw [Int.compare_eq_gt]
    have : (f.tails + t) * 1 ≤ (f.tails + t) * 2 ^ (a - 1) := Nat.mul_le_mul_left _ (Nat.pow_pos (by decide))
    rw [← Nat.mul_assoc]
    omega
theorem ft_cmp_zero {f : FP.Core.Fmt} (g : ft_Gd f) {E t : Nat} (ht0 : t < f.tails) (h1 : 1 ≤ E) (h2 : E ≤ 2 * f.emax) :
    FP.Core.cmp f (E * f.tails + t) 0 = some .gt := by
  have tp := ft_tails_pos f
  unfold FP.Core.cmp
  rw [ft_dec_pos g ht0 h1 h2, ft_dec_zero g]
  show some (compare (if false = true then _ else ((FP.Core.inUnits (f.tails + t) _ _ : Nat) : Int)) (if false = true then _ else ((FP.Core.inUnits 0 _ _ : Nat) : Int))) = _
  rw [if_neg (by decide), if_neg (by decide)]
  unfold FP.Core.inUnits
  rw [Nat.zero_mul]
  congr 1
  rw [Int.compare_eq_gt]
  have := Nat.mul_pos (show 0 < f.tails + t by omega) (Nat.pow_pos (a := 2) (n := (f.qmin + ((E : Int) - 1) - min (f.qmin + ((E : Int) - 1)) f.qmin).toNat) (by decide))
  omega
theorem ft_cmp_00 {f : FP.Core.Fmt} (g : ft_Gd f) : FP.Core.cmp f 0 0 = some .eq := by
  unfold FP.Core.cmp
  rw [ft_dec_zero g]
  show some (compare (if false = true then _ else ((FP.Core.inUnits 0 _ _ : Nat) : Int)) (if false = true then _ else ((FP.Core.inUnits 0 _ _ : Nat) : Int))) = _
  congr 1
  rw [Int.compare_eq_eq]
theorem ft_cmp_self {f : FP.Core.Fmt} {x : Nat} (h : FP.Core.decode f x ≠ .nan) : FP.Core.cmp f x x = some .eq := by
  unfold FP.Core.cmp
  cases hd : FP.Core.decode f x with
  | nan => exact absurd hd h
  | inf s => show some (compare (FP.Core.signed s 1) (FP.Core.signed s 1)) = _; congr 1; rw [Int.compare_eq_eq]
  | fin s c q => show some (compare _ _) = _; congr 1; rw [Int.compare_eq_eq]
def Z32 (lo hi : Nat) (x : UInt32) : Prop := ft_ZN FP.Core.b32 lo hi x.toNat
def Z64 (lo hi : Nat) (x : UInt64) : Prop := ft_ZN FP.Core.b64 lo hi x.toNat
theorem ft_zn_le {f : FP.Core.Fmt} {lo hi n : Nat} (h : ft_ZN f lo hi n) : n ≤ hi * f.tails := by
  rcases h with h | h
  · omega
  · exact h.2
theorem ft_zn_mono {f : FP.Core.Fmt} {lo hi lo2 hi2 n : Nat} (h : ft_ZN f lo hi n) (h1 : lo2 ≤ lo) (h2 : hi ≤ hi2) : ft_ZN f lo2 hi2 n := by
  rcases h with h | ⟨a, b⟩
  · exact Or.inl h
  · exact Or.inr ⟨Nat.le_trans (Nat.mul_le_mul_right _ h1) a, Nat.le_trans b (Nat.mul_le_mul_right _ h2)⟩
theorem ft_z32_of {lo hi n : Nat} (h : ft_ZN FP.Core.b32 lo hi n) (h2 : hi ≤ 254) : Z32 lo hi (UInt32.ofNat n) := by
  have a := ft_zn_le h
  have : FP.Core.b32.tails = 8388608 := by decide
  rw [this] at a
  unfold Z32
  rw [UInt32.toNat_ofNat_of_lt' (by show n < 4294967296; omega)]
  exact h
theorem ft_z64_of {lo hi n : Nat} (h : ft_ZN FP.Core.b64 lo hi n) (h2 : hi ≤ 2046) : Z64 lo hi (UInt64.ofNat n) := by
  have a := ft_zn_le h
  have : FP.Core.b64.tails = 4503599627370496 := by decide
  rw [this] at a
  unfold Z64
  rw [UInt64.toNat_ofNat_of_lt' (by show n < 18446744073709551616; omega)]
  exact h
theorem ft_z32_nan {lo hi : Nat} {x : UInt32} (h : Z32 lo hi x) (h2 : hi ≤ 254) : x &&& 0x7fffffff ≤ 0x7f800000 := by
  have a := ft_zn_le h
  have : FP.Core.b32.tails = 8388608 := by decide
  rw [this] at a
  rw [UInt32.le_iff_toNat_le, UInt32.toNat_and]
  refine Nat.le_trans Nat.and_le_left ?_
  show x.toNat ≤ 2139095040
  omega
theorem ft_z64_nan {lo hi : Nat} {x : UInt64} (h : Z64 lo hi x) (h2 : hi ≤ 2046) : x &&& 0x7fffffffffffffff ≤ 0x7ff0000000000000 := by
  have a := ft_zn_le h
  have : FP.Core.b64.tails = 4503599627370496 := by decide
  rw [this] at a
  rw [UInt64.le_iff_toNat_le, UInt64.toNat_and]
  refine Nat.le_trans Nat.and_le_left ?_
  show x.toNat ≤ 9218868437227405312
  omega
theorem ft_z32_mono {lo hi lo2 hi2 : Nat} {x : UInt32} (h : Z32 lo hi x) (h1 : lo2 ≤ lo) (h2 : hi ≤ hi2) : Z32 lo2 hi2 x := ft_zn_mono h h1 h2
theorem ft_z64_mono {lo hi lo2 hi2 : Nat} {x : UInt64} (h : Z64 lo hi x) (h1 : lo2 ≤ lo) (h2 : hi ≤ hi2) : Z64 lo2 hi2 x := ft_zn_mono h h1 h2
theorem ft_z_fadd {lo hi : Nat} {x y : UInt32} (hx : Z32 lo hi x) (hy : Z32 lo hi y) (h1 : 1 ≤ lo) (h2 : hi + 2 ≤ 254) (h3 : 1 ≤ hi) : Z32 lo (hi + 2) (FP.fadd x y) :=
  ft_z32_of (ft_zsum ft_gd32 (ft_zd_of ft_gd32 hx h1 (by show hi ≤ 254; omega) h3) (ft_zd_of ft_gd32 hy h1 (by show hi ≤ 254; omega) h3) h1 h2) h2
theorem ft_z_dadd {lo hi : Nat} {x y : UInt64} (hx : Z64 lo hi x) (hy : Z64 lo hi y) (h1 : 1 ≤ lo) (h2 : hi + 2 ≤ 2046) (h3 : 1 ≤ hi) : Z64 lo (hi + 2) (FP.dadd x y) :=
  ft_z64_of (ft_zsum ft_gd64 (ft_zd_of ft_gd64 hx h1 (by show hi ≤ 2046; omega) h3) (ft_zd_of ft_gd64 hy h1 (by show hi ≤ 2046; omega) h3) h1 h2) h2
theorem ft_z_fmul {lo hi lo2 hi2 lo' hi' : Nat} {x y : UInt32} (hx : Z32 lo hi x) (hy : Z32 lo2 hi2 y) (h1 : 1 ≤ lo') (h2 : hi' ≤ 254) (hl : lo' + 127 ≤ lo + lo2) (hh : hi + hi2 + 2 ≤ hi' + 127)
    (a1 : 1 ≤ lo) (a2 : hi ≤ 254) (a3 : 1 ≤ hi) (b1 : 1 ≤ lo2) (b2 : hi2 ≤ 254) (b3 : 1 ≤ hi2) : Z32 lo' hi' (FP.fmul x y) :=
  ft_z32_of (ft_zprod ft_gd32 (ft_zd_of ft_gd32 hx a1 a2 a3) (ft_zd_of ft_gd32 hy b1 b2 b3) h1 h2 hl hh) h2
theorem ft_z_dmul {lo hi lo2 hi2 lo' hi' : Nat} {x y : UInt64} (hx : Z64 lo hi x) (hy : Z64 lo2 hi2 y) (h1 : 1 ≤ lo') (h2 : hi' ≤ 2046) (hl : lo' + 1023 ≤ lo + lo2) (hh : hi + hi2 + 2 ≤ hi' + 1023)
    (a1 : 1 ≤ lo) (a2 : hi ≤ 2046) (a3 : 1 ≤ hi) (b1 : 1 ≤ lo2) (b2 : hi2 ≤ 2046) (b3 : 1 ≤ hi2) : Z64 lo' hi' (FP.dmul x y) :=
  ft_z64_of (ft_zprod ft_gd64 (ft_zd_of ft_gd64 hx a1 a2 a3) (ft_zd_of ft_gd64 hy b1 b2 b3) h1 h2 hl hh) h2
theorem ft_z_f100 {lo hi : Nat} {x : UInt32} (hx : Z32 lo hi x) (h1 : 8 ≤ lo) (h2 : hi ≤ 254) (h3 : 6 ≤ hi) : Z32 (lo - 7) (hi - 5) (FP.fdiv x 1120403456) := by
  refine ft_z32_of ?_ (by omega)
  have h := ft_zquot ft_gd32 (E := 133) (t := 4718592) (lo' := lo - 7) (hi' := hi - 5) (ft_zd_of ft_gd32 hx (by omega) h2 (by omega)) (by decide) (by decide) (by decide) (by omega) (by show hi - 5 ≤ 254; omega)
    (by show lo - 7 + 133 + 1 ≤ lo + 127; omega) (by show hi + 127 + 1 ≤ hi - 5 + 133; omega)
  exact h
theorem ft_z_d1000 {lo hi : Nat} {x : UInt64} (hx : Z64 lo hi x) (h1 : 11 ≤ lo) (h2 : hi ≤ 2046) (h3 : 9 ≤ hi) : Z64 (lo - 10) (hi - 8) (FP.ddiv x 4652007308841189376) := by
  refine ft_z64_of ?_ (by omega)
  have h := ft_zquot ft_gd64 (E := 1032) (t := 4292493394837504) (lo' := lo - 10) (hi' := hi - 8) (ft_zd_of ft_gd64 hx (by omega) h2 (by omega)) (by decide) (by decide) (by decide) (by omega) (by show hi - 8 ≤ 2046; omega)
    (by show lo - 10 + 1032 + 1 ≤ lo + 1023; omega) (by show hi + 1023 + 1 ≤ hi - 8 + 1032; omega)
  exact h
theorem ft_t32 : FP.Core.b32.tails = 8388608 := by decide
theorem ft_t64 : FP.Core.b64.tails = 4503599627370496 := by decide
theorem ft_o32 {n : Nat} (h : n < 4294967296) : (UInt32.ofNat n).toNat = n := UInt32.toNat_ofNat_of_lt' (by show n < 4294967296; omega)
theorem ft_o64 {n : Nat} (h : n < 18446744073709551616) : (UInt64.ofNat n).toNat = n := UInt64.toNat_ofNat_of_lt' (by show n < 18446744073709551616; omega)
theorem ft_half32 {x : UInt32} {E t : Nat} (hx : x.toNat = E * 8388608 + t) (ht : t < 8388608) (h1 : 2 ≤ E) (h2 : E ≤ 254) : (FP.fdiv x 0x40000000).toNat = (E - 1) * 8388608 + t := by
  have h := ft_half ft_gd32 (E := E) (t := t) (by rw [ft_t32]; exact ht) h1 h2
  rw [ft_t32] at h
  unfold FP.fdiv FP.Core.fdiv FP.Core.div
  rw [hx]
  rw [show (0x40000000 : UInt32).toNat = (FP.Core.b32.emax + 1) * 8388608 from by decide, h]
  exact ft_o32 (by omega)
theorem ft_half64 {x : UInt64} {E t : Nat} (hx : x.toNat = E * 4503599627370496 + t) (ht : t < 4503599627370496) (h1 : 2 ≤ E) (h2 : E ≤ 2046) : (FP.ddiv x 0x4000000000000000).toNat = (E - 1) * 4503599627370496 + t := by
  have h := ft_half ft_gd64 (E := E) (t := t) (by rw [ft_t64]; exact ht) h1 h2
  rw [ft_t64] at h
  unfold FP.ddiv FP.Core.ddiv FP.Core.div
  rw [hx]
  rw [show (0x4000000000000000 : UInt64).toNat = (FP.Core.b64.emax + 1) * 4503599627370496 from by decide, h]
  exact ft_o64 (by omega)
theorem ft_twice32 {x : UInt32} {E t : Nat} (hx : x.toNat = E * 8388608 + t) (ht : t < 8388608) (h1 : 1 ≤ E) (h2 : E + 2 ≤ 254) : (FP.fmul x 0x40000000).toNat = (E + 1) * 8388608 + t := by
  have h := ft_twice ft_gd32 (E := E) (t := t) (by rw [ft_t32]; exact ht) h1 h2
  rw [ft_t32] at h
  unfold FP.fmul FP.Core.fmul FP.Core.mul
  rw [hx]
  rw [show (0x40000000 : UInt32).toNat = (FP.Core.b32.emax + 1) * 8388608 from by decide, h]
  exact ft_o32 (by omega)
theorem ft_twice64 {x : UInt64} {E t : Nat} (hx : x.toNat = E * 4503599627370496 + t) (ht : t < 4503599627370496) (h1 : 1 ≤ E) (h2 : E + 2 ≤ 2046) : (FP.dmul x 0x4000000000000000).toNat = (E + 1) * 4503599627370496 + t := by
  have h := ft_twice ft_gd64 (E := E) (t := t) (by rw [ft_t64]; exact ht) h1 h2
  rw [ft_t64] at h
  unfold FP.dmul FP.Core.dmul FP.Core.mul
  rw [hx]
  rw [show (0x4000000000000000 : UInt64).toNat = (FP.Core.b64.emax + 1) * 4503599627370496 from by decide, h]
  exact ft_o64 (by omega)
theorem ft_toI_of {t : Nat} {q : Int} (hq : q ≤ 0) (ht : t < 8388608) : FP.Core.toI (.fin false (t * 2 ^ (-q : Int).toNat) q) = Int32.ofNat t := by
  show Int32.ofInt (max _ (min _ (FP.Core.truncate false (t * 2 ^ (-q : Int).toNat) q))) = _
  rw [ft_trunc_of hq]
  have : max (-2 ^ 31 : Int) (min (2 ^ 31 - 1) (t : Int)) = (t : Int) := by omega
  rw [this]
  exact Int32.ofInt_eq_ofNat
theorem ft_toL_of {t : Nat} {q : Int} (hq : q ≤ 0) (ht : t < 4503599627370496) : FP.Core.toL (.fin false (t * 2 ^ (-q : Int).toNat) q) = Int64.ofNat t := by
  show Int64.ofInt (max _ (min _ (FP.Core.truncate false (t * 2 ^ (-q : Int).toNat) q))) = _
  rw [ft_trunc_of hq]
  have : max (-2 ^ 63 : Int) (min (2 ^ 63 - 1) (t : Int)) = (t : Int) := by omega
  rw [this]
  exact Int64.ofInt_eq_ofNat
theorem ft_le32 {x : UInt32} (h : x.toNat ≤ 2130706432) : x &&& 0x7fffffff ≤ 0x7f800000 := by
  rw [UInt32.le_iff_toNat_le, UInt32.toNat_and]
  refine Nat.le_trans Nat.and_le_left ?_
  show x.toNat ≤ 2139095040
  omega
theorem ft_le64 {x : UInt64} (h : x.toNat ≤ 9214364837600034816) : x &&& 0x7fffffffffffffff ≤ 0x7ff0000000000000 := by
  rw [UInt64.le_iff_toNat_le, UInt64.toNat_and]
  refine Nat.le_trans Nat.and_le_left ?_
  show x.toNat ≤ 9218868437227405312
  omega
theorem ft_frac32 {x : UInt32} {t : Nat} (hx : x.toNat = 127 * 8388608 + t) (ht : t < 8388608) :
    (FP.fsub x 0x3f800000) &&& 0x7fffffff ≤ 0x7f800000 ∧ (FP.fmul (FP.fsub x 0x3f800000) 0x4b000000) &&& 0x7fffffff ≤ 0x7f800000 ∧ FP.f2i (FP.fmul (FP.fsub x 0x3f800000) 0x4b000000) = Int32.ofNat t := by
  obtain ⟨n, m, h1, h2, h3, h4, q, h5, h6⟩ := ft_frac ft_gd32 (t := t) (by rw [ft_t32]; exact ht)
  rw [ft_t32] at h1 h2 h3 h4
  have e1 : FP.fsub x 0x3f800000 = UInt32.ofNat n := by
    unfold FP.fsub FP.Core.fsub FP.Core.sub
    rw [hx, show (0x3f800000 : UInt32).toNat = FP.Core.b32.emax * 8388608 from by decide]
    rw [show 127 * 8388608 + t = FP.Core.b32.emax * 8388608 + t from rfl, h1]
  have h2' : n ≤ 2130706432 := h2
  have h4' : m ≤ 2130706432 := h4
  have e2 : FP.fmul (FP.fsub x 0x3f800000) 0x4b000000 = UInt32.ofNat m := by
    rw [e1]
    unfold FP.fmul FP.Core.fmul FP.Core.mul
    rw [ft_o32 (by omega), show (0x4b000000 : UInt32).toNat = (FP.Core.b32.emax + (FP.Core.b32.p - 1)) * 8388608 from by decide, h3]
  rw [e2, e1]
  refine ⟨ft_le32 (by rw [ft_o32 (by omega)]; exact h2'), ft_le32 (by rw [ft_o32 (by omega)]; exact h4'), ?_⟩
  unfold FP.f2i FP.Core.f2i
  rw [ft_o32 (by omega), h5, ft_toI_of h6 ht]
theorem ft_frac64 {x : UInt64} {t : Nat} (hx : x.toNat = 1023 * 4503599627370496 + t) (ht : t < 4503599627370496) :
    (FP.dsub x 0x3ff0000000000000) &&& 0x7fffffffffffffff ≤ 0x7ff0000000000000 ∧ (FP.dmul (FP.dsub x 0x3ff0000000000000) 0x4330000000000000) &&& 0x7fffffffffffffff ≤ 0x7ff0000000000000
      ∧ FP.d2l (FP.dmul (FP.dsub x 0x3ff0000000000000) 0x4330000000000000) = Int64.ofNat t := by
  obtain ⟨n, m, h1, h2, h3, h4, q, h5, h6⟩ := ft_frac ft_gd64 (t := t) (by rw [ft_t64]; exact ht)
  rw [ft_t64] at h1 h2 h3 h4
  have e1 : FP.dsub x 0x3ff0000000000000 = UInt64.ofNat n := by
    unfold FP.dsub FP.Core.dsub FP.Core.sub
    rw [hx, show (0x3ff0000000000000 : UInt64).toNat = FP.Core.b64.emax * 4503599627370496 from by decide]
    rw [show 1023 * 4503599627370496 + t = FP.Core.b64.emax * 4503599627370496 + t from rfl, h1]
  have h2' : n ≤ 9214364837600034816 := h2
  have h4' : m ≤ 9214364837600034816 := h4
  have e2 : FP.dmul (FP.dsub x 0x3ff0000000000000) 0x4330000000000000 = UInt64.ofNat m := by
    rw [e1]
    unfold FP.dmul FP.Core.dmul FP.Core.mul
    rw [ft_o64 (by omega), show (0x4330000000000000 : UInt64).toNat = (FP.Core.b64.emax + (FP.Core.b64.p - 1)) * 4503599627370496 from by decide, h3]
  rw [e2, e1]
  refine ⟨ft_le64 (by rw [ft_o64 (by omega)]; exact h2'), ft_le64 (by rw [ft_o64 (by omega)]; exact h4'), ?_⟩
  unfold FP.d2l FP.Core.d2l
  rw [ft_o64 (by omega), h5, ft_toL_of h6 ht]
theorem ft_cmp32 {x y : UInt32} {E t F : Nat} (hx : x.toNat = E * 8388608 + t) (ht : t < 8388608) (h1 : 1 ≤ E) (h2 : E ≤ 254) (hy : y.toNat = F * 8388608) (h3 : 1 ≤ F) (h4 : F ≤ 254) :
    FP.fcmp x y = some (if E < F then .lt else if E = F ∧ t = 0 then .eq else .gt) := by
  have h := ft_cmp_pow ft_gd32 (E := E) (t := t) (F := F) (by rw [ft_t32]; exact ht) h1 h2 h3 h4
  rw [ft_t32] at h
  unfold FP.fcmp FP.Core.fcmp
  rw [hx, hy, h]
theorem ft_cmp64 {x y : UInt64} {E t F : Nat} (hx : x.toNat = E * 4503599627370496 + t) (ht : t < 4503599627370496) (h1 : 1 ≤ E) (h2 : E ≤ 2046) (hy : y.toNat = F * 4503599627370496) (h3 : 1 ≤ F) (h4 : F ≤ 2046) :
    FP.dcmp x y = some (if E < F then .lt else if E = F ∧ t = 0 then .eq else .gt) := by
  have h := ft_cmp_pow ft_gd64 (E := E) (t := t) (F := F) (by rw [ft_t64]; exact ht) h1 h2 h3 h4
  rw [ft_t64] at h
  unfold FP.dcmp FP.Core.dcmp
  rw [hx, hy, h]
theorem ft_cmpz32 {x : UInt32} {E t : Nat} (hx : x.toNat = E * 8388608 + t) (ht : t < 8388608) (h1 : 1 ≤ E) (h2 : E ≤ 254) : FP.fcmp x 0 = some .gt := by
  have h := ft_cmp_zero ft_gd32 (E := E) (t := t) (by rw [ft_t32]; exact ht) h1 h2
  rw [ft_t32] at h
  unfold FP.fcmp FP.Core.fcmp
  rw [hx]
  exact h
theorem ft_cmpz64 {x : UInt64} {E t : Nat} (hx : x.toNat = E * 4503599627370496 + t) (ht : t < 4503599627370496) (h1 : 1 ≤ E) (h2 : E ≤ 2046) : FP.dcmp x 0 = some .gt := by
  have h := ft_cmp_zero ft_gd64 (E := E) (t := t) (by rw [ft_t64]; exact ht) h1 h2
  rw [ft_t64] at h
  unfold FP.dcmp FP.Core.dcmp
  rw [hx]
  exact h
theorem ft_cmp0_32 : FP.fcmp 0 0 = some .eq := ft_cmp_00 ft_gd32
theorem ft_cmp0_64 : FP.dcmp 0 0 = some .eq := ft_cmp_00 ft_gd64
theorem ft_z_i2f {a k hi : Nat} {i : Int32} (hi0 : i.toInt = (a : Int)) (ha : a < 2 ^ k) (hh : 127 + k ≤ hi) (h2 : hi ≤ 254) : Z32 127 hi (FP.i2f i) := by
  unfold FP.i2f FP.Core.i2f
  rw [hi0]
  exact ft_z32_of (ft_zint ft_gd32 ha hh h2) h2
theorem ft_z_i2d {a k hi : Nat} {i : Int32} (hi0 : i.toInt = (a : Int)) (ha : a < 2 ^ k) (hh : 1023 + k ≤ hi) (h2 : hi ≤ 2046) : Z64 1023 hi (FP.i2d i) := by
  unfold FP.i2d FP.Core.i2d
  rw [hi0]
  exact ft_z64_of (ft_zint ft_gd64 ha hh h2) h2
def ft_NNn (f : FP.Core.Fmt) (n : Nat) : Prop := n % (f.exps * f.tails) ≤ (f.exps - 1) * f.tails
theorem ft_nn_asm {f : FP.Core.Fmt} (g : ft_Gd f) {s : Bool} {r : Nat} (h : r ≤ (f.exps - 1) * f.tails) : ft_NNn f (s.toNat * f.exps * f.tails + r) := by
  have tp := ft_tails_pos f
  have hx := g.2.1
  unfold ft_NNn
  have e : (f.exps - 1) * f.tails + f.tails = f.exps * f.tails := by
    obtain ⟨k, hk⟩ : ∃ k, f.exps = k + 1 := ⟨f.exps - 1, by omega⟩
    rw [hk, Nat.add_mul, Nat.one_mul]; rfl
  rw [Nat.mul_assoc, Nat.mul_comm, Nat.mul_add_mod, Nat.mod_eq_of_lt (by omega)]
  exact h
theorem ft_nn_fin {f : FP.Core.Fmt} (g : ft_Gd f) {s : Bool} {c : Nat} {q : Int} (hc : c < 2 ^ f.p) (h1 : f.qmin ≤ q) (h2 : q ≤ f.qmax) : ft_NNn f (FP.Core.encode f (.fin s c q)) := by
  have hp := g.1
  have hx := g.2.1
  have qm : f.qmin = 2 - (f.emax : Int) - (f.p : Int) := rfl
  have qx : f.qmax = (f.emax : Int) - (f.p : Int) + 1 := rfl
  have ht : f.tails = 2 ^ (f.p - 1) := rfl
  have ht2 := ft_pw f.p (by omega)
  have tp := ft_tails_pos f
  have e : ∀ E t, FP.Core.assemble f s E t = s.toNat * f.exps * f.tails + (E * f.tails + t) := by
    intro E t; unfold FP.Core.assemble; rw [Nat.add_mul]; omega
  by_cases h : c < f.tails
  · have : FP.Core.encode f (.fin s c q) = FP.Core.assemble f s 0 c := by
      show (if c < f.tails then _ else _) = _
      rw [if_pos h]
    rw [this, e]
    refine ft_nn_asm g ?_
    have := Nat.mul_le_mul_right f.tails (show 1 ≤ f.exps - 1 by omega)
    omega
  · rw [ft_enc_fin h, e]
    refine ft_nn_asm g ?_
    have := Nat.mul_le_mul_right f.tails (show (q - f.qmin).toNat + 1 + 1 ≤ f.exps - 1 by omega)
    rw [Nat.add_mul ((q - f.qmin).toNat + 1)] at this
    omega
theorem ft_nn_inf {f : FP.Core.Fmt} (g : ft_Gd f) {s : Bool} : ft_NNn f (FP.Core.encode f (.inf s)) := by
  have e : FP.Core.encode f (.inf s) = s.toNat * f.exps * f.tails + (f.exps - 1) * f.tails := by
    show FP.Core.assemble f s (f.exps - 1) 0 = _
    unfold FP.Core.assemble; rw [Nat.add_mul]; omega
  rw [e]
  exact ft_nn_asm g (Nat.le_refl _)
theorem ft_nn_rr {f : FP.Core.Fmt} (g : ft_Gd f) {s : Bool} {num den : Nat} {e : Int} : ft_NNn f (FP.Core.encode f (FP.Core.roundRatio f s num den e)) := by
  have hp := g.1
  have he := g.2.2
  have ht : f.tails = 2 ^ (f.p - 1) := rfl
  have ht2 := ft_pw f.p (by omega)
  have tp := ft_tails_pos f
  have qm : f.qmin = 2 - (f.emax : Int) - (f.p : Int) := rfl
  have qx : f.qmax = (f.emax : Int) - (f.p : Int) + 1 := rfl
  have bd : ∀ c q, c < 2 ^ f.p → f.qmin ≤ q → ft_NNn f (FP.Core.encode f (FP.Core.bound f s c q)) := by
    intro c q h1 h2
    unfold FP.Core.bound
    split
    · rename_i h; exact ft_nn_fin g h1 h2 h
    · exact ft_nn_inf g
  unfold FP.Core.roundRatio
  split
  · exact ft_nn_fin g (by omega) (Int.le_refl _) (by omega)
  · unfold FP.Core.roundAt FP.Core.settle
    have hq : f.qmin ≤ FP.Core.quantum f num den e := by unfold FP.Core.quantum; omega
    split
    · rename_i h; exact bd _ _ h hq
    · exact bd _ _ (by omega) (by omega)
theorem ft_nn_round {f : FP.Core.Fmt} (g : ft_Gd f) {d : FP.Core.Datum} (h : d ≠ .nan) : ft_NNn f (FP.Core.encode f (FP.Core.round f d)) := by
  cases d with
  | nan => exact absurd rfl h
  | inf s => exact ft_nn_inf g
  | fin s c q => exact ft_nn_rr g
theorem ft_nn_dec {f : FP.Core.Fmt} (g : ft_Gd f) {n : Nat} (h : ft_NNn f n) : FP.Core.decode f n ≠ .nan := by
  have hx := g.2.1
  have tp := ft_tails_pos f
  have e : n % (f.exps * f.tails) = n / f.tails % f.exps * f.tails + n % f.tails := by
    rw [Nat.mul_comm f.exps, Nat.mod_mul, Nat.mul_comm f.tails, Nat.add_comm]
  unfold ft_NNn at h
  rw [e] at h
  unfold FP.Core.decode FP.Core.fieldE FP.Core.fieldT
  split
  · rename_i h1
    rw [h1] at h
    rw [if_pos (by omega)]
    exact fun h => FP.Core.Datum.noConfusion h
  · split
    · exact fun h => FP.Core.Datum.noConfusion h
    · exact fun h => FP.Core.Datum.noConfusion h
theorem ft_nn32 {x : UInt32} : x &&& 0x7fffffff ≤ 0x7f800000 ↔ ft_NNn FP.Core.b32 x.toNat := by
  rw [UInt32.le_iff_toNat_le, UInt32.toNat_and]
  unfold ft_NNn
  rw [show (0x7fffffff : UInt32).toNat = 2 ^ 31 - 1 from rfl, Nat.and_two_pow_sub_one_eq_mod]
  exact Iff.rfl
theorem ft_nn64 {x : UInt64} : x &&& 0x7fffffffffffffff ≤ 0x7ff0000000000000 ↔ ft_NNn FP.Core.b64 x.toNat := by
  rw [UInt64.le_iff_toNat_le, UInt64.toNat_and]
  unfold ft_NNn
  rw [show (0x7fffffffffffffff : UInt64).toNat = 2 ^ 63 - 1 from rfl, Nat.and_two_pow_sub_one_eq_mod]
  exact Iff.rfl
theorem ft_nno32 {n : Nat} (h : ft_NNn FP.Core.b32 n) : ft_NNn FP.Core.b32 (UInt32.ofNat n).toNat := by
  unfold ft_NNn at h ⊢
  have e : FP.Core.b32.exps * FP.Core.b32.tails = 2147483648 := by decide
  rw [e] at h ⊢
  rw [UInt32.toNat_ofNat']
  rw [Nat.mod_mod_of_dvd _ (by decide)]
  exact h
theorem ft_nno64 {n : Nat} (h : ft_NNn FP.Core.b64 n) : ft_NNn FP.Core.b64 (UInt64.ofNat n).toNat := by
  unfold ft_NNn at h ⊢
  have e : FP.Core.b64.exps * FP.Core.b64.tails = 9223372036854775808 := by decide
  rw [e] at h ⊢
  rw [UInt64.toNat_ofNat']
  rw [Nat.mod_mod_of_dvd _ (by decide)]
  exact h
theorem ft_z_fsub_nn {lo hi lo2 hi2 : Nat} {x y : UInt32} (hx : Z32 lo hi x) (hy : Z32 lo2 hi2 y) (a1 : 1 ≤ lo) (a2 : hi ≤ 254) (a3 : 1 ≤ hi) (b1 : 1 ≤ lo2) (b2 : hi2 ≤ 254) (b3 : 1 ≤ hi2) :
    FP.fsub x y &&& 0x7fffffff ≤ 0x7f800000 := by
  rw [ft_nn32]
  unfold FP.fsub FP.Core.fsub FP.Core.sub
  refine ft_nno32 (ft_nn_round ft_gd32 ?_)
  obtain ⟨c, q, e1, -⟩ := ft_zd_of ft_gd32 hx a1 a2 a3
  obtain ⟨d, r, e2, -⟩ := ft_zd_of ft_gd32 hy b1 b2 b3
  rw [e1, e2]
  exact fun h => FP.Core.Datum.noConfusion h
theorem ft_f2d_nn {x : UInt32} (h : x &&& 0x7fffffff ≤ 0x7f800000) : FP.f2d x &&& 0x7fffffffffffffff ≤ 0x7ff0000000000000 := by
  rw [ft_nn64]
  rw [ft_nn32] at h
  have e : FP.Core.fIsNaN x = false := decide_eq_false (ft_nn_dec ft_gd32 h)
  unfold FP.f2d
  rw [e, if_neg (by decide)]
  exact ft_nno64 (ft_nn_round ft_gd64 (ft_nn_dec ft_gd32 h))
theorem ft_dcmp_self {x : UInt64} (h : x &&& 0x7fffffffffffffff ≤ 0x7ff0000000000000) : FP.dcmp x x = some .eq := by
  rw [ft_nn64] at h
  exact ft_cmp_self (ft_nn_dec ft_gd64 h)
/-! the factor of a line, own costs and weights -/
def facF (q s : Nat) : UInt32 := FP.fdiv (FP.fmul (FP.i2f (nI q)) (FP.i2f (nI (100 + s)))) 1120403456
set_option maxRecDepth 20000 in
theorem facF_all : ∀ q : Fin 20, ∀ s : Fin 51, 1065353216 ≤ (facF (q.val + 1) s.val).toNat ∧ (facF (q.val + 1) s.val).toNat ≤ 1106247680 := by decide +kernel
theorem facF_b {q s : Nat} (h1 : 1 ≤ q) (h2 : q ≤ 20) (hs : s ≤ 50) : 1065353216 ≤ (facF q s).toNat ∧ (facF q s).toNat ≤ 1106247680 := by
  have h := facF_all ⟨q - 1, by omega⟩ ⟨s, by omega⟩
  rw [show (⟨q - 1, by omega⟩ : Fin 20).val + 1 = q by show q - 1 + 1 = q; omega] at h
  exact h
