/-! WHAT STAYS TRUE, pure -/
theorem lev_mono {R R' : Nat → Nat → Prop} (h : ∀ a b, R a b → R' a b) : ∀ (k x y : Nat), lev R k x y → lev R' k x y
  | 0, _, _, e => e
  | k + 1, x, y, ⟨m, h1, h2⟩ => ⟨m, h _ _ h1, lev_mono h k m y h2⟩
theorem lev_new {R : Nat → Nat → Prop} {p c : Nat} (hnc : ∀ i, i < 5 → ¬ lev R i c p) : ∀ (k x y : Nat), k ≤ 5 → lev (fun a b => R a b ∨ (a = p ∧ b = c)) k x y → lev R k x y ∨ ∃ i j, i + 1 + j = k ∧ lev R i x p ∧ lev R j c y
  | 0, _, _, _, h => Or.inl h
  | k + 1, x, y, hk, ⟨m, h1, h2⟩ => by
    rcases lev_new hnc k m y (by omega) h2 with h3 | ⟨i, j, e, h3, h4⟩
    · rcases h1 with h1 | ⟨e1, e2⟩
      · exact Or.inl ⟨m, h1, h3⟩
      · exact Or.inr ⟨0, k, by omega, e1, e2 ▸ h3⟩
    · rcases h1 with h1 | ⟨e1, e2⟩
      · exact Or.inr ⟨i + 1, j, by omega, ⟨m, h1, h3⟩, h4⟩
      · exact absurd (e2 ▸ h3) (hnc i (by omega))
theorem Ed_new {n p c x y : Nat} {a b : Nat → Nat} (h : Ed (n + 1) (va_up a n p) (va_up b n c) x y) : Ed n a b x y ∨ (x = p ∧ y = c) := by
  obtain ⟨i, hi, h1, h2⟩ := h
  by_cases e : i = n
  · subst e
    rw [up_eq] at h1 h2
    exact Or.inr ⟨h1.symm, h2.symm⟩
  · rw [up_ne e] at h1 h2
    exact Or.inl ⟨i, by omega, h1, h2⟩
theorem hgt_lev {n : Nat} {a b : Nat → Nat} {j p q : Nat} (h : lev (Ed n a b) j p q) (hj : j ≤ 5) : j ≤ hgt n a b 5 p := hgt_iff.mpr (Or.inr ⟨hj, q, h⟩)
theorem NC_new {L : LSt} {p c : Nat} {a b : Nat → Nat} (hN : NC5 L) (h1 : rchB (ln L) (pa L) (ch L) 5 c p = false) (h2 : deepB L p c = false) (ha : a = va_up (pa L) (ln L) p) (hb : b = va_up (ch L) (ln L) c) (x : Nat) : NC (ln L + 1) a b 5 x := by
  subst ha
  subst hb
  refine NC_iff.mpr (fun q h => ?_)
  have h3 := lev_mono (fun _ _ h => Ed_new h) 5 x q h
  have hnc : ∀ i, i < 5 → ¬ lev (Ed (ln L) (pa L) (ch L)) i c p := fun i hi h4 => by
    rw [rchB_iff.mpr ⟨i, hi, h4⟩] at h1; cases h1
  rcases lev_new hnc 5 x q (Nat.le_refl 5) h3 with h4 | ⟨i, j, e, h4, h5⟩
  · exact NC_iff.mp (hN x) q h4
  · have g1 : j ≤ hgt (ln L) (pa L) (ch L) 5 c := hgt_lev h5 (by omega)
    have g2 : lev (Ed (ln L) (ch L) (pa L)) i p x := by
      rw [← Ed_inv]; exact lev_inv.mp h4
    have g3 := hgt_lev g2 (by omega)
    rw [deepB, decide_eq_false_iff_not] at h2
    omega
theorem LI_new {np : Nat} {L : LSt} (hI : LI np L) {p k c q r a b o s : Nat} (hl : ln L < 40) (hp : p < np) (hk : 1 ≤ k ∧ k ≤ 6) (hc : c < np) (hq : 1 ≤ q ∧ q ≤ 20) (hr : r ≤ 50) (hab : 1 ≤ a ∧ a ≤ b ∧ b ≤ 999) (ho : o ≤ 4) (hs : s < 16) (hos : 1 ≤ o → 1 ≤ s) : LI np (newL L p k c q r a b o s) := by
  refine ⟨hI.1, by show ln L + 1 ≤ 40; omega, fun j hj => ?_⟩
  show va_up (pa L) (ln L) p j < np ∧ (1 ≤ va_up (po L) (ln L) k j ∧ va_up (po L) (ln L) k j ≤ 6) ∧ va_up (ch L) (ln L) c j < np ∧ (1 ≤ va_up (qt L) (ln L) q j ∧ va_up (qt L) (ln L) q j ≤ 20) ∧ va_up (sc L) (ln L) r j ≤ 50
    ∧ (1 ≤ va_up (fi L) (ln L) a j ∧ va_up (fi L) (ln L) a j ≤ va_up (la L) (ln L) b j ∧ va_up (la L) (ln L) b j ≤ 999) ∧ va_up (op L) (ln L) o j ≤ 4 ∧ va_up (cs L) (ln L) s j < 16 ∧ (1 ≤ va_up (op L) (ln L) o j → 1 ≤ va_up (cs L) (ln L) s j)
  by_cases e : j = ln L
  · subst e
    simp only [up_eq]
    exact ⟨hp, hk, hc, hq, hr, hab, ho, hs, hos⟩
  · simp only [up_ne e]
    exact hI.2.2 j (by have : j < ln L + 1 := hj; omega)
/-- two lines at one place meet -/
def mtB (a b o s a2 b2 o2 s2 : Nat) : Prop := (a ≤ b2 ∧ a2 ≤ b) ∧ (o - 1 ≠ o2 - 1 ∨ xcs o s &&& xcs o2 s2 ≠ 0)
theorem mtB_sym {a b o s a2 b2 o2 s2 : Nat} (h : mtB a b o s a2 b2 o2 s2) : mtB a2 b2 o2 s2 a b o s := by
  refine ⟨⟨h.1.2, h.1.1⟩, ?_⟩
  rcases h.2 with h2 | h2
  · exact Or.inl (fun e => h2 e.symm)
  · exact Or.inr (fun e => h2 (by rw [Nat.and_comm]; exact e))
theorem PW_new {np : Nat} {L : LSt} (hI : LI np L) (hW : PW L) {p k c q r a b o s : Nat} (h : ∀ j, j < ln L → pa L j = p → po L j = k → ¬ mtB a b o s (fi L j) (la L j) (op L j) (cs L j)) : PW (newL L p k c q r a b o s) := by
  intro i j hi hj hij
  have hi : i < ln L + 1 := hi
  have hj : j < ln L + 1 := hj
  show va_up (pa L) (ln L) p i = va_up (pa L) (ln L) p j → va_up (po L) (ln L) k i = va_up (po L) (ln L) k j → ¬ mtB (va_up (fi L) (ln L) a i) (va_up (la L) (ln L) b i) (va_up (op L) (ln L) o i) (va_up (cs L) (ln L) s i) (va_up (fi L) (ln L) a j) (va_up (la L) (ln L) b j) (va_up (op L) (ln L) o j) (va_up (cs L) (ln L) s j)
  by_cases e : i = ln L
  · have e2 : j ≠ ln L := fun h => hij (e.trans h.symm)
    subst e
    simp only [up_eq, up_ne e2]
    intro h1 h2
    exact h j (by omega) h1.symm h2.symm
  · by_cases e2 : j = ln L
    · subst e2
      simp only [up_eq, up_ne e]
      intro h1 h2 h3
      exact h i (by omega) h1 h2 (mtB_sym h3)
    · simp only [up_ne e, up_ne e2]
      exact hW i j (by omega) (by omega) hij
theorem col_mt {np : Nat} {L : LSt} (hI : LI np L) {p k a b o s j : Nat} (ho : o ≤ 4) (hs : s < 16) (hos : 1 ≤ o → 1 ≤ s) (hj : j < ln L) (hp : pa L j = p) (hk : po L j = k) (h : colB L p k a b o s j = false) : ¬ mtB a b o s (fi L j) (la L j) (op L j) (cs L j) := by
  have hb := hI.2.2 j hj
  intro hm
  have hm2 := mtB_sym hm
  have e := col_x (o := op L j) (o2 := o) (c := cs L j) (c2 := s) hb.2.2.2.2.2.2.1 ho hb.2.2.2.2.2.2.2.1 hs hb.2.2.2.2.2.2.2.2 hos
  rw [colB, ← e, hp, hk, decide_eq_true rfl, decide_eq_true rfl, decide_eq_true hm2.1.1, decide_eq_true hm2.1.2] at h
  simp only [Bool.true_and, Bool.or_eq_false_iff, Bool.not_eq_false', decide_eq_true_eq] at h
  rcases hm2.2 with h2 | h2
  · exact h2 h.1
  · exact h2 h.2
theorem cdL_iv {L : LSt} {p c : Nat} {col : Bool} (h : cdL L p c col = 0) : rchB (ln L) (pa L) (ch L) 5 c p = false ∧ deepB L p c = false ∧ col = false ∧ ln L ≠ 40 := by
  unfold cdL at h
  cases h1 : rchB (ln L) (pa L) (ch L) 5 c p with
  | true => rw [h1] at h; cases h
  | false =>
    rw [h1] at h
    cases h2 : deepB L p c with
    | true => rw [h2] at h; cases h
    | false =>
      rw [h2] at h
      cases h3 : col with
      | true => rw [h3] at h; cases h
      | false =>
        rw [h3] at h
        by_cases h4 : ln L = 40
        · rw [decide_eq_true h4] at h; cases h
        · exact ⟨rfl, rfl, rfl, h4⟩
/-- the lines' three -/
def LW (np : Nat) (L : LSt) : Prop := LI np L ∧ PW L ∧ NC5 L
theorem LW_new {np : Nat} {L : LSt} (h : LW np L) {p k c q r a b o s : Nat} {col : Bool} (hcd : cdL L p c col = 0) (hcol : col = false → ∀ j, j < ln L → pa L j = p → po L j = k → ¬ mtB a b o s (fi L j) (la L j) (op L j) (cs L j))
    (hp : p < np) (hk : 1 ≤ k ∧ k ≤ 6) (hc : c < np) (hq : 1 ≤ q ∧ q ≤ 20) (hr : r ≤ 50) (hab : 1 ≤ a ∧ a ≤ b ∧ b ≤ 999) (ho : o ≤ 4) (hs : s < 16) (hos : 1 ≤ o → 1 ≤ s) : LW np (newL L p k c q r a b o s) := by
  obtain ⟨g1, g2, g3, g4⟩ := cdL_iv hcd
  have g5 := h.1.2.1
  exact ⟨LI_new h.1 (by omega) hp hk hc hq hr hab ho hs hos, PW_new h.1 h.2.1 (hcol g3), fun x => NC_new h.2.2 g1 g2 rfl rfl x⟩
theorem anyB_ff {f : Nat → Bool} {n : Nat} (h : anyB f n = false) : ∀ j, j < n → f j = false := fun j hj => by
  cases h1 : f j with
  | false => rfl
  | true => rw [anyB_t hj h1] at h; cases h
theorem cdAL_0 {np : Nat} {L : LSt} {p k c q a b : Int32} (h : cdAL np L p k c q a b = 0) : (inP p np = true ∧ inP c np = true) ∧ (btw k 1 6 = true ∧ btw q 1 20 = true ∧ btw a 1 999 = true ∧ btw b a 999 = true) ∧ cdL L (idx p) (idx c) (anyB (colB L (idx p) (idx k) (idx a) (idx b) 0 0) (ln L)) = 0 := by
  unfold cdAL at h
  cases h1 : inP p np && inP c np with
  | false => rw [h1] at h; cases h
  | true =>
    rw [h1] at h
    cases h2 : btw k 1 6 && (btw q 1 20 && (btw a 1 999 && btw b a 999)) with
    | false => rw [h2] at h; cases h
    | true =>
      rw [h2] at h
      simp only [Bool.and_eq_true] at h1 h2
      exact ⟨h1, h2, h⟩
theorem cdAV_0 {np : Nat} {L : LSt} {p k c q o s : Int32} (h : cdAV np L p k c q o s = 0) : (inP p np = true ∧ inP c np = true) ∧ (btw k 1 6 = true ∧ btw q 1 20 = true ∧ btw o 0 3 = true ∧ btw s 1 15 = true) ∧ cdL L (idx p) (idx c) (anyB (colB L (idx p) (idx k) 1 999 (idx o + 1) (idx s)) (ln L)) = 0 := by
  unfold cdAV at h
  cases h1 : inP p np && inP c np with
  | false => rw [h1] at h; cases h
  | true =>
    rw [h1] at h
    cases h2 : btw k 1 6 && (btw q 1 20 && (btw o 0 3 && btw s 1 15)) with
    | false => rw [h2] at h; cases h
    | true =>
      rw [h2] at h
      simp only [Bool.and_eq_true] at h1 h2
      exact ⟨h1, h2, h⟩
theorem cdRF_0 {np : Nat} {L : LSt} {l s c q : Int32} (h : cdRF np L l s c q = 0) : (inP l (ln L) = true ∧ inP c np = true) ∧ (btw q 1 20 = true ∧ cutOK L (idx l) s = true) ∧ cdL L (pa L (idx l)) (idx c) false = 0 := by
  unfold cdRF at h
  cases h1 : inP l (ln L) && inP c np with
  | false => rw [h1] at h; cases h
  | true =>
    rw [h1] at h
    cases h2 : btw q 1 20 && cutOK L (idx l) s with
    | false => rw [h2] at h; cases h
    | true =>
      rw [h2] at h
      simp only [Bool.and_eq_true] at h1 h2
      exact ⟨h1, h2, h⟩
theorem inP_i {p : Int32} {n : Nat} (hn : n < 2 ^ 31) (h : inP p n = true) : idx p < n := by
  obtain ⟨j, hj, rfl⟩ := inP_of hn h
  rw [idx_nI (by omega)]; exact hj
theorem btw_i {x : Int32} {lo hi : Nat} (hlo : lo < 2 ^ 31) (hhi : hi < 2 ^ 31) (h : btw x (nI lo) (nI hi) = true) : lo ≤ idx x ∧ idx x ≤ hi := by
  obtain ⟨j, h1, h2, rfl⟩ := btw_n hlo hhi h
  rw [idx_nI (by omega)]; exact ⟨h1, h2⟩
theorem LW_addLine {np : Nat} {L : LSt} (h : LW np L) {p k c q a b : Int32} (hcd : cdAL np L p k c q a b = 0) : LW np (newL L (idx p) (idx k) (idx c) (idx q) 0 (idx a) (idx b) 0 0) := by
  obtain ⟨⟨h1, h2⟩, ⟨h3, h4, h5, h6⟩, h7⟩ := cdAL_0 hcd
  have h16 := h.1.1
  have ia := btw_i (lo := 1) (hi := 999) (by decide) (by decide) h5
  obtain ⟨a, a1, a2, rfl⟩ := btw_n (lo := 1) (hi := 999) (by decide) (by decide) h5
  have ib := btw_i (lo := a) (hi := 999) (by omega) (by decide) h6
  rw [idx_nI (by omega)] at h7 ⊢
  exact LW_new h h7 (fun hc j hj hp hk => col_mt h.1 (by omega) (by omega) (by omega) hj hp hk (anyB_ff hc j hj)) (inP_i (by omega) h1) (btw_i (lo := 1) (hi := 6) (by decide) (by decide) h3) (inP_i (by omega) h2) (btw_i (lo := 1) (hi := 20) (by decide) (by decide) h4) (by omega) ⟨a1, ib.1, ib.2⟩ (by omega) (by omega) (by omega)
theorem LW_addVariant {np : Nat} {L : LSt} (h : LW np L) {p k c q o s : Int32} (hcd : cdAV np L p k c q o s = 0) : LW np (newL L (idx p) (idx k) (idx c) (idx q) 0 1 999 (idx o + 1) (idx s)) := by
  obtain ⟨⟨h1, h2⟩, ⟨h3, h4, h5, h6⟩, h7⟩ := cdAV_0 hcd
  have h16 := h.1.1
  have io := btw_i (lo := 0) (hi := 3) (by decide) (by decide) h5
  have is := btw_i (lo := 1) (hi := 15) (by decide) (by decide) h6
  exact LW_new h h7 (fun hc j hj hp hk => col_mt h.1 (by omega) (by omega) (by omega) hj hp hk (anyB_ff hc j hj)) (inP_i (by omega) h1) (btw_i (lo := 1) (hi := 6) (by decide) (by decide) h3) (inP_i (by omega) h2) (btw_i (lo := 1) (hi := 20) (by decide) (by decide) h4) (by omega) (by omega) (by omega) (by omega) (by omega)
/-- a line cut -/
def cutL (L : LSt) (j s : Nat) : LSt := (ln L, pa L, po L, ch L, qt L, sc L, fi L, va_up (la L) j s, op L, cs L)
theorem LW_cut {np : Nat} {L : LSt} (h : LW np L) {j s : Nat} (hj : j < ln L) (h1 : fi L j ≤ s) (h2 : s ≤ la L j) : LW np (cutL L j s) := by
  have hb := h.1.2.2 j hj
  refine ⟨⟨h.1.1, h.1.2.1, fun i hi => ?_⟩, ?_, h.2.2⟩
  · have hi : i < ln L := hi
    have hi2 := h.1.2.2 i hi
    by_cases e : i = j
    · subst e
      refine ⟨hi2.1, hi2.2.1, hi2.2.2.1, hi2.2.2.2.1, hi2.2.2.2.2.1, ⟨hi2.2.2.2.2.2.1.1, ?_, ?_⟩, hi2.2.2.2.2.2.2⟩
      · show fi L i ≤ va_up (la L) i s i; rw [up_eq]; exact h1
      · show va_up (la L) i s i ≤ 999; rw [up_eq]; omega
    · refine ⟨hi2.1, hi2.2.1, hi2.2.2.1, hi2.2.2.2.1, hi2.2.2.2.2.1, ⟨hi2.2.2.2.2.2.1.1, ?_, ?_⟩, hi2.2.2.2.2.2.2⟩
      · show fi L i ≤ va_up (la L) j s i; rw [up_ne e]; exact hi2.2.2.2.2.2.1.2.1
      · show va_up (la L) j s i ≤ 999; rw [up_ne e]; exact hi2.2.2.2.2.2.1.2.2
  · intro i k hi hk hik hp ho
    have hle : ∀ i, va_up (la L) j s i ≤ la L i := fun i => by
      by_cases e : i = j
      · subst e; rw [up_eq]; exact h2
      · rw [up_ne e]; exact Nat.le_refl _
    have hx := h.2.1 i k hi hk hik hp ho
    intro hm
    refine hx ⟨?_, hm.2⟩
    have m1 : fi L i ≤ va_up (la L) j s k := hm.1.1
    have m2 : fi L k ≤ va_up (la L) j s i := hm.1.2
    exact ⟨Nat.le_trans m1 (hle k), Nat.le_trans m2 (hle i)⟩
theorem LW_scrap {np : Nat} {L : LSt} (h : LW np L) {j s : Nat} (h1 : s ≤ 50) : LW np (ln L, pa L, po L, ch L, qt L, va_up (sc L) j s, fi L, la L, op L, cs L) := by
  refine ⟨⟨h.1.1, h.1.2.1, fun i hi => ?_⟩, h.2.1, h.2.2⟩
  have hi2 := h.1.2.2 i hi
  refine ⟨hi2.1, hi2.2.1, hi2.2.2.1, hi2.2.2.2.1, ?_, hi2.2.2.2.2.2⟩
  show va_up (sc L) j s i ≤ 50
  by_cases e : i = j
  · subst e; rw [up_eq]; exact h1
  · rw [up_ne e]; exact hi2.2.2.2.2.1
theorem LW_replace {np : Nat} {L : LSt} (h : LW np L) {l s c q : Int32} (hcd : cdRF np L l s c q = 0) : LW np (repL L (idx l) (idx s) (idx c) (idx q)) := by
  obtain ⟨⟨h1, h2⟩, ⟨h3, h4⟩, h5⟩ := cdRF_0 hcd
  have h16 := h.1.1
  have h40 := h.1.2.1
  have hl := inP_i (by omega) h1
  obtain ⟨n, n1, n2, rfl⟩ := cut_n h.1 hl h4
  obtain ⟨g1, g2, g3, g4⟩ := cdL_iv h5
  have hb := h.1.2.2 _ hl
  rw [idx_nI (show n < 2 ^ 31 by have := hb.2.2.2.2.2.1; omega)]
  have hcut := LW_cut h hl (s := n - 1) (by omega) (by omega)
  have hnew := LW_new (np := np) (L := cutL L (idx l) (n - 1)) hcut (p := pa L (idx l)) (k := po L (idx l)) (c := idx c) (q := idx q) (r := sc L (idx l)) (a := n) (b := la L (idx l)) (o := op L (idx l)) (s := cs L (idx l)) (col := false) h5
    (fun _ j hj hp hk hm => by
      have hj : j < ln L := hj
      by_cases e : j = idx l
      · have m2 : n ≤ va_up (la L) (idx l) (n - 1) j := hm.1.1
        rw [e, up_eq] at m2
        omega
      · have m1 : n ≤ va_up (la L) (idx l) (n - 1) j := hm.1.1
        rw [up_ne e] at m1
        have m2 : fi L j ≤ la L (idx l) := hm.1.2
        exact h.2.1 (idx l) j hl hj (fun e2 => e e2.symm) hp.symm hk.symm ⟨⟨by omega, m2⟩, hm.2⟩)
    hb.1 hb.2.1 (inP_i (by omega) h2) (btw_i (lo := 1) (hi := 20) (by decide) (by decide) h3) hb.2.2.2.2.1 ⟨by omega, n2, hb.2.2.2.2.2.1.2.2⟩ hb.2.2.2.2.2.2.1 hb.2.2.2.2.2.2.2.1 hb.2.2.2.2.2.2.2.2
  have e : newL (cutL L (idx l) (n - 1)) (pa L (idx l)) (po L (idx l)) (idx c) (idx q) (sc L (idx l)) n (la L (idx l)) (op L (idx l)) (cs L (idx l)) = repL L (idx l) n (idx c) (idx q) := by
    show (_, _, _, _, _, _, _, va_up (va_up (la L) (idx l) (n - 1)) (ln L) (la L (idx l)), _, _) = (_, _, _, _, _, _, _, va_up (va_up (la L) (ln L) (la L (idx l))) (idx l) (n - 1), _, _)
    have e2 : va_up (va_up (la L) (idx l) (n - 1)) (ln L) (la L (idx l)) = va_up (va_up (la L) (ln L) (la L (idx l))) (idx l) (n - 1) := by
      funext x
      by_cases x1 : x = ln L
      · have x2 : x ≠ idx l := by omega
        rw [x1, up_eq, up_ne (by omega), up_eq]
      · rw [up_ne x1]
        by_cases x2 : x = idx l
        · rw [x2, up_eq, up_eq]
        · rw [up_ne x2, up_ne x2, up_ne x1]
    rw [e2]
    rfl
  rw [← e]; exact hnew
