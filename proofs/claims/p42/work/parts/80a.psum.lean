/-! THE PROPERTY, pure: sums over positions as sums over lines, quantities over direct lines, lists -/
theorem lst_sum {c : Nat → Bool} {g : Nat → Nat} : ∀ {n : Nat}, (∀ i j, i < n → j < n → c i = true → c j = true → i = j) → sumP (fun j => if c j = true then g j else 0) n = oN g (lst c n)
  | 0, _ => rfl
  | n + 1, h => by
    show sumP (fun j => if c j = true then g j else 0) n + (if c n = true then g n else 0) = oN g (bif c n then some n else lst c n)
    cases hc : c n with
    | true =>
      rw [sumP_0 (fun k hk => if_neg (fun h1 => by have := h k n (by omega) (by omega) h1 hc; omega)), Nat.zero_add]
      rfl
    | false =>
      rw [if_neg (by decide), Nat.add_zero]
      exact lst_sum (fun i j hi hj => h i j (by omega) (by omega))
theorem sK_sumP {h : Nat → Nat → Nat} {m : Nat} : ∀ {n : Nat}, sK (fun k => sumP (fun j => h j k) n) m = sumP (fun j => sK (fun k => h j k) m) n
  | 0 => sK_0 (fun _ _ _ => rfl)
  | n + 1 => by
    show sK (fun k => sumP (fun j => h j k) n + h n k) m = sumP (fun j => sK (fun k => h j k) m) n + sK (fun k => h n k) m
    rw [sK_add, sK_sumP (n := n)]
theorem sK_pos {b x : Nat} {a : Bool} (h : 1 ≤ b ∧ b ≤ 6) : sK (fun k => if (a && decide (b = k)) = true then x else 0) 6 = if a = true then x else 0 := by
  have h1 : b = 1 ∨ b = 2 ∨ b = 3 ∨ b = 4 ∨ b = 5 ∨ b = 6 := by omega
  cases a <;> rcases h1 with rfl | rfl | rfl | rfl | rfl | rfl <;> simp [sK]
/-- line j is one of p that holds -/
def ownB (L : LSt) (pr : Nat → Nat) (s p j : Nat) : Bool := hld L pr s j && decide (pa L j = p)
theorem own_iff {L : LSt} {pr : Nat → Nat} {s p j : Nat} : ownB L pr s p j = true ↔ hld L pr s j = true ∧ pa L j = p := by
  rw [ownB, Bool.and_eq_true, decide_eq_true_eq]
/-- a sum over the lines of p that hold -/
def lsum (L : LSt) (pr : Nat → Nat) (s p : Nat) (g : Nat → Nat) (n : Nat) : Nat := sumP (fun j => if ownB L pr s p j = true then g j else 0) n
theorem atS_lsum {np : Nat} {L : LSt} {pr : Nat → Nat} {s p : Nat} {g : Nat → Nat} (hI : LI np L) (hW : PW L) : atS L pr s p g = lsum L pr s p g (ln L) := by
  have e : ∀ k, oN g (lnAt L pr s p k) = sumP (fun j => if (ownB L pr s p j && decide (po L j = k)) = true then g j else 0) (ln L) := by
    intro k
    rw [lst_sum (c := fun j => ownB L pr s p j && decide (po L j = k)) (fun i j hi hj h1 h2 => by
      simp only [Bool.and_eq_true, own_iff, decide_eq_true_eq] at h1 h2
      exact hW.uq hi hj h1.1.1 h2.1.1 (h1.1.2.trans h2.1.2.symm) (h1.2.trans h2.2.symm))]
    congr 1
    exact lst_congr (fun j _ => by simp only [ownB, Bool.and_assoc])
  rw [atS, sK_congr (fun k _ _ => e k), sK_sumP, lsum]
  exact sumP_congr (fun j hj => sK_pos (hI.2.2 j hj).2.1)
theorem has_s {L : LSt} {pr : Nat → Nat} {s c : Nat} : ∀ f p, NC (ln L) (pa L) (ch L) f p → hasN L pr s (f + 1) p c = hasN L pr s f p c
  | 0, _, h => h.elim
  | f + 1, p, h => by
    rw [hasN, hasN]
    split
    · rfl
    · exact atS_congr (fun j h1 _ h3 => by rw [has_s f _ (h j h1 h3)])
theorem has_self {L : LSt} {pr : Nat → Nat} {s f p : Nat} : hasN L pr s (f + 1) p p = 1 := by rw [hasN, if_pos rfl]
theorem has_sum {np : Nat} {L : LSt} {pr : Nat → Nat} {s p c : Nat} (hI : LI np L) (hW : PW L) (hN : NC5 L) (h : p ≠ c) : hasN L pr s 5 p c = lsum L pr s p (fun l => qt L l * hasN L pr s 5 (ch L l) c) (ln L) := by
  rw [← atS_lsum hI hW, hasN, if_neg h]
  exact atS_congr (fun j h1 _ _ => by rw [has_s 4 _ (hN (pa L j) j h1 rfl)])
/-- what the law adds up for c in p -/
def allN (L : LSt) (pr : Nat → Nat) (s p c n : Nat) : Nat := (if p = c then 1 else 0) + sumP (fun l => if (ownB L pr s p l && decide (p ≠ c)) = true then qt L l * hasN L pr s 5 (ch L l) c else 0) n
theorem all_has {np : Nat} {L : LSt} {pr : Nat → Nat} {s p c : Nat} (hI : LI np L) (hW : PW L) (hN : NC5 L) : allN L pr s p c (ln L) = hasN L pr s 5 p c := by
  rw [allN]
  by_cases h : p = c
  · subst h
    rw [if_pos rfl, has_self, sumP_0 (fun k _ => if_neg (by simp))]
  · rw [if_neg h, Nat.zero_add, has_sum hI hW hN h, lsum]
    exact sumP_congr (fun j _ => by rw [decide_eq_true h, Bool.and_true])
/-! paths -/
theorem has_lev {L : LSt} {pr : Nat → Nat} {s c : Nat} : ∀ {f p : Nat}, hasN L pr s f p c ≠ 0 → ∃ k, lev (Ed (ln L) (pa L) (ch L)) k p c
  | 0, _, h => absurd rfl h
  | f + 1, p, h => by
    by_cases h0 : p = c
    · exact ⟨0, h0⟩
    · rw [hasN, if_neg h0] at h
      rcases Classical.em (∃ j, j < ln L ∧ pa L j = p ∧ hasN L pr s f (ch L j) c ≠ 0) with h1 | h1
      · obtain ⟨j, h2, h3, h4⟩ := h1
        obtain ⟨k, h5⟩ := has_lev h4
        exact ⟨k + 1, ch L j, ⟨j, h2, h3, rfl⟩, h5⟩
      · refine absurd (atS_0 (fun j h2 _ h3 => ?_)) h
        have h5 : hasN L pr s f (ch L j) c = 0 := Classical.byContradiction (fun h6 => h1 ⟨j, h2, h3, h6⟩)
        rw [h5, Nat.mul_zero]
/-- a part isn't in its child -/
theorem has_back {L : LSt} {pr : Nat → Nat} {s f j : Nat} (hN : NC5 L) (hj : j < ln L) : hasN L pr s f (ch L j) (pa L j) = 0 :=
  Classical.byContradiction (fun h => by
    obtain ⟨k, h1⟩ := has_lev h
    exact no_loop hN (lev_snoc.mpr ⟨pa L j, h1, ⟨j, hj, rfl, rfl⟩⟩))
theorem ch_ne {L : LSt} {j : Nat} (hN : NC5 L) (hj : j < ln L) : pa L j ≠ ch L j := fun h => no_loop hN (i := 0) (c := pa L j) ⟨ch L j, ⟨j, hj, rfl, rfl⟩, h.symm⟩
/-! levels -/
theorem no_HE5 {L : LSt} {pr : Nat → Nat} {s p q : Nat} (hN : NC5 L) : ¬ lev (HE L pr s) 5 p q := fun h => NC_iff.mp (hN p) q (lev_mono (fun _ _ ⟨i, h1, _, h3, h4⟩ => ⟨i, h1, h3, h4⟩) 5 _ _ h)
theorem dpt_lt {np : Nat} {L : LSt} {pr : Nat → Nat} {s p j : Nat} (hI : LI np L) (hW : PW L) (hN : NC5 L) (hj : j < ln L) (hh : hld L pr s j = true) (hp : pa L j = p) : dptN L pr s 5 (ch L j) < dptN L pr s 5 p := by
  have hE : HE L pr s p (ch L j) := ⟨j, hj, hh, hp, rfl⟩
  have h1 := (dptN_iff (pr := pr) (s := s) hI hW (f := 5) (p := ch L j) (j := dptN L pr s 5 (ch L j))).mp (Nat.le_refl _)
  refine (dptN_iff hI hW).mpr (Or.inr ?_)
  rcases h1 with h1 | ⟨h1, q, h2⟩
  · exact ⟨by omega, ch L j, by rw [h1]; exact ⟨_, hE, rfl⟩⟩
  · refine ⟨?_, q, ⟨_, hE, h2⟩⟩
    rcases Nat.lt_or_ge (dptN L pr s 5 (ch L j)) 5 with h3 | h3
    · omega
    · rw [show dptN L pr s 5 (ch L j) = 5 by omega] at h2
      exact absurd h2 (no_HE5 hN)
theorem dpt_4 {np : Nat} {L : LSt} {pr : Nat → Nat} {s p : Nat} (hI : LI np L) (hW : PW L) (hN : NC5 L) : dptN L pr s 5 p ≤ 4 := by
  rcases Nat.lt_or_ge (dptN L pr s 5 p) 5 with h | h
  · omega
  · rcases (dptN_iff (pr := pr) (s := s) hI hW (f := 5) (p := p) (j := 5)).mp h with h1 | ⟨-, q, h2⟩
    · omega
    · exact absurd h2 (no_HE5 hN)
/-! how many lines of p hold -/
def dirN (L : LSt) (pr : Nat → Nat) (s p : Nat) (n : Nat) : Nat := cntB (ownB L pr s p) n
theorem cnt_sum {f : Nat → Bool} : ∀ {n : Nat}, cntB f n = sumP (fun j => if f j = true then 1 else 0) n
  | 0 => rfl
  | n + 1 => by
    rw [cntB, sumP, cnt_sum (n := n)]
    cases f n <;> rfl
theorem dir_atS {np : Nat} {L : LSt} {pr : Nat → Nat} {s p : Nat} (hI : LI np L) (hW : PW L) : dirN L pr s p (ln L) = atS L pr s p (fun _ => 1) := by
  rw [atS_lsum hI hW, dirN, cnt_sum]; rfl
theorem cnt_pos {f : Nat → Bool} : ∀ {n : Nat}, 0 < cntB f n ↔ ∃ j, j < n ∧ f j = true
  | 0 => ⟨fun h => absurd h (Nat.not_lt_zero _), fun ⟨j, h, _⟩ => absurd h (Nat.not_lt_zero _)⟩
  | n + 1 => by
    rw [cntB]
    constructor
    · intro h
      cases hf : f n with
      | true => exact ⟨n, Nat.lt_succ_self n, hf⟩
      | false =>
        rw [hf] at h
        obtain ⟨j, h1, h2⟩ := cnt_pos.mp (show 0 < cntB f n from h)
        exact ⟨j, by omega, h2⟩
    · rintro ⟨j, h1, h2⟩
      by_cases e : j = n
      · subst e; rw [h2]; exact Nat.lt_of_lt_of_le (by decide) (Nat.le_add_left 1 _)
      · have := cnt_pos (n := n).mpr ⟨j, by omega, h2⟩
        omega
/-! the dearest line -/
theorem dst_own {L : LSt} {pr : Nat → Nat} {s p : Nat} {g : Nat → UInt32} : ∀ n b, dstF L pr s p g n = some b → b < ln L ∧ hld L pr s b = true ∧ pa L b = p
  | 0, b, h => by cases h
  | n + 1, b, h => by
    cases hx : lnAt L pr s p (n + 1) with
    | none => rw [dst_n hx] at h; exact dst_own n b h
    | some l =>
      have hl := lnAt_some hx
      cases hd : dstF L pr s p g n with
      | none => rw [dst_1 hx hd] at h; cases h; exact ⟨hl.1, hl.2.1, hl.2.2.1⟩
      | some c =>
        by_cases h2 : Op.cmpValue (FP.fcmp (g l) (g c)) CmpOp.l ≤ 0
        · rw [dst_f hx hd h2] at h; cases h; exact dst_own n b hd
        · rw [dst_t hx hd h2] at h; cases h; exact ⟨hl.1, hl.2.1, hl.2.2.1⟩
theorem dst_none {L : LSt} {pr : Nat → Nat} {s p : Nat} {g : Nat → UInt32} : ∀ n, dstF L pr s p g n = none → ∀ k, 1 ≤ k → k ≤ n → lnAt L pr s p k = none
  | 0, _, k, h1, h2 => absurd h1 (by omega)
  | n + 1, h, k, h1, h2 => by
    cases hx : lnAt L pr s p (n + 1) with
    | none =>
      by_cases e : k = n + 1
      · rw [e]; exact hx
      · rw [dst_n hx] at h; exact dst_none n h k h1 (by omega)
    | some l =>
      cases hd : dstF L pr s p g n with
      | none => rw [dst_1 hx hd] at h; cases h
      | some c =>
        by_cases h3 : Op.cmpValue (FP.fcmp (g l) (g c)) CmpOp.l ≤ 0
        · rw [dst_f hx hd h3] at h; cases h
        · rw [dst_t hx hd h3] at h; cases h
theorem dst_dir {np : Nat} {L : LSt} {pr : Nat → Nat} {s p : Nat} {g : Nat → UInt32} (hI : LI np L) (hW : PW L) : (0 < dirN L pr s p (ln L)) ↔ dstF L pr s p g 6 ≠ none := by
  rw [dirN, cnt_pos]
  constructor
  · rintro ⟨j, h1, h2⟩ h3
    rw [own_iff] at h2
    have hp := (hI.2.2 j h1).2.1
    have h4 := dst_none 6 h3 (po L j) hp.1 hp.2
    rw [lnAt_of hW h1 h2.1 h2.2 rfl] at h4
    cases h4
  · intro h
    cases hd : dstF L pr s p g 6 with
    | none => exact absurd hd h
    | some b =>
      have := dst_own 6 b hd
      exact ⟨b, this.1, own_iff.mpr ⟨this.2.1, this.2.2⟩⟩
/-! lists -/
theorem lK_length {α : Type} {g : Nat → List α} : ∀ {n : Nat}, (lK g n).length = sK (fun k => (g k).length) n
  | 0 => rfl
  | n + 1 => by rw [lK, List.length_append, sK, lK_length (n := n)]
/-- without phantoms below it the list is the lines -/
theorem list_plain {np : Nat} {kd : Nat → Nat} {L : LSt} {pr : Nat → Nat} {s p m f : Nat} (hI : LI np L) (hW : PW L) (h : ∀ j, j < ln L → ownB L pr s p j = true → kd (ch L j) ≠ 112) : (listN kd L pr s (f + 1) p m).length = dirN L pr s p (ln L) := by
  rw [dir_atS hI hW, listN, lK_length, atS]
  refine sK_congr (fun k _ _ => ?_)
  cases hx : lnAt L pr s p k with
  | none => rfl
  | some l =>
    have hl := lnAt_some hx
    show (if kd (ch L l) = 112 then listN kd L pr s f (ch L l) (m * qt L l) else [(ch L l, m * qt L l)]).length = 1
    rw [if_neg (h l hl.1 (own_iff.mpr ⟨hl.2.1, hl.2.2.1⟩))]
    rfl
theorem lK_all {α : Type} {g : Nat → List α} {C : α → Prop} : ∀ {n : Nat}, (∀ k x, x ∈ g k → C x) → ∀ x ∈ lK g n, C x
  | 0, _, x, h => nomatch h
  | n + 1, h, x, hx => by
    rw [lK, List.mem_append] at hx
    rcases hx with hx | hx
    · exact lK_all (n := n) h x hx
    · exact h _ x hx
/-- no phantom stands in a list -/
theorem list_kind {kd : Nat → Nat} {L : LSt} {pr : Nat → Nat} {s : Nat} : ∀ {f p m : Nat}, ∀ x ∈ listN kd L pr s f p m, kd x.1 ≠ 112
  | 0, _, _, x, h => nomatch h
  | f + 1, p, m, x, h => by
    rw [listN] at h
    refine lK_all (C := fun x => kd x.1 ≠ 112) (fun k y hy => ?_) x h
    cases hx : lnAt L pr s p k with
    | none => rw [hx] at hy; exact nomatch hy
    | some l =>
      rw [hx] at hy
      have hy : y ∈ (if kd (ch L l) = 112 then listN kd L pr s f (ch L l) (m * qt L l) else [(ch L l, m * qt L l)]) := hy
      split at hy
      · exact list_kind y hy
      · rename_i hk
        rw [List.mem_singleton] at hy
        subst hy
        exact hk
/-- what the entries add up to -/
def sQ (xs : List (Nat × Nat)) : Nat := (xs.map (fun x => x.2)).sum
theorem sQ_app {xs ys : List (Nat × Nat)} : sQ (xs ++ ys) = sQ xs + sQ ys := by rw [sQ, List.map_append, List.sum_append]; rfl
theorem sQ_lK {g : Nat → List (Nat × Nat)} : ∀ {n : Nat}, sQ (lK g n) = sK (fun k => sQ (g k)) n
  | 0 => rfl
  | n + 1 => by rw [lK, sQ_app, sK, sQ_lK (n := n)]
theorem sQ_take {xs : List (Nat × Nat)} : ∀ {k : Nat}, k < xs.length → sQ (xs.take (k + 1)) = sQ (xs.take k) + (xs.getD k (0, 0)).2 := by
  intro k h
  have e : xs.take (k + 1) = xs.take k ++ [xs.getD k (0, 0)] := by
    rw [show xs.getD k (0, 0) = xs[k] by simp [List.getD, h], List.take_append_getElem h]
  rw [e, sQ_app]
  show _ = sQ (xs.take k) + _
  simp [sQ]
/-- the parts in p that are no phantoms, but p itself -/
def othN (kd : Nat → Nat) (L : LSt) (pr : Nat → Nat) (s f p n : Nat) : Nat := sumP (fun c => if c ≠ p ∧ kd c ≠ 112 then hasN L pr s f p c else 0) n
theorem sumP_sK {h : Nat → Nat → Nat} {m n : Nat} : sumP (fun j => sK (fun k => h j k) m) n = sK (fun k => sumP (fun j => h j k) n) m := sK_sumP.symm
theorem sumP_le {g g' : Nat → Nat} : ∀ {n : Nat}, (∀ k, k < n → g k ≤ g' k) → sumP g n ≤ sumP g' n
  | 0, _ => Nat.le_refl 0
  | n + 1, h => by
    have h1 := sumP_le (n := n) (fun k hk => h k (by omega))
    have h2 := h n (by omega)
    rw [sumP, sumP]; omega
theorem sK_le2 {g g' : Nat → Nat} : ∀ {n : Nat}, (∀ k, 1 ≤ k → k ≤ n → g k ≤ g' k) → sK g n ≤ sK g' n
  | 0, _ => Nat.le_refl 0
  | n + 1, h => by
    have h1 := sK_le2 (n := n) (fun k h3 hk => h k h3 (by omega))
    have h2 := h (n + 1) (by omega) (by omega)
    rw [sK, sK]; omega
theorem sumP_split {C : Nat → Prop} [DecidablePred C] {h : Nat → Nat} {d : Nat} : ∀ {n : Nat}, sumP (fun c => if C c then h c else 0) n = sumP (fun c => if c ≠ d ∧ C c then h c else 0) n + (if d < n ∧ C d then h d else 0)
  | 0 => by rw [if_neg (by omega)]; rfl
  | n + 1 => by
    rw [sumP, sumP, sumP_split (C := C) (h := h) (d := d) (n := n)]
    by_cases e : n = d
    · subst e
      rw [if_neg (show ¬ (n < n ∧ C n) by omega), if_neg (show ¬ (n ≠ n ∧ C n) from fun h => h.1 rfl)]
      by_cases hc : C n
      · rw [if_pos hc, if_pos ⟨by omega, hc⟩]
      · rw [if_neg hc, if_neg (fun h => hc h.2)]
    · have e1 : (if n ≠ d ∧ C n then h n else 0) = (if C n then h n else 0) := by
        by_cases hc : C n
        · rw [if_pos ⟨e, hc⟩, if_pos hc]
        · rw [if_neg (fun q => hc q.2), if_neg hc]
      have e2 : (if d < n + 1 ∧ C d then h d else 0) = (if d < n ∧ C d then h d else 0) := by
        by_cases h1 : d < n ∧ C d
        · rw [if_pos h1, if_pos ⟨by omega, h1.2⟩]
        · rw [if_neg h1, if_neg (fun q => h1 ⟨by omega, q.2⟩)]
      rw [e1, e2]; omega
theorem atS_mul {L : LSt} {pr : Nat → Nat} {s p m : Nat} {g : Nat → Nat} : atS L pr s p (fun l => m * g l) = m * atS L pr s p g := by
  rw [atS, atS, ← sK_mul]
  refine sK_congr (fun k _ _ => ?_)
  cases lnAt L pr s p k with
  | none => exact (Nat.mul_zero m).symm
  | some l => rfl
theorem atS_le2 {L : LSt} {pr : Nat → Nat} {s p : Nat} {g g' : Nat → Nat} (h : ∀ j, j < ln L → hld L pr s j = true → pa L j = p → g j ≤ g' j) : atS L pr s p g ≤ atS L pr s p g' := by
  refine sK_le2 (fun k _ _ => ?_)
  cases hx : lnAt L pr s p k with
  | none => exact Nat.le_refl 0
  | some j => have := lnAt_some hx; exact h j this.1 this.2.1 this.2.2.1
theorem sumP_atS {L : LSt} {pr : Nat → Nat} {s p n : Nat} {h : Nat → Nat → Nat} : sumP (fun c => atS L pr s p (fun l => h c l)) n = atS L pr s p (fun l => sumP (fun c => h c l) n) := by
  simp only [atS]
  rw [sumP_sK]
  refine sK_congr (fun k _ _ => ?_)
  cases lnAt L pr s p k with
  | none => exact sumP_0 (fun _ _ => rfl)
  | some l => rfl
/-- the others in p are what its lines' children bring -/
theorem oth_step {np : Nat} {kd : Nat → Nat} {L : LSt} {pr : Nat → Nat} {s f p : Nat} (hI : LI np L) (hN : NC5 L) : atS L pr s p (fun l => qt L l * ((if kd (ch L l) = 112 then 0 else 1) + othN kd L pr s (f + 1) (ch L l) np)) ≤ othN kd L pr s (f + 2) p np := by
  have e : othN kd L pr s (f + 2) p np = atS L pr s p (fun l => sumP (fun c => if c ≠ p ∧ kd c ≠ 112 then qt L l * hasN L pr s (f + 1) (ch L l) c else 0) np) := by
    rw [← sumP_atS, othN]
    refine sumP_congr (fun c _ => ?_)
    by_cases h : c ≠ p ∧ kd c ≠ 112
    · simp only [if_pos h]
      rw [hasN, if_neg (fun e => h.1 e.symm)]
    · simp only [if_neg h]
      exact (atS_0 (fun _ _ _ _ => rfl)).symm
  rw [e]
  refine atS_le2 (fun l h1 h2 h3 => ?_)
  have hc := (hI.2.2 l h1).2.2.1
  have e2 : sumP (fun c => if c ≠ p ∧ kd c ≠ 112 then qt L l * hasN L pr s (f + 1) (ch L l) c else 0) np = sumP (fun c => qt L l * (if kd c ≠ 112 then hasN L pr s (f + 1) (ch L l) c else 0)) np := by
    refine sumP_congr (fun c _ => ?_)
    by_cases hk : kd c ≠ 112
    · by_cases hp : c = p
      · rw [if_neg (fun h => h.1 hp), if_pos hk, hp, ← h3, has_back hN h1, Nat.mul_zero]
      · rw [if_pos ⟨hp, hk⟩, if_pos hk]
    · rw [if_neg (fun h => hk h.2), if_neg hk, Nat.mul_zero]
  rw [e2, sumP_mul]
  refine Nat.mul_le_mul_left _ ?_
  rw [sumP_split (C := fun c => kd c ≠ 112) (h := fun c => hasN L pr s (f + 1) (ch L l) c) (d := ch L l), Nat.add_comm]
  refine Nat.add_le_add (Nat.le_refl _) ?_
  by_cases hk : kd (ch L l) = 112
  · rw [if_pos hk]; exact Nat.zero_le _
  · rw [if_neg hk, if_pos ⟨hc, hk⟩, has_self]; exact Nat.le_refl 1
theorem entries_le {np : Nat} {kd : Nat → Nat} {L : LSt} {pr : Nat → Nat} {s : Nat} (hI : LI np L) (hN : NC5 L) : ∀ {f p m : Nat}, NC (ln L) (pa L) (ch L) (f + 1) p → sQ (listN kd L pr s (f + 1) p m) ≤ m * othN kd L pr s (f + 1) p np
  | f, p, m, hnc => by
    have e : sQ (listN kd L pr s (f + 1) p m) = atS L pr s p (fun l => if kd (ch L l) = 112 then sQ (listN kd L pr s f (ch L l) (m * qt L l)) else m * qt L l) := by
      rw [listN, sQ_lK, atS]
      refine sK_congr (fun k _ _ => ?_)
      cases lnAt L pr s p k with
      | none => rfl
      | some l =>
        show sQ (if kd (ch L l) = 112 then listN kd L pr s f (ch L l) (m * qt L l) else [(ch L l, m * qt L l)]) = if kd (ch L l) = 112 then _ else _
        split
        · rfl
        · simp [sQ]
    rw [e]
    match f, hnc with
    | 0, hnc =>
      rw [atS_0 (fun j h1 _ h3 => (hnc j h1 h3).elim)]
      exact Nat.zero_le _
    | f + 1, hnc =>
      refine Nat.le_trans (atS_le2 (g' := fun l => m * (qt L l * ((if kd (ch L l) = 112 then 0 else 1) + othN kd L pr s (f + 1) (ch L l) np))) (fun l h1 h2 h3 => ?_)) ?_
      · by_cases hk : kd (ch L l) = 112
        · rw [if_pos hk, if_pos hk, Nat.zero_add, ← Nat.mul_assoc]
          exact entries_le hI hN (hnc l h1 h3)
        · rw [if_neg hk, if_neg hk]
          exact Nat.mul_le_mul_left _ (Nat.le_mul_of_pos_right _ (by omega))
      · rw [atS_mul]
        exact Nat.mul_le_mul_left _ (oth_step hI hN)
/-- the law's sum of the parts in p -/
theorem entries_oth {np : Nat} {kd : Nat → Nat} {L : LSt} {pr : Nat → Nat} {s p : Nat} (hI : LI np L) (hN : NC5 L) : sQ (listN kd L pr s 5 p 1) ≤ othN kd L pr s 5 p np := by
  have h := entries_le (kd := kd) (pr := pr) (s := s) (m := 1) hI hN (hN p)
  rwa [Nat.one_mul] at h
/-- with one phantom a list is short -/
theorem list_short {kd : Nat → Nat} {L : LSt} {pr : Nat → Nat} {s p m : Nat} (hN : NC5 L) (h4 : ∀ j, j < ln L → kd (ch L j) = 112 → ch L j = 4) : (listN kd L pr s 5 p m).length ≤ 36 := by
  have h1 : ∀ (f m : Nat), (listN kd L pr s (f + 1) 4 m).length ≤ 6 := by
    intro f m
    rw [listN]
    refine Nat.le_trans (lK_len (b := 1) (fun k => ?_)) (by decide)
    cases hx : lnAt L pr s 4 k with
    | none => exact Nat.zero_le _
    | some l =>
      have hl := lnAt_some hx
      show (if kd (ch L l) = 112 then listN kd L pr s f (ch L l) (m * qt L l) else [(ch L l, m * qt L l)]).length ≤ 1
      rw [if_neg (fun h => ch_ne hN hl.1 (hl.2.2.1.trans (h4 l hl.1 h).symm))]
      exact Nat.le_refl 1
  rw [listN]
  refine Nat.le_trans (lK_len (b := 6) (fun k => ?_)) (by decide)
  cases hx : lnAt L pr s p k with
  | none => exact Nat.zero_le _
  | some l =>
    have hl := lnAt_some hx
    show (if kd (ch L l) = 112 then listN kd L pr s 4 (ch L l) (m * qt L l) else [(ch L l, m * qt L l)]).length ≤ 6
    split
    · rename_i h
      rw [h4 l hl.1 h]
      exact h1 3 _
    · exact (by decide : (1 : Nat) ≤ 6)
/-! orders -/
theorem need_congr {L : LSt} {O O' : OSt} {c : Nat} : ∀ {n : Nat}, (∀ k, k < n → O'.2.2.2.2.2 k = O.2.2.2.2.2 k ∧ O'.2.2.2.1 k = O.2.2.2.1 k ∧ O'.2.2.2.2.1 k = O.2.2.2.2.1 k ∧ O'.2.2.1 k = O.2.2.1 k ∧ O'.2.1 k = O.2.1 k) → needN L O' c n = needN L O c n
  | 0, _ => rfl
  | n + 1, h => by
    have h1 := h n (by omega)
    rw [needN, needN, need_congr (n := n) (fun k hk => h k (by omega)), h1.1, h1.2.1, h1.2.2.1, h1.2.2.2.1, h1.2.2.2.2]
theorem need_add {np : Nat} {L : LSt} {O : OSt} {p s u c : Nat} {pr : Nat → Nat} (hO : OI np O) : needN L (addO O p s u pr) c (O.1 + 1) = needN L O c O.1 + u * hasN L pr s 5 p c := by
  rw [needN]
  have h1 : (addO O p s u pr).2.2.2.2.2 O.1 = false := hO.2.2 O.1 (Nat.le_refl _)
  have e : ∀ {α : Type} {f : Nat → α} {x : α}, va_up f O.1 x O.1 = x := fun {α f x} => if_pos rfl
  rw [h1, need_congr (O := O) (O' := addO O p s u pr) (fun k hk => ⟨rfl, if_neg (by omega), if_neg (by omega), if_neg (by omega), if_neg (by omega)⟩)]
  show _ + va_up O.2.2.2.1 O.1 u O.1 * hasN L (va_up O.2.2.2.2.1 O.1 pr O.1) (va_up O.2.2.1 O.1 s O.1) 5 (va_up O.2.1 O.1 p O.1) c = _
  rw [e, e, e, e]
/-! what the rows of the law say of the lines -/
theorem held_le {n : Nat} {f : Nat → Bool} {g : Nat → Nat} {k : Nat} : ∀ {m : Nat}, m ≤ n → (∀ i j, i < n → j < n → f i = true → f j = true → g i = g j → i = j) → cntB (fun j => f j && decide (g j = k)) m ≤ 1
  | 0, _, _ => Nat.zero_le 1
  | m + 1, hm, h => by
    rw [cntB]
    cases hf : (f m && decide (g m = k)) with
    | false => exact held_le (n := n) (by omega) h
    | true =>
      rw [Bool.and_eq_true, decide_eq_true_eq] at hf
      have h0 : cntB (fun j => f j && decide (g j = k)) m = 0 := by
        rcases Nat.eq_zero_or_pos (cntB (fun j => f j && decide (g j = k)) m) with h1 | h1
        · exact h1
        · obtain ⟨j, h2, h3⟩ := cnt_pos.mp h1
          rw [Bool.and_eq_true, decide_eq_true_eq] at h3
          have := h j m (by omega) (by omega) h3.1 hf.1 (h3.2.trans hf.2.symm)
          omega
      rw [h0]; exact Nat.le_refl 1
theorem held_one {np : Nat} {L : LSt} {pr : Nat → Nat} {s k : Nat} (hI : LI np L) (hW : PW L) : cntB (fun j => hld L pr s j && decide (7 * pa L j + po L j = k)) (ln L) ≤ 1 :=
  held_le (n := ln L) (Nat.le_refl _) (fun i j hi hj h1 h2 h3 => by
    have b1 := (hI.2.2 i hi).2.1
    have b2 := (hI.2.2 j hj).2.1
    exact hW.uq hi hj h1 h2 (by omega) (by omega))
