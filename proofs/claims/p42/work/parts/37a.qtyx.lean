/-! QUANTITIES level by level, pure; rows of long and floating numbers that agree below their length -/
section XArr2
variable {G : Gx} {μ : Mth} {d gc gs pc : Nat} {lo : List (Nat × Value)} {st : List Value} {w : Wd} {Q : XRes → Wd → Prop}
theorem XJ.extL {i n : Nat} {f g : Nat → Int64} (hM : cel w i (aL G.2.2.1 n f)) (h : ∀ j, j < n → f j = g j) (k : XJ G μ d gc gs pc lo st (setM w i (aL G.2.2.1 n g)) Q) : XJ G μ d gc gs pc lo st w Q := by
  refine XJ.ext hM (fun q H h1 => ?_) k
  have e : arrV (G.2.2.1 3) n (fun j => .long (f j)) = arrV (G.2.2.1 3) n (fun j => .long (g j)) := arrV_ext (fun j hj => by rw [h j hj])
  exact (show H[q]? = _ from h1).trans (congrArg some e)
theorem XJ.extF {i n : Nat} {f g : Nat → UInt32} (hM : cel w i (aF G.2.2.1 n f)) (h : ∀ j, j < n → f j = g j) (k : XJ G μ d gc gs pc lo st (setM w i (aF G.2.2.1 n g)) Q) : XJ G μ d gc gs pc lo st w Q := by
  refine XJ.ext hM (fun q H h1 => ?_) k
  have e : arrV (G.2.2.1 4) n (fun j => .float (f j)) = arrV (G.2.2.1 4) n (fun j => .float (g j)) := arrV_ext (fun j hj => by rw [h j hj])
  exact (show H[q]? = _ from h1).trans (congrArg some e)
theorem XJ.extD {i n : Nat} {f g : Nat → UInt64} (hM : cel w i (aD G.2.2.1 n f)) (h : ∀ j, j < n → f j = g j) (k : XJ G μ d gc gs pc lo st (setM w i (aD G.2.2.1 n g)) Q) : XJ G μ d gc gs pc lo st w Q := by
  refine XJ.ext hM (fun q H h1 => ?_) k
  have e : arrV (G.2.2.1 5) n (fun j => .double (f j)) = arrV (G.2.2.1 5) n (fun j => .double (g j)) := arrV_ext (fun j hj => by rw [h j hj])
  exact (show H[q]? = _ from h1).trans (congrArg some e)
end XArr2
def nLf (a : Nat → Nat) : Nat → Int64 := fun x => nL (a x)
/-- the sum over 0 .. n-1 -/
def sumP (g : Nat → Nat) : Nat → Nat
  | 0 => 0
  | n + 1 => sumP g n + g n
theorem sumP_congr {g g' : Nat → Nat} : ∀ {n : Nat}, (∀ k, k < n → g k = g' k) → sumP g n = sumP g' n
  | 0, _ => rfl
  | n + 1, h => by rw [sumP, sumP, sumP_congr (n := n) (fun k h1 => h k (by omega)), h n (by omega)]
theorem sumP_add {g g' : Nat → Nat} : ∀ {n : Nat}, sumP (fun k => g k + g' k) n = sumP g n + sumP g' n
  | 0 => rfl
  | n + 1 => by rw [sumP, sumP, sumP, sumP_add (n := n)]; omega
theorem sumP_mul {g : Nat → Nat} {c : Nat} : ∀ {n : Nat}, sumP (fun k => c * g k) n = c * sumP g n
  | 0 => rfl
  | n + 1 => by rw [sumP, sumP, sumP_mul (n := n), Nat.mul_add]
theorem sumP_0 {g : Nat → Nat} : ∀ {n : Nat}, (∀ k, k < n → g k = 0) → sumP g n = 0
  | 0, _ => rfl
  | n + 1, h => by rw [sumP, sumP_0 (n := n) (fun k h1 => h k (by omega)), h n (by omega)]
theorem sumP_one {g : Nat → Nat} {p : Nat} : ∀ {n : Nat}, p < n → (∀ k, k < n → k ≠ p → g k = 0) → sumP g n = g p
  | 0, h, _ => absurd h (Nat.not_lt_zero _)
  | n + 1, h, h0 => by
    rw [sumP]
    by_cases h1 : p = n
    · rw [sumP_0 (fun k hk => h0 k (by omega) (by omega)), Nat.zero_add, h1]
    · rw [sumP_one (n := n) (by omega) (fun k hk => h0 k (by omega)), h0 n (by omega) (by omega), Nat.add_zero]
/-- what p gives its child x -/
def givN (L : LSt) (pr : Nat → Nat) (s p m x : Nat) : Nat → Nat := sK (fun k => oN (fun l => if ch L l = x then m * qt L l else 0) (lnAt L pr s p k))
def stpN (L : LSt) (pr : Nat → Nat) (s : Nat) (a : Nat → Nat) (x : Nat) : Nat → Nat := sumP (fun p => givN L pr s p (a p) x 6)
theorem givN_0 {L : LSt} {pr : Nat → Nat} {s p x n : Nat} : givN L pr s p 0 x n = 0 := by
  refine sK_0 (fun k _ _ => ?_)
  cases lnAt L pr s p k with
  | none => rfl
  | some j => show (if ch L j = x then 0 * qt L j else 0) = 0; split <;> omega
theorem givN_add {L : LSt} {pr : Nat → Nat} {s p x a b n : Nat} : givN L pr s p (a + b) x n = givN L pr s p a x n + givN L pr s p b x n := by
  rw [givN, givN, givN, ← sK_add]
  refine sK_congr (fun k _ _ => ?_)
  cases lnAt L pr s p k with
  | none => rfl
  | some j => show (if ch L j = x then (a + b) * qt L j else 0) = (if ch L j = x then a * qt L j else 0) + (if ch L j = x then b * qt L j else 0); split <;> first | exact Nat.add_mul _ _ _ | rfl
theorem givN_mul {L : LSt} {pr : Nat → Nat} {s p x a b n : Nat} : givN L pr s p (a * b) x n = a * givN L pr s p b x n := by
  rw [givN, givN, ← sK_mul]
  refine sK_congr (fun k _ _ => ?_)
  cases lnAt L pr s p k with
  | none => exact (Nat.mul_zero a).symm
  | some j => show (if ch L j = x then (a * b) * qt L j else 0) = a * (if ch L j = x then b * qt L j else 0); split <;> first | exact Nat.mul_assoc _ _ _ | exact (Nat.mul_zero a).symm
theorem stpN_add {L : LSt} {pr : Nat → Nat} {s x n : Nat} {a b : Nat → Nat} : stpN L pr s (fun q => a q + b q) x n = stpN L pr s a x n + stpN L pr s b x n := by
  rw [stpN, stpN, stpN, ← sumP_add]
  exact sumP_congr (fun k _ => givN_add)
theorem stpN_mul {L : LSt} {pr : Nat → Nat} {s x n c : Nat} {a : Nat → Nat} : stpN L pr s (fun q => c * a q) x n = c * stpN L pr s a x n := by
  rw [stpN, stpN, ← sumP_mul]
  exact sumP_congr (fun k _ => givN_mul)
theorem stpN_z {L : LSt} {pr : Nat → Nat} {s x n : Nat} : stpN L pr s (fun _ => 0) x n = 0 := sumP_0 (fun _ _ => givN_0)
theorem stpN_sK {L : LSt} {pr : Nat → Nat} {s x n : Nat} {A : Nat → Nat → Nat} : ∀ {m : Nat}, stpN L pr s (fun q => sK (fun k => A k q) m) x n = sK (fun k => stpN L pr s (A k) x n) m
  | 0 => stpN_z
  | m + 1 => by
    rw [sK, ← stpN_sK (m := m), ← stpN_add]
    rfl
theorem stpN_atS {L : LSt} {pr : Nat → Nat} {s x n p : Nat} {A : Nat → Nat → Nat} : stpN L pr s (fun q => atS L pr s p (fun l => qt L l * A l q)) x n = atS L pr s p (fun l => qt L l * stpN L pr s (A l) x n) := by
  simp only [atS]
  rw [stpN_sK]
  refine sK_congr (fun k _ _ => ?_)
  cases lnAt L pr s p k with
  | none => exact stpN_z
  | some j => exact stpN_mul
theorem wlk_snoc {np : Nat} {L : LSt} {pr : Nat → Nat} {s : Nat} (hI : LI np L) : ∀ {i p c : Nat}, p < np → wlk L pr s (i + 1) p c = stpN L pr s (fun q => wlk L pr s i p q) c np
  | 0, p, c, hp => by
    rw [stpN, sumP_one (p := p) hp (fun k _ h => by rw [show wlk L pr s 0 p k = 0 from if_neg (fun h2 => h h2.symm), givN_0])]
    rw [show wlk L pr s 0 p p = 1 from if_pos rfl, wlk, atS, givN]
    refine sK_congr (fun k _ _ => ?_)
    cases lnAt L pr s p k with
    | none => rfl
    | some j =>
      show qt L j * (if ch L j = c then 1 else 0) = if ch L j = c then 1 * qt L j else 0
      split <;> omega
  | i + 1, p, c, hp => by
    rw [wlk, show (fun q => wlk L pr s (i + 1) p q) = fun q => atS L pr s p (fun l => qt L l * wlk L pr s i (ch L l) q) from rfl, stpN_atS]
    exact atS_congr (fun j h1 _ _ => by rw [wlk_snoc hI (hI.2.2 j h1).2.2.1])
theorem wlk_le {np : Nat} {L : LSt} {pr : Nat → Nat} {s : Nat} (hI : LI np L) : ∀ (i p c : Nat), wlk L pr s i p c ≤ 120 ^ i
  | 0, p, c => by rw [wlk]; split <;> decide
  | i + 1, p, c => by
    refine Nat.le_trans (atS_le (b := 20 * 120 ^ i) (fun j hj => ?_)) (by rw [Nat.pow_succ]; omega)
    exact Nat.mul_le_mul (hI.2.2 j hj).2.2.2.1.2 (wlk_le hI i _ c)
theorem nLf_giv {L : LSt} {pr : Nat → Nat} {s p m k j : Nat} {b : Nat → Nat} (hx : lnAt L pr s p (k + 1) = some j) : va_up (nLf (fun x => b x + givN L pr s p m x k)) (ch L j) (nL (b (ch L j) + givN L pr s p m (ch L j) k + m * qt L j)) = nLf (fun x => b x + givN L pr s p m x (k + 1)) := by
  funext x
  show (if x = ch L j then _ else _) = nL (b x + (givN L pr s p m x k + oN _ (lnAt L pr s p (k + 1))))
  rw [hx]
  show _ = nL (b x + (givN L pr s p m x k + (if ch L j = x then m * qt L j else 0)))
  split
  · rename_i h; rw [h, if_pos rfl, Nat.add_assoc]
  · rename_i h; rw [if_neg (fun h2 => h h2.symm)]; rfl
theorem nLf_giv0 {L : LSt} {pr : Nat → Nat} {s p m k : Nat} {b : Nat → Nat} (hx : lnAt L pr s p (k + 1) = none) : nLf (fun x => b x + givN L pr s p m x k) = nLf (fun x => b x + givN L pr s p m x (k + 1)) := by
  funext x
  show nL (b x + givN L pr s p m x k) = nL (b x + (givN L pr s p m x k + oN _ (lnAt L pr s p (k + 1))))
  rw [hx]; rfl
theorem nLf_one {L : LSt} {pr : Nat → Nat} {s p : Nat} : va_up (fun _ => (0 : Int64)) p 1 = nLf (fun x => wlk L pr s 0 p x) := by
  funext x
  show (if x = p then _ else _) = nL (if p = x then 1 else 0)
  split
  · rename_i h; rw [h, if_pos rfl]; rfl
  · rename_i h; rw [if_neg (fun h2 => h h2.symm)]; rfl
theorem stpN_s {L : LSt} {pr : Nat → Nat} {s x n : Nat} {a : Nat → Nat} : stpN L pr s a x (n + 1) = stpN L pr s a x n + givN L pr s n (a n) x 6 := rfl
