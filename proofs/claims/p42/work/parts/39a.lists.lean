/-! LISTS and their text, pure -/
theorem nL_div {n m : Nat} (h : n < 2 ^ 63) (hm : m < 2 ^ 63) (h0 : 0 < m) : nL n / nL m = nL (n / m) := by
  apply Int64.toInt_inj.mp
  have h1 : n / m < 2 ^ 63 := Nat.lt_of_le_of_lt (Nat.div_le_self n m) h
  rw [lg_ldiv_nonneg (by rw [nL_toInt h]; omega) (by rw [nL_toInt hm]; omega), nL_toInt h, nL_toInt hm, nL_toInt h1]
  exact (Int.natCast_ediv n m).symm
theorem nL_sub {a b : Nat} (h : b ≤ a) : nL a - nL b = nL (a - b) := by
  have h1 : nL (a - b) + nL b = nL a := by rw [nL_add]; congr 1; omega
  rw [← h1, Int64.add_sub_cancel]
theorem nL_rem {n m : Nat} (h : n < 2 ^ 63) (hm : m < 2 ^ 63) (h0 : 0 < m) : nL n - nL n / nL m * nL m = nL (n % m) := by
  rw [nL_div h hm h0, nL_mul, nL_sub (Nat.div_mul_le_self n m)]
  congr 1
  have := Nat.div_add_mod n m
  have e := Nat.mul_comm m (n / m)
  omega
theorem nL_lt {a b : Nat} (ha : a < 2 ^ 63) (hb : b < 2 ^ 63) : lg_cmp (nL a) (nL b) < 0 ↔ a < b := by
  rw [lg_cmp_lt, Int64.lt_iff_toInt_lt, nL_toInt ha, nL_toInt hb]
  omega
theorem nL_l2i {n : Nat} : (nL n).toInt32 = nI n := by
  apply Int32.toBitVec_inj.mp
  show (Int64.ofNat n).toInt32.toBitVec = BitVec.ofNat 32 n
  rw [Int64.toBitVec_toInt32]
  show (BitVec.ofNat 64 n).signExtend 32 = _
  rw [BitVec.signExtend_eq_setWidth_of_le _ (by decide)]
  apply BitVec.eq_of_toNat_eq
  simp
/-- rows one after another over the positions 1 .. n -/
def lK {α : Type} (g : Nat → List α) : Nat → List α
  | 0 => []
  | n + 1 => lK g n ++ g (n + 1)
def oL {α : Type} (g : Nat → List α) : Option Nat → List α
  | none => []
  | some l => g l
theorem lK_mono {α : Type} {g : Nat → List α} {k : Nat} : ∀ {n : Nat}, k ≤ n → (lK g k).length ≤ (lK g n).length
  | 0, h => by rw [show k = 0 by omega]; exact Nat.le_refl _
  | n + 1, h => by
    by_cases h1 : k = n + 1
    · rw [h1]; exact Nat.le_refl _
    · have h2 := lK_mono (g := g) (n := n) (show k ≤ n by omega)
      rw [lK, List.length_append]
      omega
theorem lK_len {α : Type} {g : Nat → List α} {b : Nat} : ∀ {n : Nat}, (∀ k, (g k).length ≤ b) → (lK g n).length ≤ n * b
  | 0, _ => Nat.zero_le _
  | n + 1, h => by
    have h1 := lK_len (n := n) h
    have h2 := h (n + 1)
    rw [lK, List.length_append, Nat.succ_mul]
    omega
theorem lK_mem {α : Type} {g : Nat → List α} {x : α} : ∀ {n : Nat}, x ∈ lK g n → ∃ k, x ∈ g k
  | 0, h => nomatch h
  | n + 1, h => by
    rw [lK, List.mem_append] at h
    rcases h with h | h
    · exact lK_mem h
    · exact ⟨_, h⟩
/-- the direct list of m of p: part and quantity -/
def listN (kd : Nat → Nat) (L : LSt) (pr : Nat → Nat) (s : Nat) : Nat → Nat → Nat → List (Nat × Nat)
  | 0, _, _ => []
  | f + 1, p, m => lK (fun k => oL (fun l => if kd (ch L l) = 112 then listN kd L pr s f (ch L l) (m * qt L l) else [(ch L l, m * qt L l)]) (lnAt L pr s p k)) 6
theorem listN_len {kd : Nat → Nat} {L : LSt} {pr : Nat → Nat} {s : Nat} : ∀ {f p m : Nat}, NC (ln L) (pa L) (ch L) (f + 1) p → (listN kd L pr s (f + 1) p m).length ≤ 6 ^ f
  | 0, p, m, h => by
    rw [listN]
    refine Nat.le_trans (lK_len (b := 0) (fun k => ?_)) (by decide)
    cases hx : lnAt L pr s p k with
    | none => exact Nat.le_refl _
    | some j => have := lnAt_some hx; exact (h j this.1 this.2.2.1).elim
  | f + 1, p, m, h => by
    rw [listN]
    refine Nat.le_trans (lK_len (b := 6 ^ f) (fun k => ?_)) (by rw [Nat.pow_succ, Nat.mul_comm]; exact Nat.le_refl _)
    cases hx : lnAt L pr s p k with
    | none => exact Nat.zero_le _
    | some j =>
      have := lnAt_some hx
      show (if kd (ch L j) = 112 then listN kd L pr s (f + 1) (ch L j) (m * qt L j) else [(ch L j, m * qt L j)]).length ≤ _
      split
      · exact listN_len (h j this.1 this.2.2.1)
      · exact Nat.pow_pos (by decide)
theorem listN_mem {np : Nat} {kd : Nat → Nat} {L : LSt} {pr : Nat → Nat} {s : Nat} (hI : LI np L) : ∀ {f p m : Nat} {x : Nat × Nat}, x ∈ listN kd L pr s f p m → x.1 < np ∧ x.2 ≤ m * 20 ^ f
  | 0, _, _, _, h => nomatch h
  | f + 1, p, m, x, h => by
    obtain ⟨k, h1⟩ := lK_mem h
    cases hx : lnAt L pr s p k with
    | none => rw [hx] at h1; exact nomatch h1
    | some j =>
      rw [hx] at h1
      have hj := lnAt_some hx
      have hb := hI.2.2 j hj.1
      have h2 : x ∈ (if kd (ch L j) = 112 then listN kd L pr s f (ch L j) (m * qt L j) else [(ch L j, m * qt L j)]) := h1
      have h5 : m * qt L j * 20 ^ f ≤ m * 20 ^ (f + 1) := by
        rw [Nat.pow_succ, Nat.mul_assoc, Nat.mul_comm (20 ^ f) 20]
        exact Nat.mul_le_mul_left m (Nat.mul_le_mul_right _ hb.2.2.2.1.2)
      split at h2
      · have h4 := listN_mem hI h2
        exact ⟨h4.1, by omega⟩
      · rw [List.mem_singleton] at h2
        subst h2
        refine ⟨hb.2.2.1, ?_⟩
        have h6 : m * qt L j ≤ m * qt L j * 20 ^ f := Nat.le_mul_of_pos_right _ (Nat.pow_pos (by decide))
        exact Nat.le_trans h6 h5
/-- a row written into another from n on -/
def wr {α β : Type} (v : β → α) (a : Nat → α) (n : Nat) : List β → Nat → α
  | [] => a
  | x :: xs => wr v (va_up a n (v x)) (n + 1) xs
theorem wr_app {α β : Type} {v : β → α} : ∀ {xs ys : List β} {a : Nat → α} {n : Nat}, wr v a n (xs ++ ys) = wr v (wr v a n xs) (n + xs.length) ys
  | [], ys, a, n => rfl
  | x :: xs, ys, a, n => by
    show wr v (va_up a n (v x)) (n + 1) (xs ++ ys) = _
    rw [wr_app (xs := xs), List.length_cons, show n + 1 + xs.length = n + (xs.length + 1) by omega]
    rfl
theorem wr_lt {α β : Type} {v : β → α} : ∀ {xs : List β} {a : Nat → α} {n j : Nat}, j < n → wr v a n xs j = a j
  | [], _, _, _, _ => rfl
  | x :: xs, a, n, j, h => by
    show wr v (va_up a n (v x)) (n + 1) xs j = _
    rw [wr_lt (by omega)]
    exact if_neg (by omega)
theorem wr_at {α β : Type} {v : β → α} {z : β} : ∀ {xs : List β} {a : Nat → α} {n j : Nat}, j < xs.length → wr v a n xs (n + j) = v (xs.getD j z)
  | [], _, _, _, h => absurd h (Nat.not_lt_zero _)
  | x :: xs, a, n, 0, _ => by
    show wr v (va_up a n (v x)) (n + 1) xs (n + 0) = _
    rw [wr_lt (by omega)]
    exact if_pos rfl
  | x :: xs, a, n, j + 1, h => by
    show wr v (va_up a n (v x)) (n + 1) xs (n + (j + 1)) = _
    rw [show n + (j + 1) = n + 1 + j by omega, wr_at (by simpa using h)]
    rfl
def vPt (x : Nat × Nat) : Int32 := nI x.1
def vQt (x : Nat × Nat) : Int64 := nL x.2
/-- the digits of a number -/
def digN : Nat → Nat → List Nat
  | 0, _ => []
  | f + 1, v => (if 10 ≤ v then digN f (v / 10) else []) ++ [48 + v % 10]
theorem digN_len : ∀ {f k v : Nat}, v < 10 ^ (k + 1) → (digN f v).length ≤ k + 1
  | 0, k, v, h => Nat.zero_le _
  | f + 1, 0, v, h => by rw [digN, if_neg (by omega)]; exact Nat.le_refl 1
  | f + 1, k + 1, v, h => by
    rw [digN]
    split
    · have h1 : v / 10 < 10 ^ (k + 1) := by rw [Nat.div_lt_iff_lt_mul (by decide)]; rw [Nat.pow_succ] at h; exact h
      have := digN_len (f := f) h1
      rw [List.length_append]; simp only [List.length_singleton]; omega
    · simp
/-- one entry as text; a comma before all but the first -/
def entT (c : Bool) (x : Nat × Nat) : List Nat := (if c then [44] else []) ++ (digN 7 x.2 ++ ([120] ++ digN 7 x.1))
def lstT : Bool → List (Nat × Nat) → List Nat
  | _, [] => []
  | c, x :: xs => entT c x ++ lstT true xs
theorem lstT_app {ys : List (Nat × Nat)} : ∀ {xs : List (Nat × Nat)} {c : Bool}, xs ≠ [] → lstT c (xs ++ ys) = lstT c xs ++ lstT true ys
  | [], _, h => absurd rfl h
  | [x], c, _ => by
    show entT c x ++ lstT true ys = (entT c x ++ []) ++ lstT true ys
    rw [List.append_nil]
  | x :: y :: xs, c, _ => by
    show entT c x ++ lstT true (y :: xs ++ ys) = (entT c x ++ lstT true (y :: xs)) ++ lstT true ys
    rw [lstT_app (xs := y :: xs) (by simp), List.append_assoc]
/-- the text of the first k entries, and of one more -/
theorem lstT_take {xs : List (Nat × Nat)} {k : Nat} (h : k < xs.length) : lstT false (xs.take (k + 1)) = lstT false (xs.take k) ++ entT (decide (0 < k)) (xs.getD k (0, 0)) := by
  have e : xs.take (k + 1) = xs.take k ++ [xs.getD k (0, 0)] := by
    rw [show xs.getD k (0, 0) = xs[k] by simp [List.getD, h], List.take_append_getElem h]
  rw [e]
  by_cases h0 : k = 0
  · subst h0
    simp [lstT]
  · rw [lstT_app (by intro h2; have := congrArg List.length h2; simp at this; rcases this with h3 | h3; exact h0 h3; subst h3; exact absurd h (Nat.not_lt_zero _)), decide_eq_true (show 0 < k by omega)]
    show _ = _ ++ entT true _
    simp [lstT]
theorem entT_len {c : Bool} {x : Nat × Nat} (h1 : x.1 < 100) (h2 : x.2 < 10 ^ 7) : (entT c x).length ≤ 11 := by
  have a1 := digN_len (f := 7) (k := 6) (v := x.2) h2
  have a2 := digN_len (f := 7) (k := 1) (v := x.1) (by omega)
  have a3 : (if c then [44] else ([] : List Nat)).length ≤ 1 := by cases c <;> decide
  simp only [entT, List.length_append, List.length_singleton]
  omega
theorem lstT_len : ∀ {xs : List (Nat × Nat)} {c : Bool}, (∀ x ∈ xs, x.1 < 100 ∧ x.2 < 10 ^ 7) → (lstT c xs).length ≤ 11 * xs.length
  | [], _, _ => Nat.le_refl 0
  | x :: xs, c, h => by
    have h1 := lstT_len (xs := xs) (c := true) (fun y hy => h y (List.mem_cons_of_mem x hy))
    have h2 := h x List.mem_cons_self
    have h3 := entT_len (c := c) h2.1 h2.2
    show (entT c x ++ lstT true xs).length ≤ _
    rw [List.length_append, List.length_cons]
    omega
theorem getD_mem {α : Type} {z : α} : ∀ {xs : List α} {k : Nat}, k < xs.length → xs.getD k z ∈ xs
  | [], _, h => absurd h (Nat.not_lt_zero _)
  | x :: xs, 0, _ => List.mem_cons_self
  | x :: xs, k + 1, h => List.mem_cons_of_mem x (getD_mem (xs := xs) (k := k) (by simpa using h))
theorem digN_ch : ∀ {f v : Nat}, ∀ c ∈ digN f v, c < 128
  | 0, _, _, h => nomatch h
  | f + 1, v, c, h => by
    rw [digN, List.mem_append] at h
    rcases h with h | h
    · split at h
      · exact digN_ch c h
      · exact nomatch h
    · rw [List.mem_singleton] at h; omega
theorem lstT_ch : ∀ {xs : List (Nat × Nat)} {c : Bool}, ∀ d ∈ lstT c xs, d < 128
  | [], _, _, h => nomatch h
  | x :: xs, c, d, h => by
    have h0 : d ∈ entT c x ++ lstT true xs := h
    rw [List.mem_append] at h0
    rcases h0 with h0 | h0
    · simp only [entT, List.mem_append] at h0
      rcases h0 with h1 | h1 | h1 | h1
      · cases c
        · exact nomatch h1
        · have h2 : d ∈ [44] := h1
          rw [List.mem_singleton] at h2; omega
      · exact digN_ch d h1
      · rw [List.mem_singleton] at h1; omega
      · exact digN_ch d h1
    · exact lstT_ch d h0
