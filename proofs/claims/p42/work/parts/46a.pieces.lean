/-! TEXT of the class: the calls (walks by gen/spec46.py) -/
section TextP
variable {G : Gx} {w : Wd}
def capF : Nat → Nat → List Nat → Nat
  | _, cap, [] => cap
  | n, cap, k :: ks => capF (n + k) (capT n cap k) ks
theorem capF_app : ∀ {a b : List Nat} {n cap : Nat}, capF n cap (a ++ b) = capF (n + a.sum) (capF n cap a) b
  | [], b, n, cap => rfl
  | k :: a, b, n, cap => by
    show capF (n + k) (capT n cap k) (a ++ b) = capF (n + (k :: a).sum) (capF (n + k) (capT n cap k) a) b
    rw [capF_app (a := a), List.sum_cons, Nat.add_assoc]
theorem capF_ge : ∀ {a : List Nat} {n cap : Nat}, n ≤ cap → cap ≤ capF n cap a ∧ n + a.sum ≤ capF n cap a
  | [], _, _, h => ⟨Nat.le_refl _, h⟩
  | k :: a, n, cap, h => by
    have h1 := capT_ge (n := n) (cap := cap) (k := k)
    have h2 := capF_ge (a := a) h1.2
    rw [List.sum_cons]
    show cap ≤ capF (n + k) (capT n cap k) a ∧ _ ≤ capF (n + k) (capT n cap k) a
    omega
theorem capF_le : ∀ {a : List Nat} {n cap b : Nat}, cap ≤ b → 2 * (n + a.sum) ≤ b → capF n cap a ≤ b
  | [], _, _, _, h, _ => h
  | k :: a, n, cap, b, h, h2 => by
    rw [List.sum_cons] at h2
    refine capF_le (a := a) (n := n + k) (cap := capT n cap k) ?_ (by omega)
    unfold capT; split <;> omega
/-- the lengths of the pieces of one entry -/
def entP (c : Bool) (x : Nat × Nat) : List Nat := (if c then [1] else []) ++ [(digN 7 x.2).length, 1, (digN 7 x.1).length]
def lstP : Bool → List (Nat × Nat) → List Nat
  | _, [] => []
  | c, x :: xs => entP c x ++ lstP true xs
theorem lstP_app {ys : List (Nat × Nat)} : ∀ {xs : List (Nat × Nat)} {c : Bool}, xs ≠ [] → lstP c (xs ++ ys) = lstP c xs ++ lstP true ys
  | [], _, h => absurd rfl h
  | [x], c, _ => by
    show entP c x ++ lstP true ys = (entP c x ++ []) ++ lstP true ys
    rw [List.append_nil]
  | x :: y :: xs, c, _ => by
    show entP c x ++ lstP true (y :: xs ++ ys) = (entP c x ++ lstP true (y :: xs)) ++ lstP true ys
    rw [lstP_app (xs := y :: xs) (by simp), List.append_assoc]
theorem lstP_take {xs : List (Nat × Nat)} {k : Nat} (h : k < xs.length) : lstP false (xs.take (k + 1)) = lstP false (xs.take k) ++ entP (decide (0 < k)) (xs.getD k (0, 0)) := by
  have e : xs.take (k + 1) = xs.take k ++ [xs.getD k (0, 0)] := by
    rw [show xs.getD k (0, 0) = xs[k] by simp [List.getD, h], List.take_append_getElem h]
  rw [e]
  by_cases h0 : k = 0
  · subst h0
    simp [lstP]
  · rw [lstP_app (by intro h2; have := congrArg List.length h2; simp at this; rcases this with h3 | h3; exact h0 h3; subst h3; exact absurd h (Nat.not_lt_zero _)), decide_eq_true (show 0 < k by omega)]
    show _ = _ ++ entP true _
    simp [lstP]
theorem lstP_sum : ∀ {xs : List (Nat × Nat)} {c : Bool}, (lstP c xs).sum = (lstT c xs).length
  | [], _ => rfl
  | x :: xs, c => by
    show (entP c x ++ lstP true xs).sum = (entT c x ++ lstT true xs).length
    rw [List.sum_append, List.length_append, lstP_sum (xs := xs)]
    congr 1
    cases c <;> simp [entP, entT] <;> omega
theorem lstP_pre {xs : List (Nat × Nat)} : ∀ {k : Nat}, ∃ r, lstP false xs = lstP false (xs.take k) ++ r := by
  intro k
  by_cases h : xs.take k = []
  · exact ⟨lstP false xs, by rw [h]; rfl⟩
  · exact ⟨lstP true (xs.drop k), by rw [← lstP_app h, List.take_append_drop]⟩
theorem ch_app {A B : List Nat} (h1 : ∀ c ∈ A, c < 128) (h2 : ∀ c ∈ B, c < 128) : ∀ c ∈ A ++ B, c < 128 := by
  intro c h
  rw [List.mem_append] at h
  rcases h with h | h
  · exact h1 c h
  · exact h2 c h
theorem ch_one {n : Nat} (h : n < 128) : ∀ c ∈ [n], c < 128 := fun c hc => by rw [List.mem_singleton] at hc; omega
end TextP
