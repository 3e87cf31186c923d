/-! THE CLASS's sets when a line comes, pure -/
theorem orN_congr {c c' : Nat → Bool} {v v' : Nat → Nat} : ∀ {n : Nat}, (∀ j, j < n → c j = c' j ∧ v j = v' j) → orN c v n = orN c' v' n
  | 0, _ => rfl
  | n + 1, h => by
    rw [orN, orN, (h n (by omega)).1, (h n (by omega)).2, orN_congr (fun j hj => h j (by omega))]
theorem up_eq {α : Type} (f : Nat → α) (k : Nat) (v : α) : va_up f k v k = v := if_pos rfl
theorem up_ne {α : Type} {f : Nat → α} {k j : Nat} {v : α} (h : j ≠ k) : va_up f k v j = f j := if_neg h
theorem orN_new {n p c x : Nat} {f g : Nat → Nat} : orN (fun j => decide (va_up f n p j = x)) (fun j => 2 ^ va_up g n c j) (n + 1) = if x = p then orN (fun j => decide (f j = x)) (fun j => 2 ^ g j) n ||| 2 ^ c else orN (fun j => decide (f j = x)) (fun j => 2 ^ g j) n := by
  rw [orN, up_eq, up_eq, orN_congr (c' := fun j => decide (f j = x)) (v' := fun j => 2 ^ g j) (fun j hj => ⟨by simp only [up_ne (show j ≠ n by omega)], by simp only [up_ne (show j ≠ n by omega)]⟩)]
  by_cases h : x = p
  · rw [if_pos h, decide_eq_true h.symm]; rfl
  · rw [if_neg h, decide_eq_false (fun h2 => h h2.symm)]; rfl
theorem cset_new {L : LSt} {p k c q r a b o s : Nat} : cset (newL L p k c q r a b o s) = va_up (cset L) p (cset L p ||| 2 ^ c) := by
  funext x
  refine (orN_new (n := ln L) (p := p) (c := c) (x := x) (f := pa L) (g := ch L)).trans ?_
  simp only [va_up]
  split
  · rename_i h; rw [h]; rfl
  · rfl
theorem pset_new {L : LSt} {p k c q r a b o s : Nat} : pset (newL L p k c q r a b o s) = va_up (pset L) c (pset L c ||| 2 ^ p) := by
  funext x
  refine (orN_new (n := ln L) (p := c) (c := p) (x := x) (f := ch L) (g := pa L)).trans ?_
  simp only [va_up]
  split
  · rename_i h; rw [h]; rfl
  · rfl
