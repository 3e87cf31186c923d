/-! THE CLASS's rows that grow -/
section Grow
variable {G : Gx} {w : Wd}
theorem beq_n {i j : Nat} (h : i ≠ j) : Nat.beq i j = false := by
  cases hb : Nat.beq i j with
  | false => rfl
  | true => exact absurd (Nat.eq_of_beq_eq_true hb) h
theorem nI_mulx (a b : Nat) : nI a * nI b = nI (a * b) := (Int32.ofNat_mul a b).symm
theorem cel.add {w : Wd} {i q : Nat} {e e' : va_E} (h : cel w i e) : cel (addM w q e') i e := by
  refine ⟨Nat.lt_succ_of_lt h.1, ?_⟩
  show (bif Nat.beq i w.2.1 then e' else w.2.2 i) = e
  rw [show Nat.beq i w.2.1 = false from beq_n (Nat.ne_of_lt h.1)]
  exact h.2
theorem cel.new {w : Wd} {q : Nat} {e : va_E} : cel (addM w q e) w.2.1 e := by
  refine ⟨Nat.lt_succ_self _, ?_⟩
  show (bif Nat.beq w.2.1 w.2.1 then e else _) = e
  rw [show Nat.beq w.2.1 w.2.1 = true from Nat.beq_refl _]
  rfl
theorem addM_1 {w : Wd} {i q : Nat} {e : va_E} (h : i < w.2.1) : (addM w q e).1 i = w.1 i := by
  show (bif Nat.beq i w.2.1 then q else w.1 i) = _
  rw [show Nat.beq i w.2.1 = false from beq_n (Nat.ne_of_lt h)]
  rfl
theorem addM_n {w : Wd} {q : Nat} {e : va_E} : (addM w q e).1 w.2.1 = q := by
  show (bif Nat.beq w.2.1 w.2.1 then q else _) = _
  rw [show Nat.beq w.2.1 w.2.1 = true from Nat.beq_refl _]
  rfl
/-- the list's rows at other places -/
def relD (K : Nat → ClassId) (w : Wd) (q1 q2 n cap : Nat) (a : Nat → Int32) (b : Nat → Int64) : Wd := (fun j => bif Nat.beq j 34 then q1 else bif Nat.beq j 35 then q2 else w.1 j, w.2.1, fun j => bif Nat.beq j 33 then oB 2 [.ref q1, .ref q2, .int (nI n)] else bif Nat.beq j 34 then aI K cap a else bif Nat.beq j 35 then aL K cap b else w.2.2 j)
theorem wd_ext {w w' : Wd} (h1 : ∀ j, w.1 j = w'.1 j) (h2 : w.2.1 = w'.2.1) (h3 : ∀ j, w.2.2 j = w'.2.2 j) : w = w' := by
  obtain ⟨a, b, c⟩ := w
  obtain ⟨a', b', c'⟩ := w'
  have e1 : a = a' := funext h1
  have e3 : c = c' := funext h3
  have e2 : b = b' := h2
  rw [e1, e2, e3]
theorem relD_id {K : Nat → ClassId} {n cap : Nat} {a : Nat → Int32} {b : Nat → Int64} (h : XD K w n cap a b) : w = relD K w (w.1 34) (w.1 35) n cap a b := by
  refine wd_ext (fun j => ?_) rfl (fun j => ?_)
  · show w.1 j = bif Nat.beq j 34 then w.1 34 else bif Nat.beq j 35 then w.1 35 else w.1 j
    by_cases h1 : j = 34
    · subst h1; rfl
    · by_cases h2 : j = 35
      · subst h2; rfl
      · rw [beq_n h1, beq_n h2]; rfl
  · show w.2.2 j = bif Nat.beq j 33 then _ else bif Nat.beq j 34 then _ else bif Nat.beq j 35 then _ else w.2.2 j
    by_cases h0 : j = 33
    · subst h0; exact h.1.2
    · by_cases h1 : j = 34
      · subst h1; exact h.2.1.2
      · by_cases h2 : j = 35
        · subst h2; exact h.2.2.2
        · rw [beq_n h0, beq_n h1, beq_n h2]; rfl
theorem relD_relD {K : Nat → ClassId} {q1 q2 n cap q1' q2' n' cap' : Nat} {a a' : Nat → Int32} {b b' : Nat → Int64} : relD K (relD K w q1 q2 n cap a b) q1' q2' n' cap' a' b' = relD K w q1' q2' n' cap' a' b' := by
  refine wd_ext (fun j => ?_) rfl (fun j => ?_)
  · show (bif Nat.beq j 34 then q1' else bif Nat.beq j 35 then q2' else bif Nat.beq j 34 then q1 else bif Nat.beq j 35 then q2 else w.1 j) = bif Nat.beq j 34 then q1' else bif Nat.beq j 35 then q2' else w.1 j
    cases Nat.beq j 34 <;> cases Nat.beq j 35 <;> rfl
  · show (bif Nat.beq j 33 then _ else bif Nat.beq j 34 then _ else bif Nat.beq j 35 then _ else bif Nat.beq j 33 then _ else bif Nat.beq j 34 then _ else bif Nat.beq j 35 then _ else w.2.2 j) = bif Nat.beq j 33 then _ else bif Nat.beq j 34 then _ else bif Nat.beq j 35 then _ else w.2.2 j
    cases Nat.beq j 33 <;> cases Nat.beq j 34 <;> cases Nat.beq j 35 <;> rfl
theorem relD_add {K : Nat → ClassId} {q1 q2 n cap n' : Nat} {a a' : Nat → Int32} {b b' : Nat → Int64} : setM (setM (setM (relD K w q1 q2 n cap a b) 34 (aI K cap a')) 35 (aL K cap b')) 33 (oB 2 [.ref q1, .ref q2, .int (nI n')]) = relD K w q1 q2 n' cap a' b' := by
  refine wd_ext (fun j => rfl) rfl (fun j => ?_)
  show (bif Nat.beq j 33 then _ else bif Nat.beq j 35 then _ else bif Nat.beq j 34 then _ else bif Nat.beq j 33 then _ else bif Nat.beq j 34 then _ else bif Nat.beq j 35 then _ else w.2.2 j) = bif Nat.beq j 33 then _ else bif Nat.beq j 34 then _ else bif Nat.beq j 35 then _ else w.2.2 j
  by_cases h0 : j = 33
  · subst h0; rfl
  · by_cases h1 : j = 34
    · subst h1; rfl
    · by_cases h2 : j = 35
      · subst h2; rfl
      · rw [beq_n h0, beq_n h1, beq_n h2]; rfl
theorem relD_n {K : Nat → ClassId} {q1 q2 n cap n' : Nat} {a : Nat → Int32} {b : Nat → Int64} : setM (relD K w q1 q2 n cap a b) 33 (oB 2 [.ref q1, .ref q2, .int (nI n')]) = relD K w q1 q2 n' cap a b := by
  refine wd_ext (fun j => rfl) rfl (fun j => ?_)
  show (bif Nat.beq j 33 then _ else bif Nat.beq j 33 then _ else bif Nat.beq j 34 then _ else bif Nat.beq j 35 then _ else w.2.2 j) = bif Nat.beq j 33 then _ else bif Nat.beq j 34 then _ else bif Nat.beq j 35 then _ else w.2.2 j
  cases Nat.beq j 33 <;> rfl
set_option maxRecDepth 20000 in
theorem c_grow {n cap : Nat} {a : Nat → Int32} {b : Nat → Int64} (hD : XD G.2.2.1 w n cap a b) (hn : n ≤ cap) (hn2 : n < 2 ^ 20) : XC G mX3_grow 1 2 (4 * n) [.ref (w.1 33)] w (fun r w' => r = .inl none ∧ ∃ q1 q2, w' = relD G.2.2.1 w q1 q2 n (2 * n) (va_cpy a (fun _ => 0) 0 0 n) (va_cpy b (fun _ => 0) 0 0 n)) := by
  refine XC.of (lo0 := [(0, .ref (w.1 33))]) kmX3_grow (Nat.le_of_ble_eq_true rfl) rfl ?_
  have g33 := hD.1.1
  have g34 := hD.2.1.1
  have g35 := hD.2.2.1
  refine X_iconst (v := 2) dX3_grow_0 (by decide) ?_
  refine X_aload_n dX3_grow_1 (i := 0) rfl rfl ?_
  refine X_get (i := 33) hD.1 rfl (ci := 2) rfl in3 (k := 2) (by decide) fX3_17 rfl dX3_grow_2 ?_
  refine X_imul dX3_grow_5 ?_
  refine XJ.top (v' := .int (nI (2 * n))) (by rw [show (2 : Int32) = nI 2 from rfl, nI_mulx]) ?_
  refine X_newa (atype := .int) (t := 0) (N' := 2 * n) (ty := .int) (a0 := (2 * n, .inl (fun _ => 0))) rfl rfl (fun C h => nomatch h) arr_int (fun cA => rfl) rfl (by show 2 * n * 4 ≤ _; omega) (by omega) (by decide) (by omega) dX3_grow_6 (fun q1 => ?_)
  refine X_astore_n (i := 1) (lo' := [(1, _), (0, _)]) dX3_grow_8 rfl (by decide) rfl ?_
  refine X_iconst (v := 2) dX3_grow_9 (by decide) ?_
  refine X_aload_n dX3_grow_10 (i := 0) rfl rfl ?_
  refine X_get (i := 33) hD.1.add (addM_1 g33) (ci := 2) rfl in3 (k := 2) (by decide) fX3_17 rfl dX3_grow_11 ?_
  refine X_imul dX3_grow_14 ?_
  refine XJ.top (v' := .int (nI (2 * n))) (by rw [show (2 : Int32) = nI 2 from rfl, nI_mulx]) ?_
  refine X_newa (atype := .long) (t := 3) (N' := 2 * n) (ty := .long) (a0 := (2 * n, .inr (.inl (fun _ => 0)))) rfl rfl (fun C h => nomatch h) arr_long (fun cA => rfl) rfl (by show 2 * n * 8 ≤ _; omega) (by omega) (by decide) (by omega) dX3_grow_15 (fun q2 => ?_)
  have gN : w.2.1 < (addM w q1 (.inl (G.2.2.1 0, 2 * n, .inl (fun _ => 0)))).2.1 := Nat.lt_succ_self _
  refine X_astore_n (i := 2) (lo' := [(2, _), (1, _), (0, _)]) dX3_grow_17 rfl (by decide) rfl ?_
  refine X_aload_n dX3_grow_18 (i := 0) rfl rfl ?_
  refine X_get (i := 33) hD.1.add.add ((addM_1 (Nat.lt_succ_of_lt g33)).trans (addM_1 g33)) (ci := 2) rfl in3 (k := 0) (by decide) fX3_7 rfl dX3_grow_19 ?_
  refine X_iconst (v := 0) dX3_grow_22 (by decide) ?_
  refine X_aload_n dX3_grow_23 (i := 1) rfl rfl ?_
  refine X_iconst (v := 0) dX3_grow_24 (by decide) ?_
  refine X_aload_n dX3_grow_25 (i := 0) rfl rfl ?_
  refine X_get (i := 33) hD.1.add.add ((addM_1 (Nat.lt_succ_of_lt g33)).trans (addM_1 g33)) (ci := 2) rfl in3 (k := 2) (by decide) fX3_17 rfl dX3_grow_26 ?_
  have r33 : (addM (addM w q1 (.inl (G.2.2.1 0, 2 * n, .inl (fun _ => 0)))) q2 (.inl (G.2.2.1 3, 2 * n, .inr (.inl (fun _ => 0))))).1 33 = w.1 33 := (addM_1 (Nat.lt_succ_of_lt g33)).trans (addM_1 g33)
  have r35 : (addM (addM w q1 (.inl (G.2.2.1 0, 2 * n, .inl (fun _ => 0)))) q2 (.inl (G.2.2.1 3, 2 * n, .inr (.inl (fun _ => 0))))).1 35 = w.1 35 := (addM_1 (Nat.lt_succ_of_lt g35)).trans (addM_1 g35)
  have rN1 : (addM (addM w q1 (.inl (G.2.2.1 0, 2 * n, .inl (fun _ => 0)))) q2 (.inl (G.2.2.1 3, 2 * n, .inr (.inl (fun _ => 0))))).1 (w.2.1 + 1) = q2 := addM_n (w := addM w q1 (.inl (G.2.2.1 0, 2 * n, .inl (fun _ => 0))))
  refine X_copyi (i0 := 34) (i1 := w.2.1) (t := 0) (ty := .int) hD.2.1.add.add (cel.add cel.new) ((addM_1 (Nat.lt_succ_of_lt g34)).trans (addM_1 g34)) ((addM_1 gN).trans addM_n) rfl rfl lX3_24 natjavalangSystem_arraycopyLjavalangObjectILjavalangObjectIIV sjavalangSystem_arraycopyLjavalangObjectILjavalangObjectIIV iniJ10 (by omega) hn (by omega) (fun i hi => rfl) (Nat.le_of_ble_eq_true rfl) (by decide) dX3_grow_29 ?_
  refine X_aload_n dX3_grow_32 (i := 0) rfl rfl ?_
  have e33 : cel (setM (addM (addM w q1 (.inl (G.2.2.1 0, 2 * n, .inl (fun _ => 0)))) q2 (.inl (G.2.2.1 3, 2 * n, .inr (.inl (fun _ => 0))))) w.2.1 (.inl (G.2.2.1 0, 2 * n, .inl (va_cpy a (fun _ => 0) 0 0 n)))) 33 _ := cel.ne (by omega) hD.1.add.add
  have e35 : cel (setM (addM (addM w q1 (.inl (G.2.2.1 0, 2 * n, .inl (fun _ => 0)))) q2 (.inl (G.2.2.1 3, 2 * n, .inr (.inl (fun _ => 0))))) w.2.1 (.inl (G.2.2.1 0, 2 * n, .inl (va_cpy a (fun _ => 0) 0 0 n)))) 35 _ := cel.ne (by omega) hD.2.2.add.add
  have eN : cel (setM (addM (addM w q1 (.inl (G.2.2.1 0, 2 * n, .inl (fun _ => 0)))) q2 (.inl (G.2.2.1 3, 2 * n, .inr (.inl (fun _ => 0))))) w.2.1 (.inl (G.2.2.1 0, 2 * n, .inl (va_cpy a (fun _ => 0) 0 0 n)))) (w.2.1 + 1) (aL G.2.2.1 (2 * n) (fun _ => 0)) := cel.ne (by omega) (cel.new (w := addM w q1 _))
  refine X_get (i := 33) e33 r33 (ci := 2) rfl in3 (k := 1) (by decide) fX3_13 rfl dX3_grow_33 ?_
  refine X_iconst (v := 0) dX3_grow_36 (by decide) ?_
  refine X_aload_n dX3_grow_37 (i := 2) rfl rfl ?_
  refine X_iconst (v := 0) dX3_grow_38 (by decide) ?_
  refine X_aload_n dX3_grow_39 (i := 0) rfl rfl ?_
  refine X_get (i := 33) e33 r33 (ci := 2) rfl in3 (k := 2) (by decide) fX3_17 rfl dX3_grow_40 ?_
  refine X_copyl (i0 := 35) (i1 := w.2.1 + 1) e35 eN r35 rN1 lX3_24 natjavalangSystem_arraycopyLjavalangObjectILjavalangObjectIIV sjavalangSystem_arraycopyLjavalangObjectILjavalangObjectIIV iniJ10 (by omega) hn (by omega) (Nat.le_of_ble_eq_true rfl) (by decide) dX3_grow_43 ?_
  refine X_aload_n dX3_grow_46 (i := 0) rfl rfl ?_
  refine X_aload_n dX3_grow_47 (i := 1) rfl rfl ?_
  refine X_put tyX3 tyX3_ok nmX3 (i := 33) (cel.ne (by omega) e33) r33 (ci := 2) rfl in3 (k := 0) (by decide) fX3_7 rfl rfl rfl (Nat.le_of_ble_eq_true rfl) dX3_grow_48 (fun hc1 => ?_)
  refine X_aload_n dX3_grow_51 (i := 0) rfl rfl ?_
  refine X_aload_n dX3_grow_52 (i := 2) rfl rfl ?_
  refine X_put tyX3 tyX3_ok nmX3 (i := 33) hc1 r33 (ci := 2) rfl in3 (k := 1) (by decide) fX3_13 rfl rfl rfl (Nat.le_of_ble_eq_true rfl) dX3_grow_53 (fun hc2 => ?_)
  refine XJ.by (w' := relD G.2.2.1 w q1 q2 n (2 * n) (va_cpy a (fun _ => 0) 0 0 n) (va_cpy b (fun _ => 0) 0 0 n)) (fun i => if i = 34 then w.2.1 else if i = 35 then w.2.1 + 1 else i) ?_ ?_ ?_
  · intro i hi
    have hi' : i < w.2.1 := hi
    by_cases h1 : i = 34
    · subst h1
      refine ⟨?_, ?_, ?_⟩
      · show w.2.1 < w.2.1 + 1 + 1; omega
      · exact (addM_1 (e := (.inl (G.2.2.1 3, 2 * n, .inr (.inl (fun _ => 0))))) (q := q2) gN).trans addM_n
      · show (bif Nat.beq w.2.1 33 then _ else bif Nat.beq w.2.1 33 then _ else bif Nat.beq w.2.1 (w.2.1 + 1) then _ else bif Nat.beq w.2.1 w.2.1 then _ else _) = aI G.2.2.1 (2 * n) _
        rw [beq_n (show w.2.1 ≠ 33 by omega), beq_n (show w.2.1 ≠ w.2.1 + 1 by omega), Nat.beq_refl]
        rfl
    · by_cases h2 : i = 35
      · subst h2
        refine ⟨?_, ?_, ?_⟩
        · show w.2.1 + 1 < w.2.1 + 1 + 1; omega
        · exact rN1
        · show (bif Nat.beq (w.2.1 + 1) 33 then _ else bif Nat.beq (w.2.1 + 1) 33 then _ else bif Nat.beq (w.2.1 + 1) (w.2.1 + 1) then _ else _) = aL G.2.2.1 (2 * n) _
          rw [beq_n (show w.2.1 + 1 ≠ 33 by omega), Nat.beq_refl]
          rfl
      · show (if i = 34 then w.2.1 else if i = 35 then w.2.1 + 1 else i) < w.2.1 + 1 + 1 ∧ _ ∧ _
        rw [if_neg h1, if_neg h2]
        refine ⟨by omega, ?_, ?_⟩
        · show (addM (addM w q1 (.inl (G.2.2.1 0, 2 * n, .inl (fun _ => 0)))) q2 (.inl (G.2.2.1 3, 2 * n, .inr (.inl (fun _ => 0))))).1 i = bif Nat.beq i 34 then q1 else bif Nat.beq i 35 then q2 else w.1 i
          rw [addM_1 (Nat.lt_succ_of_lt hi'), addM_1 hi', beq_n h1, beq_n h2]
          rfl
        · by_cases h0 : i = 33
          · subst h0; exact hc2.2
          · show (bif Nat.beq i 33 then _ else bif Nat.beq i 33 then _ else bif Nat.beq i (w.2.1 + 1) then _ else bif Nat.beq i w.2.1 then _ else bif Nat.beq i (w.2.1 + 1) then _ else bif Nat.beq i w.2.1 then _ else w.2.2 i) = bif Nat.beq i 33 then _ else bif Nat.beq i 34 then _ else bif Nat.beq i 35 then _ else w.2.2 i
            rw [beq_n h0, beq_n h1, beq_n h2, beq_n (show i ≠ w.2.1 + 1 by omega), beq_n (show i ≠ w.2.1 by omega)]
            rfl
  · intro i j hi hj
    have hi' : i < w.2.1 := hi
    have hj' : j < w.2.1 := hj
    show (if i = 34 then w.2.1 else if i = 35 then w.2.1 + 1 else i) = (if j = 34 then w.2.1 else if j = 35 then w.2.1 + 1 else j) → i = j
    split <;> split <;> (try split) <;> (try split) <;> omega
  · refine X_vreturn dX3_grow_56 rfl ?_
    exact ⟨rfl, q1, q2, rfl⟩
end Grow
