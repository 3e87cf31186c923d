/-! LISTS of the class (walks by gen/spec42.py) -/
section ListX
variable {G : Gx} {w : Wd}
theorem cpy_lt {α : Type} {f g : Nat → α} {n j : Nat} (h : j < n) : va_cpy f g 0 0 n j = f j := by
  show (if 0 ≤ j ∧ j < 0 + n then f (0 + (j - 0)) else g j) = f j
  rw [if_pos ⟨Nat.zero_le _, by omega⟩, Nat.zero_add, Nat.sub_zero]
def capS (n cap : Nat) : Nat := if n < cap then cap else 2 * n
def capL (n cap : Nat) : Nat → Nat
  | 0 => cap
  | k + 1 => capL (n + 1) (capS n cap) k
theorem capS_ge {n cap : Nat} (h : n ≤ cap) : cap ≤ capS n cap := by unfold capS; split <;> omega
theorem capS_gt {n cap : Nat} (h : n ≤ cap) (h0 : 1 ≤ cap) : n + 1 ≤ capS n cap := by unfold capS; split <;> omega
theorem capL_ge : ∀ {k n cap : Nat}, n ≤ cap → 1 ≤ cap → cap ≤ capL n cap k ∧ n + k ≤ capL n cap k
  | 0, _, _, h, _ => ⟨Nat.le_refl _, h⟩
  | k + 1, n, cap, h, h0 => by
    have h1 := capS_ge h
    have h2 := capL_ge (k := k) (capS_gt h h0) (by omega)
    rw [capL]
    omega
theorem capL_le : ∀ {k n cap b : Nat}, n ≤ cap → cap ≤ b → 2 * (n + k) ≤ b → capL n cap k ≤ b
  | 0, _, _, _, _, h, _ => h
  | k + 1, n, cap, b, h0, h, h2 => by
    rw [capL]
    rcases Nat.eq_zero_or_pos cap with h3 | h3
    · have h4 : n = 0 := by omega
      subst h4; subst h3
      have : capL (0 + 1) (capS 0 0) k ≤ b := by
        show capL 1 0 k ≤ b
        exact capL_lz (by omega)
      exact this
    · refine capL_le (capS_gt h0 h3) ?_ (by omega)
      unfold capS; split <;> omega
where capL_lz : ∀ {k n b : Nat}, 2 * (n + k) ≤ b → capL n 0 k ≤ b
  | 0, _, _, _ => Nat.zero_le _
  | k + 1, n, b, h => by
    rw [capL]
    show capL (n + 1) (if n < 0 then 0 else 2 * n) k ≤ b
    rw [if_neg (Nat.not_lt_zero n)]
    rcases Nat.eq_zero_or_pos n with h3 | h3
    · subst h3; exact capL_lz (by omega)
    · exact capL_le (by omega) (by omega) (by omega)
theorem capL_add : ∀ {i j n cap : Nat}, capL n cap (i + j) = capL (n + i) (capL n cap i) j
  | 0, j, n, cap => by rw [Nat.zero_add]; rfl
  | i + 1, j, n, cap => by
    rw [show i + 1 + j = (i + j) + 1 by omega, capL, capL_add (i := i), capL, show n + 1 + i = n + (i + 1) by omega]
/-- the rows hold the list -/
def DC (a : Nat → Int32) (b : Nat → Int64) (ys : List (Nat × Nat)) : Prop := ∀ j, j < ys.length → a j = vPt (ys.getD j (0, 0)) ∧ b j = vQt (ys.getD j (0, 0))
theorem DC_nil {a : Nat → Int32} {b : Nat → Int64} : DC a b [] := fun j h => absurd h (Nat.not_lt_zero _)
theorem DC_snoc {a a' : Nat → Int32} {b b' : Nat → Int64} {ys : List (Nat × Nat)} {x : Nat × Nat} (h : DC a b ys) (h1 : ∀ j, j < ys.length → a' j = a j ∧ b' j = b j) (h2 : a' ys.length = vPt x) (h3 : b' ys.length = vQt x) : DC a' b' (ys ++ [x]) := by
  intro j hj
  rw [List.length_append] at hj
  by_cases h4 : j < ys.length
  · rw [(h1 j h4).1, (h1 j h4).2, show (ys ++ [x]).getD j (0, 0) = ys.getD j (0, 0) by simp [List.getD, List.getElem?_append_left h4]]
    exact h j h4
  · have h5 : j = ys.length := by simp at hj; omega
    subst h5
    rw [h2, h3, show (ys ++ [x]).getD ys.length (0, 0) = x by simp [List.getD]]
    exact ⟨rfl, rfl⟩
set_option maxRecDepth 20000 in
theorem c_DLclear {n cap : Nat} {a : Nat → Int32} {b : Nat → Int64} (hD : XD G.2.2.1 w n cap a b) : XC G mX3_clear 0 0 0 [.ref (w.1 33)] w (fun r w' => r = .inl none ∧ w' = setM w 33 (oB 2 [.ref (w.1 34), .ref (w.1 35), .int (nI 0)])) := by
  refine XC.of (lo0 := [(0, .ref (w.1 33))]) kmX3_clear (Nat.le_of_ble_eq_true rfl) rfl ?_
  refine X_aload_n dX3_clear_0 (i := 0) rfl rfl ?_
  refine X_iconst (v := 0) dX3_clear_1 (by decide) ?_
  refine X_put tyX3 tyX3_ok nmX3 (i := 33) hD.1 rfl (ci := 2) rfl in3 (k := 2) (by decide) fX3_17 rfl rfl rfl (Nat.le_of_ble_eq_true rfl) dX3_clear_2 (fun hc_2 => ?_)
  refine X_vreturn dX3_clear_5 rfl ?_
  exact ⟨rfl, rfl⟩
set_option maxRecDepth 20000 in
theorem c_DLadd {n cap : Nat} {a : Nat → Int32} {b : Nat → Int64} (hD : XD G.2.2.1 w n cap a b) (hn : n ≤ cap) (hc16 : 16 ≤ cap) (hcap : cap < 2 ^ 19) (x : Int32) (y : Int64) : XC G mX3_add 2 (capS n cap - cap) (4 * (capS n cap - cap)) [.ref (w.1 33), .int x, .long y] w (fun r w' => r = .inl none ∧ ∃ q1 q2 a1 b1, w' = relD G.2.2.1 w q1 q2 (n + 1) (capS n cap) a1 b1 ∧ (∀ j, j < n → a1 j = a j ∧ b1 j = b j) ∧ a1 n = x ∧ b1 n = y) := by
  refine XC.of (lo0 := [(0, .ref (w.1 33)), (1, .int x), (2, .long y)]) kmX3_add (Nat.le_of_ble_eq_true rfl) rfl ?_
  have htail : ∀ (q1 q2 c1 : Nat) (a1 : Nat → Int32) (b1 : Nat → Int64), n < c1 → c1 = capS n cap → (∀ j, j < n → a1 j = a j ∧ b1 j = b j) → XJ G mX3_add 2 0 0 16 [(0, .ref (w.1 33)), (1, .int x), (2, .long y)] [] (relD G.2.2.1 w q1 q2 n c1 a1 b1) (fun r w' => r = .inl none ∧ ∃ q1 q2 a1 b1, w' = relD G.2.2.1 w q1 q2 (n + 1) (capS n cap) a1 b1 ∧ (∀ j, j < n → a1 j = a j ∧ b1 j = b j) ∧ a1 n = x ∧ b1 n = y) := by
    intro q1 q2 c1 a1 b1 hc hc1 hj
    have k33 : cel (relD G.2.2.1 w q1 q2 n c1 a1 b1) 33 (oB 2 [.ref q1, .ref q2, .int (nI n)]) := ⟨hD.1.1, rfl⟩
    have k34 : cel (relD G.2.2.1 w q1 q2 n c1 a1 b1) 34 (aI G.2.2.1 c1 a1) := ⟨hD.2.1.1, rfl⟩
    have k35 : cel (relD G.2.2.1 w q1 q2 n c1 a1 b1) 35 (aL G.2.2.1 c1 b1) := ⟨hD.2.2.1, rfl⟩
    have hc31 : c1 < 2 ^ 31 := by rw [hc1]; unfold capS; split <;> omega
    refine X_aload_n dX3_add_16 (i := 0) rfl rfl ?_
    refine X_get (i := 33) k33 rfl (ci := 2) rfl in3 (k := 0) (by decide) fX3_7 rfl dX3_add_17 ?_
    refine X_aload_n dX3_add_20 (i := 0) rfl rfl ?_
    refine X_get (i := 33) k33 rfl (ci := 2) rfl in3 (k := 2) (by decide) fX3_17 rfl dX3_add_21 ?_
    refine X_iload_n dX3_add_24 (i := 1) rfl rfl ?_
    refine X_iast (i := 34) k34 rfl rfl hc hc31 dX3_add_25 (fun hc_25 => ?_)
    refine X_aload_n dX3_add_26 (i := 0) rfl rfl ?_
    refine X_get (i := 33) k33 rfl (ci := 2) rfl in3 (k := 1) (by decide) fX3_13 rfl dX3_add_27 ?_
    refine X_aload_n dX3_add_30 (i := 0) rfl rfl ?_
    refine X_get (i := 33) k33 rfl (ci := 2) rfl in3 (k := 2) (by decide) fX3_17 rfl dX3_add_31 ?_
    refine X_lload_n dX3_add_34 (i := 2) rfl rfl ?_
    refine X_last (i := 35) k35 rfl rfl hc hc31 dX3_add_35 (fun hc_35 => ?_)
    refine X_aload_n dX3_add_36 (i := 0) rfl rfl ?_
    refine X_dup dX3_add_37 rfl ?_
    refine X_get (i := 33) k33 rfl (ci := 2) rfl in3 (k := 2) (by decide) fX3_17 rfl dX3_add_38 ?_
    refine X_iconst (v := 1) dX3_add_41 (by decide) ?_
    refine X_iadd dX3_add_42 ?_
    refine XJ.top (v' := _) (congrArg Value.int (nI_1 _)) ?_
    refine X_put tyX3 tyX3_ok nmX3 (i := 33) k33 rfl (ci := 2) rfl in3 (k := 2) (by decide) fX3_17 rfl rfl rfl (Nat.le_of_ble_eq_true rfl) dX3_add_43 (fun hc_43 => ?_)
    refine X_vreturn dX3_add_46 rfl ?_
    refine ⟨rfl, q1, q2, va_up a1 n x, va_up b1 n y, ?_, fun j h => ⟨?_, ?_⟩, up_eq _ _ _, up_eq _ _ _⟩
    · rw [← hc1]; exact relD_add
    · rw [up_ne (Nat.ne_of_lt h)]; exact (hj j h).1
    · rw [up_ne (Nat.ne_of_lt h)]; exact (hj j h).2
  refine X_aload_n dX3_add_0 (i := 0) rfl rfl ?_
  refine X_get (i := 33) hD.1 rfl (ci := 2) rfl in3 (k := 2) (by decide) fX3_17 rfl dX3_add_1 ?_
  refine X_aload_n dX3_add_4 (i := 0) rfl rfl ?_
  refine X_get (i := 33) hD.1 rfl (ci := 2) rfl in3 (k := 0) (by decide) fX3_7 rfl dX3_add_5 ?_
  refine X_alen (n := 0) (i := 34) (t := 0) (v := nI cap) hD.2.1 rfl rfl rfl dX3_add_8 ?_
  refine X_icmp_lt (tgt := 16) dX3_add_9 (by decide) (fun h1 => ?_) (fun h1 => ?_)
  · have h5 : n < cap := lt_nI (by omega) (by omega) h1
    have hcs : cap = capS n cap := (if_pos h5).symm
    first
      | exact XJ.wd (relD_id hD) (XJ.less (Nat.zero_le _) (Nat.zero_le _) (XJ.lcs (lo' := [(0, .ref (w.1 33)), (1, .int x), (2, .long y)]) ⟨rfl, rfl, rfl, trivial⟩ (htail _ _ cap a b h5 hcs (fun _ _ => ⟨rfl, rfl⟩))))
      | exact XJ.less (Nat.zero_le _) (Nat.zero_le _) (XJ.lcs (lo' := [(0, .ref (w.1 33)), (1, .int x), (2, .long y)]) ⟨rfl, rfl, rfl, trivial⟩ (htail q1 q2 (2 * n) _ _ (by omega) hcs.symm (fun j hj => ⟨cpy_lt hj, cpy_lt hj⟩)))
  · have h5 : n = cap := by have := nlt_nI (by omega) (by omega) h1; omega
    have hcs : capS n cap = 2 * n := if_neg (by omega)
    refine X_aload_n dX3_add_12 (i := 0) rfl rfl ?_
    refine X_callV (gc2 := 0) (gs2 := 0) (c_grow hD hn (by omega)) (i := 33) hD.1 rfl rfl kmX3_grow rfl lX3_21 iX3_grow vX3_grow rfl rfl (Nat.le_of_ble_eq_true rfl) (by decide) dX3_add_13 (by omega) (by omega) (fun E w1 hq => nomatch hq.1) (fun v w1 hq => ?_)
    have hv := hq.1
    obtain ⟨q1, q2, hw2⟩ := hq.2
    subst hw2
    cases hv
    first
      | exact XJ.wd (relD_id hD) (XJ.less (Nat.zero_le _) (Nat.zero_le _) (XJ.lcs (lo' := [(0, .ref (w.1 33)), (1, .int x), (2, .long y)]) ⟨rfl, rfl, rfl, trivial⟩ (htail _ _ cap a b h5 hcs (fun _ _ => ⟨rfl, rfl⟩))))
      | exact XJ.less (Nat.zero_le _) (Nat.zero_le _) (XJ.lcs (lo' := [(0, .ref (w.1 33)), (1, .int x), (2, .long y)]) ⟨rfl, rfl, rfl, trivial⟩ (htail q1 q2 (2 * n) _ _ (by omega) hcs.symm (fun j hj => ⟨cpy_lt hj, cpy_lt hj⟩)))
end ListX
