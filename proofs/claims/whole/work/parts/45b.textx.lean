/-! TEXT of the class (walks by gen/spec45.py) -/
section TextX
variable {G : Gx} {w : Wd}
theorem TC_snoc {t : Nat → Int32} {T : List Nat} {c : Nat} (h : TC t T) : TC (va_up t T.length (nI c)) (T ++ [c]) := by
  intro j hj
  rw [List.length_append] at hj
  by_cases h4 : j < T.length
  · rw [up_ne (Nat.ne_of_lt h4), show (T ++ [c]).getD j 0 = T.getD j 0 by simp [List.getD, List.getElem?_append_left h4]]
    exact h j h4
  · have h5 : j = T.length := by simp at hj; omega
    subst h5
    rw [up_eq, show (T ++ [c]).getD T.length 0 = c by simp [List.getD]]
theorem pre_lt {a n : Nat} (ha : a < 2 ^ 30) (hn : n < 2 ^ 30) : nI a - 1 < nI n ↔ a ≤ n := by
  rcases Nat.eq_zero_or_pos a with h | h
  · subst h
    refine ⟨fun _ => Nat.zero_le _, fun _ => ?_⟩
    rw [Int32.lt_iff_toInt_lt, nI_toInt (by omega), show (nI 0 - 1).toInt = -1 by decide +kernel]
    omega
  · rw [show (1 : Int32) = nI 1 from rfl, pk_sub (by omega), nI_ltI (by omega) (by omega)]
    omega
theorem add_m1 (x : Int32) : x + Int32.ofInt (-1) = x - 1 := by
  rw [Int32.sub_eq_add_neg]
  rfl
/-- how many digits are still to count -/
def dlN (f v : Nat) : Nat := if v = 0 then 0 else (digN f v).length
theorem dlN_s {f v : Nat} (h : v ≠ 0) : dlN (f + 1) v = dlN f (v / 10) + 1 := by
  rw [dlN, if_neg h, digN, dlN]
  split
  · rename_i h1
    rw [if_neg (by omega), List.length_append]; rfl
  · rename_i h1
    rw [if_pos (by omega)]; rfl
theorem digN_dl {f v : Nat} : (digN (f + 1) v).length = dlN f (v / 10) + 1 := by
  rw [digN, dlN]
  split
  · rename_i h1
    rw [if_neg (by omega), List.length_append]; rfl
  · rename_i h1
    rw [if_pos (by omega)]; rfl
theorem div_pow {f v : Nat} (h : v < 10 ^ (f + 1)) : v / 10 < 10 ^ f := by rw [Nat.div_lt_iff_lt_mul (by decide)]; rw [Nat.pow_succ] at h; exact h
set_option maxRecDepth 20000 in
theorem c_OLclear {n cap : Nat} {t : Nat → Int32} (hT : XT2 G.2.2.1 w n cap t) : XC G mX6_clear 0 0 0 [.ref (w.1 36)] w (fun r w' => r = .inl none ∧ w' = setM w 36 (oB 5 [.ref (w.1 37), .int (nI 0)])) := by
  refine XC.of (lo0 := [(0, .ref (w.1 36))]) kmX6_clear (Nat.le_of_ble_eq_true rfl) rfl ?_
  refine X_aload_n dX6_clear_0 (i := 0) rfl rfl ?_
  refine X_iconst (v := 0) dX6_clear_1 (by decide) ?_
  refine X_put tyX6 tyX6_ok nmX6 (i := 36) hT.1 rfl (ci := 5) rfl in6 (k := 1) (by decide) fX6_15 rfl rfl rfl (Nat.le_of_ble_eq_true rfl) dX6_clear_2 (fun hc_2 => ?_)
  refine X_vreturn dX6_clear_5 rfl ?_
  exact ⟨rfl, rfl⟩
set_option maxRecDepth 20000 in
theorem c_put {cap : Nat} {t : Nat → Int32} {T : List Nat} (hT : XT2 G.2.2.1 w T.length cap t) (hn : T.length ≤ cap) (hcap : cap < 2 ^ 20) (hc : TC t T) (hch : ∀ c ∈ T, c < 128) (c : Nat) (x : Int32) (hx : x = nI c) (hc1 : c < 128) : XC G mX6_put 2 (capT T.length cap 1 - cap) (2 * (capT T.length cap 1 - cap)) [.ref (w.1 36), .int x] w (fun r w' => r = .inl none ∧ ∃ q t1, w' = relT G.2.2.1 w q (T ++ [c]).length (capT T.length cap 1) t1 ∧ TC t1 (T ++ [c])) := by
  refine XC.of (lo0 := [(0, .ref (w.1 36)), (1, .int x)]) kmX6_put (Nat.le_of_ble_eq_true rfl) rfl ?_
  refine X_aload_n dX6_put_0 (i := 0) rfl rfl ?_
  refine X_iconst (v := 1) dX6_put_1 (by decide) ?_
  refine X_callV (gc2 := 0) (gs2 := 0) (c_makeRoom hT hn hcap hc hch 1 (by omega)) (i := 36) hT.1 rfl rfl kmX6_makeRoom rfl lX6_19 iX6_makeRoom vX6_makeRoom rfl rfl (Nat.le_of_ble_eq_true rfl) (by decide) dX6_put_2 (by omega) (by omega) (fun E w1 hq => nomatch hq.1) (fun v w1 hq => ?_)
  have hv := hq.1
  obtain ⟨q, t1, hw2, hd2⟩ := hq.2
  subst hw2
  cases hv
  have k36 : cel (relT G.2.2.1 w q T.length (capT T.length cap 1) t1) 36 (oB 5 [.ref q, .int (nI T.length)]) := ⟨hT.1.1, rfl⟩
  have k37 : cel (relT G.2.2.1 w q T.length (capT T.length cap 1) t1) 37 (aC G.2.2.1 (capT T.length cap 1) t1) := ⟨hT.2.1, rfl⟩
  have hcg := capT_ge (n := T.length) (cap := cap) (k := 1)
  have hcl : capT T.length cap 1 < 2 ^ 30 := by unfold capT; split <;> omega
  refine X_aload_n dX6_put_5 (i := 0) rfl rfl ?_
  refine X_get (i := 36) k36 rfl (ci := 5) rfl in6 (k := 0) (by decide) fX6_9 rfl dX6_put_6 ?_
  refine X_aload_n dX6_put_9 (i := 0) rfl rfl ?_
  refine X_get (i := 36) k36 rfl (ci := 5) rfl in6 (k := 1) (by decide) fX6_15 rfl dX6_put_10 ?_
  refine X_iload_n dX6_put_13 (i := 1) rfl rfl ?_
  refine X_cast (i := 37) k37 rfl rfl (by omega) (by omega) dX6_put_14 (fun hc_14 => ?_)
  refine X_aload_n dX6_put_15 (i := 0) rfl rfl ?_
  refine X_dup dX6_put_16 rfl ?_
  refine X_get (i := 36) k36 rfl (ci := 5) rfl in6 (k := 1) (by decide) fX6_15 rfl dX6_put_17 ?_
  refine X_iconst (v := 1) dX6_put_20 (by decide) ?_
  refine X_iadd dX6_put_21 ?_
  refine XJ.top (v' := _) (congrArg Value.int (nI_1 _)) ?_
  refine X_put tyX6 tyX6_ok nmX6 (i := 36) k36 rfl (ci := 5) rfl in6 (k := 1) (by decide) fX6_15 rfl rfl rfl (Nat.le_of_ble_eq_true rfl) dX6_put_22 (fun hc_22 => ?_)
  refine X_vreturn dX6_put_25 rfl ?_
  refine ⟨rfl, q, va_up t1 T.length (nI c), ?_, TC_snoc hd2⟩
  rw [hx, nar_char (show c < 65536 by omega), List.length_append]
  exact (congrArg (fun z => setM z 36 _) relT_t).trans relT_n
set_option maxRecDepth 20000 in
theorem c_digitsOf {f0 : Nat} (hf0 : f0 < 17) (v : Nat) (hv : v < 10 ^ (f0 + 1)) : XC G mX6_digitsOf 0 0 0 [.long (nL v)] w (fun r w' => r = .inl (some (.int (nI (digN (f0 + 1) v).length))) ∧ w' = w) := by
  have hv63 : v < 2 ^ 63 := Nat.lt_of_lt_of_le hv (Nat.le_trans (Nat.pow_le_pow_right (by decide) (show f0 + 1 ≤ 18 by omega)) (by decide))
  have hdl : (digN (f0 + 1) v).length ≤ f0 + 1 := digN_len hv
  refine XC.of (lo0 := [(0, .long (nL v))]) kmX6_digitsOf (Nat.le_of_ble_eq_true rfl) rfl ?_
  have hcount : ∀ (n : Nat) (rs f dg : Nat), f < n → f ≤ f0 → rs < 10 ^ f → dg + dlN f rs = (digN (f0 + 1) v).length → XJ G mX6_digitsOf 0 0 0 8 [(0, .long (nL v)), (2, .int (nI dg)), (3, .long (nL rs))] [] w (fun r w' => r = .inl (some (.int (nI (digN (f0 + 1) v).length))) ∧ w' = w) := by
    intro n
    induction n with
    | zero => intro rs f dg hm hfl hrs hdg; exact absurd hm (Nat.not_lt_zero _)
    | succ n ih =>
      intro rs f dg hm hfl hrs hdg
      have h63 : rs < 2 ^ 63 := Nat.lt_of_lt_of_le hrs (Nat.le_trans (Nat.pow_le_pow_right (by decide) (show f ≤ 18 by omega)) (by decide))
      refine X_lload_n dX6_digitsOf_8 (i := 3) rfl rfl ?_
      refine X_lconst (v := 0) dX6_digitsOf_9 rfl ?_
      refine X_lcmp dX6_digitsOf_10 ?_
      refine X_if_le (tgt := 32) dX6_digitsOf_11 (by decide) (fun h1 => ?_) (fun h1 => ?_)
      · have h2 : rs = 0 := (nL_gt0 h63).mp h1
        subst h2
        have h3 : dg = (digN (f0 + 1) v).length := by rw [dlN, if_pos rfl] at hdg; omega
        subst h3
        refine X_iload_n dX6_digitsOf_32 (i := 2) rfl rfl ?_
        refine X_ireturn dX6_digitsOf_33 rfl rfl ?_
        exact ⟨rfl, rfl⟩
      · have h2 : rs ≠ 0 := fun h => h1 ((nL_gt0 h63).mpr h)
        have hf1 : f ≠ 0 := by intro h; subst h; simp at hrs; omega
        obtain ⟨f, rfl⟩ : ∃ g, f = g + 1 := ⟨f - 1, by omega⟩
        rw [dlN_s h2] at hdg
        refine X_iload_n dX6_digitsOf_14 (i := 2) rfl rfl ?_
        refine X_bipush (v := 19) dX6_digitsOf_15 (by decide) ?_
        refine X_icmp_ge (tgt := 32) dX6_digitsOf_17 (by decide) (fun h5 => ?_) (fun h5 => ?_)
        · exact absurd (ge_nI (a := 19) (b := dg) (by decide) (by omega) h5) (by omega)
        refine X_iinc (i := 2) (v := nI (dg + 1)) (lo' := [(2, _), (0, _), (3, _)]) dX6_digitsOf_20 rfl (nI_inc dg) (by decide) rfl ?_
        refine X_lload_n dX6_digitsOf_23 (i := 3) rfl rfl ?_
        refine X_ldc2 dX6_digitsOf_24 kX6_29 ?_
        refine X_ldiv dX6_digitsOf_27 (by decide) ?_
        refine XJ.top (v' := .long (nL (rs / 10))) (by rw [show (10 : Int64) = nL 10 from rfl, nL_div h63 (by decide) (by decide)]) ?_
        refine X_lstore_n (i := 3) (lo' := [(3, _), (2, _), (0, _)]) dX6_digitsOf_28 rfl (by decide) rfl ?_
        refine X_goto (tgt := 8) dX6_digitsOf_29 (by decide) ?_
        exact XJ.lcs (lo' := [(0, .long (nL v)), (2, .int (nI (dg + 1))), (3, .long (nL (rs / 10)))]) ⟨rfl, rfl, rfl, trivial⟩ (ih (rs / 10) f (dg + 1) (by omega) (by omega) (div_pow hrs) (by omega))
  refine X_iconst (v := 1) dX6_digitsOf_0 (by decide) ?_
  refine X_istore_n (i := 2) (lo' := [(2, _), (0, _)]) dX6_digitsOf_1 rfl (by decide) rfl ?_
  refine X_lload_n dX6_digitsOf_2 (i := 0) rfl rfl ?_
  refine X_ldc2 dX6_digitsOf_3 kX6_29 ?_
  refine X_ldiv dX6_digitsOf_6 (by decide) ?_
  refine XJ.top (v' := .long (nL (v / 10))) (by rw [show (10 : Int64) = nL 10 from rfl, nL_div hv63 (by decide) (by decide)]) ?_
  refine X_lstore_n (i := 3) (lo' := [(3, _), (2, _), (0, _)]) dX6_digitsOf_7 rfl (by decide) rfl ?_
  exact XJ.lcs (lo' := [(0, .long (nL v)), (2, .int (nI 1)), (3, .long (nL (v / 10)))]) ⟨rfl, rfl, rfl, trivial⟩ (hcount (f0 + 1) (v / 10) f0 1 (by omega) (Nat.le_refl _) (div_pow hv) (by rw [digN_dl, Nat.add_comm]))
set_option maxRecDepth 20000 in
theorem c_putNumber {cap : Nat} {t : Nat → Int32} {T : List Nat} (hT : XT2 G.2.2.1 w T.length cap t) (hn : T.length ≤ cap) (hcap : cap < 2 ^ 20) (hc : TC t T) (hch : ∀ c ∈ T, c < 128) {f0 : Nat} (hf0 : f0 < 17) (v : Nat) (hv : v < 10 ^ (f0 + 1)) : XC G mX6_putNumber 2 (capT T.length cap (digN (f0 + 1) v).length - cap) (2 * (capT T.length cap (digN (f0 + 1) v).length - cap)) [.ref (w.1 36), .long (nL v)] w (fun r w' => r = .inl none ∧ ∃ q t1, w' = relT G.2.2.1 w q (T ++ (digN (f0 + 1) v)).length (capT T.length cap (digN (f0 + 1) v).length) t1 ∧ TC t1 (T ++ (digN (f0 + 1) v))) := by
  have hv63 : v < 2 ^ 63 := Nat.lt_of_lt_of_le hv (Nat.le_trans (Nat.pow_le_pow_right (by decide) (show f0 + 1 ≤ 18 by omega)) (by decide))
  have hdl : (digN (f0 + 1) v).length ≤ f0 + 1 := digN_len hv
  refine XC.of (lo0 := [(0, .ref (w.1 36)), (1, .long (nL v))]) kmX6_putNumber (Nat.le_of_ble_eq_true rfl) rfl ?_
  have hfill : ∀ (n : Nat) (rs f : Nat) (R S : List Nat) (t1 : Nat → Int32) (q : Nat), R.length < n → (R = [] ∨ (rs < 10 ^ (f + 1) ∧ R = digN (f + 1) rs)) → (digN (f0 + 1) v) = R ++ S → rs < 2 ^ 63 → TC t1 T → (∀ j, j < S.length → t1 (T.length + R.length + j) = nI (S.getD j 0)) → XJ G mX6_putNumber 2 0 0 23 [(0, .ref (w.1 36)), (1, .long (nL v)), (3, .int (nI (digN (f0 + 1) v).length)), (4, .long (nL rs)), (6, .int (nI (T.length + R.length) - 1))] [] (relT G.2.2.1 w q T.length (capT T.length cap (digN (f0 + 1) v).length) t1) (fun r w' => r = .inl none ∧ ∃ q t1, w' = relT G.2.2.1 w q (T ++ (digN (f0 + 1) v)).length (capT T.length cap (digN (f0 + 1) v).length) t1 ∧ TC t1 (T ++ (digN (f0 + 1) v))) := by
    intro n
    induction n with
    | zero => intro rs f R S t1 q hm hR hRS hrs hT1 hS; exact absurd hm (Nat.not_lt_zero _)
    | succ n ih =>
      intro rs f R S t1 q hm hR hRS hrs hT1 hS
      have k36 : cel (relT G.2.2.1 w q T.length (capT T.length cap (digN (f0 + 1) v).length) t1) 36 (oB 5 [.ref q, .int (nI T.length)]) := ⟨hT.1.1, rfl⟩
      have k37 : cel (relT G.2.2.1 w q T.length (capT T.length cap (digN (f0 + 1) v).length) t1) 37 (aC G.2.2.1 (capT T.length cap (digN (f0 + 1) v).length) t1) := ⟨hT.2.1, rfl⟩
      have hcg := capT_ge (n := T.length) (cap := cap) (k := (digN (f0 + 1) v).length)
      have hcl : capT T.length cap (digN (f0 + 1) v).length < 2 ^ 30 := by unfold capT; split <;> omega
      have hln : (digN (f0 + 1) v).length = R.length + S.length := by rw [hRS, List.length_append]
      refine X_iload dX6_putNumber_23 (i := 6) rfl ?_
      refine X_aload_n dX6_putNumber_25 (i := 0) rfl rfl ?_
      refine X_get (i := 36) k36 rfl (ci := 5) rfl in6 (k := 1) (by decide) fX6_15 rfl dX6_putNumber_26 ?_
      refine X_icmp_lt (tgt := 65) dX6_putNumber_29 (by decide) (fun h1 => ?_) (fun h1 => ?_)
      · have h2 : R = [] := List.length_eq_zero_iff.mp (by have := (pre_lt (by omega) (by omega)).mp h1; omega)
        subst h2
        have hDS : (digN (f0 + 1) v) = S := hRS
        refine X_aload_n dX6_putNumber_65 (i := 0) rfl rfl ?_
        refine X_dup dX6_putNumber_66 rfl ?_
        refine X_get (i := 36) k36 rfl (ci := 5) rfl in6 (k := 1) (by decide) fX6_15 rfl dX6_putNumber_67 ?_
        refine X_iload_n dX6_putNumber_70 (i := 3) rfl rfl ?_
        refine X_iadd dX6_putNumber_71 ?_
        refine XJ.top (v' := .int (nI (T.length + (digN (f0 + 1) v).length))) (by rw [nI_add]) ?_
        refine X_put tyX6 tyX6_ok nmX6 (i := 36) k36 rfl (ci := 5) rfl in6 (k := 1) (by decide) fX6_15 rfl rfl rfl (Nat.le_of_ble_eq_true rfl) dX6_putNumber_72 (fun hc_72 => ?_)
        refine X_vreturn dX6_putNumber_75 rfl ?_
        refine ⟨rfl, q, t1, ?_, ?_⟩
        · rw [List.length_append]; exact relT_n
        · intro j hj
          rw [List.length_append] at hj
          by_cases h4 : j < T.length
          · rw [show (T ++ (digN (f0 + 1) v)).getD j 0 = T.getD j 0 by simp [List.getD, List.getElem?_append_left h4]]
            exact hT1 j h4
          · have h5 := hS (j - T.length) (by rw [← hDS]; omega)
            rw [show T.length + ([] : List Nat).length + (j - T.length) = j by simp; omega] at h5
            rw [h5, hDS, show (T ++ S).getD j 0 = S.getD (j - T.length) 0 by simp [List.getD, List.getElem?_append_right (show T.length ≤ j by omega)]]
      · have h2 : R.length ≠ 0 := fun h => h1 ((pre_lt (by omega) (by omega)).mpr (by omega))
        obtain ⟨hr1, hr2⟩ := hR.resolve_left (fun h => h2 (by rw [h]; rfl))
        have hr3 : R = (if 10 ≤ rs then digN f (rs / 10) else []) ++ [48 + rs % 10] := hr2
        have hr4 : R.length = (if 10 ≤ rs then digN f (rs / 10) else []).length + 1 := by rw [hr3, List.length_append]; rfl
        have hix : nI (T.length + R.length) - 1 = nI (T.length + (if 10 ≤ rs then digN f (rs / 10) else []).length) := by rw [show (1 : Int32) = nI 1 from rfl, pk_sub (by omega)]; congr 1; omega
        refine X_aload_n dX6_putNumber_32 (i := 0) rfl rfl ?_
        refine X_get (i := 36) k36 rfl (ci := 5) rfl in6 (k := 0) (by decide) fX6_9 rfl dX6_putNumber_33 ?_
        refine X_iload dX6_putNumber_36 (i := 6) rfl ?_
        refine X_ldc2 dX6_putNumber_38 kX6_27 ?_
        refine X_lload dX6_putNumber_41 (i := 4) rfl ?_
        refine X_ldc2 dX6_putNumber_43 kX6_29 ?_
        refine X_lrem dX6_putNumber_46 (by decide) ?_
        refine XJ.top (v' := .long (nL (rs % 10))) (by rw [show (10 : Int64) = nL 10 from rfl, nL_rem hrs (by decide) (by decide)]) ?_
        refine X_ladd dX6_putNumber_47 ?_
        refine XJ.top (v' := .long (nL (48 + rs % 10))) (by rw [show (48 : Int64) = nL 48 from rfl, nL_add]) ?_
        refine X_l2i dX6_putNumber_48 rfl ?_
        refine XJ.top (v' := .int (nI (48 + rs % 10))) (by rw [nL_l2i]) ?_
        refine X_i2c dX6_putNumber_49 rfl ?_
        refine XJ.top (v' := .int (nI (48 + rs % 10))) (by rw [pk_char, pk_tn (by omega), Nat.mod_eq_of_lt (by omega)]) ?_
        refine X_cast (i := 37) k37 rfl hix (by omega) (by omega) dX6_putNumber_50 (fun hc_50 => ?_)
        refine X_lload dX6_putNumber_51 (i := 4) rfl ?_
        refine X_ldc2 dX6_putNumber_53 kX6_29 ?_
        refine X_ldiv dX6_putNumber_56 (by decide) ?_
        refine XJ.top (v' := .long (nL (rs / 10))) (by rw [show (10 : Int64) = nL 10 from rfl, nL_div hrs (by decide) (by decide)]) ?_
        refine X_lstore (i := 4) (lo' := [(4, _), (0, _), (1, _), (3, _), (6, _)]) dX6_putNumber_57 (by decide) rfl ?_
        refine X_iinc (i := 6) (v := nI (T.length + (if 10 ≤ rs then digN f (rs / 10) else []).length) - 1) (lo' := [(6, _), (4, _), (0, _), (1, _), (3, _)]) dX6_putNumber_59 rfl (by rw [hix]; exact add_m1 _) (by decide) rfl ?_
        refine X_goto (tgt := 23) dX6_putNumber_62 (by decide) ?_
        refine XJ.wd (w' := (relT G.2.2.1 w q T.length (capT T.length cap (digN (f0 + 1) v).length) (va_up t1 (T.length + (if 10 ≤ rs then digN f (rs / 10) else []).length) (nI (48 + rs % 10))))) (by rw [nar_char (by omega)]; exact relT_t) ?_
        exact XJ.lcs (lo' := [(0, .ref (w.1 36)), (1, .long (nL v)), (3, .int (nI (digN (f0 + 1) v).length)), (4, .long (nL (rs / 10))), (6, .int (nI (T.length + (if 10 ≤ rs then digN f (rs / 10) else []).length) - 1))]) ⟨rfl, rfl, rfl, rfl, rfl, trivial⟩ (ih (rs / 10) (f - 1) (if 10 ≤ rs then digN f (rs / 10) else []) ([48 + rs % 10] ++ S) _ q (by omega) (by by_cases h10 : 10 ≤ rs; (right; rw [if_pos h10]; rcases Nat.eq_zero_or_pos f with h0 | h0; (subst h0; simp at hr1; omega); (rw [show f - 1 + 1 = f by omega]; refine ⟨?_, rfl⟩; have := div_pow hr1; exact this)); (left; rw [if_neg h10])) (by rw [← List.append_assoc, ← hr3]; exact hRS) (Nat.lt_of_le_of_lt (Nat.div_le_self _ _) hrs) (fun j hj => by rw [up_ne (by omega)]; exact hT1 j hj) (fun j hj => by rcases Nat.eq_zero_or_pos j with h0 | h0; (subst h0; rw [Nat.add_zero, up_eq]; rfl); (rw [up_ne (by omega)]; have h5 := hS (j - 1) (by simp at hj; omega); rw [show T.length + R.length + (j - 1) = T.length + (if 10 ≤ rs then digN f (rs / 10) else []).length + j by omega] at h5; rw [h5]; congr 1; rw [show j = (j - 1) + 1 by omega]; rfl)))
  refine X_lload_n dX6_putNumber_0 (i := 1) rfl rfl ?_
  refine X_callS (gc2 := (capT T.length cap (digN (f0 + 1) v).length - cap)) (gs2 := (2 * (capT T.length cap (digN (f0 + 1) v).length - cap))) (c_digitsOf hf0 v hv) kmX6_digitsOf rfl lX6_23 sX6_digitsOf rfl rfl (Nat.le_of_ble_eq_true rfl) (by decide) dX6_putNumber_1 (by omega) (by omega) (fun E w1 hq => nomatch hq.1) (fun v w1 hq => ?_)
  have hv := hq.1
  obtain rfl := hq.2.symm
  cases hv
  refine X_istore_n (i := 3) (lo' := [(3, _), (0, _), (1, _)]) dX6_putNumber_4 rfl (by decide) rfl ?_
  refine X_aload_n dX6_putNumber_5 (i := 0) rfl rfl ?_
  refine X_iload_n dX6_putNumber_6 (i := 3) rfl rfl ?_
  refine X_callV (gc2 := 0) (gs2 := 0) (c_makeRoom hT hn hcap hc hch (digN (f0 + 1) v).length (by omega)) (i := 36) hT.1 rfl rfl kmX6_makeRoom rfl lX6_19 iX6_makeRoom vX6_makeRoom rfl rfl (Nat.le_of_ble_eq_true rfl) (by decide) dX6_putNumber_7 (by omega) (by omega) (fun E w1 hq => nomatch hq.1) (fun v w1 hq => ?_)
  have hv := hq.1
  obtain ⟨q, t1, hw2, hd2⟩ := hq.2
  subst hw2
  cases hv
  have k36 : cel (relT G.2.2.1 w q T.length (capT T.length cap (digN (f0 + 1) v).length) t1) 36 (oB 5 [.ref q, .int (nI T.length)]) := ⟨hT.1.1, rfl⟩
  have k37 : cel (relT G.2.2.1 w q T.length (capT T.length cap (digN (f0 + 1) v).length) t1) 37 (aC G.2.2.1 (capT T.length cap (digN (f0 + 1) v).length) t1) := ⟨hT.2.1, rfl⟩
  have hcg := capT_ge (n := T.length) (cap := cap) (k := (digN (f0 + 1) v).length)
  have hcl : capT T.length cap (digN (f0 + 1) v).length < 2 ^ 30 := by unfold capT; split <;> omega
  refine X_lload_n dX6_putNumber_10 (i := 1) rfl rfl ?_
  refine X_lstore (i := 4) (lo' := [(4, _), (3, _), (0, _), (1, _)]) dX6_putNumber_11 (by decide) rfl ?_
  refine X_aload_n dX6_putNumber_13 (i := 0) rfl rfl ?_
  refine X_get (i := 36) k36 rfl (ci := 5) rfl in6 (k := 1) (by decide) fX6_15 rfl dX6_putNumber_14 ?_
  refine X_iload_n dX6_putNumber_17 (i := 3) rfl rfl ?_
  refine X_iadd dX6_putNumber_18 ?_
  refine XJ.top (v' := .int (nI (T.length + (digN (f0 + 1) v).length))) (by rw [nI_add]) ?_
  refine X_iconst (v := 1) dX6_putNumber_19 (by decide) ?_
  refine X_isub dX6_putNumber_20 ?_
  refine XJ.top (v' := .int (nI (T.length + (digN (f0 + 1) v).length) - 1)) rfl ?_
  refine X_istore (i := 6) (lo' := [(6, _), (4, _), (3, _), (0, _), (1, _)]) dX6_putNumber_21 (by decide) rfl ?_
  exact XJ.lcs (lo' := [(0, .ref (w.1 36)), (1, .long (nL v)), (3, .int (nI (digN (f0 + 1) v).length)), (4, .long (nL v)), (6, .int (nI (T.length + (digN (f0 + 1) v).length) - 1))]) ⟨rfl, rfl, rfl, rfl, rfl, trivial⟩ (hfill ((digN (f0 + 1) v).length + 1) v f0 (digN (f0 + 1) v) [] t1 q (by omega) (Or.inr ⟨hv, rfl⟩) (List.append_nil _).symm hv63 hd2 (fun j hj => absurd hj (Nat.not_lt_zero _)))
end TextX
