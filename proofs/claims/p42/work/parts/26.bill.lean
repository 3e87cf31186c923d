/-! BILL: sets and places (walks by gen/spec26.py) -/
section BillS
variable {G : Gx} {w : Wd}
theorem orN_t {c : Nat → Bool} {v : Nat → Nat} {n : Nat} (h : c n = true) : orN c v n ||| v n = orN c v (n + 1) := by rw [orN, h]; rfl
theorem orN_f {c : Nat → Bool} {v : Nat → Nat} {n : Nat} (h : c n = false) : orN c v n = orN c v (n + 1) := by rw [orN, h]; rfl
theorem tb_f {a c : Nat} (hc : c < 31) (h : nI a &&& nI (2 ^ c) = 0) : a.testBit c = false := (nI_bit hc).mp h
theorem tb_t {a c : Nat} (hc : c < 31) (h : nI a &&& nI (2 ^ c) ≠ 0) : a.testBit c = true := by
  cases hb : a.testBit c with
  | true => rfl
  | false => exact absurd ((nI_bit hc).mpr hb) h
theorem ge_nI {a b : Nat} (ha : a < 2 ^ 31) (hb : b < 2 ^ 31) (h : nI a ≤ nI b) : a ≤ b := (nI_leI ha hb).mp h
theorem nge_nI {a b : Nat} (ha : a < 2 ^ 31) (hb : b < 2 ^ 31) (h : ¬ nI a ≤ nI b) : b < a := by
  have h2 : ¬ a ≤ b := fun h3 => h ((nI_leI ha hb).mpr h3)
  omega
theorem lt_nI {a b : Nat} (ha : a < 2 ^ 31) (hb : b < 2 ^ 31) (h : nI a < nI b) : a < b := (nI_ltI ha hb).mp h
theorem nlt_nI {a b : Nat} (ha : a < 2 ^ 31) (hb : b < 2 ^ 31) (h : ¬ nI a < nI b) : b ≤ a := by
  have h2 : ¬ a < b := fun h3 => h ((nI_ltI ha hb).mpr h3)
  omega
theorem rI0 {a b : Nat} (h : a = b) : (.inl (some (.int (nI a))) : XRes) = .inl (some (.int (nI b))) := by rw [h]
set_option maxRecDepth 20000 in
theorem c_unionOf (i : Nat) {f : Nat → Nat} (m : Nat) (hM : cel w i (aI G.2.2.1 16 (nf f))) (hf : ∀ p, p < 16 → f p < 2 ^ 16) (hm : m < 2 ^ 16) : XC G mX0_unionOf 0 0 0 [.ref (w.1 i), .int (nI m)] w (fun r w' => r = .inl (some (.int (nI (unS f m)))) ∧ w' = w) := by
  refine XC.of (lo0 := [(0, .ref (w.1 i)), (1, .int (nI m))]) kmX0_unionOf (Nat.le_of_ble_eq_true rfl) rfl ?_
  have hloop : ∀ (n : Nat) (p : Nat), 16 - p < n → p ≤ 16 → XJ G mX0_unionOf 0 0 0 4 [(0, .ref (w.1 i)), (1, .int (nI m)), (2, .int (nI (orN (fun p => m.testBit p) f p))), (3, .int (nI p))] [] w (fun r w' => r = .inl (some (.int (nI (unS f m)))) ∧ w' = w) := by
    intro n
    induction n with
    | zero => intro p hm hp; exact absurd hm (Nat.not_lt_zero _)
    | succ n ih =>
      intro p hm hp
      refine X_iload_n dX0_unionOf_4 (i := 3) rfl rfl ?_
      refine X_bipush (v := 16) dX0_unionOf_5 (by decide) ?_
      refine X_icmp_ge (tgt := 30) dX0_unionOf_7 (by decide) (fun h1 => ?_) (fun h1 => ?_)
      · have hp2 : p = 16 := by have := ge_nI (a := 16) (by decide) (by omega) h1; omega
        subst hp2
        refine X_iload_n dX0_unionOf_30 (i := 2) rfl rfl ?_
        refine X_ireturn dX0_unionOf_31 rfl rfl ?_
        exact ⟨rI0 rfl, rfl⟩
      · have hp2 : p < 16 := nge_nI (a := 16) (by decide) (by omega) h1
        refine X_iload_n dX0_unionOf_10 (i := 1) rfl rfl ?_
        refine X_iconst (v := 1) dX0_unionOf_11 (by decide) ?_
        refine X_iload_n dX0_unionOf_12 (i := 3) rfl rfl ?_
        refine X_ishl dX0_unionOf_13 ?_
        refine XJ.top (v' := .int (nI (2 ^ p))) (by rw [shl1 p (by omega)]) ?_
        refine X_iand dX0_unionOf_14 ?_
        refine X_if_eq (tgt := 24) dX0_unionOf_15 (by decide) (fun h2 => ?_) (fun h2 => ?_)
        · refine X_iinc (i := 3) (v := nI (p + 1)) (lo' := [(3, _), (0, _), (1, _), (2, _)]) dX0_unionOf_24 rfl (nI_inc p) (by decide) rfl ?_
          refine X_goto (tgt := 4) dX0_unionOf_27 (by decide) ?_
          first | exact XJ.lcs (lo' := [(0, .ref (w.1 i)), (1, .int (nI m)), (2, .int (nI (orN (fun p => m.testBit p) f (p + 1)))), (3, .int (nI (p + 1)))]) ⟨rfl, rfl, by rw [← orN_f (tb_f (by omega) h2)]; rfl, rfl, trivial⟩ (ih (p + 1) (by omega) (by omega)) | exact XJ.lcs (lo' := [(0, .ref (w.1 i)), (1, .int (nI m)), (2, .int (nI (orN (fun p => m.testBit p) f (p + 1)))), (3, .int (nI (p + 1)))]) ⟨rfl, rfl, by rw [← orN_t (tb_t (by omega) h2)]; rfl, rfl, trivial⟩ (ih (p + 1) (by omega) (by omega))
        · refine X_iload_n dX0_unionOf_18 (i := 2) rfl rfl ?_
          refine X_aload_n dX0_unionOf_19 (i := 0) rfl rfl ?_
          refine X_iload_n dX0_unionOf_20 (i := 3) rfl rfl ?_
          refine X_iald (i := i) hM rfl rfl (by omega) (by decide) dX0_unionOf_21 ?_
          refine X_ior dX0_unionOf_22 ?_
          refine XJ.top (v' := .int (nI (orN (fun p => m.testBit p) f p ||| f p))) (by rw [show nf f p = nI (f p) from rfl, nI_or]) ?_
          refine X_istore_n (i := 2) (lo' := [(2, _), (0, _), (1, _), (3, _)]) dX0_unionOf_23 rfl (by decide) rfl ?_
          refine X_iinc (i := 3) (v := nI (p + 1)) (lo' := [(3, _), (2, _), (0, _), (1, _)]) dX0_unionOf_24 rfl (nI_inc p) (by decide) rfl ?_
          refine X_goto (tgt := 4) dX0_unionOf_27 (by decide) ?_
          first | exact XJ.lcs (lo' := [(0, .ref (w.1 i)), (1, .int (nI m)), (2, .int (nI (orN (fun p => m.testBit p) f (p + 1)))), (3, .int (nI (p + 1)))]) ⟨rfl, rfl, by rw [← orN_f (tb_f (by omega) h2)]; rfl, rfl, trivial⟩ (ih (p + 1) (by omega) (by omega)) | exact XJ.lcs (lo' := [(0, .ref (w.1 i)), (1, .int (nI m)), (2, .int (nI (orN (fun p => m.testBit p) f (p + 1)))), (3, .int (nI (p + 1)))]) ⟨rfl, rfl, by rw [← orN_t (tb_t (by omega) h2)]; rfl, rfl, trivial⟩ (ih (p + 1) (by omega) (by omega))
  refine X_iconst (v := 0) dX0_unionOf_0 (by decide) ?_
  refine X_istore_n (i := 2) (lo' := [(2, _), (0, _), (1, _)]) dX0_unionOf_1 rfl (by decide) rfl ?_
  refine X_iconst (v := 0) dX0_unionOf_2 (by decide) ?_
  refine X_istore_n (i := 3) (lo' := [(3, _), (2, _), (0, _), (1, _)]) dX0_unionOf_3 rfl (by decide) rfl ?_
  exact XJ.lcs (lo' := [(0, .ref (w.1 i)), (1, .int (nI m)), (2, .int (nI (orN (fun p => m.testBit p) f 0))), (3, .int (nI 0))]) ⟨rfl, rfl, rfl, rfl, trivial⟩ (hloop 17 0 (by omega) (by omega))
theorem stp_0 {f : Nat → Nat} {k m : Nat} (h : m = 0) : stp f k m = 0 := by cases k with
  | zero => rfl
  | succ k => exact if_pos h
theorem stp_s {f : Nat → Nat} {k m : Nat} (h : m ≠ 0) : stp f (k + 1) m = 1 + stp f k (unS f m) := if_neg h
set_option maxRecDepth 20000 in
theorem c_stepsFrom (i : Nat) {f : Nat → Nat} (p : Nat) (hp : p < 16) (hM : cel w i (aI G.2.2.1 16 (nf f))) (hf : ∀ p, p < 16 → f p < 2 ^ 16) : XC G mX0_stepsFrom 1 0 0 [.ref (w.1 i), .int (nI p)] w (fun r w' => r = .inl (some (.int (nI (stp f 5 (f p))))) ∧ w' = w) := by
  refine XC.of (lo0 := [(0, .ref (w.1 i)), (1, .int (nI p))]) kmX0_stepsFrom (Nat.le_of_ble_eq_true rfl) rfl ?_
  have hloop : ∀ (n : Nat) (s m : Nat), 5 - s < n → s ≤ 5 → m < 2 ^ 16 → s + stp f (5 - s) m = stp f 5 (f p) → XJ G mX0_stepsFrom 1 0 0 6 [(0, .ref (w.1 i)), (1, .int (nI p)), (2, .int (nI s)), (3, .int (nI m))] [] w (fun r w' => r = .inl (some (.int (nI (stp f 5 (f p))))) ∧ w' = w) := by
    intro n
    induction n with
    | zero => intro s m hm hs hm2 he; exact absurd hm (Nat.not_lt_zero _)
    | succ n ih =>
      intro s m hm hs hm2 he
      refine X_iload_n dX0_stepsFrom_6 (i := 3) rfl rfl ?_
      refine X_if_eq (tgt := 27) dX0_stepsFrom_7 (by decide) (fun h1 => ?_) (fun h1 => ?_)
      · have h3 : m = 0 := (nI_eq (by omega) (by decide)).mp h1
        refine X_iload_n dX0_stepsFrom_27 (i := 2) rfl rfl ?_
        refine X_ireturn dX0_stepsFrom_28 rfl rfl ?_
        first
          | exact ⟨rI0 (by rw [← he, stp_0 h3]; rfl), rfl⟩
          | exact ⟨rI0 (by rw [← he]; rfl), rfl⟩
      · have h3 : m ≠ 0 := fun h => h1 (by rw [h]; rfl)
        refine X_iload_n dX0_stepsFrom_10 (i := 2) rfl rfl ?_
        refine X_iconst (v := 4) dX0_stepsFrom_11 (by decide) ?_
        refine X_icmp_gt (tgt := 27) dX0_stepsFrom_12 (by decide) (fun h2 => ?_) (fun h2 => ?_)
        · have h4 : 4 < s := lt_nI (a := 4) (by decide) (by omega) h2
          have h5 : s = 5 := by omega
          subst h5
          refine X_iload_n dX0_stepsFrom_27 (i := 2) rfl rfl ?_
          refine X_ireturn dX0_stepsFrom_28 rfl rfl ?_
          first
            | exact ⟨rI0 (by rw [← he, stp_0 h3]; rfl), rfl⟩
            | exact ⟨rI0 (by rw [← he]; rfl), rfl⟩
        · have h4 : s ≤ 4 := nlt_nI (a := 4) (by decide) (by omega) h2
          refine X_iinc (i := 2) (v := nI (s + 1)) (lo' := [(2, _), (0, _), (1, _), (3, _)]) dX0_stepsFrom_15 rfl (nI_inc s) (by decide) rfl ?_
          refine X_aload_n dX0_stepsFrom_18 (i := 0) rfl rfl ?_
          refine X_iload_n dX0_stepsFrom_19 (i := 3) rfl rfl ?_
          refine X_callS (gc2 := 0) (gs2 := 0) (c_unionOf i m hM hf hm2) kmX0_unionOf rfl lX0_67 sX0_unionOf rfl rfl (Nat.le_of_ble_eq_true rfl) (by decide) dX0_stepsFrom_20 (by decide) (by decide) (fun E w1 hq => nomatch hq.1) (fun v w1 hq => ?_)
          have hv := hq.1
          obtain rfl := hq.2.symm
          cases hv
          refine X_istore_n (i := 3) (lo' := [(3, _), (2, _), (0, _), (1, _)]) dX0_stepsFrom_23 rfl (by decide) rfl ?_
          refine X_goto (tgt := 6) dX0_stepsFrom_24 (by decide) ?_
          exact XJ.lcs (lo' := [(0, .ref (w.1 i)), (1, .int (nI p)), (2, .int (nI (s + 1))), (3, .int (nI (unS f m)))]) ⟨rfl, rfl, rfl, rfl, trivial⟩ (ih (s + 1) (unS f m) (by omega) (by omega) (unS_lt hf) (by rw [← he, show 5 - s = (5 - (s + 1)) + 1 by omega, stp_s h3]; omega))
  refine X_iconst (v := 0) dX0_stepsFrom_0 (by decide) ?_
  refine X_istore_n (i := 2) (lo' := [(2, _), (0, _), (1, _)]) dX0_stepsFrom_1 rfl (by decide) rfl ?_
  refine X_aload_n dX0_stepsFrom_2 (i := 0) rfl rfl ?_
  refine X_iload_n dX0_stepsFrom_3 (i := 1) rfl rfl ?_
  refine X_iald (i := i) hM rfl rfl hp (by decide) dX0_stepsFrom_4 ?_
  refine X_istore_n (i := 3) (lo' := [(3, _), (2, _), (0, _), (1, _)]) dX0_stepsFrom_5 rfl (by decide) rfl ?_
  exact XJ.lcs (lo' := [(0, .ref (w.1 i)), (1, .int (nI p)), (2, .int (nI 0)), (3, .int (nI (f p)))]) ⟨rfl, rfl, rfl, rfl, trivial⟩ (hloop 6 0 (f p) (by omega) (by omega) (hf p hp) (by rw [Nat.zero_add]))
set_option maxRecDepth 20000 in
theorem c_levelsBelow {f : Nat → Nat} (p : Nat) (hp : p < 16) (hB : XB w) (hM : cel w 16 (aI G.2.2.1 16 (nf f))) (hf : ∀ p, p < 16 → f p < 2 ^ 16) : XC G mX0_levelsBelow 2 0 0 [.ref (w.1 1), .int (nI p)] w (fun r w' => r = .inl (some (.int (nI (stp f 5 (f p))))) ∧ w' = w) := by
  refine XC.of (lo0 := [(0, .ref (w.1 1)), (1, .int (nI p))]) kmX0_levelsBelow (Nat.le_of_ble_eq_true rfl) rfl ?_
  refine X_aload_n dX0_levelsBelow_0 (i := 0) rfl rfl ?_
  refine X_get (i := 1) hB rfl (ci := 0) rfl in0 (k := 2) (by decide) fX0_25 rfl dX0_levelsBelow_1 ?_
  refine X_iload_n dX0_levelsBelow_4 (i := 1) rfl rfl ?_
  refine X_callS (gc2 := 0) (gs2 := 0) (c_stepsFrom 16 p hp hM hf) kmX0_stepsFrom rfl lX0_63 sX0_stepsFrom rfl rfl (Nat.le_of_ble_eq_true rfl) (by decide) dX0_levelsBelow_5 (by decide) (by decide) (fun E w1 hq => nomatch hq.1) (fun v w1 hq => ?_)
  have hv := hq.1
  obtain rfl := hq.2.symm
  cases hv
  refine X_ireturn dX0_levelsBelow_8 rfl rfl ?_
  exact ⟨rfl, rfl⟩
set_option maxRecDepth 20000 in
theorem c_levelsAbove {f : Nat → Nat} (p : Nat) (hp : p < 16) (hB : XB w) (hM : cel w 17 (aI G.2.2.1 16 (nf f))) (hf : ∀ p, p < 16 → f p < 2 ^ 16) : XC G mX0_levelsAbove 2 0 0 [.ref (w.1 1), .int (nI p)] w (fun r w' => r = .inl (some (.int (nI (stp f 5 (f p))))) ∧ w' = w) := by
  refine XC.of (lo0 := [(0, .ref (w.1 1)), (1, .int (nI p))]) kmX0_levelsAbove (Nat.le_of_ble_eq_true rfl) rfl ?_
  refine X_aload_n dX0_levelsAbove_0 (i := 0) rfl rfl ?_
  refine X_get (i := 1) hB rfl (ci := 0) rfl in0 (k := 3) (by decide) fX0_29 rfl dX0_levelsAbove_1 ?_
  refine X_iload_n dX0_levelsAbove_4 (i := 1) rfl rfl ?_
  refine X_callS (gc2 := 0) (gs2 := 0) (c_stepsFrom 17 p hp hM hf) kmX0_stepsFrom rfl lX0_63 sX0_stepsFrom rfl rfl (Nat.le_of_ble_eq_true rfl) (by decide) dX0_levelsAbove_5 (by decide) (by decide) (fun E w1 hq => nomatch hq.1) (fun v w1 hq => ?_)
  have hv := hq.1
  obtain rfl := hq.2.symm
  cases hv
  refine X_ireturn dX0_levelsAbove_8 rfl rfl ?_
  exact ⟨rfl, rfl⟩
set_option maxRecDepth 20000 in
theorem c_heldLevelsBelow {f : Nat → Nat} (p : Nat) (hp : p < 16) (hB : XB w) (hM : cel w 18 (aI G.2.2.1 16 (nf f))) (hf : ∀ p, p < 16 → f p < 2 ^ 16) : XC G mX0_heldLevelsBelow 2 0 0 [.ref (w.1 1), .int (nI p)] w (fun r w' => r = .inl (some (.int (nI (stp f 5 (f p))))) ∧ w' = w) := by
  refine XC.of (lo0 := [(0, .ref (w.1 1)), (1, .int (nI p))]) kmX0_heldLevelsBelow (Nat.le_of_ble_eq_true rfl) rfl ?_
  refine X_aload_n dX0_heldLevelsBelow_0 (i := 0) rfl rfl ?_
  refine X_get (i := 1) hB rfl (ci := 0) rfl in0 (k := 4) (by decide) fX0_32 rfl dX0_heldLevelsBelow_1 ?_
  refine X_iload_n dX0_heldLevelsBelow_4 (i := 1) rfl rfl ?_
  refine X_callS (gc2 := 0) (gs2 := 0) (c_stepsFrom 18 p hp hM hf) kmX0_stepsFrom rfl lX0_63 sX0_stepsFrom rfl rfl (Nat.le_of_ble_eq_true rfl) (by decide) dX0_heldLevelsBelow_5 (by decide) (by decide) (fun E w1 hq => nomatch hq.1) (fun v w1 hq => ?_)
  have hv := hq.1
  obtain rfl := hq.2.symm
  cases hv
  refine X_ireturn dX0_heldLevelsBelow_8 rfl rfl ?_
  exact ⟨rfl, rfl⟩
set_option maxRecDepth 20000 in
theorem c_isWithin {f : Nat → Nat} (p q : Nat) (hp : p < 16) (hq : q < 16) (hB : XB w) (hM : cel w 16 (aI G.2.2.1 16 (nf f))) (hf : ∀ p, p < 16 → f p < 2 ^ 16) : XC G mX0_isWithin 1 0 0 [.ref (w.1 1), .int (nI p), .int (nI q)] w (fun r w' => r = .inl (some (.int (bI ((rch f 4 (2 ^ q)).testBit p)))) ∧ w' = w) := by
  refine XC.of (lo0 := [(0, .ref (w.1 1)), (1, .int (nI p)), (2, .int (nI q))]) kmX0_isWithin (Nat.le_of_ble_eq_true rfl) rfl ?_
  have hloop : ∀ (n : Nat) (k m : Nat), 4 - k < n → k ≤ 4 → m < 2 ^ 16 → rch f (4 - k) m = rch f 4 (2 ^ q) → XJ G mX0_isWithin 1 0 0 7 [(0, .ref (w.1 1)), (1, .int (nI p)), (2, .int (nI q)), (3, .int (nI m)), (4, .int (nI k))] [] w (fun r w' => r = .inl (some (.int (bI ((rch f 4 (2 ^ q)).testBit p)))) ∧ w' = w) := by
    intro n
    induction n with
    | zero => intro k m hm hk hm2 he; exact absurd hm (Nat.not_lt_zero _)
    | succ n ih =>
      intro k m hm hk hm2 he
      refine X_iload dX0_isWithin_7 (i := 4) rfl ?_
      refine X_iconst (v := 4) dX0_isWithin_9 (by decide) ?_
      refine X_icmp_ge (tgt := 30) dX0_isWithin_10 (by decide) (fun h1 => ?_) (fun h1 => ?_)
      · have h3 : k = 4 := by have := ge_nI (a := 4) (by decide) (by omega) h1; omega
        subst h3
        refine X_iload_n dX0_isWithin_30 (i := 3) rfl rfl ?_
        refine X_iconst (v := 1) dX0_isWithin_31 (by decide) ?_
        refine X_iload_n dX0_isWithin_32 (i := 1) rfl rfl ?_
        refine X_ishl dX0_isWithin_33 ?_
        refine XJ.top (v' := .int (nI (2 ^ p))) (by rw [shl1 p (by omega)]) ?_
        refine X_iand dX0_isWithin_34 ?_
        refine X_if_eq (tgt := 42) dX0_isWithin_35 (by decide) (fun h2 => ?_) (fun h2 => ?_)
        · refine X_iconst (v := 0) dX0_isWithin_42 (by decide) ?_
          refine X_ireturn dX0_isWithin_43 rfl rfl ?_
          first
            | exact ⟨rI (by rw [← he, show rch f (4 - 4) m = m from rfl, tb_f (by omega) h2]; rfl), rfl⟩
            | exact ⟨rI (by rw [← he, show rch f (4 - 4) m = m from rfl, tb_t (by omega) h2]; rfl), rfl⟩
        · refine X_iconst (v := 1) dX0_isWithin_38 (by decide) ?_
          refine X_goto (tgt := 43) dX0_isWithin_39 (by decide) ?_
          refine X_ireturn dX0_isWithin_43 rfl rfl ?_
          first
            | exact ⟨rI (by rw [← he, show rch f (4 - 4) m = m from rfl, tb_f (by omega) h2]; rfl), rfl⟩
            | exact ⟨rI (by rw [← he, show rch f (4 - 4) m = m from rfl, tb_t (by omega) h2]; rfl), rfl⟩
      · have h3 : k < 4 := nge_nI (a := 4) (by decide) (by omega) h1
        refine X_iload_n dX0_isWithin_13 (i := 3) rfl rfl ?_
        refine X_aload_n dX0_isWithin_14 (i := 0) rfl rfl ?_
        refine X_get (i := 1) hB rfl (ci := 0) rfl in0 (k := 2) (by decide) fX0_25 rfl dX0_isWithin_15 ?_
        refine X_iload_n dX0_isWithin_18 (i := 3) rfl rfl ?_
        refine X_callS (gc2 := 0) (gs2 := 0) (c_unionOf 16 m hM hf hm2) kmX0_unionOf rfl lX0_67 sX0_unionOf rfl rfl (Nat.le_of_ble_eq_true rfl) (by decide) dX0_isWithin_19 (by decide) (by decide) (fun E w1 hq => nomatch hq.1) (fun v w1 hq => ?_)
        have hv := hq.1
        obtain rfl := hq.2.symm
        cases hv
        refine X_ior dX0_isWithin_22 ?_
        refine XJ.top (v' := .int (nI (m ||| unS f m))) (by rw [nI_or]) ?_
        refine X_istore_n (i := 3) (lo' := [(3, _), (0, _), (1, _), (2, _), (4, _)]) dX0_isWithin_23 rfl (by decide) rfl ?_
        refine X_iinc (i := 4) (v := nI (k + 1)) (lo' := [(4, _), (3, _), (0, _), (1, _), (2, _)]) dX0_isWithin_24 rfl (nI_inc k) (by decide) rfl ?_
        refine X_goto (tgt := 7) dX0_isWithin_27 (by decide) ?_
        exact XJ.lcs (lo' := [(0, .ref (w.1 1)), (1, .int (nI p)), (2, .int (nI q)), (3, .int (nI (m ||| unS f m))), (4, .int (nI (k + 1)))]) ⟨rfl, rfl, rfl, rfl, rfl, trivial⟩ (ih (k + 1) _ (by omega) (by omega) (Nat.or_lt_two_pow hm2 (unS_lt hf)) (by rw [← he, show 4 - k = (4 - (k + 1)) + 1 by omega]; rfl))
  refine X_iconst (v := 1) dX0_isWithin_0 (by decide) ?_
  refine X_iload_n dX0_isWithin_1 (i := 2) rfl rfl ?_
  refine X_ishl dX0_isWithin_2 ?_
  refine XJ.top (v' := .int (nI (2 ^ q))) (by rw [shl1 q (by omega)]) ?_
  refine X_istore_n (i := 3) (lo' := [(3, _), (0, _), (1, _), (2, _)]) dX0_isWithin_3 rfl (by decide) rfl ?_
  refine X_iconst (v := 0) dX0_isWithin_4 (by decide) ?_
  refine X_istore (i := 4) (lo' := [(4, _), (3, _), (0, _), (1, _), (2, _)]) dX0_isWithin_5 (by decide) rfl ?_
  exact XJ.lcs (lo' := [(0, .ref (w.1 1)), (1, .int (nI p)), (2, .int (nI q)), (3, .int (nI (2 ^ q))), (4, .int (nI 0))]) ⟨rfl, rfl, rfl, rfl, rfl, trivial⟩ (hloop 5 0 (2 ^ q) (by omega) (by omega) (Nat.pow_lt_pow_right (by decide) hq) rfl)
end BillS
