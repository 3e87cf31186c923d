/-! COSTS of the class (walks by gen/spec57.py) -/
section CostX
variable {G : Gx} {w : Wd}
set_option maxRecDepth 20000 in
theorem c_ownCost {P : PSt} (p : Nat) (hp : p < 16) (hc : P.2.2.1 p ≤ 99999) (hP : XP G.2.2.1 w P) : XC G mX7_ownCost 0 0 0 [.ref (w.1 2), .int (nI p)] w (fun r w' => r = .inl (some (.float (ownF P p))) ∧ w' = w) := by
  refine XC.of (lo0 := [(0, .ref (w.1 2)), (1, .int (nI p))]) kmX7_ownCost (Nat.le_of_ble_eq_true rfl) rfl ?_
  refine X_aload_n dX7_ownCost_0 (i := 0) rfl rfl ?_
  refine X_get (i := 2) hP.1 rfl (ci := 6) rfl in7 (k := 1) (by decide) fX7_15 rfl dX7_ownCost_1 ?_
  refine X_iload_n dX7_ownCost_4 (i := 1) rfl rfl ?_
  refine X_iald (i := 4) hP.2.2.1 rfl rfl (by omega) (by decide) dX7_ownCost_5 ?_
  refine X_i2f dX7_ownCost_6 ?_
  refine X_ldcf dX7_ownCost_7 kX7_26 ?_
  refine X_fdiv dX7_ownCost_9 (z_nn (ownF_z hc) (by omega)) ?_
  refine X_freturn dX7_ownCost_10 rfl ?_
  exact ⟨rfl, rfl⟩
set_option maxRecDepth 20000 in
theorem c_ownWeight {P : PSt} (p : Nat) (hp : p < 16) (hc : P.2.2.2 p ≤ 99999) (hP : XP G.2.2.1 w P) : XC G mX7_ownWeight 0 0 0 [.ref (w.1 2), .int (nI p)] w (fun r w' => r = .inl (some (.double (ownW P p))) ∧ w' = w) := by
  refine XC.of (lo0 := [(0, .ref (w.1 2)), (1, .int (nI p))]) kmX7_ownWeight (Nat.le_of_ble_eq_true rfl) rfl ?_
  refine X_aload_n dX7_ownWeight_0 (i := 0) rfl rfl ?_
  refine X_get (i := 2) hP.1 rfl (ci := 6) rfl in7 (k := 2) (by decide) fX7_19 rfl dX7_ownWeight_1 ?_
  refine X_iload_n dX7_ownWeight_4 (i := 1) rfl rfl ?_
  refine X_iald (i := 5) hP.2.2.2 rfl rfl (by omega) (by decide) dX7_ownWeight_5 ?_
  refine X_i2d dX7_ownWeight_6 ?_
  refine X_ldc2d dX7_ownWeight_7 kX7_27 ?_
  refine X_ddiv dX7_ownWeight_10 (z_nnd (ownW_z hc) (by omega)) ?_
  refine X_dreturn dX7_ownWeight_11 rfl ?_
  exact ⟨rfl, rfl⟩
set_option maxRecDepth 20000 in
theorem c_addedCost {np : Nat} {L : LSt} (hL : XL G.2.2.1 w L) (hI : LI np L) (j : Nat) (hj : j < ln L) {h : Nat} (x : UInt32) (hx : Z32 120 h x) (h0 : 1 ≤ h) (hh : h + 7 ≤ 254) : XC G mX4_addedCost 0 0 0 [.ref (w.1 6), .int (nI j), .float x] w (fun r w' => r = .inl (some (.float (FP.fmul (facF (qt L j) (sc L j)) x))) ∧ w' = w) := by
  have h16 := hI.1
  have h40 := hI.2.1
  refine XC.of (lo0 := [(0, .ref (w.1 6)), (1, .int (nI j)), (2, .float x)]) kmX4_addedCost (Nat.le_of_ble_eq_true rfl) rfl ?_
  refine X_aload_n dX4_addedCost_0 (i := 0) rfl rfl ?_
  refine X_get (i := 6) hL.1 rfl (ci := 3) rfl in4 (k := 3) (by decide) fX4_21 rfl dX4_addedCost_1 ?_
  refine X_iload_n dX4_addedCost_4 (i := 1) rfl rfl ?_
  refine X_iald (i := 10) hL.2.2.2.2.1 rfl rfl (by omega) (by decide) dX4_addedCost_5 ?_
  refine X_i2f dX4_addedCost_6 ?_
  refine X_bipush (v := 100) dX4_addedCost_7 (by decide) ?_
  refine X_aload_n dX4_addedCost_9 (i := 0) rfl rfl ?_
  refine X_get (i := 6) hL.1 rfl (ci := 3) rfl in4 (k := 4) (by decide) fX4_24 rfl dX4_addedCost_10 ?_
  refine X_iload_n dX4_addedCost_13 (i := 1) rfl rfl ?_
  refine X_iald (i := 11) hL.2.2.2.2.2.1 rfl rfl (by omega) (by decide) dX4_addedCost_14 ?_
  refine X_iadd dX4_addedCost_15 ?_
  refine XJ.top (v' := .int (nI (100 + sc L j))) (by rw [show (100 : Int32) = nI 100 from rfl, show nf (sc L) j = nI (sc L j) from rfl, nI_add]) ?_
  refine X_i2f dX4_addedCost_16 ?_
  refine X_fmul dX4_addedCost_17 (z_nn (facM_z (hI.2.2 j hj).2.2.2.1.2 (hI.2.2 j hj).2.2.2.2.1) (by omega)) ?_
  refine X_ldcf dX4_addedCost_18 kX4_51 ?_
  refine X_fdiv dX4_addedCost_20 (z_nn (facF_z (hI.2.2 j hj).2.2.2.1.1 (hI.2.2 j hj).2.2.2.1.2 (hI.2.2 j hj).2.2.2.2.1) (by omega)) ?_
  refine X_fload_n dX4_addedCost_21 (i := 2) rfl rfl ?_
  refine X_fmul dX4_addedCost_22 (z_nn (mulF_z (hI.2.2 j hj).2.2.2.1.1 (hI.2.2 j hj).2.2.2.1.2 (hI.2.2 j hj).2.2.2.2.1 hx hh h0) hh) ?_
  refine X_freturn dX4_addedCost_23 rfl ?_
  exact ⟨rfl, rfl⟩
set_option maxRecDepth 20000 in
theorem c_addedBy {np : Nat} {L : LSt} {c : Nat → UInt32} (hB : XB w) (hL : XL G.2.2.1 w L) (hI : LI np L) (hC : XC2 G.2.2.1 w c) (j : Nat) (hj : j < ln L) (hx : Z32 120 234 (c (ch L j))) : XC G mX2_addedBy 1 0 0 [.ref (w.1 29), .ref (w.1 1), .int (nI j)] w (fun r w' => r = .inl (some (.float (mrF L c j))) ∧ w' = w) := by
  have h16 := hI.1
  have h40 := hI.2.1
  refine XC.of (lo0 := [(0, .ref (w.1 29)), (1, .ref (w.1 1)), (2, .int (nI j))]) kmX2_addedBy (Nat.le_of_ble_eq_true rfl) rfl ?_
  refine X_aload_n dX2_addedBy_0 (i := 1) rfl rfl ?_
  refine X_get (i := 1) hB rfl (ci := 0) rfl in0 (k := 1) (by decide) fX2_46 rfl dX2_addedBy_1 ?_
  refine X_iload_n dX2_addedBy_4 (i := 2) rfl rfl ?_
  refine X_aload_n dX2_addedBy_5 (i := 0) rfl rfl ?_
  refine X_get (i := 29) hC.1 rfl (ci := 1) rfl in2 (k := 0) (by decide) fX2_9 rfl dX2_addedBy_6 ?_
  refine X_aload_n dX2_addedBy_9 (i := 1) rfl rfl ?_
  refine X_get (i := 1) hB rfl (ci := 0) rfl in0 (k := 1) (by decide) fX2_46 rfl dX2_addedBy_10 ?_
  refine X_get (i := 6) hL.1 rfl (ci := 3) rfl in4 (k := 2) (by decide) fX2_50 rfl dX2_addedBy_13 ?_
  refine X_iload_n dX2_addedBy_16 (i := 2) rfl rfl ?_
  refine X_iald (i := 9) hL.2.2.2.1 rfl rfl (by omega) (by decide) dX2_addedBy_17 ?_
  refine X_fald (i := 30) hC.2 rfl rfl (by have := (hI.2.2 j hj).2.2.1; omega) (by decide) dX2_addedBy_18 ?_
  refine X_callV (gc2 := 0) (gs2 := 0) (c_addedCost hL hI j hj _ hx (by omega) (by omega)) (i := 6) hL.1 rfl rfl kmX4_addedCost rfl lX2_56 iX4_addedCost vX4_addedCost rfl rfl (Nat.le_of_ble_eq_true rfl) (by decide) dX2_addedBy_19 (by decide) (by decide) (fun E w1 hq => nomatch hq.1) (fun v w1 hq => ?_)
  have hv := hq.1
  obtain rfl := hq.2.symm
  cases hv
  refine X_freturn dX2_addedBy_22 rfl ?_
  exact ⟨rfl, rfl⟩
set_option maxRecDepth 20000 in
theorem c_costOf {np : Nat} {P : PSt} {L : LSt} {pr : Nat → Nat} {s : Nat} (hB : XB w) (hP : XP G.2.2.1 w P) (hL : XL G.2.2.1 w L) (hM : cel w 19 (aI G.2.2.1 96 (hlN L pr s (ln L)))) (hI : LI np L) {c : Nat → UInt32} (hC : XC2 G.2.2.1 w c) (p : Nat) (hp : p < 16) (hPc : P.2.2.1 p ≤ 99999) (hcc : ∀ j, j < ln L → hld L pr s j = true → pa L j = p → Z32 120 234 (c (ch L j))) : XC G mX2_costOf 2 0 0 [.ref (w.1 29), .ref (w.1 1), .int (nI p)] w (fun r w' => r = .inl (some (.float (sF L pr s p (mrF L c) (ownF P p) 6))) ∧ w' = w) := by
  have h16 := hI.1
  have h40 := hI.2.1
  refine XC.of (lo0 := [(0, .ref (w.1 29)), (1, .ref (w.1 1)), (2, .int (nI p))]) kmX2_costOf (Nat.le_of_ble_eq_true rfl) rfl ?_
  have hloop : ∀ (n : Nat) (l : Nat), 6 - l < n → l ≤ 6 → XJ G mX2_costOf 2 0 0 12 [(0, .ref (w.1 29)), (1, .ref (w.1 1)), (2, .int (nI p)), (3, .float (sF L pr s p (mrF L c) (ownF P p) l)), (4, .int (nI (l + 1)))] [] w (fun r w' => r = .inl (some (.float (sF L pr s p (mrF L c) (ownF P p) 6))) ∧ w' = w) := by
    intro n
    induction n with
    | zero => intro l hm hl; exact absurd hm (Nat.not_lt_zero _)
    | succ n ih =>
      intro l hm hl
      refine X_iload dX2_costOf_12 (i := 4) rfl ?_
      refine X_bipush (v := 6) dX2_costOf_14 (by decide) ?_
      refine X_icmp_gt (tgt := 50) dX2_costOf_16 (by decide) (fun h1 => ?_) (fun h1 => ?_)
      · have h5 : l = 6 := by have := lt_nI (a := 6) (by decide) (by omega) h1; omega
        subst h5
        refine X_fload_n dX2_costOf_50 (i := 3) rfl rfl ?_
        refine X_freturn dX2_costOf_51 rfl ?_
        exact ⟨rfl, rfl⟩
      · have h5 : l < 6 := by have := nlt_nI (a := 6) (by decide) (by omega) h1; omega
        refine X_aload_n dX2_costOf_19 (i := 1) rfl rfl ?_
        refine X_iload_n dX2_costOf_20 (i := 2) rfl rfl ?_
        refine X_iload dX2_costOf_21 (i := 4) rfl ?_
        refine X_callV (gc2 := 0) (gs2 := 0) (c_heldLine p (l + 1) hp (by omega) (by omega) hB hM) (i := 1) hB rfl rfl kmX0_heldLine rfl lX2_35 iX0_heldLine vX0_heldLine rfl rfl (Nat.le_of_ble_eq_true rfl) (by decide) dX2_costOf_23 (by decide) (by decide) (fun E w1 hq => nomatch hq.1) (fun v w1 hq => ?_)
        have hv := hq.1
        obtain rfl := hq.2.symm
        cases hv
        refine XJ.top (v' := .int (oI (lnAt L pr s p (l + 1)))) (by rw [hlN_at hI (by omega) (by omega)]) ?_
        refine X_istore (i := 5) (lo' := [(5, _), (0, _), (1, _), (2, _), (3, _), (4, _)]) dX2_costOf_26 (by decide) rfl ?_
        refine X_iload dX2_costOf_28 (i := 5) rfl ?_
        refine X_iconst (v := -1) dX2_costOf_30 (by decide) ?_
        refine X_icmp_eq (tgt := 44) dX2_costOf_31 (by decide) (fun h2 => ?_) (fun h2 => ?_)
        · have hx := oI_none (n := ln L) (fun j h => (lnAt_some (L := L) (pr := pr) (s := s) (p := p) (k := l + 1) h).1) (by omega) h2
          refine X_iinc (i := 4) (v := nI (l + 1 + 1)) (lo' := [(4, _), (5, _), (0, _), (1, _), (2, _), (3, _)]) dX2_costOf_44 rfl (nI_inc (l + 1)) (by decide) rfl ?_
          refine X_goto (tgt := 12) dX2_costOf_47 (by decide) ?_
          first
            | exact XJ.lcs (lo' := [(0, .ref (w.1 29)), (1, .ref (w.1 1)), (2, .int (nI p)), (3, .float (sF L pr s p (mrF L c) (ownF P p) (l + 1))), (4, .int (nI (l + 1 + 1)))]) ⟨rfl, rfl, rfl, (by rw [sF, hx]; rfl), rfl, trivial⟩ (ih (l + 1) (by omega) (by omega))
        · obtain ⟨j, hx⟩ := oI_some (n := ln L) (fun j h => (lnAt_some (L := L) (pr := pr) (s := s) (p := p) (k := l + 1) h).1) (by omega) h2
          have hj := lnAt_some hx
          have hb := hI.2.2 j hj.1
          have hjn := hj.1
          rw [show oI (lnAt L pr s p (l + 1)) = nI j by rw [hx]; rfl]
          refine X_fload_n dX2_costOf_34 (i := 3) rfl rfl ?_
          refine X_aload_n dX2_costOf_35 (i := 0) rfl rfl ?_
          refine X_aload_n dX2_costOf_36 (i := 1) rfl rfl ?_
          refine X_iload dX2_costOf_37 (i := 5) rfl ?_
          refine X_callV (gc2 := 0) (gs2 := 0) (c_addedBy hB hL hI hC j hjn (hcc j hjn hj.2.1 hj.2.2.1)) (i := 29) hC.1 rfl rfl kmX2_addedBy rfl lX2_39 iX2_addedBy vX2_addedBy rfl rfl (Nat.le_of_ble_eq_true rfl) (by decide) dX2_costOf_39 (by decide) (by decide) (fun E w1 hq => nomatch hq.1) (fun v w1 hq => ?_)
          have hv := hq.1
          obtain rfl := hq.2.symm
          cases hv
          refine X_fadd dX2_costOf_42 (sF_nn hI hPc hcc (by omega) (by omega) hx) ?_
          refine X_fstore_n (i := 3) (lo' := [(3, _), (5, _), (0, _), (1, _), (2, _), (4, _)]) dX2_costOf_43 rfl (by decide) rfl ?_
          refine X_iinc (i := 4) (v := nI (l + 1 + 1)) (lo' := [(4, _), (3, _), (5, _), (0, _), (1, _), (2, _)]) dX2_costOf_44 rfl (nI_inc (l + 1)) (by decide) rfl ?_
          refine X_goto (tgt := 12) dX2_costOf_47 (by decide) ?_
          first
            | exact XJ.lcs (lo' := [(0, .ref (w.1 29)), (1, .ref (w.1 1)), (2, .int (nI p)), (3, .float (sF L pr s p (mrF L c) (ownF P p) (l + 1))), (4, .int (nI (l + 1 + 1)))]) ⟨rfl, rfl, rfl, (by rw [sF, hx]; rfl), rfl, trivial⟩ (ih (l + 1) (by omega) (by omega))
  refine X_aload_n dX2_costOf_0 (i := 1) rfl rfl ?_
  refine X_get (i := 1) hB rfl (ci := 0) rfl in0 (k := 0) (by decide) fX2_15 rfl dX2_costOf_1 ?_
  refine X_iload_n dX2_costOf_4 (i := 2) rfl rfl ?_
  refine X_callV (gc2 := 0) (gs2 := 0) (c_ownCost p hp hPc hP) (i := 2) hP.1 rfl rfl kmX7_ownCost rfl lX2_42 iX7_ownCost vX7_ownCost rfl rfl (Nat.le_of_ble_eq_true rfl) (by decide) dX2_costOf_5 (by decide) (by decide) (fun E w1 hq => nomatch hq.1) (fun v w1 hq => ?_)
  have hv := hq.1
  obtain rfl := hq.2.symm
  cases hv
  refine X_fstore_n (i := 3) (lo' := [(3, _), (0, _), (1, _), (2, _)]) dX2_costOf_8 rfl (by decide) rfl ?_
  refine X_iconst (v := 1) dX2_costOf_9 (by decide) ?_
  refine X_istore (i := 4) (lo' := [(4, _), (3, _), (0, _), (1, _), (2, _)]) dX2_costOf_10 (by decide) rfl ?_
  exact XJ.lcs (lo' := [(0, .ref (w.1 29)), (1, .ref (w.1 1)), (2, .int (nI p)), (3, .float (sF L pr s p (mrF L c) (ownF P p) 0)), (4, .int (nI (0 + 1)))]) ⟨rfl, rfl, rfl, rfl, rfl, trivial⟩ (hloop 7 0 (by omega) (by omega))
set_option maxRecDepth 20000 in
theorem c_weightOf {np : Nat} {P : PSt} {L : LSt} {pr : Nat → Nat} {s : Nat} (hB : XB w) (hP : XP G.2.2.1 w P) (hL : XL G.2.2.1 w L) (hM : cel w 19 (aI G.2.2.1 96 (hlN L pr s (ln L)))) (hI : LI np L) {c : Nat → UInt64} (hC : XW2 G.2.2.1 w c) (p : Nat) (hp : p < 16) (hPc : P.2.2.2 p ≤ 99999) (hcc : ∀ j, j < ln L → hld L pr s j = true → pa L j = p → Z64 1013 1127 (c (ch L j))) : XC G mX9_weightOf 2 0 0 [.ref (w.1 31), .ref (w.1 1), .int (nI p)] w (fun r w' => r = .inl (some (.double (sW L pr s p (mrW L c) (ownW P p) 6))) ∧ w' = w) := by
  have h16 := hI.1
  have h40 := hI.2.1
  refine XC.of (lo0 := [(0, .ref (w.1 31)), (1, .ref (w.1 1)), (2, .int (nI p))]) kmX9_weightOf (Nat.le_of_ble_eq_true rfl) rfl ?_
  have hloop : ∀ (n : Nat) (l : Nat), 6 - l < n → l ≤ 6 → XJ G mX9_weightOf 2 0 0 12 [(0, .ref (w.1 31)), (1, .ref (w.1 1)), (2, .int (nI p)), (3, .double (sW L pr s p (mrW L c) (ownW P p) l)), (5, .int (nI (l + 1)))] [] w (fun r w' => r = .inl (some (.double (sW L pr s p (mrW L c) (ownW P p) 6))) ∧ w' = w) := by
    intro n
    induction n with
    | zero => intro l hm hl; exact absurd hm (Nat.not_lt_zero _)
    | succ n ih =>
      intro l hm hl
      refine X_iload dX9_weightOf_12 (i := 5) rfl ?_
      refine X_bipush (v := 6) dX9_weightOf_14 (by decide) ?_
      refine X_icmp_gt (tgt := 70) dX9_weightOf_16 (by decide) (fun h1 => ?_) (fun h1 => ?_)
      · have h5 : l = 6 := by have := lt_nI (a := 6) (by decide) (by omega) h1; omega
        subst h5
        refine X_dload_n dX9_weightOf_70 (i := 3) rfl rfl ?_
        refine X_dreturn dX9_weightOf_71 rfl ?_
        exact ⟨rfl, rfl⟩
      · have h5 : l < 6 := by have := nlt_nI (a := 6) (by decide) (by omega) h1; omega
        refine X_aload_n dX9_weightOf_19 (i := 1) rfl rfl ?_
        refine X_iload_n dX9_weightOf_20 (i := 2) rfl rfl ?_
        refine X_iload dX9_weightOf_21 (i := 5) rfl ?_
        refine X_callV (gc2 := 0) (gs2 := 0) (c_heldLine p (l + 1) hp (by omega) (by omega) hB hM) (i := 1) hB rfl rfl kmX0_heldLine rfl lX9_39 iX0_heldLine vX0_heldLine rfl rfl (Nat.le_of_ble_eq_true rfl) (by decide) dX9_weightOf_23 (by decide) (by decide) (fun E w1 hq => nomatch hq.1) (fun v w1 hq => ?_)
        have hv := hq.1
        obtain rfl := hq.2.symm
        cases hv
        refine XJ.top (v' := .int (oI (lnAt L pr s p (l + 1)))) (by rw [hlN_at hI (by omega) (by omega)]) ?_
        refine X_istore (i := 6) (lo' := [(6, _), (0, _), (1, _), (2, _), (3, _), (5, _)]) dX9_weightOf_26 (by decide) rfl ?_
        refine X_iload dX9_weightOf_28 (i := 6) rfl ?_
        refine X_iconst (v := -1) dX9_weightOf_30 (by decide) ?_
        refine X_icmp_eq (tgt := 64) dX9_weightOf_31 (by decide) (fun h2 => ?_) (fun h2 => ?_)
        · have hx := oI_none (n := ln L) (fun j h => (lnAt_some (L := L) (pr := pr) (s := s) (p := p) (k := l + 1) h).1) (by omega) h2
          refine X_iinc (i := 5) (v := nI (l + 1 + 1)) (lo' := [(5, _), (6, _), (0, _), (1, _), (2, _), (3, _)]) dX9_weightOf_64 rfl (nI_inc (l + 1)) (by decide) rfl ?_
          refine X_goto (tgt := 12) dX9_weightOf_67 (by decide) ?_
          first
            | exact XJ.lcs (lo' := [(0, .ref (w.1 31)), (1, .ref (w.1 1)), (2, .int (nI p)), (3, .double (sW L pr s p (mrW L c) (ownW P p) (l + 1))), (5, .int (nI (l + 1 + 1)))]) ⟨rfl, rfl, rfl, (by rw [sW, hx]; rfl), rfl, trivial⟩ (ih (l + 1) (by omega) (by omega))
        · obtain ⟨j, hx⟩ := oI_some (n := ln L) (fun j h => (lnAt_some (L := L) (pr := pr) (s := s) (p := p) (k := l + 1) h).1) (by omega) h2
          have hj := lnAt_some hx
          have hb := hI.2.2 j hj.1
          have hjn := hj.1
          rw [show oI (lnAt L pr s p (l + 1)) = nI j by rw [hx]; rfl]
          refine X_dload_n dX9_weightOf_34 (i := 3) rfl rfl ?_
          refine X_aload_n dX9_weightOf_35 (i := 1) rfl rfl ?_
          refine X_get (i := 1) hB rfl (ci := 0) rfl in0 (k := 1) (by decide) fX9_43 rfl dX9_weightOf_36 ?_
          refine X_get (i := 6) hL.1 rfl (ci := 3) rfl in4 (k := 3) (by decide) fX9_47 rfl dX9_weightOf_39 ?_
          refine X_iload dX9_weightOf_42 (i := 6) rfl ?_
          refine X_iald (i := 10) hL.2.2.2.2.1 rfl rfl (by omega) (by decide) dX9_weightOf_44 ?_
          refine X_i2d dX9_weightOf_45 ?_
          refine X_aload_n dX9_weightOf_46 (i := 0) rfl rfl ?_
          refine X_get (i := 31) hC.1 rfl (ci := 8) rfl in9 (k := 0) (by decide) fX9_9 rfl dX9_weightOf_47 ?_
          refine X_aload_n dX9_weightOf_50 (i := 1) rfl rfl ?_
          refine X_get (i := 1) hB rfl (ci := 0) rfl in0 (k := 1) (by decide) fX9_43 rfl dX9_weightOf_51 ?_
          refine X_get (i := 6) hL.1 rfl (ci := 3) rfl in4 (k := 2) (by decide) fX9_53 rfl dX9_weightOf_54 ?_
          refine X_iload dX9_weightOf_57 (i := 6) rfl ?_
          refine X_iald (i := 9) hL.2.2.2.1 rfl rfl (by omega) (by decide) dX9_weightOf_59 ?_
          refine X_dald (i := 32) hC.2 rfl rfl (by omega) (by decide) dX9_weightOf_60 ?_
          refine X_dmul dX9_weightOf_61 (mrW_nn hI hjn (hcc j hjn hj.2.1 hj.2.2.1) (by omega) (by omega)) ?_
          refine X_dadd dX9_weightOf_62 (sW_nn hI hPc hcc (by omega) (by omega) hx) ?_
          refine X_dstore_n (i := 3) (lo' := [(3, _), (6, _), (0, _), (1, _), (2, _), (5, _)]) dX9_weightOf_63 rfl (by decide) rfl ?_
          refine X_iinc (i := 5) (v := nI (l + 1 + 1)) (lo' := [(5, _), (3, _), (6, _), (0, _), (1, _), (2, _)]) dX9_weightOf_64 rfl (nI_inc (l + 1)) (by decide) rfl ?_
          refine X_goto (tgt := 12) dX9_weightOf_67 (by decide) ?_
          first
            | exact XJ.lcs (lo' := [(0, .ref (w.1 31)), (1, .ref (w.1 1)), (2, .int (nI p)), (3, .double (sW L pr s p (mrW L c) (ownW P p) (l + 1))), (5, .int (nI (l + 1 + 1)))]) ⟨rfl, rfl, rfl, (by rw [sW, hx]; rfl), rfl, trivial⟩ (ih (l + 1) (by omega) (by omega))
  refine X_aload_n dX9_weightOf_0 (i := 1) rfl rfl ?_
  refine X_get (i := 1) hB rfl (ci := 0) rfl in0 (k := 0) (by decide) fX9_15 rfl dX9_weightOf_1 ?_
  refine X_iload_n dX9_weightOf_4 (i := 2) rfl rfl ?_
  refine X_callV (gc2 := 0) (gs2 := 0) (c_ownWeight p hp hPc hP) (i := 2) hP.1 rfl rfl kmX7_ownWeight rfl lX9_35 iX7_ownWeight vX7_ownWeight rfl rfl (Nat.le_of_ble_eq_true rfl) (by decide) dX9_weightOf_5 (by decide) (by decide) (fun E w1 hq => nomatch hq.1) (fun v w1 hq => ?_)
  have hv := hq.1
  obtain rfl := hq.2.symm
  cases hv
  refine X_dstore_n (i := 3) (lo' := [(3, _), (0, _), (1, _), (2, _)]) dX9_weightOf_8 rfl (by decide) rfl ?_
  refine X_iconst (v := 1) dX9_weightOf_9 (by decide) ?_
  refine X_istore (i := 5) (lo' := [(5, _), (3, _), (0, _), (1, _), (2, _)]) dX9_weightOf_10 (by decide) rfl ?_
  exact XJ.lcs (lo' := [(0, .ref (w.1 31)), (1, .ref (w.1 1)), (2, .int (nI p)), (3, .double (sW L pr s p (mrW L c) (ownW P p) 0)), (5, .int (nI (0 + 1)))]) ⟨rfl, rfl, rfl, rfl, rfl, trivial⟩ (hloop 7 0 (by omega) (by omega))
set_option maxRecDepth 20000 in
theorem c_rollUp {np : Nat} {P : PSt} {L : LSt} {pr : Nat → Nat} {s : Nat} (hB : XB w) (hP : XP G.2.2.1 w P) (hL : XL G.2.2.1 w L) (hM : cel w 19 (aI G.2.2.1 96 (hlN L pr s (ln L)))) (hI : LI np L) (hnp : P.1 = np) (hN : NC5 L) (hPP : ∀ p, p < np → P.2.2.1 p ≤ 99999) (hH : cel w 18 (aI G.2.2.1 16 (nf (hcN L pr s (ln L))))) {c : Nat → UInt32} (hC : XC2 G.2.2.1 w c) : XC G mX2_rollUp 3 0 0 [.ref (w.1 29), .ref (w.1 1)] w (fun r w' => r = .inl none ∧ ∃ c', w' = setM w 30 (aF G.2.2.1 16 c') ∧ ∀ x, x < np → c' x = priF P L pr s 5 x) := by
  have h16 := hI.1
  have h40 := hI.2.1
  refine XC.of (lo0 := [(0, .ref (w.1 29)), (1, .ref (w.1 1))]) kmX2_rollUp (Nat.le_of_ble_eq_true rfl) rfl ?_
  have hloop : ∀ (n : Nat) (k R : Nat) (c : Nat → UInt32), 5 - k < n → k ≤ 5 → rdC (priF P L pr s 5) c R → rdN L np k R → XJ G mX2_rollUp 3 0 0 4 [(0, .ref (w.1 29)), (1, .ref (w.1 1)), (2, .int (nI R)), (3, .int (nI k))] [] (setM w 30 (aF G.2.2.1 16 c)) (fun r w' => r = .inl none ∧ ∃ c', w' = setM w 30 (aF G.2.2.1 16 c') ∧ ∀ x, x < np → c' x = priF P L pr s 5 x) := by
    intro n
    induction n with
    | zero => intro k R c hm hk hc hd; exact absurd hm (Nat.not_lt_zero _)
    | succ n ih =>
      intro k R c hm hk hc hd
      refine X_iload_n dX2_rollUp_4 (i := 3) rfl rfl ?_
      refine X_iconst (v := 4) dX2_rollUp_5 (by decide) ?_
      refine X_icmp_gt (tgt := 76) dX2_rollUp_6 (by decide) (fun h1 => ?_) (fun h1 => ?_)
      · have h5 : k = 5 := by have := lt_nI (a := 4) (by decide) (by omega) h1; omega
        subst h5
        refine X_vreturn dX2_rollUp_76 rfl ?_
        exact ⟨rfl, c, rfl, rd_end hN hc hd⟩
      · have h5 : k < 5 := by have := nlt_nI (a := 4) (by decide) (by omega) h1; omega
        have ih2 := ih
        clear ih
        refine X_iconst (v := 0) dX2_rollUp_9 (by decide) ?_
        refine X_istore (i := 4) (lo' := [(4, _), (0, _), (1, _), (2, _), (3, _)]) dX2_rollUp_10 (by decide) rfl ?_
        have hin : ∀ (n : Nat) (q R : Nat) (c : Nat → UInt32), np - q < n → q ≤ np → rdC (priF P L pr s 5) c R → rdN L np k R → rdN L q (k + 1) R → XJ G mX2_rollUp 3 0 0 12 [(0, .ref (w.1 29)), (1, .ref (w.1 1)), (2, .int (nI R)), (3, .int (nI k)), (4, .int (nI q))] [] (setM w 30 (aF G.2.2.1 16 c)) (fun r w' => r = .inl none ∧ ∃ c', w' = setM w 30 (aF G.2.2.1 16 c') ∧ ∀ x, x < np → c' x = priF P L pr s 5 x) := by
          intro n
          induction n with
          | zero => intro q R c hm hq hc hd he; exact absurd hm (Nat.not_lt_zero _)
          | succ n ih =>
            intro q R c hm hq hc hd he
            have e1 : cel (setM w 30 (aF G.2.2.1 16 c)) 30 (aF G.2.2.1 16 c) := ⟨hC.2.1, rfl⟩
            have hR := hc.1
            refine X_iload dX2_rollUp_12 (i := 4) rfl ?_
            refine X_aload_n dX2_rollUp_14 (i := 1) rfl rfl ?_
            refine X_get (i := 1) hB rfl (ci := 0) rfl in0 (k := 0) (by decide) fX2_15 rfl dX2_rollUp_15 ?_
            refine X_get (i := 2) hP.1 rfl (ci := 6) rfl in7 (k := 3) (by decide) fX2_21 rfl dX2_rollUp_18 ?_
            refine X_icmp_ge (tgt := 70) dX2_rollUp_21 (by decide) (fun h2 => ?_) (fun h2 => ?_)
            · have h5 : q = np := by rw [hnp] at h2; have := ge_nI (a := np) (by omega) (by omega) h2; omega
              subst h5
              refine X_iinc (i := 3) (v := nI (k + 1)) (lo' := [(3, _), (0, _), (1, _), (2, _), (4, _)]) dX2_rollUp_70 rfl (nI_inc k) (by decide) rfl ?_
              refine X_goto (tgt := 4) dX2_rollUp_73 (by decide) ?_
              exact XJ.lcs (lo' := [(0, .ref (w.1 29)), (1, .ref (w.1 1)), (2, .int (nI R)), (3, .int (nI (k + 1)))]) ⟨rfl, rfl, rfl, rfl, trivial⟩ (ih2 (k + 1) R c (by omega) (by omega) hc he)
            · have h5 : q < np := by rw [hnp] at h2; exact nge_nI (a := np) (by omega) (by omega) h2
              refine X_iload_n dX2_rollUp_24 (i := 2) rfl rfl ?_
              refine X_iconst (v := 1) dX2_rollUp_25 (by decide) ?_
              refine X_iload dX2_rollUp_26 (i := 4) rfl ?_
              refine X_ishl dX2_rollUp_28 ?_
              refine XJ.top (v' := .int (nI (2 ^ q))) (by rw [shl1 q (by omega)]) ?_
              refine X_iand dX2_rollUp_29 ?_
              refine X_if_ne (tgt := 64) dX2_rollUp_30 (by decide) (fun h3 => ?_) (fun h3 => ?_)
              · have h6 : R.testBit q = true := tb_t (by omega) h3
                refine X_iinc (i := 4) (v := nI (q + 1)) (lo' := [(4, _), (0, _), (1, _), (2, _), (3, _)]) dX2_rollUp_64 rfl (nI_inc q) (by decide) rfl ?_
                refine X_goto (tgt := 12) dX2_rollUp_67 (by decide) ?_
                first
                  | exact XJ.lcs (lo' := [(0, .ref (w.1 29)), (1, .ref (w.1 1)), (2, .int (nI R)), (3, .int (nI k)), (4, .int (nI (q + 1)))]) ⟨rfl, rfl, rfl, rfl, rfl, trivial⟩ (ih (q + 1) R c (by omega) (by omega) hc hd (rdN_s he h6))
                  | exact XJ.lcs (lo' := [(0, .ref (w.1 29)), (1, .ref (w.1 1)), (2, .int (nI R)), (3, .int (nI k)), (4, .int (nI (q + 1)))]) ⟨rfl, rfl, rfl, rfl, rfl, trivial⟩ (ih (q + 1) R c (by omega) (by omega) hc hd (rdN_no hI he hd h7))
                  | refine XJ.wd (w' := (setM w 30 (aF G.2.2.1 16 (va_up c q _)))) setM_setM ?_
                    exact XJ.lcs (lo' := [(0, .ref (w.1 29)), (1, .ref (w.1 1)), (2, .int (nI (R ||| 2 ^ q))), (3, .int (nI k)), (4, .int (nI (q + 1)))]) ⟨rfl, rfl, rfl, rfl, rfl, trivial⟩ (ih (q + 1) (R ||| 2 ^ q) _ (by omega) (by omega) (rdC_up hc (by omega) (rd_val hN hc h7)) (rdN_up hd) (rdN_s (rdN_up he) (or_bit.mpr (Or.inr rfl))))
              · have h6 : R.testBit q = false := tb_f (by omega) h3
                refine X_aload_n dX2_rollUp_33 (i := 1) rfl rfl ?_
                refine X_iload dX2_rollUp_34 (i := 4) rfl ?_
                refine X_iload_n dX2_rollUp_36 (i := 2) rfl rfl ?_
                refine X_callV (gc2 := 0) (gs2 := 0) (c_hasHeld (w := (setM w 30 (aF G.2.2.1 16 c))) (f := hcN L pr s (ln L)) q R (by omega) hB hH (Nat.lt_trans (hcN_lt hI q) (by decide)) (by omega)) (i := 1) hB rfl rfl kmX0_hasHeldChildrenIn rfl lX2_27 iX0_hasHeldChildrenIn vX0_hasHeldChildrenIn rfl rfl (Nat.le_of_ble_eq_true rfl) (by decide) dX2_rollUp_37 (by decide) (by decide) (fun E w1 hq => nomatch hq.1) (fun v w1 hq => ?_)
                have hv := hq.1
                obtain rfl := hq.2.symm
                cases hv
                refine X_if_eq (tgt := 64) dX2_rollUp_40 (by decide) (fun h4 => ?_) (fun h4 => ?_)
                · have h7 := bI_eq h4
                  refine X_iinc (i := 4) (v := nI (q + 1)) (lo' := [(4, _), (0, _), (1, _), (2, _), (3, _)]) dX2_rollUp_64 rfl (nI_inc q) (by decide) rfl ?_
                  refine X_goto (tgt := 12) dX2_rollUp_67 (by decide) ?_
                  first
                    | exact XJ.lcs (lo' := [(0, .ref (w.1 29)), (1, .ref (w.1 1)), (2, .int (nI R)), (3, .int (nI k)), (4, .int (nI (q + 1)))]) ⟨rfl, rfl, rfl, rfl, rfl, trivial⟩ (ih (q + 1) R c (by omega) (by omega) hc hd (rdN_s he h6))
                    | exact XJ.lcs (lo' := [(0, .ref (w.1 29)), (1, .ref (w.1 1)), (2, .int (nI R)), (3, .int (nI k)), (4, .int (nI (q + 1)))]) ⟨rfl, rfl, rfl, rfl, rfl, trivial⟩ (ih (q + 1) R c (by omega) (by omega) hc hd (rdN_no hI he hd h7))
                    | refine XJ.wd (w' := (setM w 30 (aF G.2.2.1 16 (va_up c q _)))) setM_setM ?_
                      exact XJ.lcs (lo' := [(0, .ref (w.1 29)), (1, .ref (w.1 1)), (2, .int (nI (R ||| 2 ^ q))), (3, .int (nI k)), (4, .int (nI (q + 1)))]) ⟨rfl, rfl, rfl, rfl, rfl, trivial⟩ (ih (q + 1) (R ||| 2 ^ q) _ (by omega) (by omega) (rdC_up hc (by omega) (rd_val hN hc h7)) (rdN_up hd) (rdN_s (rdN_up he) (or_bit.mpr (Or.inr rfl))))
                · have h7 := bI_ne h4
                  refine X_aload_n dX2_rollUp_43 (i := 0) rfl rfl ?_
                  refine X_get (i := 29) hC.1 rfl (ci := 1) rfl in2 (k := 0) (by decide) fX2_9 rfl dX2_rollUp_44 ?_
                  refine X_iload dX2_rollUp_47 (i := 4) rfl ?_
                  refine X_aload_n dX2_rollUp_49 (i := 0) rfl rfl ?_
                  refine X_aload_n dX2_rollUp_50 (i := 1) rfl rfl ?_
                  refine X_iload dX2_rollUp_51 (i := 4) rfl ?_
                  refine X_callV (gc2 := 0) (gs2 := 0) (c_costOf (w := (setM w 30 (aF G.2.2.1 16 c))) (s := s) hB hP hL hM hI (c := c) ⟨hC.1, e1⟩ q (by omega) (hPP q h5) (rd_z hI hPP hc h7)) (i := 29) hC.1 rfl rfl kmX2_costOf rfl lX2_31 iX2_costOf vX2_costOf rfl rfl (Nat.le_of_ble_eq_true rfl) (by decide) dX2_rollUp_53 (by decide) (by decide) (fun E w1 hq => nomatch hq.1) (fun v w1 hq => ?_)
                  have hv := hq.1
                  obtain rfl := hq.2.symm
                  cases hv
                  refine X_fast (i := 30) e1 rfl rfl (by omega) (by decide) dX2_rollUp_56 (fun hc_56 => ?_)
                  refine X_iload_n dX2_rollUp_57 (i := 2) rfl rfl ?_
                  refine X_iconst (v := 1) dX2_rollUp_58 (by decide) ?_
                  refine X_iload dX2_rollUp_59 (i := 4) rfl ?_
                  refine X_ishl dX2_rollUp_61 ?_
                  refine XJ.top (v' := .int (nI (2 ^ q))) (by rw [shl1 q (by omega)]) ?_
                  refine X_ior dX2_rollUp_62 ?_
                  refine XJ.top (v' := .int (nI (R ||| 2 ^ q))) (by rw [nI_or]) ?_
                  refine X_istore_n (i := 2) (lo' := [(2, _), (0, _), (1, _), (3, _), (4, _)]) dX2_rollUp_63 rfl (by decide) rfl ?_
                  refine X_iinc (i := 4) (v := nI (q + 1)) (lo' := [(4, _), (2, _), (0, _), (1, _), (3, _)]) dX2_rollUp_64 rfl (nI_inc q) (by decide) rfl ?_
                  refine X_goto (tgt := 12) dX2_rollUp_67 (by decide) ?_
                  first
                    | exact XJ.lcs (lo' := [(0, .ref (w.1 29)), (1, .ref (w.1 1)), (2, .int (nI R)), (3, .int (nI k)), (4, .int (nI (q + 1)))]) ⟨rfl, rfl, rfl, rfl, rfl, trivial⟩ (ih (q + 1) R c (by omega) (by omega) hc hd (rdN_s he h6))
                    | exact XJ.lcs (lo' := [(0, .ref (w.1 29)), (1, .ref (w.1 1)), (2, .int (nI R)), (3, .int (nI k)), (4, .int (nI (q + 1)))]) ⟨rfl, rfl, rfl, rfl, rfl, trivial⟩ (ih (q + 1) R c (by omega) (by omega) hc hd (rdN_no hI he hd h7))
                    | refine XJ.wd (w' := (setM w 30 (aF G.2.2.1 16 (va_up c q _)))) setM_setM ?_
                      exact XJ.lcs (lo' := [(0, .ref (w.1 29)), (1, .ref (w.1 1)), (2, .int (nI (R ||| 2 ^ q))), (3, .int (nI k)), (4, .int (nI (q + 1)))]) ⟨rfl, rfl, rfl, rfl, rfl, trivial⟩ (ih (q + 1) (R ||| 2 ^ q) _ (by omega) (by omega) (rdC_up hc (by omega) (rd_val hN hc h7)) (rdN_up hd) (rdN_s (rdN_up he) (or_bit.mpr (Or.inr rfl))))
        exact XJ.lcs (lo' := [(0, .ref (w.1 29)), (1, .ref (w.1 1)), (2, .int (nI R)), (3, .int (nI k)), (4, .int (nI 0))]) ⟨rfl, rfl, rfl, rfl, rfl, trivial⟩ (hin (np + 1) 0 R c (by omega) (by omega) hc hd (fun x hx => absurd hx (Nat.not_lt_zero x)))
  refine X_iconst (v := 0) dX2_rollUp_0 (by decide) ?_
  refine X_istore_n (i := 2) (lo' := [(2, _), (0, _), (1, _)]) dX2_rollUp_1 rfl (by decide) rfl ?_
  refine X_iconst (v := 0) dX2_rollUp_2 (by decide) ?_
  refine X_istore_n (i := 3) (lo' := [(3, _), (2, _), (0, _), (1, _)]) dX2_rollUp_3 rfl (by decide) rfl ?_
  refine XJ.wd (w' := (setM w 30 (aF G.2.2.1 16 c))) (setM_id hC.2.2).symm ?_
  exact XJ.lcs (lo' := [(0, .ref (w.1 29)), (1, .ref (w.1 1)), (2, .int (nI 0)), (3, .int (nI 0))]) ⟨rfl, rfl, rfl, rfl, trivial⟩ (hloop 6 0 0 c (by omega) (by omega) ⟨by decide, fun x hx => absurd hx (by rw [Nat.zero_testBit]; decide)⟩ (fun x _ hx => hx.elim))
set_option maxRecDepth 20000 in
theorem c_rollUpW {np : Nat} {P : PSt} {L : LSt} {pr : Nat → Nat} {s : Nat} (hB : XB w) (hP : XP G.2.2.1 w P) (hL : XL G.2.2.1 w L) (hM : cel w 19 (aI G.2.2.1 96 (hlN L pr s (ln L)))) (hI : LI np L) (hnp : P.1 = np) (hN : NC5 L) (hPP : ∀ p, p < np → P.2.2.2 p ≤ 99999) (hH : cel w 18 (aI G.2.2.1 16 (nf (hcN L pr s (ln L))))) {c : Nat → UInt64} (hC : XW2 G.2.2.1 w c) : XC G mX9_rollUp 3 0 0 [.ref (w.1 31), .ref (w.1 1)] w (fun r w' => r = .inl none ∧ ∃ c', w' = setM w 32 (aD G.2.2.1 16 c') ∧ ∀ x, x < np → c' x = masF P L pr s 5 x) := by
  have h16 := hI.1
  have h40 := hI.2.1
  refine XC.of (lo0 := [(0, .ref (w.1 31)), (1, .ref (w.1 1))]) kmX9_rollUp (Nat.le_of_ble_eq_true rfl) rfl ?_
  have hloop : ∀ (n : Nat) (k R : Nat) (c : Nat → UInt64), 5 - k < n → k ≤ 5 → rdC (masF P L pr s 5) c R → rdN L np k R → XJ G mX9_rollUp 3 0 0 4 [(0, .ref (w.1 31)), (1, .ref (w.1 1)), (2, .int (nI R)), (3, .int (nI k))] [] (setM w 32 (aD G.2.2.1 16 c)) (fun r w' => r = .inl none ∧ ∃ c', w' = setM w 32 (aD G.2.2.1 16 c') ∧ ∀ x, x < np → c' x = masF P L pr s 5 x) := by
    intro n
    induction n with
    | zero => intro k R c hm hk hc hd; exact absurd hm (Nat.not_lt_zero _)
    | succ n ih =>
      intro k R c hm hk hc hd
      refine X_iload_n dX9_rollUp_4 (i := 3) rfl rfl ?_
      refine X_iconst (v := 4) dX9_rollUp_5 (by decide) ?_
      refine X_icmp_gt (tgt := 76) dX9_rollUp_6 (by decide) (fun h1 => ?_) (fun h1 => ?_)
      · have h5 : k = 5 := by have := lt_nI (a := 4) (by decide) (by omega) h1; omega
        subst h5
        refine X_vreturn dX9_rollUp_76 rfl ?_
        exact ⟨rfl, c, rfl, rd_end hN hc hd⟩
      · have h5 : k < 5 := by have := nlt_nI (a := 4) (by decide) (by omega) h1; omega
        have ih2 := ih
        clear ih
        refine X_iconst (v := 0) dX9_rollUp_9 (by decide) ?_
        refine X_istore (i := 4) (lo' := [(4, _), (0, _), (1, _), (2, _), (3, _)]) dX9_rollUp_10 (by decide) rfl ?_
        have hin : ∀ (n : Nat) (q R : Nat) (c : Nat → UInt64), np - q < n → q ≤ np → rdC (masF P L pr s 5) c R → rdN L np k R → rdN L q (k + 1) R → XJ G mX9_rollUp 3 0 0 12 [(0, .ref (w.1 31)), (1, .ref (w.1 1)), (2, .int (nI R)), (3, .int (nI k)), (4, .int (nI q))] [] (setM w 32 (aD G.2.2.1 16 c)) (fun r w' => r = .inl none ∧ ∃ c', w' = setM w 32 (aD G.2.2.1 16 c') ∧ ∀ x, x < np → c' x = masF P L pr s 5 x) := by
          intro n
          induction n with
          | zero => intro q R c hm hq hc hd he; exact absurd hm (Nat.not_lt_zero _)
          | succ n ih =>
            intro q R c hm hq hc hd he
            have e1 : cel (setM w 32 (aD G.2.2.1 16 c)) 32 (aD G.2.2.1 16 c) := ⟨hC.2.1, rfl⟩
            have hR := hc.1
            refine X_iload dX9_rollUp_12 (i := 4) rfl ?_
            refine X_aload_n dX9_rollUp_14 (i := 1) rfl rfl ?_
            refine X_get (i := 1) hB rfl (ci := 0) rfl in0 (k := 0) (by decide) fX9_15 rfl dX9_rollUp_15 ?_
            refine X_get (i := 2) hP.1 rfl (ci := 6) rfl in7 (k := 3) (by decide) fX9_21 rfl dX9_rollUp_18 ?_
            refine X_icmp_ge (tgt := 70) dX9_rollUp_21 (by decide) (fun h2 => ?_) (fun h2 => ?_)
            · have h5 : q = np := by rw [hnp] at h2; have := ge_nI (a := np) (by omega) (by omega) h2; omega
              subst h5
              refine X_iinc (i := 3) (v := nI (k + 1)) (lo' := [(3, _), (0, _), (1, _), (2, _), (4, _)]) dX9_rollUp_70 rfl (nI_inc k) (by decide) rfl ?_
              refine X_goto (tgt := 4) dX9_rollUp_73 (by decide) ?_
              exact XJ.lcs (lo' := [(0, .ref (w.1 31)), (1, .ref (w.1 1)), (2, .int (nI R)), (3, .int (nI (k + 1)))]) ⟨rfl, rfl, rfl, rfl, trivial⟩ (ih2 (k + 1) R c (by omega) (by omega) hc he)
            · have h5 : q < np := by rw [hnp] at h2; exact nge_nI (a := np) (by omega) (by omega) h2
              refine X_iload_n dX9_rollUp_24 (i := 2) rfl rfl ?_
              refine X_iconst (v := 1) dX9_rollUp_25 (by decide) ?_
              refine X_iload dX9_rollUp_26 (i := 4) rfl ?_
              refine X_ishl dX9_rollUp_28 ?_
              refine XJ.top (v' := .int (nI (2 ^ q))) (by rw [shl1 q (by omega)]) ?_
              refine X_iand dX9_rollUp_29 ?_
              refine X_if_ne (tgt := 64) dX9_rollUp_30 (by decide) (fun h3 => ?_) (fun h3 => ?_)
              · have h6 : R.testBit q = true := tb_t (by omega) h3
                refine X_iinc (i := 4) (v := nI (q + 1)) (lo' := [(4, _), (0, _), (1, _), (2, _), (3, _)]) dX9_rollUp_64 rfl (nI_inc q) (by decide) rfl ?_
                refine X_goto (tgt := 12) dX9_rollUp_67 (by decide) ?_
                first
                  | exact XJ.lcs (lo' := [(0, .ref (w.1 31)), (1, .ref (w.1 1)), (2, .int (nI R)), (3, .int (nI k)), (4, .int (nI (q + 1)))]) ⟨rfl, rfl, rfl, rfl, rfl, trivial⟩ (ih (q + 1) R c (by omega) (by omega) hc hd (rdN_s he h6))
                  | exact XJ.lcs (lo' := [(0, .ref (w.1 31)), (1, .ref (w.1 1)), (2, .int (nI R)), (3, .int (nI k)), (4, .int (nI (q + 1)))]) ⟨rfl, rfl, rfl, rfl, rfl, trivial⟩ (ih (q + 1) R c (by omega) (by omega) hc hd (rdN_no hI he hd h7))
                  | refine XJ.wd (w' := (setM w 32 (aD G.2.2.1 16 (va_up c q _)))) setM_setM ?_
                    exact XJ.lcs (lo' := [(0, .ref (w.1 31)), (1, .ref (w.1 1)), (2, .int (nI (R ||| 2 ^ q))), (3, .int (nI k)), (4, .int (nI (q + 1)))]) ⟨rfl, rfl, rfl, rfl, rfl, trivial⟩ (ih (q + 1) (R ||| 2 ^ q) _ (by omega) (by omega) (rdC_up hc (by omega) (rd_valW hN hc h7)) (rdN_up hd) (rdN_s (rdN_up he) (or_bit.mpr (Or.inr rfl))))
              · have h6 : R.testBit q = false := tb_f (by omega) h3
                refine X_aload_n dX9_rollUp_33 (i := 1) rfl rfl ?_
                refine X_iload dX9_rollUp_34 (i := 4) rfl ?_
                refine X_iload_n dX9_rollUp_36 (i := 2) rfl rfl ?_
                refine X_callV (gc2 := 0) (gs2 := 0) (c_hasHeld (w := (setM w 32 (aD G.2.2.1 16 c))) (f := hcN L pr s (ln L)) q R (by omega) hB hH (Nat.lt_trans (hcN_lt hI q) (by decide)) (by omega)) (i := 1) hB rfl rfl kmX0_hasHeldChildrenIn rfl lX9_27 iX0_hasHeldChildrenIn vX0_hasHeldChildrenIn rfl rfl (Nat.le_of_ble_eq_true rfl) (by decide) dX9_rollUp_37 (by decide) (by decide) (fun E w1 hq => nomatch hq.1) (fun v w1 hq => ?_)
                have hv := hq.1
                obtain rfl := hq.2.symm
                cases hv
                refine X_if_eq (tgt := 64) dX9_rollUp_40 (by decide) (fun h4 => ?_) (fun h4 => ?_)
                · have h7 := bI_eq h4
                  refine X_iinc (i := 4) (v := nI (q + 1)) (lo' := [(4, _), (0, _), (1, _), (2, _), (3, _)]) dX9_rollUp_64 rfl (nI_inc q) (by decide) rfl ?_
                  refine X_goto (tgt := 12) dX9_rollUp_67 (by decide) ?_
                  first
                    | exact XJ.lcs (lo' := [(0, .ref (w.1 31)), (1, .ref (w.1 1)), (2, .int (nI R)), (3, .int (nI k)), (4, .int (nI (q + 1)))]) ⟨rfl, rfl, rfl, rfl, rfl, trivial⟩ (ih (q + 1) R c (by omega) (by omega) hc hd (rdN_s he h6))
                    | exact XJ.lcs (lo' := [(0, .ref (w.1 31)), (1, .ref (w.1 1)), (2, .int (nI R)), (3, .int (nI k)), (4, .int (nI (q + 1)))]) ⟨rfl, rfl, rfl, rfl, rfl, trivial⟩ (ih (q + 1) R c (by omega) (by omega) hc hd (rdN_no hI he hd h7))
                    | refine XJ.wd (w' := (setM w 32 (aD G.2.2.1 16 (va_up c q _)))) setM_setM ?_
                      exact XJ.lcs (lo' := [(0, .ref (w.1 31)), (1, .ref (w.1 1)), (2, .int (nI (R ||| 2 ^ q))), (3, .int (nI k)), (4, .int (nI (q + 1)))]) ⟨rfl, rfl, rfl, rfl, rfl, trivial⟩ (ih (q + 1) (R ||| 2 ^ q) _ (by omega) (by omega) (rdC_up hc (by omega) (rd_valW hN hc h7)) (rdN_up hd) (rdN_s (rdN_up he) (or_bit.mpr (Or.inr rfl))))
                · have h7 := bI_ne h4
                  refine X_aload_n dX9_rollUp_43 (i := 0) rfl rfl ?_
                  refine X_get (i := 31) hC.1 rfl (ci := 8) rfl in9 (k := 0) (by decide) fX9_9 rfl dX9_rollUp_44 ?_
                  refine X_iload dX9_rollUp_47 (i := 4) rfl ?_
                  refine X_aload_n dX9_rollUp_49 (i := 0) rfl rfl ?_
                  refine X_aload_n dX9_rollUp_50 (i := 1) rfl rfl ?_
                  refine X_iload dX9_rollUp_51 (i := 4) rfl ?_
                  refine X_callV (gc2 := 0) (gs2 := 0) (c_weightOf (w := (setM w 32 (aD G.2.2.1 16 c))) (s := s) hB hP hL hM hI (c := c) ⟨hC.1, e1⟩ q (by omega) (hPP q h5) (rd_zW hI hPP hc h7)) (i := 31) hC.1 rfl rfl kmX9_weightOf rfl lX9_31 iX9_weightOf vX9_weightOf rfl rfl (Nat.le_of_ble_eq_true rfl) (by decide) dX9_rollUp_53 (by decide) (by decide) (fun E w1 hq => nomatch hq.1) (fun v w1 hq => ?_)
                  have hv := hq.1
                  obtain rfl := hq.2.symm
                  cases hv
                  refine X_dast (i := 32) e1 rfl rfl (by omega) (by decide) dX9_rollUp_56 (fun hc_56 => ?_)
                  refine X_iload_n dX9_rollUp_57 (i := 2) rfl rfl ?_
                  refine X_iconst (v := 1) dX9_rollUp_58 (by decide) ?_
                  refine X_iload dX9_rollUp_59 (i := 4) rfl ?_
                  refine X_ishl dX9_rollUp_61 ?_
                  refine XJ.top (v' := .int (nI (2 ^ q))) (by rw [shl1 q (by omega)]) ?_
                  refine X_ior dX9_rollUp_62 ?_
                  refine XJ.top (v' := .int (nI (R ||| 2 ^ q))) (by rw [nI_or]) ?_
                  refine X_istore_n (i := 2) (lo' := [(2, _), (0, _), (1, _), (3, _), (4, _)]) dX9_rollUp_63 rfl (by decide) rfl ?_
                  refine X_iinc (i := 4) (v := nI (q + 1)) (lo' := [(4, _), (2, _), (0, _), (1, _), (3, _)]) dX9_rollUp_64 rfl (nI_inc q) (by decide) rfl ?_
                  refine X_goto (tgt := 12) dX9_rollUp_67 (by decide) ?_
                  first
                    | exact XJ.lcs (lo' := [(0, .ref (w.1 31)), (1, .ref (w.1 1)), (2, .int (nI R)), (3, .int (nI k)), (4, .int (nI (q + 1)))]) ⟨rfl, rfl, rfl, rfl, rfl, trivial⟩ (ih (q + 1) R c (by omega) (by omega) hc hd (rdN_s he h6))
                    | exact XJ.lcs (lo' := [(0, .ref (w.1 31)), (1, .ref (w.1 1)), (2, .int (nI R)), (3, .int (nI k)), (4, .int (nI (q + 1)))]) ⟨rfl, rfl, rfl, rfl, rfl, trivial⟩ (ih (q + 1) R c (by omega) (by omega) hc hd (rdN_no hI he hd h7))
                    | refine XJ.wd (w' := (setM w 32 (aD G.2.2.1 16 (va_up c q _)))) setM_setM ?_
                      exact XJ.lcs (lo' := [(0, .ref (w.1 31)), (1, .ref (w.1 1)), (2, .int (nI (R ||| 2 ^ q))), (3, .int (nI k)), (4, .int (nI (q + 1)))]) ⟨rfl, rfl, rfl, rfl, rfl, trivial⟩ (ih (q + 1) (R ||| 2 ^ q) _ (by omega) (by omega) (rdC_up hc (by omega) (rd_valW hN hc h7)) (rdN_up hd) (rdN_s (rdN_up he) (or_bit.mpr (Or.inr rfl))))
        exact XJ.lcs (lo' := [(0, .ref (w.1 31)), (1, .ref (w.1 1)), (2, .int (nI R)), (3, .int (nI k)), (4, .int (nI 0))]) ⟨rfl, rfl, rfl, rfl, rfl, trivial⟩ (hin (np + 1) 0 R c (by omega) (by omega) hc hd (fun x hx => absurd hx (Nat.not_lt_zero x)))
  refine X_iconst (v := 0) dX9_rollUp_0 (by decide) ?_
  refine X_istore_n (i := 2) (lo' := [(2, _), (0, _), (1, _)]) dX9_rollUp_1 rfl (by decide) rfl ?_
  refine X_iconst (v := 0) dX9_rollUp_2 (by decide) ?_
  refine X_istore_n (i := 3) (lo' := [(3, _), (2, _), (0, _), (1, _)]) dX9_rollUp_3 rfl (by decide) rfl ?_
  refine XJ.wd (w' := (setM w 32 (aD G.2.2.1 16 c))) (setM_id hC.2.2).symm ?_
  exact XJ.lcs (lo' := [(0, .ref (w.1 31)), (1, .ref (w.1 1)), (2, .int (nI 0)), (3, .int (nI 0))]) ⟨rfl, rfl, rfl, rfl, trivial⟩ (hloop 6 0 0 c (by omega) (by omega) ⟨by decide, fun x hx => absurd hx (by rw [Nat.zero_testBit]; decide)⟩ (fun x _ hx => hx.elim))
end CostX
