/-! CONSISTENT: unique lines (walks by gen/spec53.py) -/
section Cons3
variable {G : Gx} {w : Wd}
set_option maxRecDepth 20000 in
theorem c_isUnique {np : Nat} {L : LSt} (hL : XL G.2.2.1 w L) (hI : LI np L) (hW : PW L) : XC G mX4_isUnique 2 0 0 [.ref (w.1 6)] w (fun r w' => r = .inl (some (.int 1)) ∧ w' = w) := by
  have h16 := hI.1
  have h40 := hI.2.1
  refine XC.of (lo0 := [(0, .ref (w.1 6))]) kmX4_isUnique (Nat.le_of_ble_eq_true rfl) rfl ?_
  have hloop : ∀ (n : Nat) (k : Nat), ln L - k < n → k ≤ ln L → XJ G mX4_isUnique 2 0 0 2 [(0, .ref (w.1 6)), (1, .int (nI k))] [] w (fun r w' => r = .inl (some (.int 1)) ∧ w' = w) := by
    intro n
    induction n with
    | zero => intro k hm hk; exact absurd hm (Nat.not_lt_zero _)
    | succ n ih =>
      intro k hm hk
      refine X_iload_n dX4_isUnique_2 (i := 1) rfl rfl ?_
      refine X_aload_n dX4_isUnique_3 (i := 0) rfl rfl ?_
      refine X_get (i := 6) hL.1 rfl (ci := 3) rfl in4 (k := 9) (by decide) fX4_39 rfl dX4_isUnique_4 ?_
      refine X_icmp_ge (tgt := 91) dX4_isUnique_7 (by decide) (fun h1 => ?_) (fun h1 => ?_)
      · have h5k : k = ln L := by have := ge_nI (a := ln L) (by omega) (by omega) h1; omega
        refine X_iconst (v := 1) dX4_isUnique_91 (by decide) ?_
        refine X_ireturn dX4_isUnique_92 rfl rfl ?_
        exact ⟨rfl, rfl⟩
      · have h5k : k < ln L := nge_nI (a := ln L) (by omega) (by omega) h1
        have hb := hI.2.2 k h5k
        refine X_iconst (v := 0) dX4_isUnique_10 (by decide) ?_
        refine X_istore_n (i := 2) (lo' := [(2, _), (0, _), (1, _)]) dX4_isUnique_11 rfl (by decide) rfl ?_
        have hin : ∀ (m : Nat) (j : Nat), k - j < m → j ≤ k → XJ G mX4_isUnique 2 0 0 12 [(0, .ref (w.1 6)), (1, .int (nI k)), (2, .int (nI j))] [] w (fun r w' => r = .inl (some (.int 1)) ∧ w' = w) := by
          intro m
          induction m with
          | zero => intro j hm2 hj; exact absurd hm2 (Nat.not_lt_zero _)
          | succ m ih2 =>
            intro j hm2 hj
            refine X_iload_n dX4_isUnique_12 (i := 2) rfl rfl ?_
            refine X_iload_n dX4_isUnique_13 (i := 1) rfl rfl ?_
            refine X_icmp_ge (tgt := 85) dX4_isUnique_14 (by decide) (fun h2 => ?_) (fun h2 => ?_)
            · have h6 : j = k := by have := ge_nI (a := k) (by omega) (by omega) h2; omega
              refine X_iinc (i := 1) (v := nI (k + 1)) (lo' := [(1, _), (0, _), (2, _)]) dX4_isUnique_85 rfl (nI_inc k) (by decide) rfl ?_
              refine X_goto (tgt := 2) dX4_isUnique_88 (by decide) ?_
              exact XJ.lcs (lo' := [(0, .ref (w.1 6)), (1, .int (nI (k + 1)))]) ⟨rfl, rfl, trivial⟩ (ih (k + 1) (by omega) (by omega))
            · have h6 : j < k := nge_nI (a := k) (by omega) (by omega) h2
              refine X_aload_n dX4_isUnique_17 (i := 0) rfl rfl ?_
              refine X_iload_n dX4_isUnique_18 (i := 2) rfl rfl ?_
              refine X_aload_n dX4_isUnique_19 (i := 0) rfl rfl ?_
              refine X_get (i := 6) hL.1 rfl (ci := 3) rfl in4 (k := 0) (by decide) fX4_9 rfl dX4_isUnique_20 ?_
              refine X_iload_n dX4_isUnique_23 (i := 1) rfl rfl ?_
              refine X_iald (i := 7) hL.2.1 rfl rfl (by omega) (by decide) dX4_isUnique_24 ?_
              refine X_aload_n dX4_isUnique_25 (i := 0) rfl rfl ?_
              refine X_get (i := 6) hL.1 rfl (ci := 3) rfl in4 (k := 1) (by decide) fX4_15 rfl dX4_isUnique_26 ?_
              refine X_iload_n dX4_isUnique_29 (i := 1) rfl rfl ?_
              refine X_iald (i := 8) hL.2.2.1 rfl rfl (by omega) (by decide) dX4_isUnique_30 ?_
              refine X_callV (gc2 := 0) (gs2 := 0) (c_isAt hL hI j (by omega) (pa L k) (po L k) (by omega) (by omega)) (i := 6) hL.1 rfl rfl kmX4_isAt rfl lX4_56 iX4_isAt vX4_isAt rfl rfl (Nat.le_of_ble_eq_true rfl) (by decide) dX4_isUnique_31 (by decide) (by decide) (fun E w1 hq => nomatch hq.1) (fun v w1 hq => ?_)
              have hv := hq.1
              obtain rfl := hq.2.symm
              cases hv
              refine X_if_eq (tgt := 79) dX4_isUnique_34 (by decide) (fun h3 => ?_) (fun h3 => ?_)
              · refine X_iinc (i := 2) (v := nI (j + 1)) (lo' := [(2, _), (0, _), (1, _)]) dX4_isUnique_79 rfl (nI_inc j) (by decide) rfl ?_
                refine X_goto (tgt := 12) dX4_isUnique_82 (by decide) ?_
                exact XJ.lcs (lo' := [(0, .ref (w.1 6)), (1, .int (nI k)), (2, .int (nI (j + 1)))]) ⟨rfl, rfl, rfl, trivial⟩ (ih2 (j + 1) (by omega) (by omega))
              · have g1 := bI_ne h3
                rw [Bool.and_eq_true, decide_eq_true_eq, decide_eq_true_eq] at g1
                refine X_aload_n dX4_isUnique_37 (i := 0) rfl rfl ?_
                refine X_iload_n dX4_isUnique_38 (i := 2) rfl rfl ?_
                refine X_aload_n dX4_isUnique_39 (i := 0) rfl rfl ?_
                refine X_get (i := 6) hL.1 rfl (ci := 3) rfl in4 (k := 5) (by decide) fX4_27 rfl dX4_isUnique_40 ?_
                refine X_iload_n dX4_isUnique_43 (i := 1) rfl rfl ?_
                refine X_iald (i := 12) hL.2.2.2.2.2.2.1 rfl rfl (by omega) (by decide) dX4_isUnique_44 ?_
                refine X_aload_n dX4_isUnique_45 (i := 0) rfl rfl ?_
                refine X_get (i := 6) hL.1 rfl (ci := 3) rfl in4 (k := 6) (by decide) fX4_30 rfl dX4_isUnique_46 ?_
                refine X_iload_n dX4_isUnique_49 (i := 1) rfl rfl ?_
                refine X_iald (i := 13) hL.2.2.2.2.2.2.2.1 rfl rfl (by omega) (by decide) dX4_isUnique_50 ?_
                refine X_callV (gc2 := 0) (gs2 := 0) (c_overlaps hL hI j (by omega) (fi L k) (la L k) (by omega) (by omega)) (i := 6) hL.1 rfl rfl kmX4_overlaps rfl lX4_59 iX4_overlaps vX4_overlaps rfl rfl (Nat.le_of_ble_eq_true rfl) (by decide) dX4_isUnique_51 (by decide) (by decide) (fun E w1 hq => nomatch hq.1) (fun v w1 hq => ?_)
                have hv := hq.1
                obtain rfl := hq.2.symm
                cases hv
                refine X_if_eq (tgt := 79) dX4_isUnique_54 (by decide) (fun h4 => ?_) (fun h4 => ?_)
                · refine X_iinc (i := 2) (v := nI (j + 1)) (lo' := [(2, _), (0, _), (1, _)]) dX4_isUnique_79 rfl (nI_inc j) (by decide) rfl ?_
                  refine X_goto (tgt := 12) dX4_isUnique_82 (by decide) ?_
                  exact XJ.lcs (lo' := [(0, .ref (w.1 6)), (1, .int (nI k)), (2, .int (nI (j + 1)))]) ⟨rfl, rfl, rfl, trivial⟩ (ih2 (j + 1) (by omega) (by omega))
                · have g2 := bI_ne h4
                  rw [Bool.and_eq_true, decide_eq_true_eq, decide_eq_true_eq] at g2
                  refine X_aload_n dX4_isUnique_57 (i := 0) rfl rfl ?_
                  refine X_iload_n dX4_isUnique_58 (i := 2) rfl rfl ?_
                  refine X_aload_n dX4_isUnique_59 (i := 0) rfl rfl ?_
                  refine X_get (i := 6) hL.1 rfl (ci := 3) rfl in4 (k := 7) (by decide) fX4_33 rfl dX4_isUnique_60 ?_
                  refine X_iload_n dX4_isUnique_63 (i := 1) rfl rfl ?_
                  refine X_iald (i := 14) hL.2.2.2.2.2.2.2.2.1 rfl rfl (by omega) (by decide) dX4_isUnique_64 ?_
                  refine X_aload_n dX4_isUnique_65 (i := 0) rfl rfl ?_
                  refine X_get (i := 6) hL.1 rfl (ci := 3) rfl in4 (k := 8) (by decide) fX4_36 rfl dX4_isUnique_66 ?_
                  refine X_iload_n dX4_isUnique_69 (i := 1) rfl rfl ?_
                  refine X_iald (i := 15) hL.2.2.2.2.2.2.2.2.2 rfl rfl (by omega) (by decide) dX4_isUnique_70 ?_
                  refine X_callV (gc2 := 0) (gs2 := 0) (c_shares hL hI j (by omega) (op L k - 1) (xcs (op L k) (cs L k)) (by omega) (by have := xcs_b hb.2.2.2.2.2.2.1 hb.2.2.2.2.2.2.2.1 hb.2.2.2.2.2.2.2.2; omega)) (i := 6) hL.1 rfl rfl kmX4_sharesConfiguration rfl lX4_62 iX4_sharesConfiguration vX4_sharesConfiguration rfl rfl (Nat.le_of_ble_eq_true rfl) (by decide) dX4_isUnique_71 (by decide) (by decide) (fun E w1 hq => nomatch hq.1) (fun v w1 hq => ?_)
                  have hv := hq.1
                  obtain rfl := hq.2.symm
                  cases hv
                  refine X_if_eq (tgt := 79) dX4_isUnique_74 (by decide) (fun h5 => ?_) (fun h5 => ?_)
                  · refine X_iinc (i := 2) (v := nI (j + 1)) (lo' := [(2, _), (0, _), (1, _)]) dX4_isUnique_79 rfl (nI_inc j) (by decide) rfl ?_
                    refine X_goto (tgt := 12) dX4_isUnique_82 (by decide) ?_
                    exact XJ.lcs (lo' := [(0, .ref (w.1 6)), (1, .int (nI k)), (2, .int (nI (j + 1)))]) ⟨rfl, rfl, rfl, trivial⟩ (ih2 (j + 1) (by omega) (by omega))
                  · have g3 := bI_ne h5
                    exact absurd ⟨⟨g2.1, g2.2⟩, (by rw [Bool.or_eq_true] at g3; rcases g3 with g3 | g3; (left; intro h; rw [decide_eq_true h] at g3; cases g3); (right; intro h; rw [decide_eq_true h] at g3; cases g3))⟩ (hW j k (by omega) h5k (by omega) g1.1 g1.2)
        exact XJ.lcs (lo' := [(0, .ref (w.1 6)), (1, .int (nI k)), (2, .int (nI 0))]) ⟨rfl, rfl, rfl, trivial⟩ (hin (k + 1) 0 (by omega) (by omega))
  refine X_iconst (v := 0) dX4_isUnique_0 (by decide) ?_
  refine X_istore_n (i := 1) (lo' := [(1, _), (0, _)]) dX4_isUnique_1 rfl (by decide) rfl ?_
  exact XJ.lcs (lo' := [(0, .ref (w.1 6)), (1, .int (nI 0))]) ⟨rfl, rfl, trivial⟩ (hloop (ln L + 1) 0 (by omega) (by omega))
end Cons3
