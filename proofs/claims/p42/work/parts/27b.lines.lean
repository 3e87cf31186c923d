/-! LINE TABLE (walks by gen/spec27.py) -/
section LineT
variable {G : Gx} {w : Wd}
set_option maxRecDepth 20000 in
theorem c_choiceIn {pr : Nat → Nat} (hpr : ∀ i, i < 4 → pr i < 4) (o : Nat) (ho : o < 4) : XC G mX10_choiceIn 0 0 0 [.int (nI (cfg pr)), .int (nI o)] w (fun r w' => r = .inl (some (.int (nI (pr o)))) ∧ w' = w) := by
  refine XC.of (lo0 := [(0, .int (nI (cfg pr))), (1, .int (nI o))]) kmX10_choiceIn (Nat.le_of_ble_eq_true rfl) rfl ?_
  refine X_iload_n dX10_choiceIn_0 (i := 0) rfl rfl ?_
  refine X_iconst (v := 2) dX10_choiceIn_1 (by decide) ?_
  refine X_iload_n dX10_choiceIn_2 (i := 1) rfl rfl ?_
  refine X_imul dX10_choiceIn_3 ?_
  refine XJ.top (v' := .int (nI (2 * o))) (by rw [← pk_mul]; rfl) ?_
  refine X_ishr dX10_choiceIn_4 ?_
  refine X_iconst (v := 3) dX10_choiceIn_5 (by decide) ?_
  refine X_iand dX10_choiceIn_6 ?_
  refine XJ.top (v' := .int (nI (pr o))) (by rw [choice_sh hpr o ho]) ?_
  refine X_ireturn dX10_choiceIn_7 rfl rfl ?_
  exact ⟨rfl, rfl⟩
set_option maxRecDepth 20000 in
theorem c_hasHeld {f : Nat → Nat} (p m : Nat) (hp : p < 16) (hB : XB w) (hM : cel w 18 (aI G.2.2.1 16 (nf f))) (hf : f p < 2 ^ 31) (hm : m < 2 ^ 31) : XC G mX0_hasHeldChildrenIn 0 0 0 [.ref (w.1 1), .int (nI p), .int (nI m)] w (fun r w' => r = .inl (some (.int (bI (subS (f p) m)))) ∧ w' = w) := by
  refine XC.of (lo0 := [(0, .ref (w.1 1)), (1, .int (nI p)), (2, .int (nI m))]) kmX0_hasHeldChildrenIn (Nat.le_of_ble_eq_true rfl) rfl ?_
  refine X_aload_n dX0_hasHeldChildrenIn_0 (i := 0) rfl rfl ?_
  refine X_get (i := 1) hB rfl (ci := 0) rfl in0 (k := 4) (by decide) fX0_32 rfl dX0_hasHeldChildrenIn_1 ?_
  refine X_iload_n dX0_hasHeldChildrenIn_4 (i := 1) rfl rfl ?_
  refine X_iald (i := 18) hM rfl rfl hp (by decide) dX0_hasHeldChildrenIn_5 ?_
  refine X_iload_n dX0_hasHeldChildrenIn_6 (i := 2) rfl rfl ?_
  refine X_iconst (v := -1) dX0_hasHeldChildrenIn_7 (by decide) ?_
  refine X_ixor dX0_hasHeldChildrenIn_8 ?_
  refine X_iand dX0_hasHeldChildrenIn_9 ?_
  refine X_if_ne (tgt := 17) dX0_hasHeldChildrenIn_10 (by decide) (fun h1 => ?_) (fun h1 => ?_)
  · refine X_iconst (v := 0) dX0_hasHeldChildrenIn_17 (by decide) ?_
    refine X_ireturn dX0_hasHeldChildrenIn_18 rfl rfl ?_
    first
      | exact ⟨rI (by rw [(nI_sub hf hm).mp h1]; rfl), rfl⟩
      | exact ⟨rI (by rw [show subS (f p) m = false from Bool.eq_false_iff.mpr (fun h => h1 ((nI_sub hf hm).mpr h))]; rfl), rfl⟩
  · refine X_iconst (v := 1) dX0_hasHeldChildrenIn_13 (by decide) ?_
    refine X_goto (tgt := 18) dX0_hasHeldChildrenIn_14 (by decide) ?_
    refine X_ireturn dX0_hasHeldChildrenIn_18 rfl rfl ?_
    first
      | exact ⟨rI (by rw [(nI_sub hf hm).mp h1]; rfl), rfl⟩
      | exact ⟨rI (by rw [show subS (f p) m = false from Bool.eq_false_iff.mpr (fun h => h1 ((nI_sub hf hm).mpr h))]; rfl), rfl⟩
set_option maxRecDepth 20000 in
theorem c_placeOf (p k : Nat) (hk : 1 ≤ k) : XC G mX0_placeOf 0 0 0 [.int (nI p), .int (nI k)] w (fun r w' => r = .inl (some (.int (nI (plc p k)))) ∧ w' = w) := by
  refine XC.of (lo0 := [(0, .int (nI p)), (1, .int (nI k))]) kmX0_placeOf (Nat.le_of_ble_eq_true rfl) rfl ?_
  refine X_iload_n dX0_placeOf_0 (i := 0) rfl rfl ?_
  refine X_bipush (v := 6) dX0_placeOf_1 (by decide) ?_
  refine X_imul dX0_placeOf_3 ?_
  refine XJ.top (v' := .int (nI (p * 6))) (by rw [← pk_mul]; rfl) ?_
  refine X_iload_n dX0_placeOf_4 (i := 1) rfl rfl ?_
  refine X_iadd dX0_placeOf_5 ?_
  refine XJ.top (v' := .int (nI (p * 6 + k))) (by rw [nI_add]) ?_
  refine X_iconst (v := 1) dX0_placeOf_6 (by decide) ?_
  refine X_isub dX0_placeOf_7 ?_
  refine XJ.top (v' := .int (nI (p * 6 + k - 1))) (by rw [show (1 : Int32) = nI 1 from rfl, pk_sub (by omega)]) ?_
  refine X_ireturn dX0_placeOf_8 rfl rfl ?_
  exact ⟨rfl, rfl⟩
set_option maxRecDepth 20000 in
theorem c_heldLine {hl : Nat → Int32} (p k : Nat) (hp : p < 16) (hk : 1 ≤ k) (hk6 : k ≤ 6) (hB : XB w) (hM : cel w 19 (aI G.2.2.1 96 hl)) : XC G mX0_heldLine 1 0 0 [.ref (w.1 1), .int (nI p), .int (nI k)] w (fun r w' => r = .inl (some (.int (hl (plc p k)))) ∧ w' = w) := by
  refine XC.of (lo0 := [(0, .ref (w.1 1)), (1, .int (nI p)), (2, .int (nI k))]) kmX0_heldLine (Nat.le_of_ble_eq_true rfl) rfl ?_
  refine X_aload_n dX0_heldLine_0 (i := 0) rfl rfl ?_
  refine X_get (i := 1) hB rfl (ci := 0) rfl in0 (k := 5) (by decide) fX0_35 rfl dX0_heldLine_1 ?_
  refine X_iload_n dX0_heldLine_4 (i := 1) rfl rfl ?_
  refine X_iload_n dX0_heldLine_5 (i := 2) rfl rfl ?_
  refine X_callS (gc2 := 0) (gs2 := 0) (c_placeOf p k hk) kmX0_placeOf rfl lX0_56 sX0_placeOf rfl rfl (Nat.le_of_ble_eq_true rfl) (by decide) dX0_heldLine_6 (by decide) (by decide) (fun E w1 hq => nomatch hq.1) (fun v w1 hq => ?_)
  have hv := hq.1
  obtain rfl := hq.2.symm
  cases hv
  refine X_iald (i := 19) hM rfl rfl (by unfold plc; omega) (by decide) dX0_heldLine_9 ?_
  refine X_ireturn dX0_heldLine_10 rfl rfl ?_
  exact ⟨rfl, rfl⟩
set_option maxRecDepth 20000 in
theorem c_isHolding {np : Nat} {L : LSt} (hL : XL G.2.2.1 w L) (hI : LI np L) (j : Nat) (hj : j < ln L) {pr : Nat → Nat} (hpr : ∀ i, i < 4 → pr i < 4) (s : Nat) (hs : s < 2 ^ 31) : XC G mX4_isHolding 1 0 0 [.ref (w.1 6), .int (nI j), .int (nI s), .int (nI (cfg pr))] w (fun r w' => r = .inl (some (.int (bI (hld L pr s j)))) ∧ w' = w) := by
  have hb := hI.2.2 j hj
  have h16 := hI.1
  have h40 : j < 40 := by have := hI.2.1; omega
  refine XC.of (lo0 := [(0, .ref (w.1 6)), (1, .int (nI j)), (2, .int (nI s)), (3, .int (nI (cfg pr)))]) kmX4_isHolding (Nat.le_of_ble_eq_true rfl) rfl ?_
  refine X_iconst (v := 1) dX4_isHolding_0 (by decide) ?_
  refine X_iload_n dX4_isHolding_1 (i := 3) rfl rfl ?_
  refine X_aload_n dX4_isHolding_2 (i := 0) rfl rfl ?_
  refine X_get (i := 6) hL.1 rfl (ci := 3) rfl in4 (k := 7) (by decide) fX4_33 rfl dX4_isHolding_3 ?_
  refine X_iload_n dX4_isHolding_6 (i := 1) rfl rfl ?_
  refine X_iald (i := 14) hL.2.2.2.2.2.2.2.2.1 rfl rfl h40 (by decide) dX4_isHolding_7 ?_
  refine X_callSN (gc2 := 0) (gs2 := 0) (c_choiceIn hpr (op L j - 1) (by omega)) kmX10_choiceIn rfl nX4_43 sX10_choiceIn rfl rfl (Nat.le_of_ble_eq_true rfl) (by decide) dX4_isHolding_8 (by decide) (by decide) (fun E w1 hq => nomatch hq.1) (fun v w1 hq => ?_)
  have hv := hq.1
  obtain rfl := hq.2.symm
  cases hv
  refine X_ishl dX4_isHolding_11 ?_
  refine XJ.top (v' := .int (nI (2 ^ pr (op L j - 1)))) (by rw [shl1 _ (by have := hpr (op L j - 1) (by omega); omega)]) ?_
  refine X_istore (i := 4) (lo' := [(4, _), (0, _), (1, _), (2, _), (3, _)]) dX4_isHolding_12 (by decide) rfl ?_
  refine X_iload_n dX4_isHolding_14 (i := 2) rfl rfl ?_
  refine X_aload_n dX4_isHolding_15 (i := 0) rfl rfl ?_
  refine X_get (i := 6) hL.1 rfl (ci := 3) rfl in4 (k := 5) (by decide) fX4_27 rfl dX4_isHolding_16 ?_
  refine X_iload_n dX4_isHolding_19 (i := 1) rfl rfl ?_
  refine X_iald (i := 12) hL.2.2.2.2.2.2.1 rfl rfl h40 (by decide) dX4_isHolding_20 ?_
  refine X_aload_n dX4_isHolding_21 (i := 0) rfl rfl ?_
  refine X_get (i := 6) hL.1 rfl (ci := 3) rfl in4 (k := 6) (by decide) fX4_30 rfl dX4_isHolding_22 ?_
  refine X_iload_n dX4_isHolding_25 (i := 1) rfl rfl ?_
  refine X_iald (i := 13) hL.2.2.2.2.2.2.2.1 rfl rfl h40 (by decide) dX4_isHolding_26 ?_
  refine X_callSN (gc2 := 0) (gs2 := 0) (c_isBetween (nI s) (nI (fi L j)) (nI (la L j))) kmX10_isBetween rfl nX4_47 sX10_isBetween rfl rfl (Nat.le_of_ble_eq_true rfl) (by decide) dX4_isHolding_27 (by decide) (by decide) (fun E w1 hq => nomatch hq.1) (fun v w1 hq => ?_)
  have hv := hq.1
  obtain rfl := hq.2.symm
  cases hv
  refine X_if_eq (tgt := 49) dX4_isHolding_30 (by decide) (fun h1 => ?_) (fun h1 => ?_)
  · first
      | have h3 := bI_eq h1
        rw [btw_of hs (by omega) (by omega)] at h3
      | skip
    refine X_iconst (v := 0) dX4_isHolding_49 (by decide) ?_
    refine X_ireturn dX4_isHolding_50 rfl rfl ?_
    first
      | exact ⟨rI (by rw [hld, h3, h4]; rfl), rfl⟩
      | exact ⟨rI (by rw [hld, h3]; rfl), rfl⟩
  · have h3 := bI_ne h1
    rw [btw_of hs (by omega) (by omega)] at h3
    refine X_aload_n dX4_isHolding_33 (i := 0) rfl rfl ?_
    refine X_get (i := 6) hL.1 rfl (ci := 3) rfl in4 (k := 8) (by decide) fX4_36 rfl dX4_isHolding_34 ?_
    refine X_iload_n dX4_isHolding_37 (i := 1) rfl rfl ?_
    refine X_iald (i := 15) hL.2.2.2.2.2.2.2.2.2 rfl rfl h40 (by decide) dX4_isHolding_38 ?_
    refine X_iload dX4_isHolding_39 (i := 4) rfl ?_
    refine X_iand dX4_isHolding_41 ?_
    refine X_if_eq (tgt := 49) dX4_isHolding_42 (by decide) (fun h2 => ?_) (fun h2 => ?_)
    · have h4 := tb_f (by have := hpr (op L j - 1) (by omega); omega) h2
      first
        | have h3 := bI_eq h1
          rw [btw_of hs (by omega) (by omega)] at h3
        | skip
      refine X_iconst (v := 0) dX4_isHolding_49 (by decide) ?_
      refine X_ireturn dX4_isHolding_50 rfl rfl ?_
      first
        | exact ⟨rI (by rw [hld, h3, h4]; rfl), rfl⟩
        | exact ⟨rI (by rw [hld, h3]; rfl), rfl⟩
    · have h4 := tb_t (by have := hpr (op L j - 1) (by omega); omega) h2
      refine X_iconst (v := 1) dX4_isHolding_45 (by decide) ?_
      refine X_goto (tgt := 50) dX4_isHolding_46 (by decide) ?_
      refine X_ireturn dX4_isHolding_50 rfl rfl ?_
      first
        | exact ⟨rI (by rw [hld, h3, h4]; rfl), rfl⟩
        | exact ⟨rI (by rw [hld, h3]; rfl), rfl⟩
set_option maxRecDepth 20000 in
theorem c_isAt {np : Nat} {L : LSt} (hL : XL G.2.2.1 w L) (hI : LI np L) (j : Nat) (hj : j < ln L) (p k : Nat) (hp : p < 2 ^ 31) (hk : k < 2 ^ 31) : XC G mX4_isAt 0 0 0 [.ref (w.1 6), .int (nI j), .int (nI p), .int (nI k)] w (fun r w' => r = .inl (some (.int (bI (decide (pa L j = p) && decide (po L j = k))))) ∧ w' = w) := by
  have hb := hI.2.2 j hj
  have h16 := hI.1
  have h40 : j < 40 := by have := hI.2.1; omega
  refine XC.of (lo0 := [(0, .ref (w.1 6)), (1, .int (nI j)), (2, .int (nI p)), (3, .int (nI k))]) kmX4_isAt (Nat.le_of_ble_eq_true rfl) rfl ?_
  refine X_aload_n dX4_isAt_0 (i := 0) rfl rfl ?_
  refine X_get (i := 6) hL.1 rfl (ci := 3) rfl in4 (k := 0) (by decide) fX4_9 rfl dX4_isAt_1 ?_
  refine X_iload_n dX4_isAt_4 (i := 1) rfl rfl ?_
  refine X_iald (i := 7) hL.2.1 rfl rfl h40 (by decide) dX4_isAt_5 ?_
  refine X_iload_n dX4_isAt_6 (i := 2) rfl rfl ?_
  refine X_icmp_ne (tgt := 24) dX4_isAt_7 (by decide) (fun h1 => ?_) (fun h1 => ?_)
  · have h3 : ¬ pa L j = p := fun h => h1 (by show nI (pa L j) = nI p; rw [h])
    refine X_iconst (v := 0) dX4_isAt_24 (by decide) ?_
    refine X_ireturn dX4_isAt_25 rfl rfl ?_
    first
      | exact ⟨rI (by rw [decide_eq_true h3, decide_eq_true h4]; rfl), rfl⟩
      | exact ⟨rI (by rw [decide_eq_true h3, decide_eq_false h4]; rfl), rfl⟩
      | exact ⟨rI (by rw [decide_eq_false h3]; rfl), rfl⟩
  · have h3 : pa L j = p := (nI_eq (by omega) hp).mp h1
    refine X_aload_n dX4_isAt_10 (i := 0) rfl rfl ?_
    refine X_get (i := 6) hL.1 rfl (ci := 3) rfl in4 (k := 1) (by decide) fX4_15 rfl dX4_isAt_11 ?_
    refine X_iload_n dX4_isAt_14 (i := 1) rfl rfl ?_
    refine X_iald (i := 8) hL.2.2.1 rfl rfl h40 (by decide) dX4_isAt_15 ?_
    refine X_iload_n dX4_isAt_16 (i := 3) rfl rfl ?_
    refine X_icmp_ne (tgt := 24) dX4_isAt_17 (by decide) (fun h2 => ?_) (fun h2 => ?_)
    · have h4 : ¬ po L j = k := fun h => h2 (by show nI (po L j) = nI k; rw [h])
      refine X_iconst (v := 0) dX4_isAt_24 (by decide) ?_
      refine X_ireturn dX4_isAt_25 rfl rfl ?_
      first
        | exact ⟨rI (by rw [decide_eq_true h3, decide_eq_true h4]; rfl), rfl⟩
        | exact ⟨rI (by rw [decide_eq_true h3, decide_eq_false h4]; rfl), rfl⟩
        | exact ⟨rI (by rw [decide_eq_false h3]; rfl), rfl⟩
    · have h4 : po L j = k := (nI_eq (by omega) hk).mp h2
      refine X_iconst (v := 1) dX4_isAt_20 (by decide) ?_
      refine X_goto (tgt := 25) dX4_isAt_21 (by decide) ?_
      refine X_ireturn dX4_isAt_25 rfl rfl ?_
      first
        | exact ⟨rI (by rw [decide_eq_true h3, decide_eq_true h4]; rfl), rfl⟩
        | exact ⟨rI (by rw [decide_eq_true h3, decide_eq_false h4]; rfl), rfl⟩
        | exact ⟨rI (by rw [decide_eq_false h3]; rfl), rfl⟩
set_option maxRecDepth 20000 in
theorem c_overlaps {np : Nat} {L : LSt} (hL : XL G.2.2.1 w L) (hI : LI np L) (j : Nat) (hj : j < ln L) (a b : Nat) (ha : a < 2 ^ 31) (hb2 : b < 2 ^ 31) : XC G mX4_overlaps 0 0 0 [.ref (w.1 6), .int (nI j), .int (nI a), .int (nI b)] w (fun r w' => r = .inl (some (.int (bI (decide (fi L j ≤ b) && decide (a ≤ la L j))))) ∧ w' = w) := by
  have hb := hI.2.2 j hj
  have h16 := hI.1
  have h40 : j < 40 := by have := hI.2.1; omega
  refine XC.of (lo0 := [(0, .ref (w.1 6)), (1, .int (nI j)), (2, .int (nI a)), (3, .int (nI b))]) kmX4_overlaps (Nat.le_of_ble_eq_true rfl) rfl ?_
  refine X_aload_n dX4_overlaps_0 (i := 0) rfl rfl ?_
  refine X_get (i := 6) hL.1 rfl (ci := 3) rfl in4 (k := 5) (by decide) fX4_27 rfl dX4_overlaps_1 ?_
  refine X_iload_n dX4_overlaps_4 (i := 1) rfl rfl ?_
  refine X_iald (i := 12) hL.2.2.2.2.2.2.1 rfl rfl h40 (by decide) dX4_overlaps_5 ?_
  refine X_iload_n dX4_overlaps_6 (i := 3) rfl rfl ?_
  refine X_icmp_gt (tgt := 24) dX4_overlaps_7 (by decide) (fun h1 => ?_) (fun h1 => ?_)
  · have h3 : ¬ fi L j ≤ b := by have := lt_nI (by omega) (by omega) h1; omega
    refine X_iconst (v := 0) dX4_overlaps_24 (by decide) ?_
    refine X_ireturn dX4_overlaps_25 rfl rfl ?_
    first
      | exact ⟨rI (by rw [decide_eq_true h3, decide_eq_true h4]; rfl), rfl⟩
      | exact ⟨rI (by rw [decide_eq_true h3, decide_eq_false h4]; rfl), rfl⟩
      | exact ⟨rI (by rw [decide_eq_false h3]; rfl), rfl⟩
  · have h3 : fi L j ≤ b := nlt_nI (by omega) (by omega) h1
    refine X_iload_n dX4_overlaps_10 (i := 2) rfl rfl ?_
    refine X_aload_n dX4_overlaps_11 (i := 0) rfl rfl ?_
    refine X_get (i := 6) hL.1 rfl (ci := 3) rfl in4 (k := 6) (by decide) fX4_30 rfl dX4_overlaps_12 ?_
    refine X_iload_n dX4_overlaps_15 (i := 1) rfl rfl ?_
    refine X_iald (i := 13) hL.2.2.2.2.2.2.2.1 rfl rfl h40 (by decide) dX4_overlaps_16 ?_
    refine X_icmp_gt (tgt := 24) dX4_overlaps_17 (by decide) (fun h2 => ?_) (fun h2 => ?_)
    · have h4 : ¬ a ≤ la L j := by have := lt_nI (by omega) (by omega) h2; omega
      refine X_iconst (v := 0) dX4_overlaps_24 (by decide) ?_
      refine X_ireturn dX4_overlaps_25 rfl rfl ?_
      first
        | exact ⟨rI (by rw [decide_eq_true h3, decide_eq_true h4]; rfl), rfl⟩
        | exact ⟨rI (by rw [decide_eq_true h3, decide_eq_false h4]; rfl), rfl⟩
        | exact ⟨rI (by rw [decide_eq_false h3]; rfl), rfl⟩
    · have h4 : a ≤ la L j := nlt_nI (by omega) (by omega) h2
      refine X_iconst (v := 1) dX4_overlaps_20 (by decide) ?_
      refine X_goto (tgt := 25) dX4_overlaps_21 (by decide) ?_
      refine X_ireturn dX4_overlaps_25 rfl rfl ?_
      first
        | exact ⟨rI (by rw [decide_eq_true h3, decide_eq_true h4]; rfl), rfl⟩
        | exact ⟨rI (by rw [decide_eq_true h3, decide_eq_false h4]; rfl), rfl⟩
        | exact ⟨rI (by rw [decide_eq_false h3]; rfl), rfl⟩
set_option maxRecDepth 20000 in
theorem c_shares {np : Nat} {L : LSt} (hL : XL G.2.2.1 w L) (hI : LI np L) (j : Nat) (hj : j < ln L) (o c : Nat) (ho : o < 2 ^ 31) (hc : c < 16) : XC G mX4_sharesConfiguration 0 0 0 [.ref (w.1 6), .int (nI j), .int (nI o), .int (nI c)] w (fun r w' => r = .inl (some (.int (bI (!decide (op L j - 1 = o) || !decide (xcs (op L j) (cs L j) &&& c = 0))))) ∧ w' = w) := by
  have hb := hI.2.2 j hj
  have h16 := hI.1
  have h40 : j < 40 := by have := hI.2.1; omega
  refine XC.of (lo0 := [(0, .ref (w.1 6)), (1, .int (nI j)), (2, .int (nI o)), (3, .int (nI c))]) kmX4_sharesConfiguration (Nat.le_of_ble_eq_true rfl) rfl ?_
  refine X_aload_n dX4_sharesConfiguration_0 (i := 0) rfl rfl ?_
  refine X_get (i := 6) hL.1 rfl (ci := 3) rfl in4 (k := 7) (by decide) fX4_33 rfl dX4_sharesConfiguration_1 ?_
  refine X_iload_n dX4_sharesConfiguration_4 (i := 1) rfl rfl ?_
  refine X_iald (i := 14) hL.2.2.2.2.2.2.2.2.1 rfl rfl h40 (by decide) dX4_sharesConfiguration_5 ?_
  refine X_iload_n dX4_sharesConfiguration_6 (i := 2) rfl rfl ?_
  refine X_icmp_ne (tgt := 21) dX4_sharesConfiguration_7 (by decide) (fun h1 => ?_) (fun h1 => ?_)
  · have h3 : ¬ op L j - 1 = o := fun h => h1 (by show nI (op L j - 1) = nI o; rw [h])
    refine X_iconst (v := 1) dX4_sharesConfiguration_21 (by decide) ?_
    refine X_goto (tgt := 26) dX4_sharesConfiguration_22 (by decide) ?_
    refine X_ireturn dX4_sharesConfiguration_26 rfl rfl ?_
    first
      | exact ⟨rI (by rw [decide_eq_true h3, decide_eq_true h4]; rfl), rfl⟩
      | exact ⟨rI (by rw [decide_eq_true h3, decide_eq_false h4]; rfl), rfl⟩
      | exact ⟨rI (by rw [decide_eq_false h3]; rfl), rfl⟩
  · have h3 : op L j - 1 = o := (nI_eq (by omega) ho).mp h1
    refine X_aload_n dX4_sharesConfiguration_10 (i := 0) rfl rfl ?_
    refine X_get (i := 6) hL.1 rfl (ci := 3) rfl in4 (k := 8) (by decide) fX4_36 rfl dX4_sharesConfiguration_11 ?_
    refine X_iload_n dX4_sharesConfiguration_14 (i := 1) rfl rfl ?_
    refine X_iald (i := 15) hL.2.2.2.2.2.2.2.2.2 rfl rfl h40 (by decide) dX4_sharesConfiguration_15 ?_
    refine X_iload_n dX4_sharesConfiguration_16 (i := 3) rfl rfl ?_
    refine X_iand dX4_sharesConfiguration_17 ?_
    refine XJ.top (v' := .int (nI (xcs (op L j) (cs L j) &&& c))) (by rw [← nI_and]) ?_
    refine X_if_eq (tgt := 25) dX4_sharesConfiguration_18 (by decide) (fun h2 => ?_) (fun h2 => ?_)
    · have h4 : xcs (op L j) (cs L j) &&& c = 0 := (nI_eq (by have := @Nat.and_le_right (xcs (op L j) (cs L j)) c; omega) (by decide)).mp h2
      refine X_iconst (v := 0) dX4_sharesConfiguration_25 (by decide) ?_
      refine X_ireturn dX4_sharesConfiguration_26 rfl rfl ?_
      first
        | exact ⟨rI (by rw [decide_eq_true h3, decide_eq_true h4]; rfl), rfl⟩
        | exact ⟨rI (by rw [decide_eq_true h3, decide_eq_false h4]; rfl), rfl⟩
        | exact ⟨rI (by rw [decide_eq_false h3]; rfl), rfl⟩
    · have h4 : ¬ xcs (op L j) (cs L j) &&& c = 0 := fun h => h2 (by rw [h]; rfl)
      refine X_iconst (v := 1) dX4_sharesConfiguration_21 (by decide) ?_
      refine X_goto (tgt := 26) dX4_sharesConfiguration_22 (by decide) ?_
      refine X_ireturn dX4_sharesConfiguration_26 rfl rfl ?_
      first
        | exact ⟨rI (by rw [decide_eq_true h3, decide_eq_true h4]; rfl), rfl⟩
        | exact ⟨rI (by rw [decide_eq_true h3, decide_eq_false h4]; rfl), rfl⟩
        | exact ⟨rI (by rw [decide_eq_false h3]; rfl), rfl⟩
end LineT
