/-! PARTS of the reference (walks by gen/spec24.py) -/
section PartsM
variable {G : Gx} {w : Wd} {t np nl no nm nw en : Nat}
set_option maxRecDepth 20000 in
theorem m_fails (h9 : M0 w t np nl no nm nw en) (c : Nat) : XC G mX11_fails 0 0 0 [.ref (w.1 39), .int (nI c)] w (fun r w' => r = .inl (some (.int 0)) ∧ w' = setM w 39 (m39 w c np nl no nm nw en)) := by
  refine XC.of (lo0 := [(0, .ref (w.1 39)), (1, .int (nI c))]) kmX11_fails (Nat.le_of_ble_eq_true rfl) rfl ?_
  refine X_aload_n dX11_fails_0 (i := 0) rfl rfl ?_
  refine X_iload_n dX11_fails_1 (i := 1) rfl rfl ?_
  refine X_put tyX11 tyX11_ok nmX11 (i := 39) h9 rfl (ci := 10) rfl in11 (k := 0) (by decide) fX11_82 rfl rfl rfl (Nat.le_of_ble_eq_true rfl) dX11_fails_2 (fun hc_2 => ?_)
  refine X_iconst (v := 0) dX11_fails_5 (by decide) ?_
  refine X_ireturn dX11_fails_6 rfl rfl ?_
  exact ⟨rfl, rfl⟩
set_option maxRecDepth 20000 in
theorem m_isPart (h9 : M0 w t np nl no nm nw en) (hn : np ≤ 16) (p : Int32) : XC G mX11_isPart 1 0 0 [.ref (w.1 39), .int p] w (fun r w' => r = .inl (some (.int (bI (inP p np)))) ∧ w' = w) := by
  refine XC.of (lo0 := [(0, .ref (w.1 39)), (1, .int p)]) kmX11_isPart (Nat.le_of_ble_eq_true rfl) rfl ?_
  refine X_iload_n dX11_isPart_0 (i := 1) rfl rfl ?_
  refine X_iconst (v := 0) dX11_isPart_1 (by decide) ?_
  refine X_aload_n dX11_isPart_2 (i := 0) rfl rfl ?_
  refine X_get (i := 39) h9 rfl (ci := 10) rfl in11 (k := 1) (by decide) fX11_86 rfl dX11_isPart_3 ?_
  refine X_iconst (v := 1) dX11_isPart_6 (by decide) ?_
  refine X_isub dX11_isPart_7 ?_
  refine X_callS (gc2 := 0) (gs2 := 0) (m_in p 0 (nI np - 1)) kmX11_in rfl lX11_89 sX11_in rfl rfl (Nat.le_of_ble_eq_true rfl) (by decide) dX11_isPart_8 (by decide) (by decide) (fun E w1 hq => nomatch hq.1) (fun v w1 hq => ?_)
  have hv := hq.1
  obtain rfl := hq.2.symm
  cases hv
  refine X_ireturn dX11_isPart_11 rfl (narrow_b _) ?_
  exact ⟨rI (by rw [btw_inP (by omega)]), rfl⟩
set_option maxRecDepth 20000 in
theorem m_isLine (h9 : M0 w t np nl no nm nw en) (hn : nl ≤ 40) (p : Int32) : XC G mX11_isLine 1 0 0 [.ref (w.1 39), .int p] w (fun r w' => r = .inl (some (.int (bI (inP p nl)))) ∧ w' = w) := by
  refine XC.of (lo0 := [(0, .ref (w.1 39)), (1, .int p)]) kmX11_isLine (Nat.le_of_ble_eq_true rfl) rfl ?_
  refine X_iload_n dX11_isLine_0 (i := 1) rfl rfl ?_
  refine X_iconst (v := 0) dX11_isLine_1 (by decide) ?_
  refine X_aload_n dX11_isLine_2 (i := 0) rfl rfl ?_
  refine X_get (i := 39) h9 rfl (ci := 10) rfl in11 (k := 2) (by decide) fX11_93 rfl dX11_isLine_3 ?_
  refine X_iconst (v := 1) dX11_isLine_6 (by decide) ?_
  refine X_isub dX11_isLine_7 ?_
  refine X_callS (gc2 := 0) (gs2 := 0) (m_in p 0 (nI nl - 1)) kmX11_in rfl lX11_89 sX11_in rfl rfl (Nat.le_of_ble_eq_true rfl) (by decide) dX11_isLine_8 (by decide) (by decide) (fun E w1 hq => nomatch hq.1) (fun v w1 hq => ?_)
  have hv := hq.1
  obtain rfl := hq.2.symm
  cases hv
  refine X_ireturn dX11_isLine_11 rfl (narrow_b _) ?_
  exact ⟨rI (by rw [btw_inP (by omega)]), rfl⟩
def cdA (p s : Int32) (n : Nat) : Nat := bif inP p n then (bif btw s 1 999 then 0 else 2) else 1
theorem cdA_1 {p s : Int32} {n : Nat} (h : inP p n = false) : cdA p s n = 1 := by simp [cdA, h]
theorem cdA_2 {p s : Int32} {n : Nat} (h : inP p n = true) (h2 : btw s 1 999 = false) : cdA p s n = 2 := by simp [cdA, h, h2]
theorem cdA_0 {p s : Int32} {n : Nat} (h : inP p n = true) (h2 : btw s 1 999 = true) : cdA p s n = 0 := by simp [cdA, h, h2]
theorem cdA_inv {p s : Int32} {n : Nat} (h : cdA p s n = 0) : inP p n = true ∧ btw s 1 999 = true := by
  cases h1 : inP p n <;> cases h2 : btw s 1 999 <;> simp_all [cdA]
set_option maxRecDepth 20000 in
theorem m_isAsked (h9 : M0 w t np nl no nm nw en) (hn : np ≤ 16) (p s : Int32) : XC G mX11_isAsked 2 0 0 [.ref (w.1 39), .int p, .int s] w (fun r w' => r = .inl (some (.int (bI (decide (cdA p s np = 0))))) ∧ w' = setM w 39 (m39 w (cdA p s np) np nl no nm nw en)) := by
  refine XC.of (lo0 := [(0, .ref (w.1 39)), (1, .int p), (2, .int s)]) kmX11_isAsked (Nat.le_of_ble_eq_true rfl) rfl ?_
  refine X_aload_n dX11_isAsked_0 (i := 0) rfl rfl ?_
  refine X_aload_n dX11_isAsked_1 (i := 0) rfl rfl ?_
  refine X_iload_n dX11_isAsked_2 (i := 1) rfl rfl ?_
  refine X_callV (gc2 := 0) (gs2 := 0) (m_isPart h9 hn p) (i := 39) h9 rfl rfl kmX11_isPart rfl lX11_96 iX11_isPart vX11_isPart rfl rfl (Nat.le_of_ble_eq_true rfl) (by decide) dX11_isAsked_3 (by decide) (by decide) (fun E w1 hq => nomatch hq.1) (fun v w1 hq => ?_)
  have hv := hq.1
  obtain rfl := hq.2.symm
  cases hv
  refine X_if_ne (tgt := 13) dX11_isAsked_6 (by decide) (fun h1 => ?_) (fun h1 => ?_)
  · refine X_iload_n dX11_isAsked_13 (i := 2) rfl rfl ?_
    refine X_iconst (v := 1) dX11_isAsked_14 (by decide) ?_
    refine X_sipush (v := 999) dX11_isAsked_15 (by decide) ?_
    refine X_callS (gc2 := 0) (gs2 := 0) (m_in s 1 999) kmX11_in rfl lX11_89 sX11_in rfl rfl (Nat.le_of_ble_eq_true rfl) (by decide) dX11_isAsked_18 (by decide) (by decide) (fun E w1 hq => nomatch hq.1) (fun v w1 hq => ?_)
    have hv := hq.1
    obtain rfl := hq.2.symm
    cases hv
    refine X_if_eq (tgt := 28) dX11_isAsked_21 (by decide) (fun h2 => ?_) (fun h2 => ?_)
    · have hcd := cdA_2 (bI_ne h1) (bI_eq h2)
      refine X_iconst (v := 2) dX11_isAsked_28 (by decide) ?_
      refine X_put tyX11 tyX11_ok nmX11 (i := 39) h9 rfl (ci := 10) rfl in11 (k := 0) (by decide) fX11_82 rfl rfl rfl (Nat.le_of_ble_eq_true rfl) dX11_isAsked_29 (fun hc_29 => ?_)
      refine X_aload_n dX11_isAsked_32 (i := 0) rfl rfl ?_
      refine X_get (i := 39) hc_29 rfl (ci := 10) rfl in11 (k := 0) (by decide) fX11_82 rfl dX11_isAsked_33 ?_
      refine X_if_ne (tgt := 43) dX11_isAsked_36 (by decide) (fun _ => ?_) (fun h => absurd h (by decide))
      refine X_iconst (v := 0) dX11_isAsked_43 (by decide) ?_
      refine X_ireturn dX11_isAsked_44 rfl rfl ?_
      exact ⟨by rw [hcd]; rfl, by rw [hcd]; rfl⟩
    · have hcd := cdA_0 (bI_ne h1) (bI_ne h2)
      refine X_iconst (v := 0) dX11_isAsked_24 (by decide) ?_
      refine X_goto (tgt := 29) dX11_isAsked_25 (by decide) ?_
      refine X_put tyX11 tyX11_ok nmX11 (i := 39) h9 rfl (ci := 10) rfl in11 (k := 0) (by decide) fX11_82 rfl rfl rfl (Nat.le_of_ble_eq_true rfl) dX11_isAsked_29 (fun hc_29 => ?_)
      refine X_aload_n dX11_isAsked_32 (i := 0) rfl rfl ?_
      refine X_get (i := 39) hc_29 rfl (ci := 10) rfl in11 (k := 0) (by decide) fX11_82 rfl dX11_isAsked_33 ?_
      refine X_if_ne (tgt := 43) dX11_isAsked_36 (by decide) (fun h => absurd h (by decide)) (fun _ => ?_)
      refine X_iconst (v := 1) dX11_isAsked_39 (by decide) ?_
      refine X_goto (tgt := 44) dX11_isAsked_40 (by decide) ?_
      refine X_ireturn dX11_isAsked_44 rfl rfl ?_
      exact ⟨by rw [hcd]; rfl, by rw [hcd]; rfl⟩
  · have hcd := cdA_1 (s := s) (bI_eq h1)
    refine X_iconst (v := 1) dX11_isAsked_9 (by decide) ?_
    refine X_goto (tgt := 29) dX11_isAsked_10 (by decide) ?_
    refine X_put tyX11 tyX11_ok nmX11 (i := 39) h9 rfl (ci := 10) rfl in11 (k := 0) (by decide) fX11_82 rfl rfl rfl (Nat.le_of_ble_eq_true rfl) dX11_isAsked_29 (fun hc_29 => ?_)
    refine X_aload_n dX11_isAsked_32 (i := 0) rfl rfl ?_
    refine X_get (i := 39) hc_29 rfl (ci := 10) rfl in11 (k := 0) (by decide) fX11_82 rfl dX11_isAsked_33 ?_
    refine X_if_ne (tgt := 43) dX11_isAsked_36 (by decide) (fun _ => ?_) (fun h => absurd h (by decide))
    refine X_iconst (v := 0) dX11_isAsked_43 (by decide) ?_
    refine X_ireturn dX11_isAsked_44 rfl rfl ?_
    exact ⟨by rw [hcd]; rfl, by rw [hcd]; rfl⟩
set_option maxRecDepth 20000 in
theorem m_setPrice {P : PSt} (h9 : M0 w t np nl no nm nw en) (hP : MP G.2.2.1 w P) (hn : np ≤ 16) (p c : Int32) : XC G mX11_setPrice 2 0 0 [.ref (w.1 39), .int p, .int c] w (fun r w' => ∃ v : Int32, r = .inl (some (.int v)) ∧ (cdPC p c np = 0 → v = nI (P.2.2.1 (idx p))) ∧ w' = setM (setM w 39 (m39 w (cdPC p c np) np nl no nm nw en)) 41 (aI G.2.2.1 16 (nf (upIf (cdPC p c np) (P.2.2.1) (idx p) (idx c))))) := by
  refine XC.of (lo0 := [(0, .ref (w.1 39)), (1, .int p), (2, .int c)]) kmX11_setPrice (Nat.le_of_ble_eq_true rfl) rfl ?_
  refine X_aload_n dX11_setPrice_0 (i := 0) rfl rfl ?_
  refine X_iload_n dX11_setPrice_1 (i := 1) rfl rfl ?_
  refine X_callV (gc2 := 0) (gs2 := 0) (m_isPart h9 hn p) (i := 39) h9 rfl rfl kmX11_isPart rfl lX11_96 iX11_isPart vX11_isPart rfl rfl (Nat.le_of_ble_eq_true rfl) (by decide) dX11_setPrice_2 (by decide) (by decide) (fun E w1 hq => nomatch hq.1) (fun v w1 hq => ?_)
  have hv := hq.1
  obtain rfl := hq.2.symm
  cases hv
  refine X_if_ne (tgt := 14) dX11_setPrice_5 (by decide) (fun h1 => ?_) (fun h1 => ?_)
  · refine X_iload_n dX11_setPrice_14 (i := 2) rfl rfl ?_
    refine X_iconst (v := 0) dX11_setPrice_15 (by decide) ?_
    refine X_ldc dX11_setPrice_16 kX11_104 ?_
    refine X_callS (gc2 := 0) (gs2 := 0) (m_in c 0 99999) kmX11_in rfl lX11_89 sX11_in rfl rfl (Nat.le_of_ble_eq_true rfl) (by decide) dX11_setPrice_18 (by decide) (by decide) (fun E w1 hq => nomatch hq.1) (fun v w1 hq => ?_)
    have hv := hq.1
    obtain rfl := hq.2.symm
    cases hv
    refine X_if_ne (tgt := 30) dX11_setPrice_21 (by decide) (fun h2 => ?_) (fun h2 => ?_)
    · have hcd := cdPC_0 (bI_ne h1) (bI_ne h2)
      obtain ⟨j, hj, rfl⟩ := inP_of (by omega) (bI_ne h1)
      obtain ⟨cN, hcN, rfl⟩ := btw_price (bI_ne h2)
      refine X_aload_n dX11_setPrice_30 (i := 0) rfl rfl ?_
      refine X_iconst (v := 0) dX11_setPrice_31 (by decide) ?_
      refine X_put tyX11 tyX11_ok nmX11 (i := 39) h9 rfl (ci := 10) rfl in11 (k := 0) (by decide) fX11_82 rfl rfl rfl (Nat.le_of_ble_eq_true rfl) dX11_setPrice_32 (fun hc_32 => ?_)
      refine X_aload_n dX11_setPrice_35 (i := 0) rfl rfl ?_
      refine X_get (i := 39) hc_32 rfl (ci := 10) rfl in11 (k := 8) (by decide) fX11_13 rfl dX11_setPrice_36 ?_
      refine X_iload_n dX11_setPrice_39 (i := 1) rfl rfl ?_
      refine X_iald (i := 41) hP.2.1 rfl rfl (by omega) (by decide) dX11_setPrice_40 ?_
      refine X_istore_n (i := 3) (lo' := [(3, _), (0, _), (1, _), (2, _)]) dX11_setPrice_41 rfl (by decide) rfl ?_
      refine X_aload_n dX11_setPrice_42 (i := 0) rfl rfl ?_
      refine X_get (i := 39) hc_32 rfl (ci := 10) rfl in11 (k := 8) (by decide) fX11_13 rfl dX11_setPrice_43 ?_
      refine X_iload_n dX11_setPrice_46 (i := 1) rfl rfl ?_
      refine X_iload_n dX11_setPrice_47 (i := 2) rfl rfl ?_
      refine X_iast (i := 41) hP.2.1 rfl rfl (by omega) (by decide) dX11_setPrice_48 (fun hc_48 => ?_)
      refine X_iload_n dX11_setPrice_49 (i := 3) rfl rfl ?_
      refine X_ireturn dX11_setPrice_50 rfl rfl ?_
      exact ⟨_, rfl, fun _ => by rw [idx_nI (by omega)]; rfl, by rw [hcd, upIf_0 rfl, idx_nI (by omega), idx_nI (by omega), ← nf_up]; rfl⟩
    · have hcd := cdPC_2 (bI_ne h1) (bI_eq h2)
      refine X_aload_n dX11_setPrice_24 (i := 0) rfl rfl ?_
      refine X_iconst (v := 2) dX11_setPrice_25 (by decide) ?_
      refine X_callV (gc2 := 0) (gs2 := 0) (m_fails h9 2) (i := 39) h9 rfl rfl kmX11_fails rfl lX11_105 iX11_fails vX11_fails rfl rfl (Nat.le_of_ble_eq_true rfl) (by decide) dX11_setPrice_26 (by decide) (by decide) (fun E w1 hq => nomatch hq.1) (fun v w1 hq => ?_)
      have hv := hq.1
      obtain rfl := hq.2.symm
      cases hv
      refine X_ireturn dX11_setPrice_29 rfl rfl ?_
      exact ⟨0, rfl, fun h => absurd h (by rw [hcd]; decide), by rw [hcd, upIf_n (by decide)]; exact (celId (w := setM w 39 _) hP.2.1).symm⟩
  · have hcd := cdPC_1 (c := c) (bI_eq h1)
    refine X_aload_n dX11_setPrice_8 (i := 0) rfl rfl ?_
    refine X_iconst (v := 1) dX11_setPrice_9 (by decide) ?_
    refine X_callV (gc2 := 0) (gs2 := 0) (m_fails h9 1) (i := 39) h9 rfl rfl kmX11_fails rfl lX11_105 iX11_fails vX11_fails rfl rfl (Nat.le_of_ble_eq_true rfl) (by decide) dX11_setPrice_10 (by decide) (by decide) (fun E w1 hq => nomatch hq.1) (fun v w1 hq => ?_)
    have hv := hq.1
    obtain rfl := hq.2.symm
    cases hv
    refine X_ireturn dX11_setPrice_13 rfl rfl ?_
    exact ⟨0, rfl, fun h => absurd h (by rw [hcd]; decide), by rw [hcd, upIf_n (by decide)]; exact (celId (w := setM w 39 _) hP.2.1).symm⟩
set_option maxRecDepth 20000 in
theorem m_setGrams {P : PSt} (h9 : M0 w t np nl no nm nw en) (hP : MP G.2.2.1 w P) (hn : np ≤ 16) (p c : Int32) : XC G mX11_setGrams 2 0 0 [.ref (w.1 39), .int p, .int c] w (fun r w' => ∃ v : Int32, r = .inl (some (.int v)) ∧ (cdPC p c np = 0 → v = nI (P.2.2.2 (idx p))) ∧ w' = setM (setM w 39 (m39 w (cdPC p c np) np nl no nm nw en)) 42 (aI G.2.2.1 16 (nf (upIf (cdPC p c np) (P.2.2.2) (idx p) (idx c))))) := by
  refine XC.of (lo0 := [(0, .ref (w.1 39)), (1, .int p), (2, .int c)]) kmX11_setGrams (Nat.le_of_ble_eq_true rfl) rfl ?_
  refine X_aload_n dX11_setGrams_0 (i := 0) rfl rfl ?_
  refine X_iload_n dX11_setGrams_1 (i := 1) rfl rfl ?_
  refine X_callV (gc2 := 0) (gs2 := 0) (m_isPart h9 hn p) (i := 39) h9 rfl rfl kmX11_isPart rfl lX11_96 iX11_isPart vX11_isPart rfl rfl (Nat.le_of_ble_eq_true rfl) (by decide) dX11_setGrams_2 (by decide) (by decide) (fun E w1 hq => nomatch hq.1) (fun v w1 hq => ?_)
  have hv := hq.1
  obtain rfl := hq.2.symm
  cases hv
  refine X_if_ne (tgt := 14) dX11_setGrams_5 (by decide) (fun h1 => ?_) (fun h1 => ?_)
  · refine X_iload_n dX11_setGrams_14 (i := 2) rfl rfl ?_
    refine X_iconst (v := 0) dX11_setGrams_15 (by decide) ?_
    refine X_ldc dX11_setGrams_16 kX11_104 ?_
    refine X_callS (gc2 := 0) (gs2 := 0) (m_in c 0 99999) kmX11_in rfl lX11_89 sX11_in rfl rfl (Nat.le_of_ble_eq_true rfl) (by decide) dX11_setGrams_18 (by decide) (by decide) (fun E w1 hq => nomatch hq.1) (fun v w1 hq => ?_)
    have hv := hq.1
    obtain rfl := hq.2.symm
    cases hv
    refine X_if_ne (tgt := 30) dX11_setGrams_21 (by decide) (fun h2 => ?_) (fun h2 => ?_)
    · have hcd := cdPC_0 (bI_ne h1) (bI_ne h2)
      obtain ⟨j, hj, rfl⟩ := inP_of (by omega) (bI_ne h1)
      obtain ⟨cN, hcN, rfl⟩ := btw_price (bI_ne h2)
      refine X_aload_n dX11_setGrams_30 (i := 0) rfl rfl ?_
      refine X_iconst (v := 0) dX11_setGrams_31 (by decide) ?_
      refine X_put tyX11 tyX11_ok nmX11 (i := 39) h9 rfl (ci := 10) rfl in11 (k := 0) (by decide) fX11_82 rfl rfl rfl (Nat.le_of_ble_eq_true rfl) dX11_setGrams_32 (fun hc_32 => ?_)
      refine X_aload_n dX11_setGrams_35 (i := 0) rfl rfl ?_
      refine X_get (i := 39) hc_32 rfl (ci := 10) rfl in11 (k := 9) (by decide) fX11_16 rfl dX11_setGrams_36 ?_
      refine X_iload_n dX11_setGrams_39 (i := 1) rfl rfl ?_
      refine X_iald (i := 42) hP.2.2 rfl rfl (by omega) (by decide) dX11_setGrams_40 ?_
      refine X_istore_n (i := 3) (lo' := [(3, _), (0, _), (1, _), (2, _)]) dX11_setGrams_41 rfl (by decide) rfl ?_
      refine X_aload_n dX11_setGrams_42 (i := 0) rfl rfl ?_
      refine X_get (i := 39) hc_32 rfl (ci := 10) rfl in11 (k := 9) (by decide) fX11_16 rfl dX11_setGrams_43 ?_
      refine X_iload_n dX11_setGrams_46 (i := 1) rfl rfl ?_
      refine X_iload_n dX11_setGrams_47 (i := 2) rfl rfl ?_
      refine X_iast (i := 42) hP.2.2 rfl rfl (by omega) (by decide) dX11_setGrams_48 (fun hc_48 => ?_)
      refine X_iload_n dX11_setGrams_49 (i := 3) rfl rfl ?_
      refine X_ireturn dX11_setGrams_50 rfl rfl ?_
      exact ⟨_, rfl, fun _ => by rw [idx_nI (by omega)]; rfl, by rw [hcd, upIf_0 rfl, idx_nI (by omega), idx_nI (by omega), ← nf_up]; rfl⟩
    · have hcd := cdPC_2 (bI_ne h1) (bI_eq h2)
      refine X_aload_n dX11_setGrams_24 (i := 0) rfl rfl ?_
      refine X_iconst (v := 2) dX11_setGrams_25 (by decide) ?_
      refine X_callV (gc2 := 0) (gs2 := 0) (m_fails h9 2) (i := 39) h9 rfl rfl kmX11_fails rfl lX11_105 iX11_fails vX11_fails rfl rfl (Nat.le_of_ble_eq_true rfl) (by decide) dX11_setGrams_26 (by decide) (by decide) (fun E w1 hq => nomatch hq.1) (fun v w1 hq => ?_)
      have hv := hq.1
      obtain rfl := hq.2.symm
      cases hv
      refine X_ireturn dX11_setGrams_29 rfl rfl ?_
      exact ⟨0, rfl, fun h => absurd h (by rw [hcd]; decide), by rw [hcd, upIf_n (by decide)]; exact (celId (w := setM w 39 _) hP.2.2).symm⟩
  · have hcd := cdPC_1 (c := c) (bI_eq h1)
    refine X_aload_n dX11_setGrams_8 (i := 0) rfl rfl ?_
    refine X_iconst (v := 1) dX11_setGrams_9 (by decide) ?_
    refine X_callV (gc2 := 0) (gs2 := 0) (m_fails h9 1) (i := 39) h9 rfl rfl kmX11_fails rfl lX11_105 iX11_fails vX11_fails rfl rfl (Nat.le_of_ble_eq_true rfl) (by decide) dX11_setGrams_10 (by decide) (by decide) (fun E w1 hq => nomatch hq.1) (fun v w1 hq => ?_)
    have hv := hq.1
    obtain rfl := hq.2.symm
    cases hv
    refine X_ireturn dX11_setGrams_13 rfl rfl ?_
    exact ⟨0, rfl, fun h => absurd h (by rw [hcd]; decide), by rw [hcd, upIf_n (by decide)]; exact (celId (w := setM w 39 _) hP.2.2).symm⟩
set_option maxRecDepth 20000 in
theorem m_setKind {P : PSt} (h9 : M0 w t np nl no nm nw en) (hP : MP G.2.2.1 w P) (hn : np ≤ 16) (hk16 : ∀ j, P.2.1 j < 65536) (p : Int32) (k : Nat) (hk : k < 65536) : XC G mX11_setKind 2 0 0 [.ref (w.1 39), .int p, .int (nI k)] w (fun r w' => ∃ v : Int32, r = .inl (some (.int v)) ∧ (cdPK p (nI k) np = 0 → v = nI (P.2.1 (idx p))) ∧ w' = setM (setM w 39 (m39 w (cdPK p (nI k) np) np nl no nm nw en)) 40 (aI G.2.2.1 16 (nf (upIf (cdPK p (nI k) np) P.2.1 (idx p) k)))) := by
  refine XC.of (lo0 := [(0, .ref (w.1 39)), (1, .int p), (2, .int (nI k))]) kmX11_setKind (Nat.le_of_ble_eq_true rfl) rfl ?_
  refine X_aload_n dX11_setKind_0 (i := 0) rfl rfl ?_
  refine X_aload_n dX11_setKind_1 (i := 0) rfl rfl ?_
  refine X_iload_n dX11_setKind_2 (i := 1) rfl rfl ?_
  refine X_callV (gc2 := 0) (gs2 := 0) (m_isPart h9 hn p) (i := 39) h9 rfl rfl kmX11_isPart rfl lX11_96 iX11_isPart vX11_isPart rfl rfl (Nat.le_of_ble_eq_true rfl) (by decide) dX11_setKind_3 (by decide) (by decide) (fun E w1 hq => nomatch hq.1) (fun v w1 hq => ?_)
  have hv := hq.1
  obtain rfl := hq.2.symm
  cases hv
  refine X_if_ne (tgt := 13) dX11_setKind_6 (by decide) (fun h1 => ?_) (fun h1 => ?_)
  · refine X_iload_n dX11_setKind_13 (i := 2) rfl rfl ?_
    refine X_callS (gc2 := 0) (gs2 := 0) (m_isKind (nI k)) kmX11_isKind rfl lX11_100 sX11_isKind rfl rfl (Nat.le_of_ble_eq_true rfl) (by decide) dX11_setKind_14 (by decide) (by decide) (fun E w1 hq => nomatch hq.1) (fun v w1 hq => ?_)
    have hv := hq.1
    obtain rfl := hq.2.symm
    cases hv
    refine X_if_eq (tgt := 24) dX11_setKind_17 (by decide) (fun h2 => ?_) (fun h2 => ?_)
    · have hcd := cdPK_2 (bI_ne h1) (bI_eq h2)
      refine X_iconst (v := 2) dX11_setKind_24 (by decide) ?_
      refine X_put tyX11 tyX11_ok nmX11 (i := 39) h9 rfl (ci := 10) rfl in11 (k := 0) (by decide) fX11_82 rfl rfl rfl (Nat.le_of_ble_eq_true rfl) dX11_setKind_25 (fun hc_25 => ?_)
      refine X_aload_n dX11_setKind_28 (i := 0) rfl rfl ?_
      refine X_get (i := 39) hc_25 rfl (ci := 10) rfl in11 (k := 0) (by decide) fX11_82 rfl dX11_setKind_29 ?_
      refine X_if_le (tgt := 37) dX11_setKind_32 (by decide) (fun h => absurd h (by decide)) (fun _ => ?_)
      refine X_iconst (v := 0) dX11_setKind_35 (by decide) ?_
      refine X_ireturn dX11_setKind_36 rfl (narrow_c (by first | decide | exact hk16 _)) ?_
      exact ⟨0, rfl, fun h => absurd h (by rw [hcd]; decide), by rw [hcd, upIf_n (by decide)]; exact (celId (w := setM w 39 _) hP.1).symm⟩
    · have hcd := cdPK_0 (bI_ne h1) (bI_ne h2)
      obtain ⟨j, hj, rfl⟩ := inP_of (by omega) (bI_ne h1)
      refine X_iconst (v := 0) dX11_setKind_20 (by decide) ?_
      refine X_goto (tgt := 25) dX11_setKind_21 (by decide) ?_
      refine X_put tyX11 tyX11_ok nmX11 (i := 39) h9 rfl (ci := 10) rfl in11 (k := 0) (by decide) fX11_82 rfl rfl rfl (Nat.le_of_ble_eq_true rfl) dX11_setKind_25 (fun hc_25 => ?_)
      refine X_aload_n dX11_setKind_28 (i := 0) rfl rfl ?_
      refine X_get (i := 39) hc_25 rfl (ci := 10) rfl in11 (k := 0) (by decide) fX11_82 rfl dX11_setKind_29 ?_
      refine X_if_le (tgt := 37) dX11_setKind_32 (by decide) (fun _ => ?_) (fun h => absurd h (by decide))
      refine X_aload_n dX11_setKind_37 (i := 0) rfl rfl ?_
      refine X_get (i := 39) hc_25 rfl (ci := 10) rfl in11 (k := 7) (by decide) fX11_7 rfl dX11_setKind_38 ?_
      refine X_iload_n dX11_setKind_41 (i := 1) rfl rfl ?_
      refine X_iald (i := 40) hP.1 rfl rfl (by omega) (by decide) dX11_setKind_42 ?_
      refine X_istore_n (i := 3) (lo' := [(3, _), (0, _), (1, _), (2, _)]) dX11_setKind_43 rfl (by decide) rfl ?_
      refine X_aload_n dX11_setKind_44 (i := 0) rfl rfl ?_
      refine X_get (i := 39) hc_25 rfl (ci := 10) rfl in11 (k := 7) (by decide) fX11_7 rfl dX11_setKind_45 ?_
      refine X_iload_n dX11_setKind_48 (i := 1) rfl rfl ?_
      refine X_iload_n dX11_setKind_49 (i := 2) rfl rfl ?_
      refine X_iast (i := 40) hP.1 rfl rfl (by omega) (by decide) dX11_setKind_50 (fun hc_50 => ?_)
      refine X_iload_n dX11_setKind_51 (i := 3) rfl rfl ?_
      refine X_i2c dX11_setKind_52 rfl ?_
      refine XJ.top (v' := .int (nI (P.2.1 j))) (by rw [show nf P.2.1 j = nI (P.2.1 j) from rfl, pk_char, pk_tn (by have := hk16 j; omega), Nat.mod_eq_of_lt (hk16 j)]) ?_
      refine X_ireturn dX11_setKind_53 rfl (narrow_c (by first | decide | exact hk16 _)) ?_
      exact ⟨_, rfl, fun _ => by rw [idx_nI (by omega)], by rw [hcd, upIf_0 rfl, idx_nI (by omega), ← nf_up]; rfl⟩
  · have hcd := cdPK_1 (c := nI k) (bI_eq h1)
    refine X_iconst (v := 1) dX11_setKind_9 (by decide) ?_
    refine X_goto (tgt := 25) dX11_setKind_10 (by decide) ?_
    refine X_put tyX11 tyX11_ok nmX11 (i := 39) h9 rfl (ci := 10) rfl in11 (k := 0) (by decide) fX11_82 rfl rfl rfl (Nat.le_of_ble_eq_true rfl) dX11_setKind_25 (fun hc_25 => ?_)
    refine X_aload_n dX11_setKind_28 (i := 0) rfl rfl ?_
    refine X_get (i := 39) hc_25 rfl (ci := 10) rfl in11 (k := 0) (by decide) fX11_82 rfl dX11_setKind_29 ?_
    refine X_if_le (tgt := 37) dX11_setKind_32 (by decide) (fun h => absurd h (by decide)) (fun _ => ?_)
    refine X_iconst (v := 0) dX11_setKind_35 (by decide) ?_
    refine X_ireturn dX11_setKind_36 rfl (narrow_c (by first | decide | exact hk16 _)) ?_
    exact ⟨0, rfl, fun h => absurd h (by rw [hcd]; decide), by rw [hcd, upIf_n (by decide)]; exact (celId (w := setM w 39 _) hP.1).symm⟩
set_option maxRecDepth 20000 in
theorem m_parts (h9 : M0 w t np nl no nm nw en) : XC G mX11_parts 0 0 0 [.ref (w.1 39)] w (fun r w' => r = .inl (some (.int (nI np))) ∧ w' = setM w 39 (m39 w 0 np nl no nm nw en)) := by
  refine XC.of (lo0 := [(0, .ref (w.1 39))]) kmX11_parts (Nat.le_of_ble_eq_true rfl) rfl ?_
  refine X_aload_n dX11_parts_0 (i := 0) rfl rfl ?_
  refine X_iconst (v := 0) dX11_parts_1 (by decide) ?_
  refine X_put tyX11 tyX11_ok nmX11 (i := 39) h9 rfl (ci := 10) rfl in11 (k := 0) (by decide) fX11_82 rfl rfl rfl (Nat.le_of_ble_eq_true rfl) dX11_parts_2 (fun hc_2 => ?_)
  refine X_aload_n dX11_parts_5 (i := 0) rfl rfl ?_
  refine X_get (i := 39) hc_2 rfl (ci := 10) rfl in11 (k := 1) (by decide) fX11_86 rfl dX11_parts_6 ?_
  refine X_ireturn dX11_parts_9 rfl rfl ?_
  exact ⟨rfl, rfl⟩
set_option maxRecDepth 20000 in
theorem m_lines (h9 : M0 w t np nl no nm nw en) : XC G mX11_lines 0 0 0 [.ref (w.1 39)] w (fun r w' => r = .inl (some (.int (nI nl))) ∧ w' = setM w 39 (m39 w 0 np nl no nm nw en)) := by
  refine XC.of (lo0 := [(0, .ref (w.1 39))]) kmX11_lines (Nat.le_of_ble_eq_true rfl) rfl ?_
  refine X_aload_n dX11_lines_0 (i := 0) rfl rfl ?_
  refine X_iconst (v := 0) dX11_lines_1 (by decide) ?_
  refine X_put tyX11 tyX11_ok nmX11 (i := 39) h9 rfl (ci := 10) rfl in11 (k := 0) (by decide) fX11_82 rfl rfl rfl (Nat.le_of_ble_eq_true rfl) dX11_lines_2 (fun hc_2 => ?_)
  refine X_aload_n dX11_lines_5 (i := 0) rfl rfl ?_
  refine X_get (i := 39) hc_2 rfl (ci := 10) rfl in11 (k := 2) (by decide) fX11_93 rfl dX11_lines_6 ?_
  refine X_ireturn dX11_lines_9 rfl rfl ?_
  exact ⟨rfl, rfl⟩
set_option maxRecDepth 20000 in
theorem m_thrown (h9 : M0 w t np nl no nm nw en) : XC G mX11_thrown 0 0 0 [.ref (w.1 39)] w (fun r w' => r = .inl (some (.int (nI t))) ∧ w' = w) := by
  refine XC.of (lo0 := [(0, .ref (w.1 39))]) kmX11_thrown (Nat.le_of_ble_eq_true rfl) rfl ?_
  refine X_aload_n dX11_thrown_0 (i := 0) rfl rfl ?_
  refine X_get (i := 39) h9 rfl (ci := 10) rfl in11 (k := 0) (by decide) fX11_82 rfl dX11_thrown_1 ?_
  refine X_ireturn dX11_thrown_4 rfl rfl ?_
  exact ⟨rfl, rfl⟩
set_option maxRecDepth 20000 in
theorem m_isConsistent (h9 : M0 w t np nl no nm nw en) : XC G mX11_isConsistent 0 0 0 [.ref (w.1 39)] w (fun r w' => r = .inl (some (.int 1)) ∧ w' = setM w 39 (m39 w 0 np nl no nm nw en)) := by
  refine XC.of (lo0 := [(0, .ref (w.1 39))]) kmX11_isConsistent (Nat.le_of_ble_eq_true rfl) rfl ?_
  refine X_aload_n dX11_isConsistent_0 (i := 0) rfl rfl ?_
  refine X_iconst (v := 0) dX11_isConsistent_1 (by decide) ?_
  refine X_put tyX11 tyX11_ok nmX11 (i := 39) h9 rfl (ci := 10) rfl in11 (k := 0) (by decide) fX11_82 rfl rfl rfl (Nat.le_of_ble_eq_true rfl) dX11_isConsistent_2 (fun hc_2 => ?_)
  refine X_iconst (v := 1) dX11_isConsistent_5 (by decide) ?_
  refine X_ireturn dX11_isConsistent_6 rfl rfl ?_
  exact ⟨rfl, rfl⟩
set_option maxRecDepth 20000 in
theorem m_kind {P : PSt} (h9 : M0 w t np nl no nm nw en) (hP : MP G.2.2.1 w P) (hn : np ≤ 16) (hk16 : ∀ j, P.2.1 j < 65536) (p : Int32) : XC G mX11_kind 2 0 0 [.ref (w.1 39), .int p] w (fun r w' => ∃ v : Int32, r = .inl (some (.int v)) ∧ (cdP p np = 0 → v = nI (P.2.1 (idx p))) ∧ w' = setM w 39 (m39 w (cdP p np) np nl no nm nw en)) := by
  refine XC.of (lo0 := [(0, .ref (w.1 39)), (1, .int p)]) kmX11_kind (Nat.le_of_ble_eq_true rfl) rfl ?_
  refine X_aload_n dX11_kind_0 (i := 0) rfl rfl ?_
  refine X_aload_n dX11_kind_1 (i := 0) rfl rfl ?_
  refine X_iload_n dX11_kind_2 (i := 1) rfl rfl ?_
  refine X_callV (gc2 := 0) (gs2 := 0) (m_isPart h9 hn p) (i := 39) h9 rfl rfl kmX11_isPart rfl lX11_96 iX11_isPart vX11_isPart rfl rfl (Nat.le_of_ble_eq_true rfl) (by decide) dX11_kind_3 (by decide) (by decide) (fun E w1 hq => nomatch hq.1) (fun v w1 hq => ?_)
  have hv := hq.1
  obtain rfl := hq.2.symm
  cases hv
  refine X_if_eq (tgt := 13) dX11_kind_6 (by decide) (fun h1 => ?_) (fun h1 => ?_)
  · have hcd := cdP_1 (bI_eq h1)
    refine X_iconst (v := 1) dX11_kind_13 (by decide) ?_
    refine X_put tyX11 tyX11_ok nmX11 (i := 39) h9 rfl (ci := 10) rfl in11 (k := 0) (by decide) fX11_82 rfl rfl rfl (Nat.le_of_ble_eq_true rfl) dX11_kind_14 (fun hc_14 => ?_)
    refine X_aload_n dX11_kind_17 (i := 0) rfl rfl ?_
    refine X_get (i := 39) hc_14 rfl (ci := 10) rfl in11 (k := 0) (by decide) fX11_82 rfl dX11_kind_18 ?_
    refine X_if_le (tgt := 28) dX11_kind_21 (by decide) (fun h => absurd h (by decide)) (fun _ => ?_)
    refine X_iconst (v := 0) dX11_kind_24 (by decide) ?_
    refine X_goto (tgt := 34) dX11_kind_25 (by decide) ?_
    refine X_i2c dX11_kind_34 rfl ?_
    refine X_ireturn dX11_kind_35 rfl (by first | rfl | exact narrow_c (hk16 _)) ?_
    first
      | exact ⟨_, rfl, fun _ => by rw [idx_nI (by omega)], by rw [hcd]; rfl⟩
      | exact ⟨_, rfl, fun h => absurd h (by rw [hcd]; decide), by rw [hcd]; rfl⟩
  · have hcd := cdP_0 (bI_ne h1)
    obtain ⟨j, hj, rfl⟩ := inP_of (by omega) (bI_ne h1)
    refine X_iconst (v := 0) dX11_kind_9 (by decide) ?_
    refine X_goto (tgt := 14) dX11_kind_10 (by decide) ?_
    refine X_put tyX11 tyX11_ok nmX11 (i := 39) h9 rfl (ci := 10) rfl in11 (k := 0) (by decide) fX11_82 rfl rfl rfl (Nat.le_of_ble_eq_true rfl) dX11_kind_14 (fun hc_14 => ?_)
    refine X_aload_n dX11_kind_17 (i := 0) rfl rfl ?_
    refine X_get (i := 39) hc_14 rfl (ci := 10) rfl in11 (k := 0) (by decide) fX11_82 rfl dX11_kind_18 ?_
    refine X_if_le (tgt := 28) dX11_kind_21 (by decide) (fun _ => ?_) (fun h => absurd h (by decide))
    refine X_aload_n dX11_kind_28 (i := 0) rfl rfl ?_
    refine X_get (i := 39) hc_14 rfl (ci := 10) rfl in11 (k := 7) (by decide) fX11_7 rfl dX11_kind_29 ?_
    refine X_iload_n dX11_kind_32 (i := 1) rfl rfl ?_
    refine X_iald (i := 40) hP.1 rfl rfl (by omega) (by decide) dX11_kind_33 ?_
    refine X_i2c dX11_kind_34 rfl ?_
    refine XJ.top (v' := .int (nI (P.2.1 j))) (by rw [show nf P.2.1 j = nI (P.2.1 j) from rfl, pk_char, pk_tn (by have := hk16 j; omega), Nat.mod_eq_of_lt (hk16 j)]) ?_
    refine X_ireturn dX11_kind_35 rfl (by first | rfl | exact narrow_c (hk16 _)) ?_
    first
      | exact ⟨_, rfl, fun _ => by rw [idx_nI (by omega)], by rw [hcd]; rfl⟩
      | exact ⟨_, rfl, fun h => absurd h (by rw [hcd]; decide), by rw [hcd]; rfl⟩
def setMP (K : Nat → ClassId) (w : Wd) (P : PSt) : Wd := setM (setM (setM w 40 (aI K 16 (nf P.2.1))) 41 (aI K 16 (nf P.2.2.1))) 42 (aI K 16 (nf P.2.2.2))
theorem setMP_id {K : Nat → ClassId} {P : PSt} (h : MP K w P) : setMP K w P = w := by
  unfold setMP
  rw [celId h.1, celId h.2.1, celId h.2.2]
theorem setMP_add {K : Nat → ClassId} {P : PSt} {k c g : Nat} : setMP K w (addP P 0 k c g) = setM (setM (setM w 40 (aI K 16 (va_up (nf P.2.1) P.1 (nI k)))) 41 (aI K 16 (va_up (nf P.2.2.1) P.1 (nI c)))) 42 (aI K 16 (va_up (nf P.2.2.2) P.1 (nI g))) := by
  unfold setMP addP
  rw [upIf_0 rfl, upIf_0 rfl, upIf_0 rfl]
  simp only [nf_up]
theorem setM_lift {i : Nat} {e : va_E} {K : Nat → ClassId} {P : PSt} (h : i ≠ 40 ∧ i ≠ 41 ∧ i ≠ 42) : setM (setMP K w P) i e = setMP K (setM w i e) P := by
  unfold setMP
  rw [setM_comm (i := 42) (k := i) (Ne.symm h.2.2), setM_comm (i := 41) (k := i) (Ne.symm h.2.1), setM_comm (i := 40) (k := i) (Ne.symm h.1)]
set_option maxRecDepth 20000 in
theorem m_addPart {P : PSt} (h9 : M0 w t np nl no nm nw en) (hP : MP G.2.2.1 w P) (hnp : P.1 = np) (hn : np ≤ 16) (k : Nat) (c g : Int32) : XC G mX11_addPart 2 0 0 [.ref (w.1 39), .int (nI k), .int c, .int g] w (fun r w' => ∃ v : Int32, r = .inl (some (.int v)) ∧ (cdAdd (nI k) c g np = 0 → v = nI np) ∧ w' = setMP G.2.2.1 (setM w 39 (m39 w (cdAdd (nI k) c g np) (if cdAdd (nI k) c g np = 0 then np + 1 else np) nl no nm nw en)) (addP P (cdAdd (nI k) c g np) k (idx c) (idx g))) := by
  refine XC.of (lo0 := [(0, .ref (w.1 39)), (1, .int (nI k)), (2, .int c), (3, .int g)]) kmX11_addPart (Nat.le_of_ble_eq_true rfl) rfl ?_
  refine X_iload_n dX11_addPart_0 (i := 1) rfl rfl ?_
  refine X_callS (gc2 := 0) (gs2 := 0) (m_isKind (nI k)) kmX11_isKind rfl lX11_100 sX11_isKind rfl rfl (Nat.le_of_ble_eq_true rfl) (by decide) dX11_addPart_1 (by decide) (by decide) (fun E w1 hq => nomatch hq.1) (fun v w1 hq => ?_)
  have hv := hq.1
  obtain rfl := hq.2.symm
  cases hv
  refine X_if_eq (tgt := 27) dX11_addPart_4 (by decide) (fun h1 => ?_) (fun h1 => ?_)
  · have hcd := cdAdd_k (c := c) (g := g) (n := np) (bI_eq h1)
    refine X_aload_n dX11_addPart_27 (i := 0) rfl rfl ?_
    refine X_iconst (v := 1) dX11_addPart_28 (by decide) ?_
    refine X_callV (gc2 := 0) (gs2 := 0) (m_fails h9 1) (i := 39) h9 rfl rfl kmX11_fails rfl lX11_105 iX11_fails vX11_fails rfl rfl (Nat.le_of_ble_eq_true rfl) (by decide) dX11_addPart_29 (by decide) (by decide) (fun E w1 hq => nomatch hq.1) (fun v w1 hq => ?_)
    have hv := hq.1
    obtain rfl := hq.2.symm
    cases hv
    refine X_ireturn dX11_addPart_32 rfl rfl ?_
    exact ⟨0, rfl, fun h => absurd h (by rw [hcd]; decide), by rw [hcd, addP_n (by decide), if_neg (by decide)]; exact (setMP_id (w := setM w 39 _) hP).symm⟩
  · refine X_iload_n dX11_addPart_7 (i := 2) rfl rfl ?_
    refine X_iconst (v := 0) dX11_addPart_8 (by decide) ?_
    refine X_ldc dX11_addPart_9 kX11_104 ?_
    refine X_callS (gc2 := 0) (gs2 := 0) (m_in c 0 99999) kmX11_in rfl lX11_89 sX11_in rfl rfl (Nat.le_of_ble_eq_true rfl) (by decide) dX11_addPart_11 (by decide) (by decide) (fun E w1 hq => nomatch hq.1) (fun v w1 hq => ?_)
    have hv := hq.1
    obtain rfl := hq.2.symm
    cases hv
    refine X_if_eq (tgt := 27) dX11_addPart_14 (by decide) (fun h2 => ?_) (fun h2 => ?_)
    · have hcd := cdAdd_c (k := nI k) (g := g) (n := np) (bI_eq h2)
      refine X_aload_n dX11_addPart_27 (i := 0) rfl rfl ?_
      refine X_iconst (v := 1) dX11_addPart_28 (by decide) ?_
      refine X_callV (gc2 := 0) (gs2 := 0) (m_fails h9 1) (i := 39) h9 rfl rfl kmX11_fails rfl lX11_105 iX11_fails vX11_fails rfl rfl (Nat.le_of_ble_eq_true rfl) (by decide) dX11_addPart_29 (by decide) (by decide) (fun E w1 hq => nomatch hq.1) (fun v w1 hq => ?_)
      have hv := hq.1
      obtain rfl := hq.2.symm
      cases hv
      refine X_ireturn dX11_addPart_32 rfl rfl ?_
      exact ⟨0, rfl, fun h => absurd h (by rw [hcd]; decide), by rw [hcd, addP_n (by decide), if_neg (by decide)]; exact (setMP_id (w := setM w 39 _) hP).symm⟩
    · refine X_iload_n dX11_addPart_17 (i := 3) rfl rfl ?_
      refine X_iconst (v := 0) dX11_addPart_18 (by decide) ?_
      refine X_ldc dX11_addPart_19 kX11_104 ?_
      refine X_callS (gc2 := 0) (gs2 := 0) (m_in g 0 99999) kmX11_in rfl lX11_89 sX11_in rfl rfl (Nat.le_of_ble_eq_true rfl) (by decide) dX11_addPart_21 (by decide) (by decide) (fun E w1 hq => nomatch hq.1) (fun v w1 hq => ?_)
      have hv := hq.1
      obtain rfl := hq.2.symm
      cases hv
      refine X_if_ne (tgt := 33) dX11_addPart_24 (by decide) (fun h3 => ?_) (fun h3 => ?_)
      · refine X_aload_n dX11_addPart_33 (i := 0) rfl rfl ?_
        refine X_get (i := 39) h9 rfl (ci := 10) rfl in11 (k := 1) (by decide) fX11_86 rfl dX11_addPart_34 ?_
        refine X_bipush (v := 16) dX11_addPart_37 (by decide) ?_
        refine X_icmp_ne (tgt := 48) dX11_addPart_39 (by decide) (fun h4 => ?_) (fun h4 => ?_)
        · have h5 : np ≠ 16 := fun h => h4 (by rw [h]; rfl)
          have hcd := cdAdd_0 (bI_ne h1) (bI_ne h2) (bI_ne h3) h5
          obtain ⟨cN, hcN, rfl⟩ := btw_price (bI_ne h2)
          obtain ⟨gN, hgN, rfl⟩ := btw_price (bI_ne h3)
          refine X_aload_n dX11_addPart_48 (i := 0) rfl rfl ?_
          refine X_iconst (v := 0) dX11_addPart_49 (by decide) ?_
          refine X_put tyX11 tyX11_ok nmX11 (i := 39) h9 rfl (ci := 10) rfl in11 (k := 0) (by decide) fX11_82 rfl rfl rfl (Nat.le_of_ble_eq_true rfl) dX11_addPart_50 (fun hc_50 => ?_)
          refine X_aload_n dX11_addPart_53 (i := 0) rfl rfl ?_
          refine X_get (i := 39) hc_50 rfl (ci := 10) rfl in11 (k := 7) (by decide) fX11_7 rfl dX11_addPart_54 ?_
          refine X_aload_n dX11_addPart_57 (i := 0) rfl rfl ?_
          refine X_get (i := 39) hc_50 rfl (ci := 10) rfl in11 (k := 1) (by decide) fX11_86 rfl dX11_addPart_58 ?_
          refine X_iload_n dX11_addPart_61 (i := 1) rfl rfl ?_
          refine X_iast (i := 40) hP.1 rfl rfl (by omega) (by decide) dX11_addPart_62 (fun hc_62 => ?_)
          refine X_aload_n dX11_addPart_63 (i := 0) rfl rfl ?_
          refine X_get (i := 39) hc_50 rfl (ci := 10) rfl in11 (k := 8) (by decide) fX11_13 rfl dX11_addPart_64 ?_
          refine X_aload_n dX11_addPart_67 (i := 0) rfl rfl ?_
          refine X_get (i := 39) hc_50 rfl (ci := 10) rfl in11 (k := 1) (by decide) fX11_86 rfl dX11_addPart_68 ?_
          refine X_iload_n dX11_addPart_71 (i := 2) rfl rfl ?_
          refine X_iast (i := 41) hP.2.1 rfl rfl (by omega) (by decide) dX11_addPart_72 (fun hc_72 => ?_)
          refine X_aload_n dX11_addPart_73 (i := 0) rfl rfl ?_
          refine X_get (i := 39) hc_50 rfl (ci := 10) rfl in11 (k := 9) (by decide) fX11_16 rfl dX11_addPart_74 ?_
          refine X_aload_n dX11_addPart_77 (i := 0) rfl rfl ?_
          refine X_get (i := 39) hc_50 rfl (ci := 10) rfl in11 (k := 1) (by decide) fX11_86 rfl dX11_addPart_78 ?_
          refine X_iload_n dX11_addPart_81 (i := 3) rfl rfl ?_
          refine X_iast (i := 42) hP.2.2 rfl rfl (by omega) (by decide) dX11_addPart_82 (fun hc_82 => ?_)
          refine X_aload_n dX11_addPart_83 (i := 0) rfl rfl ?_
          refine X_dup dX11_addPart_84 rfl ?_
          refine X_get (i := 39) hc_50 rfl (ci := 10) rfl in11 (k := 1) (by decide) fX11_86 rfl dX11_addPart_85 ?_
          refine X_iconst (v := 1) dX11_addPart_88 (by decide) ?_
          refine X_iadd dX11_addPart_89 ?_
          refine XJ.top (v' := .int (nI (np + 1))) (by rw [← nI_1]) ?_
          refine X_put tyX11 tyX11_ok nmX11 (i := 39) hc_50 rfl (ci := 10) rfl in11 (k := 1) (by decide) fX11_86 rfl rfl rfl (Nat.le_of_ble_eq_true rfl) dX11_addPart_90 (fun hc_90 => ?_)
          refine X_aload_n dX11_addPart_93 (i := 0) rfl rfl ?_
          refine X_get (i := 39) hc_90 rfl (ci := 10) rfl in11 (k := 1) (by decide) fX11_86 rfl dX11_addPart_94 ?_
          refine X_iconst (v := 1) dX11_addPart_97 (by decide) ?_
          refine X_isub dX11_addPart_98 ?_
          refine XJ.top (v' := .int (nI np)) (by rw [nI_pred]) ?_
          refine X_ireturn dX11_addPart_99 rfl rfl ?_
          refine ⟨_, rfl, fun _ => rfl, ?_⟩
          rw [hcd, if_pos rfl, idx_nI (by omega), idx_nI (by omega), setMP_add, hnp]
          rw [setM_comm (i := 42) (k := 39) (by decide), setM_comm (i := 41) (k := 39) (by decide), setM_comm (i := 40) (k := 39) (by decide), setM_setM]
          rfl
        · have hcd := cdAdd_2 (bI_ne h1) (bI_ne h2) (bI_ne h3) (show np = 16 from (nI_eq (by omega) (by decide)).mp h4)
          refine X_aload_n dX11_addPart_42 (i := 0) rfl rfl ?_
          refine X_iconst (v := 2) dX11_addPart_43 (by decide) ?_
          refine X_callV (gc2 := 0) (gs2 := 0) (m_fails h9 2) (i := 39) h9 rfl rfl kmX11_fails rfl lX11_105 iX11_fails vX11_fails rfl rfl (Nat.le_of_ble_eq_true rfl) (by decide) dX11_addPart_44 (by decide) (by decide) (fun E w1 hq => nomatch hq.1) (fun v w1 hq => ?_)
          have hv := hq.1
          obtain rfl := hq.2.symm
          cases hv
          refine X_ireturn dX11_addPart_47 rfl rfl ?_
          exact ⟨0, rfl, fun h => absurd h (by rw [hcd]; decide), by rw [hcd, addP_n (by decide), if_neg (by decide)]; exact (setMP_id (w := setM w 39 _) hP).symm⟩
      · have hcd := cdAdd_g (k := nI k) (c := c) (n := np) (bI_eq h3)
        refine X_aload_n dX11_addPart_27 (i := 0) rfl rfl ?_
        refine X_iconst (v := 1) dX11_addPart_28 (by decide) ?_
        refine X_callV (gc2 := 0) (gs2 := 0) (m_fails h9 1) (i := 39) h9 rfl rfl kmX11_fails rfl lX11_105 iX11_fails vX11_fails rfl rfl (Nat.le_of_ble_eq_true rfl) (by decide) dX11_addPart_29 (by decide) (by decide) (fun E w1 hq => nomatch hq.1) (fun v w1 hq => ?_)
        have hv := hq.1
        obtain rfl := hq.2.symm
        cases hv
        refine X_ireturn dX11_addPart_32 rfl rfl ?_
        exact ⟨0, rfl, fun h => absurd h (by rw [hcd]; decide), by rw [hcd, addP_n (by decide), if_neg (by decide)]; exact (setMP_id (w := setM w 39 _) hP).symm⟩
end PartsM
