/-! REFERENCE: replaced, ended, scrap, choices (walks by gen/spec32.py) -/
section RepM
variable {G : Gx} {w : Wd} {t np nl no nm nw en : Nat}
theorem cut_n {np : Nat} {L : LSt} {j : Nat} {s : Int32} (hI : LI np L) (hj : j < ln L) (h : cutOK L j s = true) : ∃ n : Nat, fi L j < n ∧ n ≤ la L j ∧ s = nI n := by
  have hb := hI.2.2 j hj
  simp only [cutOK, Bool.and_eq_true, decide_eq_true_eq] at h
  have h0 : ¬ s < 0 := by
    intro h3
    have h4 : nI (fi L j) < 0 := Int32.lt_trans h.1 h3
    exact nI_pos (by omega) h4
  obtain ⟨n, hn, rfl⟩ := nI_of h0
  exact ⟨n, (nI_ltI (by omega) hn).mp h.1, (nI_leI hn (by omega)).mp h.2, rfl⟩
def cdEB (L : LSt) (l s : Int32) : Nat := bif inP l (ln L) then (bif cutOK L (idx l) s then 0 else 2) else 1
def cdSS (L : LSt) (l c : Int32) : Nat := bif inP l (ln L) then (bif btw c 0 50 then 0 else 2) else 1
def cdSC (o c : Int32) : Nat := bif btw o 0 3 then (bif btw c 0 3 then 0 else 2) else 1
def cdC (o : Int32) : Nat := bif btw o 0 3 then 0 else 1
def cdRF (np : Nat) (L : LSt) (l s c q : Int32) : Nat := bif inP l (ln L) && inP c np then (bif btw q 1 20 && cutOK L (idx l) s then cdL L (pa L (idx l)) (idx c) false else 2) else 1
/-- line j ended before s, and a line from s on in its place -/
def repL (L : LSt) (j s c q : Nat) : LSt := (ln L + 1, va_up (pa L) (ln L) (pa L j), va_up (po L) (ln L) (po L j), va_up (ch L) (ln L) c, va_up (qt L) (ln L) q, va_up (sc L) (ln L) (sc L j), va_up (fi L) (ln L) s, va_up (va_up (la L) (ln L) (la L j)) j (s - 1), va_up (op L) (ln L) (op L j), va_up (cs L) (ln L) (cs L j))
set_option maxRecDepth 20000 in
theorem m_endBefore (h9 : M0 w t np nl no nm nw en) {L : LSt} (hL : ML G.2.2.1 w L) (hnl : ln L = nl) (hI : LI np L) (l s : Int32) : XC G mX11_endBefore 2 0 0 [.ref (w.1 39), .int l, .int s] w (fun r w' => ∃ v : Int32, r = .inl (some (.int v)) ∧ (cdEB L l s = 0 → v = nI (la L (idx l))) ∧ w' = if cdEB L l s = 0 then setM (setM w 39 (m39 w 0 np nl no nm nw en)) 48 (aI G.2.2.1 40 (nf (va_up (la L) (idx l) (idx s - 1)))) else setM w 39 (m39 w (cdEB L l s) np nl no nm nw en)) := by
  have h16 := hI.1
  have h40 := hI.2.1
  refine XC.of (lo0 := [(0, .ref (w.1 39)), (1, .int l), (2, .int s)]) kmX11_endBefore (Nat.le_of_ble_eq_true rfl) rfl ?_
  refine X_aload_n dX11_endBefore_0 (i := 0) rfl rfl ?_
  refine X_iload_n dX11_endBefore_1 (i := 1) rfl rfl ?_
  refine X_callV (gc2 := 0) (gs2 := 0) (m_isLine h9 (by omega) l) (i := 39) h9 rfl rfl kmX11_isLine rfl lX11_133 iX11_isLine vX11_isLine rfl rfl (Nat.le_of_ble_eq_true rfl) (by decide) dX11_endBefore_2 (by decide) (by decide) (fun E w1 hq => nomatch hq.1) (fun v w1 hq => ?_)
  have hv := hq.1
  obtain rfl := hq.2.symm
  cases hv
  refine X_if_ne (tgt := 14) dX11_endBefore_5 (by decide) (fun h1 => ?_) (fun h1 => ?_)
  · have g1 := bI_ne h1
    rw [← hnl] at g1
    obtain ⟨j, hj, rfl⟩ := inP_of (by omega) g1
    have hb := hI.2.2 j hj
    have gj : idx (nI j) = j := idx_nI (by omega)
    refine X_iload_n dX11_endBefore_14 (i := 2) rfl rfl ?_
    refine X_aload_n dX11_endBefore_15 (i := 0) rfl rfl ?_
    refine X_get (i := 39) h9 rfl (ci := 10) rfl in11 (k := 14) (by decide) fX11_31 rfl dX11_endBefore_16 ?_
    refine X_iload_n dX11_endBefore_19 (i := 1) rfl rfl ?_
    refine X_iald (i := 47) hL.2.2.2.2.1 rfl rfl (by omega) (by decide) dX11_endBefore_20 ?_
    refine X_icmp_le (tgt := 34) dX11_endBefore_21 (by decide) (fun h2 => ?_) (fun h2 => ?_)
    · have hcd : cdEB L (nI j) s = 2 := by rw [cdEB, g1, gj, cutOK_f1 h2]; rfl
      refine X_aload_n dX11_endBefore_34 (i := 0) rfl rfl ?_
      refine X_iconst (v := 2) dX11_endBefore_35 (by decide) ?_
      refine X_callV (gc2 := 0) (gs2 := 0) (m_fails h9 2) (i := 39) h9 rfl rfl kmX11_fails rfl lX11_105 iX11_fails vX11_fails rfl rfl (Nat.le_of_ble_eq_true rfl) (by decide) dX11_endBefore_36 (by decide) (by decide) (fun E w1 hq => nomatch hq.1) (fun v w1 hq => ?_)
      have hv := hq.1
      obtain rfl := hq.2.symm
      cases hv
      refine X_ireturn dX11_endBefore_39 rfl rfl ?_
      exact ⟨0, rfl, fun h => absurd h (by rw [hcd]; decide), by rw [hcd]; rfl⟩
    · refine X_iload_n dX11_endBefore_24 (i := 2) rfl rfl ?_
      refine X_aload_n dX11_endBefore_25 (i := 0) rfl rfl ?_
      refine X_get (i := 39) h9 rfl (ci := 10) rfl in11 (k := 15) (by decide) fX11_34 rfl dX11_endBefore_26 ?_
      refine X_iload_n dX11_endBefore_29 (i := 1) rfl rfl ?_
      refine X_iald (i := 48) hL.2.2.2.2.2.1 rfl rfl (by omega) (by decide) dX11_endBefore_30 ?_
      refine X_icmp_le (tgt := 40) dX11_endBefore_31 (by decide) (fun h3 => ?_) (fun h3 => ?_)
      · have g2 := cutOK_t h2 h3
        have hcd : cdEB L (nI j) s = 0 := by rw [cdEB, g1, gj, g2]; rfl
        obtain ⟨n, hn1, hn2, rfl⟩ := cut_n hI hj g2
        refine X_aload_n dX11_endBefore_40 (i := 0) rfl rfl ?_
        refine X_iconst (v := 0) dX11_endBefore_41 (by decide) ?_
        refine X_put tyX11 tyX11_ok nmX11 (i := 39) h9 rfl (ci := 10) rfl in11 (k := 0) (by decide) fX11_82 rfl rfl rfl (Nat.le_of_ble_eq_true rfl) dX11_endBefore_42 (fun hc_42 => ?_)
        refine X_aload_n dX11_endBefore_45 (i := 0) rfl rfl ?_
        refine X_get (i := 39) hc_42 rfl (ci := 10) rfl in11 (k := 15) (by decide) fX11_34 rfl dX11_endBefore_46 ?_
        refine X_iload_n dX11_endBefore_49 (i := 1) rfl rfl ?_
        refine X_iald (i := 48) hL.2.2.2.2.2.1 rfl rfl (by omega) (by decide) dX11_endBefore_50 ?_
        refine X_istore_n (i := 3) (lo' := [(3, _), (0, _), (1, _), (2, _)]) dX11_endBefore_51 rfl (by decide) rfl ?_
        refine X_aload_n dX11_endBefore_52 (i := 0) rfl rfl ?_
        refine X_get (i := 39) hc_42 rfl (ci := 10) rfl in11 (k := 15) (by decide) fX11_34 rfl dX11_endBefore_53 ?_
        refine X_iload_n dX11_endBefore_56 (i := 1) rfl rfl ?_
        refine X_iload_n dX11_endBefore_57 (i := 2) rfl rfl ?_
        refine X_iconst (v := 1) dX11_endBefore_58 (by decide) ?_
        refine X_isub dX11_endBefore_59 ?_
        refine XJ.top (v' := .int (nI (n - 1))) (by rw [show (1 : Int32) = nI 1 from rfl, pk_sub (by omega)]) ?_
        refine X_iast (i := 48) hL.2.2.2.2.2.1 rfl rfl (by omega) (by decide) dX11_endBefore_60 (fun hc_60 => ?_)
        refine X_iload_n dX11_endBefore_61 (i := 3) rfl rfl ?_
        refine X_ireturn dX11_endBefore_62 rfl rfl ?_
        exact ⟨_, rfl, fun _ => by rw [gj]; rfl, by rw [hcd, if_pos rfl, gj, idx_nI (by omega), ← nf_up]; rfl⟩
      · have hcd : cdEB L (nI j) s = 2 := by rw [cdEB, g1, gj, cutOK_f2 h3]; rfl
        refine X_aload_n dX11_endBefore_34 (i := 0) rfl rfl ?_
        refine X_iconst (v := 2) dX11_endBefore_35 (by decide) ?_
        refine X_callV (gc2 := 0) (gs2 := 0) (m_fails h9 2) (i := 39) h9 rfl rfl kmX11_fails rfl lX11_105 iX11_fails vX11_fails rfl rfl (Nat.le_of_ble_eq_true rfl) (by decide) dX11_endBefore_36 (by decide) (by decide) (fun E w1 hq => nomatch hq.1) (fun v w1 hq => ?_)
        have hv := hq.1
        obtain rfl := hq.2.symm
        cases hv
        refine X_ireturn dX11_endBefore_39 rfl rfl ?_
        exact ⟨0, rfl, fun h => absurd h (by rw [hcd]; decide), by rw [hcd]; rfl⟩
  · have hcd : cdEB L l s = 1 := by rw [cdEB, hnl, bI_eq h1]; rfl
    refine X_aload_n dX11_endBefore_8 (i := 0) rfl rfl ?_
    refine X_iconst (v := 1) dX11_endBefore_9 (by decide) ?_
    refine X_callV (gc2 := 0) (gs2 := 0) (m_fails h9 1) (i := 39) h9 rfl rfl kmX11_fails rfl lX11_105 iX11_fails vX11_fails rfl rfl (Nat.le_of_ble_eq_true rfl) (by decide) dX11_endBefore_10 (by decide) (by decide) (fun E w1 hq => nomatch hq.1) (fun v w1 hq => ?_)
    have hv := hq.1
    obtain rfl := hq.2.symm
    cases hv
    refine X_ireturn dX11_endBefore_13 rfl rfl ?_
    exact ⟨0, rfl, fun h => absurd h (by rw [hcd]; decide), by rw [hcd]; rfl⟩
set_option maxRecDepth 20000 in
theorem m_setScrap (h9 : M0 w t np nl no nm nw en) {L : LSt} (hL : ML G.2.2.1 w L) (hnl : ln L = nl) (hI : LI np L) (l c : Int32) : XC G mX11_setScrap 2 0 0 [.ref (w.1 39), .int l, .int c] w (fun r w' => ∃ v : Int32, r = .inl (some (.int v)) ∧ (cdSS L l c = 0 → v = nI (sc L (idx l))) ∧ w' = if cdSS L l c = 0 then setM (setM w 39 (m39 w 0 np nl no nm nw en)) 49 (aI G.2.2.1 40 (nf (va_up (sc L) (idx l) (idx c)))) else setM w 39 (m39 w (cdSS L l c) np nl no nm nw en)) := by
  have h16 := hI.1
  have h40 := hI.2.1
  refine XC.of (lo0 := [(0, .ref (w.1 39)), (1, .int l), (2, .int c)]) kmX11_setScrap (Nat.le_of_ble_eq_true rfl) rfl ?_
  refine X_aload_n dX11_setScrap_0 (i := 0) rfl rfl ?_
  refine X_iload_n dX11_setScrap_1 (i := 1) rfl rfl ?_
  refine X_callV (gc2 := 0) (gs2 := 0) (m_isLine h9 (by omega) l) (i := 39) h9 rfl rfl kmX11_isLine rfl lX11_133 iX11_isLine vX11_isLine rfl rfl (Nat.le_of_ble_eq_true rfl) (by decide) dX11_setScrap_2 (by decide) (by decide) (fun E w1 hq => nomatch hq.1) (fun v w1 hq => ?_)
  have hv := hq.1
  obtain rfl := hq.2.symm
  cases hv
  refine X_if_ne (tgt := 14) dX11_setScrap_5 (by decide) (fun h1 => ?_) (fun h1 => ?_)
  · have g1 := bI_ne h1
    rw [← hnl] at g1
    obtain ⟨j, hj, rfl⟩ := inP_of (by omega) g1
    have gj : idx (nI j) = j := idx_nI (by omega)
    refine X_iload_n dX11_setScrap_14 (i := 2) rfl rfl ?_
    refine X_iconst (v := 0) dX11_setScrap_15 (by decide) ?_
    refine X_bipush (v := 50) dX11_setScrap_16 (by decide) ?_
    refine X_callS (gc2 := 0) (gs2 := 0) (m_in c 0 50) kmX11_in rfl lX11_89 sX11_in rfl rfl (Nat.le_of_ble_eq_true rfl) (by decide) dX11_setScrap_18 (by decide) (by decide) (fun E w1 hq => nomatch hq.1) (fun v w1 hq => ?_)
    have hv := hq.1
    obtain rfl := hq.2.symm
    cases hv
    refine X_if_ne (tgt := 30) dX11_setScrap_21 (by decide) (fun h2 => ?_) (fun h2 => ?_)
    · have hcd : cdSS L (nI j) c = 0 := by rw [cdSS, g1, bI_ne h2]; rfl
      obtain ⟨n, hn1, hn2, rfl⟩ := btw_n (lo := 0) (hi := 50) (by decide) (by decide) (bI_ne h2)
      refine X_aload_n dX11_setScrap_30 (i := 0) rfl rfl ?_
      refine X_iconst (v := 0) dX11_setScrap_31 (by decide) ?_
      refine X_put tyX11 tyX11_ok nmX11 (i := 39) h9 rfl (ci := 10) rfl in11 (k := 0) (by decide) fX11_82 rfl rfl rfl (Nat.le_of_ble_eq_true rfl) dX11_setScrap_32 (fun hc_32 => ?_)
      refine X_aload_n dX11_setScrap_35 (i := 0) rfl rfl ?_
      refine X_get (i := 39) hc_32 rfl (ci := 10) rfl in11 (k := 16) (by decide) fX11_37 rfl dX11_setScrap_36 ?_
      refine X_iload_n dX11_setScrap_39 (i := 1) rfl rfl ?_
      refine X_iald (i := 49) hL.2.2.2.2.2.2.1 rfl rfl (by omega) (by decide) dX11_setScrap_40 ?_
      refine X_istore_n (i := 3) (lo' := [(3, _), (0, _), (1, _), (2, _)]) dX11_setScrap_41 rfl (by decide) rfl ?_
      refine X_aload_n dX11_setScrap_42 (i := 0) rfl rfl ?_
      refine X_get (i := 39) hc_32 rfl (ci := 10) rfl in11 (k := 16) (by decide) fX11_37 rfl dX11_setScrap_43 ?_
      refine X_iload_n dX11_setScrap_46 (i := 1) rfl rfl ?_
      refine X_iload_n dX11_setScrap_47 (i := 2) rfl rfl ?_
      refine X_iast (i := 49) hL.2.2.2.2.2.2.1 rfl rfl (by omega) (by decide) dX11_setScrap_48 (fun hc_48 => ?_)
      refine X_iload_n dX11_setScrap_49 (i := 3) rfl rfl ?_
      refine X_ireturn dX11_setScrap_50 rfl rfl ?_
      exact ⟨_, rfl, fun _ => by rw [gj]; rfl, by rw [hcd, if_pos rfl, gj, idx_nI (by omega), ← nf_up]; rfl⟩
    · have hcd : cdSS L (nI j) c = 2 := by rw [cdSS, g1, bI_eq h2]; rfl
      refine X_aload_n dX11_setScrap_24 (i := 0) rfl rfl ?_
      refine X_iconst (v := 2) dX11_setScrap_25 (by decide) ?_
      refine X_callV (gc2 := 0) (gs2 := 0) (m_fails h9 2) (i := 39) h9 rfl rfl kmX11_fails rfl lX11_105 iX11_fails vX11_fails rfl rfl (Nat.le_of_ble_eq_true rfl) (by decide) dX11_setScrap_26 (by decide) (by decide) (fun E w1 hq => nomatch hq.1) (fun v w1 hq => ?_)
      have hv := hq.1
      obtain rfl := hq.2.symm
      cases hv
      refine X_ireturn dX11_setScrap_29 rfl rfl ?_
      exact ⟨0, rfl, fun h => absurd h (by rw [hcd]; decide), by rw [hcd]; rfl⟩
  · have hcd : cdSS L l c = 1 := by rw [cdSS, hnl, bI_eq h1]; rfl
    refine X_aload_n dX11_setScrap_8 (i := 0) rfl rfl ?_
    refine X_iconst (v := 1) dX11_setScrap_9 (by decide) ?_
    refine X_callV (gc2 := 0) (gs2 := 0) (m_fails h9 1) (i := 39) h9 rfl rfl kmX11_fails rfl lX11_105 iX11_fails vX11_fails rfl rfl (Nat.le_of_ble_eq_true rfl) (by decide) dX11_setScrap_10 (by decide) (by decide) (fun E w1 hq => nomatch hq.1) (fun v w1 hq => ?_)
    have hv := hq.1
    obtain rfl := hq.2.symm
    cases hv
    refine X_ireturn dX11_setScrap_13 rfl rfl ?_
    exact ⟨0, rfl, fun h => absurd h (by rw [hcd]; decide), by rw [hcd]; rfl⟩
set_option maxRecDepth 20000 in
theorem m_lastSerial (h9 : M0 w t np nl no nm nw en) {L : LSt} (hL : ML G.2.2.1 w L) (hnl : ln L = nl) (hI : LI np L) (l : Int32) : XC G mX11_lastSerial 2 0 0 [.ref (w.1 39), .int l] w (fun r w' => ∃ v : Int32, r = .inl (some (.int v)) ∧ (cdP l nl = 0 → v = nI (la L (idx l))) ∧ w' = setM w 39 (m39 w (cdP l nl) np nl no nm nw en)) := by
  have h16 := hI.1
  have h40 := hI.2.1
  refine XC.of (lo0 := [(0, .ref (w.1 39)), (1, .int l)]) kmX11_lastSerial (Nat.le_of_ble_eq_true rfl) rfl ?_
  refine X_aload_n dX11_lastSerial_0 (i := 0) rfl rfl ?_
  refine X_iload_n dX11_lastSerial_1 (i := 1) rfl rfl ?_
  refine X_callV (gc2 := 0) (gs2 := 0) (m_isLine h9 (by omega) l) (i := 39) h9 rfl rfl kmX11_isLine rfl lX11_133 iX11_isLine vX11_isLine rfl rfl (Nat.le_of_ble_eq_true rfl) (by decide) dX11_lastSerial_2 (by decide) (by decide) (fun E w1 hq => nomatch hq.1) (fun v w1 hq => ?_)
  have hv := hq.1
  obtain rfl := hq.2.symm
  cases hv
  refine X_if_ne (tgt := 14) dX11_lastSerial_5 (by decide) (fun h1 => ?_) (fun h1 => ?_)
  · have hcd := cdP_0 (bI_ne h1)
    obtain ⟨j, hj, rfl⟩ := inP_of (by omega) (bI_ne h1)
    refine X_aload_n dX11_lastSerial_14 (i := 0) rfl rfl ?_
    refine X_iconst (v := 0) dX11_lastSerial_15 (by decide) ?_
    refine X_put tyX11 tyX11_ok nmX11 (i := 39) h9 rfl (ci := 10) rfl in11 (k := 0) (by decide) fX11_82 rfl rfl rfl (Nat.le_of_ble_eq_true rfl) dX11_lastSerial_16 (fun hc_16 => ?_)
    refine X_aload_n dX11_lastSerial_19 (i := 0) rfl rfl ?_
    refine X_get (i := 39) hc_16 rfl (ci := 10) rfl in11 (k := 15) (by decide) fX11_34 rfl dX11_lastSerial_20 ?_
    refine X_iload_n dX11_lastSerial_23 (i := 1) rfl rfl ?_
    refine X_iald (i := 48) hL.2.2.2.2.2.1 rfl rfl (by omega) (by decide) dX11_lastSerial_24 ?_
    refine X_ireturn dX11_lastSerial_25 rfl rfl ?_
    exact ⟨_, rfl, fun _ => by rw [idx_nI (by omega)]; rfl, by rw [hcd]; rfl⟩
  · have hcd := cdP_1 (bI_eq h1)
    refine X_aload_n dX11_lastSerial_8 (i := 0) rfl rfl ?_
    refine X_iconst (v := 1) dX11_lastSerial_9 (by decide) ?_
    refine X_callV (gc2 := 0) (gs2 := 0) (m_fails h9 1) (i := 39) h9 rfl rfl kmX11_fails rfl lX11_105 iX11_fails vX11_fails rfl rfl (Nat.le_of_ble_eq_true rfl) (by decide) dX11_lastSerial_10 (by decide) (by decide) (fun E w1 hq => nomatch hq.1) (fun v w1 hq => ?_)
    have hv := hq.1
    obtain rfl := hq.2.symm
    cases hv
    refine X_ireturn dX11_lastSerial_13 rfl rfl ?_
    exact ⟨0, rfl, fun h => absurd h (by rw [hcd]; decide), by rw [hcd]⟩
set_option maxRecDepth 20000 in
theorem m_holds {pr : Nat → Nat} (h9 : M0 w t np nl no nm nw en) {L : LSt} (hL : ML G.2.2.1 w L) (hnl : ln L = nl) (hI : LI np L) (hC : MC G.2.2.1 w pr) (hpr : ∀ i, i < 4 → pr i < 4) (l s : Int32) : XC G mX11_holds 2 0 0 [.ref (w.1 39), .int l, .int s] w (fun r w' => ∃ v : Int32, r = .inl (some (.int v)) ∧ (cdA l s nl = 0 → v = bI (hld L pr (idx s) (idx l))) ∧ w' = setM w 39 (m39 w (cdA l s nl) np nl no nm nw en)) := by
  have h16 := hI.1
  have h40 := hI.2.1
  refine XC.of (lo0 := [(0, .ref (w.1 39)), (1, .int l), (2, .int s)]) kmX11_holds (Nat.le_of_ble_eq_true rfl) rfl ?_
  refine X_aload_n dX11_holds_0 (i := 0) rfl rfl ?_
  refine X_aload_n dX11_holds_1 (i := 0) rfl rfl ?_
  refine X_iload_n dX11_holds_2 (i := 1) rfl rfl ?_
  refine X_callV (gc2 := 0) (gs2 := 0) (m_isLine h9 (by omega) l) (i := 39) h9 rfl rfl kmX11_isLine rfl lX11_133 iX11_isLine vX11_isLine rfl rfl (Nat.le_of_ble_eq_true rfl) (by decide) dX11_holds_3 (by decide) (by decide) (fun E w1 hq => nomatch hq.1) (fun v w1 hq => ?_)
  have hv := hq.1
  obtain rfl := hq.2.symm
  cases hv
  refine X_if_ne (tgt := 13) dX11_holds_6 (by decide) (fun h1 => ?_) (fun h1 => ?_)
  · refine X_iload_n dX11_holds_13 (i := 2) rfl rfl ?_
    refine X_iconst (v := 1) dX11_holds_14 (by decide) ?_
    refine X_sipush (v := 999) dX11_holds_15 (by decide) ?_
    refine X_callS (gc2 := 0) (gs2 := 0) (m_in s 1 999) kmX11_in rfl lX11_89 sX11_in rfl rfl (Nat.le_of_ble_eq_true rfl) (by decide) dX11_holds_18 (by decide) (by decide) (fun E w1 hq => nomatch hq.1) (fun v w1 hq => ?_)
    have hv := hq.1
    obtain rfl := hq.2.symm
    cases hv
    refine X_if_eq (tgt := 28) dX11_holds_21 (by decide) (fun h2 => ?_) (fun h2 => ?_)
    · have hcd := cdA_2 (bI_ne h1) (bI_eq h2)
      refine X_iconst (v := 2) dX11_holds_28 (by decide) ?_
      refine X_put tyX11 tyX11_ok nmX11 (i := 39) h9 rfl (ci := 10) rfl in11 (k := 0) (by decide) fX11_82 rfl rfl rfl (Nat.le_of_ble_eq_true rfl) dX11_holds_29 (fun hc_29 => ?_)
      refine X_aload_n dX11_holds_32 (i := 0) rfl rfl ?_
      refine X_get (i := 39) hc_29 rfl (ci := 10) rfl in11 (k := 0) (by decide) fX11_82 rfl dX11_holds_33 ?_
      refine X_if_ne (tgt := 52) dX11_holds_36 (by decide) (fun _ => ?_) (fun h => absurd h (by decide))
      refine X_iconst (v := 0) dX11_holds_52 (by decide) ?_
      refine X_ireturn dX11_holds_53 rfl rfl ?_
      first
        | exact ⟨_, rfl, fun _ => by rw [idx_nI (by omega), idx_nI (by omega), bI_ne h4]; rfl, by rw [hcd]⟩
        | exact ⟨_, rfl, fun _ => by rw [idx_nI (by omega), idx_nI (by omega), bI_eq h4]; rfl, by rw [hcd]⟩
        | exact ⟨_, rfl, fun h => absurd h (by rw [hcd]; decide), by rw [hcd]; rfl⟩
    · have hcd := cdA_0 (bI_ne h1) (bI_ne h2)
      obtain ⟨j, hj, rfl⟩ := inP_of (by omega) (bI_ne h1)
      obtain ⟨n, hn1, hn2, rfl⟩ := btw_n (lo := 1) (hi := 999) (by decide) (by decide) (bI_ne h2)
      refine X_iconst (v := 0) dX11_holds_24 (by decide) ?_
      refine X_goto (tgt := 29) dX11_holds_25 (by decide) ?_
      refine X_put tyX11 tyX11_ok nmX11 (i := 39) h9 rfl (ci := 10) rfl in11 (k := 0) (by decide) fX11_82 rfl rfl rfl (Nat.le_of_ble_eq_true rfl) dX11_holds_29 (fun hc_29 => ?_)
      refine X_aload_n dX11_holds_32 (i := 0) rfl rfl ?_
      refine X_get (i := 39) hc_29 rfl (ci := 10) rfl in11 (k := 0) (by decide) fX11_82 rfl dX11_holds_33 ?_
      refine X_if_ne (tgt := 52) dX11_holds_36 (by decide) (fun h => absurd h (by decide)) (fun _ => ?_)
      refine X_aload_n dX11_holds_39 (i := 0) rfl rfl ?_
      refine X_iload_n dX11_holds_40 (i := 1) rfl rfl ?_
      refine X_iload_n dX11_holds_41 (i := 2) rfl rfl ?_
      refine X_callV (gc2 := 0) (gs2 := 0) (m_isHeld (t := 0) (w := setM w 39 (m39 w 0 np nl no nm nw en)) ⟨h9.1, rfl⟩ hL hnl hI hC hpr j (by omega) n (by omega)) (i := 39) hc_29 rfl rfl kmX11_isHeld rfl lX11_136 iX11_isHeld vX11_isHeld rfl rfl (Nat.le_of_ble_eq_true rfl) (by decide) dX11_holds_42 (by decide) (by decide) (fun E w1 hq => nomatch hq.1) (fun v w1 hq => ?_)
      have hv := hq.1
      obtain rfl := hq.2.symm
      cases hv
      refine X_if_eq (tgt := 52) dX11_holds_45 (by decide) (fun h4 => ?_) (fun h4 => ?_)
      · refine X_iconst (v := 0) dX11_holds_52 (by decide) ?_
        refine X_ireturn dX11_holds_53 rfl rfl ?_
        first
          | exact ⟨_, rfl, fun _ => by rw [idx_nI (by omega), idx_nI (by omega), bI_ne h4]; rfl, by rw [hcd]⟩
          | exact ⟨_, rfl, fun _ => by rw [idx_nI (by omega), idx_nI (by omega), bI_eq h4]; rfl, by rw [hcd]⟩
          | exact ⟨_, rfl, fun h => absurd h (by rw [hcd]; decide), by rw [hcd]; rfl⟩
      · refine X_iconst (v := 1) dX11_holds_48 (by decide) ?_
        refine X_goto (tgt := 53) dX11_holds_49 (by decide) ?_
        refine X_ireturn dX11_holds_53 rfl rfl ?_
        first
          | exact ⟨_, rfl, fun _ => by rw [idx_nI (by omega), idx_nI (by omega), bI_ne h4]; rfl, by rw [hcd]⟩
          | exact ⟨_, rfl, fun _ => by rw [idx_nI (by omega), idx_nI (by omega), bI_eq h4]; rfl, by rw [hcd]⟩
          | exact ⟨_, rfl, fun h => absurd h (by rw [hcd]; decide), by rw [hcd]; rfl⟩
  · have hcd := cdA_1 (s := s) (bI_eq h1)
    refine X_iconst (v := 1) dX11_holds_9 (by decide) ?_
    refine X_goto (tgt := 29) dX11_holds_10 (by decide) ?_
    refine X_put tyX11 tyX11_ok nmX11 (i := 39) h9 rfl (ci := 10) rfl in11 (k := 0) (by decide) fX11_82 rfl rfl rfl (Nat.le_of_ble_eq_true rfl) dX11_holds_29 (fun hc_29 => ?_)
    refine X_aload_n dX11_holds_32 (i := 0) rfl rfl ?_
    refine X_get (i := 39) hc_29 rfl (ci := 10) rfl in11 (k := 0) (by decide) fX11_82 rfl dX11_holds_33 ?_
    refine X_if_ne (tgt := 52) dX11_holds_36 (by decide) (fun _ => ?_) (fun h => absurd h (by decide))
    refine X_iconst (v := 0) dX11_holds_52 (by decide) ?_
    refine X_ireturn dX11_holds_53 rfl rfl ?_
    first
      | exact ⟨_, rfl, fun _ => by rw [idx_nI (by omega), idx_nI (by omega), bI_ne h4]; rfl, by rw [hcd]⟩
      | exact ⟨_, rfl, fun _ => by rw [idx_nI (by omega), idx_nI (by omega), bI_eq h4]; rfl, by rw [hcd]⟩
      | exact ⟨_, rfl, fun h => absurd h (by rw [hcd]; decide), by rw [hcd]; rfl⟩
set_option maxRecDepth 20000 in
theorem m_setChoice {pr : Nat → Nat} (h9 : M0 w t np nl no nm nw en) (hC : MC G.2.2.1 w pr) (l c : Int32) : XC G mX11_setChoice 1 0 0 [.ref (w.1 39), .int l, .int c] w (fun r w' => ∃ v : Int32, r = .inl (some (.int v)) ∧ (cdSC l c = 0 → v = nI (pr (idx l))) ∧ w' = if cdSC l c = 0 then setM (setM w 39 (m39 w 0 np nl no nm nw en)) 52 (aI G.2.2.1 4 (nf (va_up pr (idx l) (idx c)))) else setM w 39 (m39 w (cdSC l c) np nl no nm nw en)) := by
  refine XC.of (lo0 := [(0, .ref (w.1 39)), (1, .int l), (2, .int c)]) kmX11_setChoice (Nat.le_of_ble_eq_true rfl) rfl ?_
  refine X_iload_n dX11_setChoice_0 (i := 1) rfl rfl ?_
  refine X_iconst (v := 0) dX11_setChoice_1 (by decide) ?_
  refine X_iconst (v := 3) dX11_setChoice_2 (by decide) ?_
  refine X_callS (gc2 := 0) (gs2 := 0) (m_in l 0 3) kmX11_in rfl lX11_89 sX11_in rfl rfl (Nat.le_of_ble_eq_true rfl) (by decide) dX11_setChoice_3 (by decide) (by decide) (fun E w1 hq => nomatch hq.1) (fun v w1 hq => ?_)
  have hv := hq.1
  obtain rfl := hq.2.symm
  cases hv
  refine X_if_ne (tgt := 15) dX11_setChoice_6 (by decide) (fun h1 => ?_) (fun h1 => ?_)
  · refine X_iload_n dX11_setChoice_15 (i := 2) rfl rfl ?_
    refine X_iconst (v := 0) dX11_setChoice_16 (by decide) ?_
    refine X_iconst (v := 3) dX11_setChoice_17 (by decide) ?_
    refine X_callS (gc2 := 0) (gs2 := 0) (m_in c 0 3) kmX11_in rfl lX11_89 sX11_in rfl rfl (Nat.le_of_ble_eq_true rfl) (by decide) dX11_setChoice_18 (by decide) (by decide) (fun E w1 hq => nomatch hq.1) (fun v w1 hq => ?_)
    have hv := hq.1
    obtain rfl := hq.2.symm
    cases hv
    refine X_if_ne (tgt := 30) dX11_setChoice_21 (by decide) (fun h2 => ?_) (fun h2 => ?_)
    · have hcd : cdSC l c = 0 := by rw [cdSC, bI_ne h1, bI_ne h2]; rfl
      obtain ⟨j, hj0, hj, rfl⟩ := btw_n (lo := 0) (hi := 3) (by decide) (by decide) (bI_ne h1)
      obtain ⟨n, hn1, hn2, rfl⟩ := btw_n (lo := 0) (hi := 3) (by decide) (by decide) (bI_ne h2)
      refine X_aload_n dX11_setChoice_30 (i := 0) rfl rfl ?_
      refine X_iconst (v := 0) dX11_setChoice_31 (by decide) ?_
      refine X_put tyX11 tyX11_ok nmX11 (i := 39) h9 rfl (ci := 10) rfl in11 (k := 0) (by decide) fX11_82 rfl rfl rfl (Nat.le_of_ble_eq_true rfl) dX11_setChoice_32 (fun hc_32 => ?_)
      refine X_aload_n dX11_setChoice_35 (i := 0) rfl rfl ?_
      refine X_get (i := 39) hc_32 rfl (ci := 10) rfl in11 (k := 19) (by decide) fX11_46 rfl dX11_setChoice_36 ?_
      refine X_iload_n dX11_setChoice_39 (i := 1) rfl rfl ?_
      refine X_iald (i := 52) hC rfl rfl (by omega) (by decide) dX11_setChoice_40 ?_
      refine X_istore_n (i := 3) (lo' := [(3, _), (0, _), (1, _), (2, _)]) dX11_setChoice_41 rfl (by decide) rfl ?_
      refine X_aload_n dX11_setChoice_42 (i := 0) rfl rfl ?_
      refine X_get (i := 39) hc_32 rfl (ci := 10) rfl in11 (k := 19) (by decide) fX11_46 rfl dX11_setChoice_43 ?_
      refine X_iload_n dX11_setChoice_46 (i := 1) rfl rfl ?_
      refine X_iload_n dX11_setChoice_47 (i := 2) rfl rfl ?_
      refine X_iast (i := 52) hC rfl rfl (by omega) (by decide) dX11_setChoice_48 (fun hc_48 => ?_)
      refine X_iload_n dX11_setChoice_49 (i := 3) rfl rfl ?_
      refine X_ireturn dX11_setChoice_50 rfl rfl ?_
      exact ⟨_, rfl, fun _ => by rw [idx_nI (by omega)]; rfl, by rw [hcd, if_pos rfl, idx_nI (by omega), idx_nI (by omega), ← nf_up]; rfl⟩
    · have hcd : cdSC l c = 2 := by rw [cdSC, bI_ne h1, bI_eq h2]; rfl
      refine X_aload_n dX11_setChoice_24 (i := 0) rfl rfl ?_
      refine X_iconst (v := 2) dX11_setChoice_25 (by decide) ?_
      refine X_callV (gc2 := 0) (gs2 := 0) (m_fails h9 2) (i := 39) h9 rfl rfl kmX11_fails rfl lX11_105 iX11_fails vX11_fails rfl rfl (Nat.le_of_ble_eq_true rfl) (by decide) dX11_setChoice_26 (by decide) (by decide) (fun E w1 hq => nomatch hq.1) (fun v w1 hq => ?_)
      have hv := hq.1
      obtain rfl := hq.2.symm
      cases hv
      refine X_ireturn dX11_setChoice_29 rfl rfl ?_
      exact ⟨0, rfl, fun h => absurd h (by rw [hcd]; decide), by rw [hcd]; rfl⟩
  · have hcd : cdSC l c = 1 := by rw [cdSC, bI_eq h1]; rfl
    refine X_aload_n dX11_setChoice_9 (i := 0) rfl rfl ?_
    refine X_iconst (v := 1) dX11_setChoice_10 (by decide) ?_
    refine X_callV (gc2 := 0) (gs2 := 0) (m_fails h9 1) (i := 39) h9 rfl rfl kmX11_fails rfl lX11_105 iX11_fails vX11_fails rfl rfl (Nat.le_of_ble_eq_true rfl) (by decide) dX11_setChoice_11 (by decide) (by decide) (fun E w1 hq => nomatch hq.1) (fun v w1 hq => ?_)
    have hv := hq.1
    obtain rfl := hq.2.symm
    cases hv
    refine X_ireturn dX11_setChoice_14 rfl rfl ?_
    exact ⟨0, rfl, fun h => absurd h (by rw [hcd]; decide), by rw [hcd]; rfl⟩
set_option maxRecDepth 20000 in
theorem m_choice {pr : Nat → Nat} (h9 : M0 w t np nl no nm nw en) (hC : MC G.2.2.1 w pr) (l : Int32) : XC G mX11_choice 1 0 0 [.ref (w.1 39), .int l] w (fun r w' => ∃ v : Int32, r = .inl (some (.int v)) ∧ (cdC l = 0 → v = nI (pr (idx l))) ∧ w' = setM w 39 (m39 w (cdC l) np nl no nm nw en)) := by
  refine XC.of (lo0 := [(0, .ref (w.1 39)), (1, .int l)]) kmX11_choice (Nat.le_of_ble_eq_true rfl) rfl ?_
  refine X_iload_n dX11_choice_0 (i := 1) rfl rfl ?_
  refine X_iconst (v := 0) dX11_choice_1 (by decide) ?_
  refine X_iconst (v := 3) dX11_choice_2 (by decide) ?_
  refine X_callS (gc2 := 0) (gs2 := 0) (m_in l 0 3) kmX11_in rfl lX11_89 sX11_in rfl rfl (Nat.le_of_ble_eq_true rfl) (by decide) dX11_choice_3 (by decide) (by decide) (fun E w1 hq => nomatch hq.1) (fun v w1 hq => ?_)
  have hv := hq.1
  obtain rfl := hq.2.symm
  cases hv
  refine X_if_ne (tgt := 15) dX11_choice_6 (by decide) (fun h1 => ?_) (fun h1 => ?_)
  · have hcd : cdC l = 0 := by rw [cdC, bI_ne h1]; rfl
    obtain ⟨j, hj0, hj, rfl⟩ := btw_n (lo := 0) (hi := 3) (by decide) (by decide) (bI_ne h1)
    refine X_aload_n dX11_choice_15 (i := 0) rfl rfl ?_
    refine X_iconst (v := 0) dX11_choice_16 (by decide) ?_
    refine X_put tyX11 tyX11_ok nmX11 (i := 39) h9 rfl (ci := 10) rfl in11 (k := 0) (by decide) fX11_82 rfl rfl rfl (Nat.le_of_ble_eq_true rfl) dX11_choice_17 (fun hc_17 => ?_)
    refine X_aload_n dX11_choice_20 (i := 0) rfl rfl ?_
    refine X_get (i := 39) hc_17 rfl (ci := 10) rfl in11 (k := 19) (by decide) fX11_46 rfl dX11_choice_21 ?_
    refine X_iload_n dX11_choice_24 (i := 1) rfl rfl ?_
    refine X_iald (i := 52) hC rfl rfl (by omega) (by decide) dX11_choice_25 ?_
    refine X_ireturn dX11_choice_26 rfl rfl ?_
    exact ⟨_, rfl, fun _ => by rw [idx_nI (by omega)]; rfl, by rw [hcd]; rfl⟩
  · have hcd : cdC l = 1 := by rw [cdC, bI_eq h1]; rfl
    refine X_aload_n dX11_choice_9 (i := 0) rfl rfl ?_
    refine X_iconst (v := 1) dX11_choice_10 (by decide) ?_
    refine X_callV (gc2 := 0) (gs2 := 0) (m_fails h9 1) (i := 39) h9 rfl rfl kmX11_fails rfl lX11_105 iX11_fails vX11_fails rfl rfl (Nat.le_of_ble_eq_true rfl) (by decide) dX11_choice_11 (by decide) (by decide) (fun E w1 hq => nomatch hq.1) (fun v w1 hq => ?_)
    have hv := hq.1
    obtain rfl := hq.2.symm
    cases hv
    refine X_ireturn dX11_choice_14 rfl rfl ?_
    exact ⟨0, rfl, fun h => absurd h (by rw [hcd]; decide), by rw [hcd]⟩
set_option maxRecDepth 20000 in
theorem m_replaceFrom (h9 : M0 w t np nl no nm nw en) {L : LSt} (hL : ML G.2.2.1 w L) (hnl : ln L = nl) (hI : LI np L) (hN : NC5 L) (l s c q : Int32) : XC G mX11_replaceFrom 10 0 0 [.ref (w.1 39), .int l, .int s, .int c, .int q] w (fun r w' => ∃ v : Int32, r = .inl (some (.int v)) ∧ (cdRF np L l s c q = 0 → v = nI nl) ∧ w' = if cdRF np L l s c q = 0 then setM (setM (mPut G.2.2.1 w (newL L (pa L (idx l)) (po L (idx l)) (idx c) (idx q) 0 (idx s) (la L (idx l)) (op L (idx l)) (cs L (idx l))) np nl no nm nw en) 49 (aI G.2.2.1 40 (nf (sc (repL L (idx l) (idx s) (idx c) (idx q)))))) 48 (aI G.2.2.1 40 (nf (la (repL L (idx l) (idx s) (idx c) (idx q))))) else setM w 39 (m39 w (cdRF np L l s c q) np nl no nm nw en)) := by
  have h16 := hI.1
  have h40 := hI.2.1
  refine XC.of (lo0 := [(0, .ref (w.1 39)), (1, .int l), (2, .int s), (3, .int c), (4, .int q)]) kmX11_replaceFrom (Nat.le_of_ble_eq_true rfl) rfl ?_
  refine X_aload_n dX11_replaceFrom_0 (i := 0) rfl rfl ?_
  refine X_iload_n dX11_replaceFrom_1 (i := 1) rfl rfl ?_
  refine X_callV (gc2 := 0) (gs2 := 0) (m_isLine h9 (by omega) l) (i := 39) h9 rfl rfl kmX11_isLine rfl lX11_133 iX11_isLine vX11_isLine rfl rfl (Nat.le_of_ble_eq_true rfl) (by decide) dX11_replaceFrom_2 (by decide) (by decide) (fun E w1 hq => nomatch hq.1) (fun v w1 hq => ?_)
  have hv := hq.1
  obtain rfl := hq.2.symm
  cases hv
  refine X_if_eq (tgt := 16) dX11_replaceFrom_5 (by decide) (fun h1 => ?_) (fun h1 => ?_)
  · have hcd : cdRF np L l s c q = 1 := by rw [cdRF, hnl, bI_eq h1]; rfl
    refine X_aload_n dX11_replaceFrom_16 (i := 0) rfl rfl ?_
    refine X_iconst (v := 1) dX11_replaceFrom_17 (by decide) ?_
    refine X_callV (gc2 := 0) (gs2 := 0) (m_fails h9 1) (i := 39) h9 rfl rfl kmX11_fails rfl lX11_105 iX11_fails vX11_fails rfl rfl (Nat.le_of_ble_eq_true rfl) (by decide) dX11_replaceFrom_18 (by decide) (by decide) (fun E w1 hq => nomatch hq.1) (fun v w1 hq => ?_)
    have hv := hq.1
    obtain rfl := hq.2.symm
    cases hv
    refine X_ireturn dX11_replaceFrom_21 rfl rfl ?_
    exact ⟨0, rfl, fun h => absurd h (by rw [hcd]; decide), by rw [hcd]; rfl⟩
  · have g1 := bI_ne h1
    refine X_aload_n dX11_replaceFrom_8 (i := 0) rfl rfl ?_
    refine X_iload_n dX11_replaceFrom_9 (i := 3) rfl rfl ?_
    refine X_callV (gc2 := 0) (gs2 := 0) (m_isPart h9 h16 c) (i := 39) h9 rfl rfl kmX11_isPart rfl lX11_96 iX11_isPart vX11_isPart rfl rfl (Nat.le_of_ble_eq_true rfl) (by decide) dX11_replaceFrom_10 (by decide) (by decide) (fun E w1 hq => nomatch hq.1) (fun v w1 hq => ?_)
    have hv := hq.1
    obtain rfl := hq.2.symm
    cases hv
    refine X_if_ne (tgt := 22) dX11_replaceFrom_13 (by decide) (fun h2 => ?_) (fun h2 => ?_)
    · have g2 := bI_ne h2
      rw [← hnl] at g1
      obtain ⟨j, hj, rfl⟩ := inP_of (by omega) g1
      have hb := hI.2.2 j hj
      obtain ⟨c, hc, rfl⟩ := inP_of (by omega) g2
      have gj : idx (nI j) = j := idx_nI (by omega)
      refine X_iload dX11_replaceFrom_22 (i := 4) rfl ?_
      refine X_iconst (v := 1) dX11_replaceFrom_24 (by decide) ?_
      refine X_bipush (v := 20) dX11_replaceFrom_25 (by decide) ?_
      refine X_callS (gc2 := 0) (gs2 := 0) (m_in q 1 20) kmX11_in rfl lX11_89 sX11_in rfl rfl (Nat.le_of_ble_eq_true rfl) (by decide) dX11_replaceFrom_27 (by decide) (by decide) (fun E w1 hq => nomatch hq.1) (fun v w1 hq => ?_)
      have hv := hq.1
      obtain rfl := hq.2.symm
      cases hv
      refine X_if_eq (tgt := 53) dX11_replaceFrom_30 (by decide) (fun h3 => ?_) (fun h3 => ?_)
      · have hcd : cdRF np L (nI j) s (nI c) q = 2 := by rw [cdRF, g1, g2, bI_eq h3]; rfl
        refine X_aload_n dX11_replaceFrom_53 (i := 0) rfl rfl ?_
        refine X_iconst (v := 2) dX11_replaceFrom_54 (by decide) ?_
        refine X_callV (gc2 := 0) (gs2 := 0) (m_fails h9 2) (i := 39) h9 rfl rfl kmX11_fails rfl lX11_105 iX11_fails vX11_fails rfl rfl (Nat.le_of_ble_eq_true rfl) (by decide) dX11_replaceFrom_55 (by decide) (by decide) (fun E w1 hq => nomatch hq.1) (fun v w1 hq => ?_)
        have hv := hq.1
        obtain rfl := hq.2.symm
        cases hv
        refine X_ireturn dX11_replaceFrom_58 rfl rfl ?_
        exact ⟨0, rfl, fun h => absurd h (by rw [hcd]; decide), by rw [hcd]; rfl⟩
      · have g3 := bI_ne h3
        refine X_iload_n dX11_replaceFrom_33 (i := 2) rfl rfl ?_
        refine X_aload_n dX11_replaceFrom_34 (i := 0) rfl rfl ?_
        refine X_get (i := 39) h9 rfl (ci := 10) rfl in11 (k := 14) (by decide) fX11_31 rfl dX11_replaceFrom_35 ?_
        refine X_iload_n dX11_replaceFrom_38 (i := 1) rfl rfl ?_
        refine X_iald (i := 47) hL.2.2.2.2.1 rfl rfl (by omega) (by decide) dX11_replaceFrom_39 ?_
        refine X_icmp_le (tgt := 53) dX11_replaceFrom_40 (by decide) (fun h4 => ?_) (fun h4 => ?_)
        · have hcd : cdRF np L (nI j) s (nI c) q = 2 := by rw [cdRF, g1, g2, g3, gj, cutOK_f1 h4]; rfl
          refine X_aload_n dX11_replaceFrom_53 (i := 0) rfl rfl ?_
          refine X_iconst (v := 2) dX11_replaceFrom_54 (by decide) ?_
          refine X_callV (gc2 := 0) (gs2 := 0) (m_fails h9 2) (i := 39) h9 rfl rfl kmX11_fails rfl lX11_105 iX11_fails vX11_fails rfl rfl (Nat.le_of_ble_eq_true rfl) (by decide) dX11_replaceFrom_55 (by decide) (by decide) (fun E w1 hq => nomatch hq.1) (fun v w1 hq => ?_)
          have hv := hq.1
          obtain rfl := hq.2.symm
          cases hv
          refine X_ireturn dX11_replaceFrom_58 rfl rfl ?_
          exact ⟨0, rfl, fun h => absurd h (by rw [hcd]; decide), by rw [hcd]; rfl⟩
        · refine X_iload_n dX11_replaceFrom_43 (i := 2) rfl rfl ?_
          refine X_aload_n dX11_replaceFrom_44 (i := 0) rfl rfl ?_
          refine X_get (i := 39) h9 rfl (ci := 10) rfl in11 (k := 15) (by decide) fX11_34 rfl dX11_replaceFrom_45 ?_
          refine X_iload_n dX11_replaceFrom_48 (i := 1) rfl rfl ?_
          refine X_iald (i := 48) hL.2.2.2.2.2.1 rfl rfl (by omega) (by decide) dX11_replaceFrom_49 ?_
          refine X_icmp_le (tgt := 59) dX11_replaceFrom_50 (by decide) (fun h5 => ?_) (fun h5 => ?_)
          · have g4 := cutOK_t h4 h5
            obtain ⟨n, hn1, hn2, rfl⟩ := cut_n hI hj g4
            obtain ⟨q, hq1, hq, rfl⟩ := btw_n (lo := 1) (hi := 20) (by decide) (by decide) g3
            have hcd0 : cdRF np L (nI j) (nI n) (nI c) (nI q) = cdL L (pa L j) c false := by rw [cdRF, g1, g2, g3, gj, g4, idx_nI (show c < 2 ^ 31 by omega)]; rfl
            refine X_aload_n dX11_replaceFrom_59 (i := 0) rfl rfl ?_
            refine X_iload_n dX11_replaceFrom_60 (i := 3) rfl rfl ?_
            refine X_aload_n dX11_replaceFrom_61 (i := 0) rfl rfl ?_
            refine X_get (i := 39) h9 rfl (ci := 10) rfl in11 (k := 10) (by decide) fX11_19 rfl dX11_replaceFrom_62 ?_
            refine X_iload_n dX11_replaceFrom_65 (i := 1) rfl rfl ?_
            refine X_iald (i := 43) hL.1 rfl rfl (by omega) (by decide) dX11_replaceFrom_66 ?_
            refine X_callV (gc2 := 0) (gs2 := 0) (m_reaches h9 hL hnl hI 5 (by decide) c (pa L j) (by omega) (by omega) (by rw [← hnl]; exact hN c)) (i := 39) h9 rfl rfl kmX11_reaches rfl lX11_115 iX11_reaches vX11_reaches rfl rfl (Nat.le_of_ble_eq_true rfl) (by decide) dX11_replaceFrom_67 (by decide) (by decide) (fun E w1 hq => nomatch hq.1) (fun v w1 hq => ?_)
            have hv := hq.1
            obtain rfl := hq.2.symm
            cases hv
            refine X_if_eq (tgt := 79) dX11_replaceFrom_70 (by decide) (fun h6 => ?_) (fun h6 => ?_)
            · have g5 : rchB (ln L) (pa L) (ch L) 5 c (pa L j) = false := by rw [hnl]; exact bI_eq h6
              refine X_aload_n dX11_replaceFrom_79 (i := 0) rfl rfl ?_
              refine X_aload_n dX11_replaceFrom_80 (i := 0) rfl rfl ?_
              refine X_get (i := 39) h9 rfl (ci := 10) rfl in11 (k := 10) (by decide) fX11_19 rfl dX11_replaceFrom_81 ?_
              refine X_iload_n dX11_replaceFrom_84 (i := 1) rfl rfl ?_
              refine X_iald (i := 43) hL.1 rfl rfl (by omega) (by decide) dX11_replaceFrom_85 ?_
              refine X_iload_n dX11_replaceFrom_86 (i := 3) rfl rfl ?_
              refine X_callV (gc2 := 0) (gs2 := 0) (m_isDeep h9 hL hnl hI hN (pa L j) c (by omega) (by omega)) (i := 39) h9 rfl rfl kmX11_isDeep rfl lX11_119 iX11_isDeep vX11_isDeep rfl rfl (Nat.le_of_ble_eq_true rfl) (by decide) dX11_replaceFrom_87 (by decide) (by decide) (fun E w1 hq => nomatch hq.1) (fun v w1 hq => ?_)
              have hv := hq.1
              obtain rfl := hq.2.symm
              cases hv
              refine X_if_ne (tgt := 102) dX11_replaceFrom_90 (by decide) (fun h7 => ?_) (fun h7 => ?_)
              · have hcd := hcd0.trans (cdL_4 g5 (by rw [bI_ne h7]; rfl))
                refine X_aload_n dX11_replaceFrom_102 (i := 0) rfl rfl ?_
                refine X_iconst (v := 4) dX11_replaceFrom_103 (by decide) ?_
                refine X_callV (gc2 := 0) (gs2 := 0) (m_fails h9 4) (i := 39) h9 rfl rfl kmX11_fails rfl lX11_105 iX11_fails vX11_fails rfl rfl (Nat.le_of_ble_eq_true rfl) (by decide) dX11_replaceFrom_104 (by decide) (by decide) (fun E w1 hq => nomatch hq.1) (fun v w1 hq => ?_)
                have hv := hq.1
                obtain rfl := hq.2.symm
                cases hv
                refine X_ireturn dX11_replaceFrom_107 rfl rfl ?_
                exact ⟨0, rfl, fun h => absurd h (by rw [hcd]; decide), by rw [hcd]; rfl⟩
              · have g6 := bI_eq h7
                refine X_aload_n dX11_replaceFrom_93 (i := 0) rfl rfl ?_
                refine X_get (i := 39) h9 rfl (ci := 10) rfl in11 (k := 2) (by decide) fX11_93 rfl dX11_replaceFrom_94 ?_
                refine X_bipush (v := 40) dX11_replaceFrom_97 (by decide) ?_
                refine X_icmp_ne (tgt := 108) dX11_replaceFrom_99 (by decide) (fun h8 => ?_) (fun h8 => ?_)
                · have g7 : nl ≠ 40 := fun h => h8 (by rw [h]; rfl)
                  have h9z : nl < 40 := by omega
                  have hcd := hcd0.trans (cdL_0 (b := false) g5 g6 rfl (by omega))
                  refine X_aload_n dX11_replaceFrom_108 (i := 0) rfl rfl ?_
                  refine X_aload_n dX11_replaceFrom_109 (i := 0) rfl rfl ?_
                  refine X_get (i := 39) h9 rfl (ci := 10) rfl in11 (k := 10) (by decide) fX11_19 rfl dX11_replaceFrom_110 ?_
                  refine X_iload_n dX11_replaceFrom_113 (i := 1) rfl rfl ?_
                  refine X_iald (i := 43) hL.1 rfl rfl (by omega) (by decide) dX11_replaceFrom_114 ?_
                  refine X_aload_n dX11_replaceFrom_115 (i := 0) rfl rfl ?_
                  refine X_get (i := 39) h9 rfl (ci := 10) rfl in11 (k := 11) (by decide) fX11_22 rfl dX11_replaceFrom_116 ?_
                  refine X_iload_n dX11_replaceFrom_119 (i := 1) rfl rfl ?_
                  refine X_iald (i := 44) hL.2.1 rfl rfl (by omega) (by decide) dX11_replaceFrom_120 ?_
                  refine X_iload_n dX11_replaceFrom_121 (i := 3) rfl rfl ?_
                  refine X_iload dX11_replaceFrom_122 (i := 4) rfl ?_
                  refine X_iload_n dX11_replaceFrom_124 (i := 2) rfl rfl ?_
                  refine X_aload_n dX11_replaceFrom_125 (i := 0) rfl rfl ?_
                  refine X_get (i := 39) h9 rfl (ci := 10) rfl in11 (k := 15) (by decide) fX11_34 rfl dX11_replaceFrom_126 ?_
                  refine X_iload_n dX11_replaceFrom_129 (i := 1) rfl rfl ?_
                  refine X_iald (i := 48) hL.2.2.2.2.2.1 rfl rfl (by omega) (by decide) dX11_replaceFrom_130 ?_
                  refine X_aload_n dX11_replaceFrom_131 (i := 0) rfl rfl ?_
                  refine X_get (i := 39) h9 rfl (ci := 10) rfl in11 (k := 17) (by decide) fX11_40 rfl dX11_replaceFrom_132 ?_
                  refine X_iload_n dX11_replaceFrom_135 (i := 1) rfl rfl ?_
                  refine X_iald (i := 50) hL.2.2.2.2.2.2.2.1 rfl rfl (by omega) (by decide) dX11_replaceFrom_136 ?_
                  refine X_aload_n dX11_replaceFrom_137 (i := 0) rfl rfl ?_
                  refine X_get (i := 39) h9 rfl (ci := 10) rfl in11 (k := 18) (by decide) fX11_43 rfl dX11_replaceFrom_138 ?_
                  refine X_iload_n dX11_replaceFrom_141 (i := 1) rfl rfl ?_
                  refine X_iald (i := 51) hL.2.2.2.2.2.2.2.2 rfl rfl (by omega) (by decide) dX11_replaceFrom_142 ?_
                  refine X_callV (gc2 := 0) (gs2 := 0) (m_puts h9 hL hnl hI h9z (pa L j) (po L j) c q n (la L j) (op L j) (cs L j)) (i := 39) h9 rfl rfl kmX11_puts rfl lX11_126 iX11_puts vX11_puts rfl rfl (Nat.le_of_ble_eq_true rfl) (by decide) dX11_replaceFrom_143 (by decide) (by decide) (fun E w1 hq => nomatch hq.1) (fun v w1 hq => ?_)
                  have hv := hq.1
                  obtain rfl := hq.2.symm
                  cases hv
                  have k39 : cel (mPut G.2.2.1 w (newL L (pa L j) (po L j) c q 0 n (la L j) (op L j) (cs L j)) np nl no nm nw en) 39 (m39 w 0 np (nl + 1) no nm nw en) := ⟨h9.1, rfl⟩
                  have k48 : cel (mPut G.2.2.1 w (newL L (pa L j) (po L j) c q 0 n (la L j) (op L j) (cs L j)) np nl no nm nw en) 48 (aI G.2.2.1 40 (nf (va_up (la L) (ln L) (la L j)))) := ⟨hL.2.2.2.2.2.1.1, rfl⟩
                  have k49 : cel (mPut G.2.2.1 w (newL L (pa L j) (po L j) c q 0 n (la L j) (op L j) (cs L j)) np nl no nm nw en) 49 (aI G.2.2.1 40 (nf (va_up (sc L) (ln L) 0))) := ⟨hL.2.2.2.2.2.2.1.1, rfl⟩
                  refine X_istore (i := 5) (lo' := [(5, _), (0, _), (1, _), (2, _), (3, _), (4, _)]) dX11_replaceFrom_146 (by decide) rfl ?_
                  refine X_aload_n dX11_replaceFrom_148 (i := 0) rfl rfl ?_
                  refine X_get (i := 39) k39 rfl (ci := 10) rfl in11 (k := 16) (by decide) fX11_37 rfl dX11_replaceFrom_149 ?_
                  refine X_iload dX11_replaceFrom_152 (i := 5) rfl ?_
                  refine X_aload_n dX11_replaceFrom_154 (i := 0) rfl rfl ?_
                  refine X_get (i := 39) k39 rfl (ci := 10) rfl in11 (k := 16) (by decide) fX11_37 rfl dX11_replaceFrom_155 ?_
                  refine X_iload_n dX11_replaceFrom_158 (i := 1) rfl rfl ?_
                  refine X_iald (i := 49) k49 rfl rfl (by omega) (by decide) dX11_replaceFrom_159 ?_
                  refine XJ.top (v' := .int (nI (sc L j))) (by show Value.int (nI (va_up (sc L) (ln L) 0 j)) = _; simp only [va_up]; rw [if_neg (by omega)]) ?_
                  have k5 : j ≠ ln L := by omega
                  refine X_iast (i := 49) k49 rfl rfl (by omega) (by decide) dX11_replaceFrom_160 (fun hc_160 => ?_)
                  refine X_aload_n dX11_replaceFrom_161 (i := 0) rfl rfl ?_
                  refine X_get (i := 39) k39 rfl (ci := 10) rfl in11 (k := 15) (by decide) fX11_34 rfl dX11_replaceFrom_162 ?_
                  refine X_iload_n dX11_replaceFrom_165 (i := 1) rfl rfl ?_
                  refine X_iload_n dX11_replaceFrom_166 (i := 2) rfl rfl ?_
                  refine X_iconst (v := 1) dX11_replaceFrom_167 (by decide) ?_
                  refine X_isub dX11_replaceFrom_168 ?_
                  refine XJ.top (v' := .int (nI (n - 1))) (by rw [show (1 : Int32) = nI 1 from rfl, pk_sub (by omega)]) ?_
                  refine X_iast (i := 48) k48 rfl rfl (by omega) (by decide) dX11_replaceFrom_169 (fun hc_169 => ?_)
                  refine X_iload dX11_replaceFrom_170 (i := 5) rfl ?_
                  refine X_ireturn dX11_replaceFrom_172 rfl rfl ?_
                  refine ⟨_, rfl, fun _ => rfl, ?_⟩
                  rw [hcd, if_pos rfl, gj, idx_nI (show n < 2 ^ 31 by omega), idx_nI (show c < 2 ^ 31 by omega), idx_nI (show q < 2 ^ 31 by omega)]
                  simp only [repL, sc, la, nf_up, bx_uu, ← hnl]
                · have g7 : nl = 40 := (nI_eq (by omega) (by decide)).mp h8
                  have hcd := hcd0.trans (cdL_4 g5 (by rw [g6, hnl, g7]; simp))
                  refine X_aload_n dX11_replaceFrom_102 (i := 0) rfl rfl ?_
                  refine X_iconst (v := 4) dX11_replaceFrom_103 (by decide) ?_
                  refine X_callV (gc2 := 0) (gs2 := 0) (m_fails h9 4) (i := 39) h9 rfl rfl kmX11_fails rfl lX11_105 iX11_fails vX11_fails rfl rfl (Nat.le_of_ble_eq_true rfl) (by decide) dX11_replaceFrom_104 (by decide) (by decide) (fun E w1 hq => nomatch hq.1) (fun v w1 hq => ?_)
                  have hv := hq.1
                  obtain rfl := hq.2.symm
                  cases hv
                  refine X_ireturn dX11_replaceFrom_107 rfl rfl ?_
                  exact ⟨0, rfl, fun h => absurd h (by rw [hcd]; decide), by rw [hcd]; rfl⟩
            · have hcd := hcd0.trans (cdL_3 (by rw [hnl]; exact bI_ne h6))
              refine X_aload_n dX11_replaceFrom_73 (i := 0) rfl rfl ?_
              refine X_iconst (v := 3) dX11_replaceFrom_74 (by decide) ?_
              refine X_callV (gc2 := 0) (gs2 := 0) (m_fails h9 3) (i := 39) h9 rfl rfl kmX11_fails rfl lX11_105 iX11_fails vX11_fails rfl rfl (Nat.le_of_ble_eq_true rfl) (by decide) dX11_replaceFrom_75 (by decide) (by decide) (fun E w1 hq => nomatch hq.1) (fun v w1 hq => ?_)
              have hv := hq.1
              obtain rfl := hq.2.symm
              cases hv
              refine X_ireturn dX11_replaceFrom_78 rfl rfl ?_
              exact ⟨0, rfl, fun h => absurd h (by rw [hcd]; decide), by rw [hcd]; rfl⟩
          · have hcd : cdRF np L (nI j) s (nI c) q = 2 := by rw [cdRF, g1, g2, g3, gj, cutOK_f2 h5]; rfl
            refine X_aload_n dX11_replaceFrom_53 (i := 0) rfl rfl ?_
            refine X_iconst (v := 2) dX11_replaceFrom_54 (by decide) ?_
            refine X_callV (gc2 := 0) (gs2 := 0) (m_fails h9 2) (i := 39) h9 rfl rfl kmX11_fails rfl lX11_105 iX11_fails vX11_fails rfl rfl (Nat.le_of_ble_eq_true rfl) (by decide) dX11_replaceFrom_55 (by decide) (by decide) (fun E w1 hq => nomatch hq.1) (fun v w1 hq => ?_)
            have hv := hq.1
            obtain rfl := hq.2.symm
            cases hv
            refine X_ireturn dX11_replaceFrom_58 rfl rfl ?_
            exact ⟨0, rfl, fun h => absurd h (by rw [hcd]; decide), by rw [hcd]; rfl⟩
    · have hcd : cdRF np L l s c q = 1 := by rw [cdRF, bI_eq h2, Bool.and_false]; rfl
      refine X_aload_n dX11_replaceFrom_16 (i := 0) rfl rfl ?_
      refine X_iconst (v := 1) dX11_replaceFrom_17 (by decide) ?_
      refine X_callV (gc2 := 0) (gs2 := 0) (m_fails h9 1) (i := 39) h9 rfl rfl kmX11_fails rfl lX11_105 iX11_fails vX11_fails rfl rfl (Nat.le_of_ble_eq_true rfl) (by decide) dX11_replaceFrom_18 (by decide) (by decide) (fun E w1 hq => nomatch hq.1) (fun v w1 hq => ?_)
      have hv := hq.1
      obtain rfl := hq.2.symm
      cases hv
      refine X_ireturn dX11_replaceFrom_21 rfl rfl ?_
      exact ⟨0, rfl, fun h => absurd h (by rw [hcd]; decide), by rw [hcd]; rfl⟩
end RepM
