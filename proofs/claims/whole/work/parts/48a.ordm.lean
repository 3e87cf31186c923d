/-! ORDERS of the reference (walks by gen/spec48.py) -/
section OrdM
variable {G : Gx} {w : Wd} {t np nl no nm nw en : Nat}
/-- the row of choices while an order's are written -/
def chI (O : OSt) (n : Nat) (pr : Nat → Nat) (i k : Nat) : Nat := if k / 4 = n ∧ k % 4 < i then pr (k % 4) else O.2.2.2.2.1 (k / 4) (k % 4)
theorem chI_0 {O : OSt} {n : Nat} {pr : Nat → Nat} : chI O n pr 0 = fun k => O.2.2.2.2.1 (k / 4) (k % 4) := by
  funext k
  exact if_neg (by omega)
theorem chI_4 {O : OSt} {n : Nat} {pr : Nat → Nat} : chI O n pr 4 = fun k => va_up O.2.2.2.2.1 n pr (k / 4) (k % 4) := by
  funext k
  simp only [chI, va_up]
  by_cases h : k / 4 = n
  · rw [if_pos ⟨h, Nat.mod_lt _ (by decide)⟩, if_pos h]
  · rw [if_neg (fun h2 => h h2.1), if_neg h]
theorem chI_s {O : OSt} {n i : Nat} {pr : Nat → Nat} (hi : i < 4) : va_up (nf (chI O n pr i)) (4 * n + i) (nI (pr i)) = nf (chI O n pr (i + 1)) := by
  rw [nf_up]
  congr 1
  funext k
  simp only [chI, va_up]
  by_cases h : k = 4 * n + i
  · subst h
    rw [if_pos rfl, if_pos (by omega), show (4 * n + i) % 4 = i by omega]
  · rw [if_neg h]
    by_cases h2 : k / 4 = n ∧ k % 4 < i
    · rw [if_pos h2, if_pos (by omega)]
    · rw [if_neg h2, if_neg (by omega)]
def mo3 (K : Nat → ClassId) (w : Wd) (O' : OSt) (np nl no nm nw en : Nat) (f : Nat → Nat) : Wd := setM (setM (setM (setM (setM w 39 (m39 w 0 np nl no nm nw en)) 54 (aI K 8 (nf O'.2.1))) 55 (aI K 8 (nf O'.2.2.1))) 56 (aI K 8 (nf O'.2.2.2.1))) 57 (aI K 32 (nf f))
def moW (K : Nat → ClassId) (w : Wd) (O' : OSt) (np nl no nm nw en : Nat) : Wd := setM (mo3 K w O' np nl no nm nw en (fun k => O'.2.2.2.2.1 (k / 4) (k % 4))) 39 (m39 w 0 np nl (no + 1) nm nw en)
set_option maxRecDepth 20000 in
theorem m_order (h9 : M0 w t np nl no nm nw en) (h16 : np ≤ 16) {O : OSt} (hO : MO G.2.2.1 w O) (hno : O.1 = no) (hOI : OI np O) {pr : Nat → Nat} (hC : MC G.2.2.1 w pr) (p s u : Int32) : XC G mX11_order 3 0 0 [.ref (w.1 39), .int p, .int s, .int u] w (fun r w' => ∃ v : Int32, r = .inl (some (.int v)) ∧ (cdO p s u np no = 0 → v = nI no) ∧ w' = if cdO p s u np no = 0 then moW G.2.2.1 w (addO O (idx p) (idx s) (idx u) pr) np nl no nm nw en else setM w 39 (m39 w (cdO p s u np no) np nl no nm nw en)) := by
  refine XC.of (lo0 := [(0, .ref (w.1 39)), (1, .int p), (2, .int s), (3, .int u)]) kmX11_order (Nat.le_of_ble_eq_true rfl) rfl ?_
  refine X_aload_n dX11_order_0 (i := 0) rfl rfl ?_
  refine X_iload_n dX11_order_1 (i := 1) rfl rfl ?_
  refine X_callV (gc2 := 0) (gs2 := 0) (m_isPart h9 h16 p) (i := 39) h9 rfl rfl kmX11_isPart rfl lX11_96 iX11_isPart vX11_isPart rfl rfl (Nat.le_of_ble_eq_true rfl) (by decide) dX11_order_2 (by decide) (by decide) (fun E w1 hq => nomatch hq.1) (fun v w1 hq => ?_)
  have hv := hq.1
  obtain rfl := hq.2.symm
  cases hv
  refine X_if_ne (tgt := 14) dX11_order_5 (by decide) (fun h1 => ?_) (fun h1 => ?_)
  · refine X_iload_n dX11_order_14 (i := 2) rfl rfl ?_
    refine X_iconst (v := 1) dX11_order_15 (by decide) ?_
    refine X_sipush (v := 999) dX11_order_16 (by decide) ?_
    refine X_callS (gc2 := 0) (gs2 := 0) (m_in s 1 999) kmX11_in rfl lX11_89 sX11_in rfl rfl (Nat.le_of_ble_eq_true rfl) (by decide) dX11_order_19 (by decide) (by decide) (fun E w1 hq => nomatch hq.1) (fun v w1 hq => ?_)
    have hv := hq.1
    obtain rfl := hq.2.symm
    cases hv
    refine X_if_eq (tgt := 36) dX11_order_22 (by decide) (fun h2 => ?_) (fun h2 => ?_)
    · have hcd := cdO_2 (u := u) (no := no) (bI_ne h1) (by rw [bI_eq h2]; rfl)
      refine X_aload_n dX11_order_36 (i := 0) rfl rfl ?_
      refine X_iconst (v := 2) dX11_order_37 (by decide) ?_
      refine X_callV (gc2 := 0) (gs2 := 0) (m_fails h9 2) (i := 39) h9 rfl rfl kmX11_fails rfl lX11_105 iX11_fails vX11_fails rfl rfl (Nat.le_of_ble_eq_true rfl) (by decide) dX11_order_38 (by decide) (by decide) (fun E w1 hq => nomatch hq.1) (fun v w1 hq => ?_)
      have hv := hq.1
      obtain rfl := hq.2.symm
      cases hv
      refine X_ireturn dX11_order_41 rfl rfl ?_
      exact ⟨_, rfl, fun h => absurd h (by rw [hcd]; decide), by rw [hcd]; rfl⟩
    · refine X_iload_n dX11_order_25 (i := 3) rfl rfl ?_
      refine X_iconst (v := 1) dX11_order_26 (by decide) ?_
      refine X_sipush (v := 999) dX11_order_27 (by decide) ?_
      refine X_callS (gc2 := 0) (gs2 := 0) (m_in u 1 999) kmX11_in rfl lX11_89 sX11_in rfl rfl (Nat.le_of_ble_eq_true rfl) (by decide) dX11_order_30 (by decide) (by decide) (fun E w1 hq => nomatch hq.1) (fun v w1 hq => ?_)
      have hv := hq.1
      obtain rfl := hq.2.symm
      cases hv
      refine X_if_ne (tgt := 42) dX11_order_33 (by decide) (fun h3 => ?_) (fun h3 => ?_)
      · refine X_aload_n dX11_order_42 (i := 0) rfl rfl ?_
        refine X_get (i := 39) h9 rfl (ci := 10) rfl in11 (k := 3) (by decide) fX11_213 rfl dX11_order_43 ?_
        refine X_bipush (v := 8) dX11_order_46 (by decide) ?_
        refine X_icmp_ne (tgt := 57) dX11_order_48 (by decide) (fun h4 => ?_) (fun h4 => ?_)
        · have h5 : no < 8 := by have h6 : no ≠ 8 := (fun h => h4 (by rw [h]; rfl)); have := hOI.1; omega
          have hcd := cdO_0 (no := no) (bI_ne h1) (bI_ne h2) (bI_ne h3) (by omega)
          obtain ⟨p, hp, rfl⟩ := inP_of (by omega) (bI_ne h1)
          obtain ⟨s, hs1, hs2, rfl⟩ := btw_n (lo := 1) (hi := 999) (by decide) (by decide) (bI_ne h2)
          obtain ⟨u, hu1, hu2, rfl⟩ := btw_n (lo := 1) (hi := 999) (by decide) (by decide) (bI_ne h3)
          refine X_aload_n dX11_order_57 (i := 0) rfl rfl ?_
          refine X_iconst (v := 0) dX11_order_58 (by decide) ?_
          refine X_put tyX11 tyX11_ok nmX11 (i := 39) h9 rfl (ci := 10) rfl in11 (k := 0) (by decide) fX11_82 rfl rfl rfl (Nat.le_of_ble_eq_true rfl) dX11_order_59 (fun hc_59 => ?_)
          refine X_aload_n dX11_order_62 (i := 0) rfl rfl ?_
          refine X_get (i := 39) hc_59 rfl (ci := 10) rfl in11 (k := 21) (by decide) fX11_52 rfl dX11_order_63 ?_
          refine X_aload_n dX11_order_66 (i := 0) rfl rfl ?_
          refine X_get (i := 39) hc_59 rfl (ci := 10) rfl in11 (k := 3) (by decide) fX11_213 rfl dX11_order_67 ?_
          refine X_iload_n dX11_order_70 (i := 1) rfl rfl ?_
          refine X_iast (i := 54) hO.1 rfl rfl (by omega) (by decide) dX11_order_71 (fun hc_71 => ?_)
          refine X_aload_n dX11_order_72 (i := 0) rfl rfl ?_
          refine X_get (i := 39) hc_59 rfl (ci := 10) rfl in11 (k := 22) (by decide) fX11_55 rfl dX11_order_73 ?_
          refine X_aload_n dX11_order_76 (i := 0) rfl rfl ?_
          refine X_get (i := 39) hc_59 rfl (ci := 10) rfl in11 (k := 3) (by decide) fX11_213 rfl dX11_order_77 ?_
          refine X_iload_n dX11_order_80 (i := 2) rfl rfl ?_
          refine X_iast (i := 55) hO.2.1 rfl rfl (by omega) (by decide) dX11_order_81 (fun hc_81 => ?_)
          refine X_aload_n dX11_order_82 (i := 0) rfl rfl ?_
          refine X_get (i := 39) hc_59 rfl (ci := 10) rfl in11 (k := 23) (by decide) fX11_58 rfl dX11_order_83 ?_
          refine X_aload_n dX11_order_86 (i := 0) rfl rfl ?_
          refine X_get (i := 39) hc_59 rfl (ci := 10) rfl in11 (k := 3) (by decide) fX11_213 rfl dX11_order_87 ?_
          refine X_iload_n dX11_order_90 (i := 3) rfl rfl ?_
          refine X_iast (i := 56) hO.2.2.1 rfl rfl (by omega) (by decide) dX11_order_91 (fun hc_91 => ?_)
          refine X_iconst (v := 0) dX11_order_92 (by decide) ?_
          refine X_istore (i := 4) (lo' := [(4, _), (0, _), (1, _), (2, _), (3, _)]) dX11_order_93 (by decide) rfl ?_
          have hloop : ∀ (n : Nat) (i : Nat), 4 - i < n → i ≤ 4 → XJ G mX11_order 3 0 0 95 [(0, .ref (w.1 39)), (1, .int (nI p)), (2, .int (nI s)), (3, .int (nI u)), (4, .int (nI i))] [] (mo3 G.2.2.1 w (addO O p s u pr) np nl no nm nw en (chI O no pr i)) (fun r w' => ∃ v : Int32, r = .inl (some (.int v)) ∧ (cdO (nI p) (nI s) (nI u) np no = 0 → v = nI no) ∧ w' = if cdO (nI p) (nI s) (nI u) np no = 0 then moW G.2.2.1 w (addO O (idx (nI p)) (idx (nI s)) (idx (nI u)) pr) np nl no nm nw en else setM w 39 (m39 w (cdO (nI p) (nI s) (nI u) np no) np nl no nm nw en)) := by
            intro n
            induction n with
            | zero => intro i hm hi; exact absurd hm (Nat.not_lt_zero _)
            | succ n ih =>
              intro i hm hi
              have k39 : cel (mo3 G.2.2.1 w (addO O p s u pr) np nl no nm nw en (chI O no pr i)) 39 (m39 w 0 np nl no nm nw en) := ⟨h9.1, rfl⟩
              have k57 : cel (mo3 G.2.2.1 w (addO O p s u pr) np nl no nm nw en (chI O no pr i)) 57 (aI G.2.2.1 32 (nf (chI O no pr i))) := ⟨hO.2.2.2.1.1, rfl⟩
              refine X_iload dX11_order_95 (i := 4) rfl ?_
              refine X_iconst (v := 4) dX11_order_97 (by decide) ?_
              refine X_icmp_ge (tgt := 128) dX11_order_98 (by decide) (fun h5 => ?_) (fun h5 => ?_)
              · have h6 : i = 4 := by have := ge_nI (a := 4) (by decide) (by omega) h5; omega
                subst h6
                refine X_aload_n dX11_order_128 (i := 0) rfl rfl ?_
                refine X_dup dX11_order_129 rfl ?_
                refine X_get (i := 39) k39 rfl (ci := 10) rfl in11 (k := 3) (by decide) fX11_213 rfl dX11_order_130 ?_
                refine X_iconst (v := 1) dX11_order_133 (by decide) ?_
                refine X_iadd dX11_order_134 ?_
                refine XJ.top (v' := _) (congrArg Value.int (nI_1 _)) ?_
                refine X_put tyX11 tyX11_ok nmX11 (i := 39) k39 rfl (ci := 10) rfl in11 (k := 3) (by decide) fX11_213 rfl rfl rfl (Nat.le_of_ble_eq_true rfl) dX11_order_135 (fun hc_135 => ?_)
                refine X_aload_n dX11_order_138 (i := 0) rfl rfl ?_
                refine X_get (i := 39) hc_135 rfl (ci := 10) rfl in11 (k := 3) (by decide) fX11_213 rfl dX11_order_139 ?_
                refine X_iconst (v := 1) dX11_order_142 (by decide) ?_
                refine X_isub dX11_order_143 ?_
                refine XJ.top (v' := .int (nI no)) (by rw [show (1 : Int32) = nI 1 from rfl, pk_sub (by omega)]; rfl) ?_
                refine X_ireturn dX11_order_144 rfl rfl ?_
                exact ⟨_, rfl, fun _ => rfl, by rw [hcd, if_pos rfl, idx_nI (by omega), idx_nI (by omega), idx_nI (by omega), moW, chI_4]; subst hno; rfl⟩
              · have h6 : i < 4 := nge_nI (a := 4) (by decide) (by omega) h5
                refine X_aload_n dX11_order_101 (i := 0) rfl rfl ?_
                refine X_get (i := 39) k39 rfl (ci := 10) rfl in11 (k := 24) (by decide) fX11_61 rfl dX11_order_102 ?_
                refine X_iconst (v := 4) dX11_order_105 (by decide) ?_
                refine X_aload_n dX11_order_106 (i := 0) rfl rfl ?_
                refine X_get (i := 39) k39 rfl (ci := 10) rfl in11 (k := 3) (by decide) fX11_213 rfl dX11_order_107 ?_
                refine X_imul dX11_order_110 ?_
                refine XJ.top (v' := .int (nI (4 * no))) (by rw [show (4 : Int32) = nI 4 from rfl, nI_mulx]) ?_
                refine X_iload dX11_order_111 (i := 4) rfl ?_
                refine X_iadd dX11_order_113 ?_
                refine XJ.top (v' := .int (nI (4 * no + i))) (by rw [nI_add]) ?_
                refine X_aload_n dX11_order_114 (i := 0) rfl rfl ?_
                refine X_get (i := 39) k39 rfl (ci := 10) rfl in11 (k := 19) (by decide) fX11_46 rfl dX11_order_115 ?_
                refine X_iload dX11_order_118 (i := 4) rfl ?_
                refine X_iald (i := 52) hC rfl rfl (by omega) (by decide) dX11_order_120 ?_
                refine X_iast (i := 57) k57 rfl rfl (by omega) (by decide) dX11_order_121 (fun hc_121 => ?_)
                refine X_iinc (i := 4) (v := nI (i + 1)) (lo' := [(4, _), (0, _), (1, _), (2, _), (3, _)]) dX11_order_122 rfl (nI_inc i) (by decide) rfl ?_
                refine X_goto (tgt := 95) dX11_order_125 (by decide) ?_
                refine XJ.wd (w' := (mo3 G.2.2.1 w (addO O p s u pr) np nl no nm nw en (chI O no pr (i + 1)))) (by rw [show va_up (nf (chI O no pr i)) (4 * no + i) (nf pr i) = nf (chI O no pr (i + 1)) from chI_s h6]; exact setM_setM) ?_
                exact XJ.lcs (lo' := [(0, .ref (w.1 39)), (1, .int (nI p)), (2, .int (nI s)), (3, .int (nI u)), (4, .int (nI (i + 1)))]) ⟨rfl, rfl, rfl, rfl, rfl, trivial⟩ (ih (i + 1) (by omega) (by omega))
          refine XJ.wd (w' := (mo3 G.2.2.1 w (addO O p s u pr) np nl no nm nw en (chI O no pr 0))) (by rw [nf_up, nf_up, nf_up, chI_0, mo3, ← hno]; exact (setM_id (show (setM (setM (setM (setM w 39 _) 54 _) 55 _) 56 _).2.2 57 = _ from hO.2.2.2.1.2)).symm) ?_
          exact XJ.lcs (lo' := [(0, .ref (w.1 39)), (1, .int (nI p)), (2, .int (nI s)), (3, .int (nI u)), (4, .int (nI 0))]) ⟨rfl, rfl, rfl, rfl, rfl, trivial⟩ (hloop 5 0 (by omega) (by omega))
        · have h5 : no = 8 := (nI_eq (by have := hOI.1; omega) (by decide)).mp h4
          have hcd := cdO_3 (np := np) (bI_ne h1) (bI_ne h2) (bI_ne h3)
          rw [← h5] at hcd
          refine X_aload_n dX11_order_51 (i := 0) rfl rfl ?_
          refine X_iconst (v := 3) dX11_order_52 (by decide) ?_
          refine X_callV (gc2 := 0) (gs2 := 0) (m_fails h9 3) (i := 39) h9 rfl rfl kmX11_fails rfl lX11_105 iX11_fails vX11_fails rfl rfl (Nat.le_of_ble_eq_true rfl) (by decide) dX11_order_53 (by decide) (by decide) (fun E w1 hq => nomatch hq.1) (fun v w1 hq => ?_)
          have hv := hq.1
          obtain rfl := hq.2.symm
          cases hv
          refine X_ireturn dX11_order_56 rfl rfl ?_
          exact ⟨_, rfl, fun h => absurd h (by rw [hcd]; decide), by rw [hcd]; rfl⟩
      · have hcd := cdO_2 (s := s) (u := u) (no := no) (bI_ne h1) (by rw [bI_eq h3, Bool.and_false])
        refine X_aload_n dX11_order_36 (i := 0) rfl rfl ?_
        refine X_iconst (v := 2) dX11_order_37 (by decide) ?_
        refine X_callV (gc2 := 0) (gs2 := 0) (m_fails h9 2) (i := 39) h9 rfl rfl kmX11_fails rfl lX11_105 iX11_fails vX11_fails rfl rfl (Nat.le_of_ble_eq_true rfl) (by decide) dX11_order_38 (by decide) (by decide) (fun E w1 hq => nomatch hq.1) (fun v w1 hq => ?_)
        have hv := hq.1
        obtain rfl := hq.2.symm
        cases hv
        refine X_ireturn dX11_order_41 rfl rfl ?_
        exact ⟨_, rfl, fun h => absurd h (by rw [hcd]; decide), by rw [hcd]; rfl⟩
  · have hcd := cdO_1 (s := s) (u := u) (no := no) (bI_eq h1)
    refine X_aload_n dX11_order_8 (i := 0) rfl rfl ?_
    refine X_iconst (v := 1) dX11_order_9 (by decide) ?_
    refine X_callV (gc2 := 0) (gs2 := 0) (m_fails h9 1) (i := 39) h9 rfl rfl kmX11_fails rfl lX11_105 iX11_fails vX11_fails rfl rfl (Nat.le_of_ble_eq_true rfl) (by decide) dX11_order_10 (by decide) (by decide) (fun E w1 hq => nomatch hq.1) (fun v w1 hq => ?_)
    have hv := hq.1
    obtain rfl := hq.2.symm
    cases hv
    refine X_ireturn dX11_order_13 rfl rfl ?_
    exact ⟨_, rfl, fun h => absurd h (by rw [hcd]; decide), by rw [hcd]; rfl⟩
set_option maxRecDepth 20000 in
theorem m_cancel (h9 : M0 w t np nl no nm nw en) {O : OSt} (hO : MO G.2.2.1 w O) (hno : O.1 = no) (hOI : OI np O) (o : Int32) : XC G mX11_cancel 3 0 0 [.ref (w.1 39), .int o] w (fun r w' => ∃ v : Int32, r = .inl (some (.int v)) ∧ (cdX o O = 0 → v = nI (cntB (fun k => !(canO O (idx o)).2.2.2.2.2 k) no)) ∧ w' = if cdX o O = 0 then setM (setM w 39 (m39 w 0 np nl no nm nw en)) 58 (aZ G.2.2.1 8 (fun k => bI ((canO O (idx o)).2.2.2.2.2 k))) else setM w 39 (m39 w (cdX o O) np nl no nm nw en)) := by
  have h8 := hOI.1
  refine XC.of (lo0 := [(0, .ref (w.1 39)), (1, .int o)]) kmX11_cancel (Nat.le_of_ble_eq_true rfl) rfl ?_
  refine X_iload_n dX11_cancel_0 (i := 1) rfl rfl ?_
  refine X_iconst (v := 0) dX11_cancel_1 (by decide) ?_
  refine X_aload_n dX11_cancel_2 (i := 0) rfl rfl ?_
  refine X_get (i := 39) h9 rfl (ci := 10) rfl in11 (k := 3) (by decide) fX11_213 rfl dX11_cancel_3 ?_
  refine X_iconst (v := 1) dX11_cancel_6 (by decide) ?_
  refine X_isub dX11_cancel_7 ?_
  refine X_callS (gc2 := 0) (gs2 := 0) (m_in o 0 (nI no - 1)) kmX11_in rfl lX11_89 sX11_in rfl rfl (Nat.le_of_ble_eq_true rfl) (by decide) dX11_cancel_8 (by decide) (by decide) (fun E w1 hq => nomatch hq.1) (fun v w1 hq => ?_)
  have hv := hq.1
  obtain rfl := hq.2.symm
  cases hv
  refine X_if_ne (tgt := 20) dX11_cancel_11 (by decide) (fun h1 => ?_) (fun h1 => ?_)
  · have hi : inP o no = true := by have := bI_ne h1; rw [btw_inP (by omega)] at this; exact this
    obtain ⟨j, hj, rfl⟩ := inP_of (by omega) hi
    have gj : idx (nI j) = j := idx_nI (by omega)
    refine X_aload_n dX11_cancel_20 (i := 0) rfl rfl ?_
    refine X_get (i := 39) h9 rfl (ci := 10) rfl in11 (k := 25) (by decide) fX11_64 rfl dX11_cancel_21 ?_
    refine X_iload_n dX11_cancel_24 (i := 1) rfl rfl ?_
    refine X_zald (i := 58) hO.2.2.2.2 rfl rfl (by omega) (by decide) dX11_cancel_25 ?_
    refine X_if_eq (tgt := 35) dX11_cancel_26 (by decide) (fun h2 => ?_) (fun h2 => ?_)
    · have hcd : cdX (nI j) O = 0 := by rw [cdX, hno, hi, gj, bI_eq h2]; rfl
      refine X_aload_n dX11_cancel_35 (i := 0) rfl rfl ?_
      refine X_iconst (v := 0) dX11_cancel_36 (by decide) ?_
      refine X_put tyX11 tyX11_ok nmX11 (i := 39) h9 rfl (ci := 10) rfl in11 (k := 0) (by decide) fX11_82 rfl rfl rfl (Nat.le_of_ble_eq_true rfl) dX11_cancel_37 (fun hc_37 => ?_)
      refine X_aload_n dX11_cancel_40 (i := 0) rfl rfl ?_
      refine X_get (i := 39) hc_37 rfl (ci := 10) rfl in11 (k := 25) (by decide) fX11_64 rfl dX11_cancel_41 ?_
      refine X_iload_n dX11_cancel_44 (i := 1) rfl rfl ?_
      refine X_iconst (v := 1) dX11_cancel_45 (by decide) ?_
      refine X_zast (i := 58) hO.2.2.2.2 rfl rfl (by omega) (by decide) dX11_cancel_46 (fun hc_46 => ?_)
      rw [show va_up (fun k => bI (O.2.2.2.2.2 k)) j (vp_nar .boolean 1) = fun k => bI ((canO O j).2.2.2.2.2 k) from up_map bI O.2.2.2.2.2 j true]
      refine X_iconst (v := 0) dX11_cancel_47 (by decide) ?_
      refine X_istore_n (i := 2) (lo' := [(2, _), (0, _), (1, _)]) dX11_cancel_48 rfl (by decide) rfl ?_
      refine X_iconst (v := 0) dX11_cancel_49 (by decide) ?_
      refine X_istore_n (i := 3) (lo' := [(3, _), (2, _), (0, _), (1, _)]) dX11_cancel_50 rfl (by decide) rfl ?_
      have hloop : ∀ (n : Nat) (k : Nat), no - k < n → k ≤ no → XJ G mX11_cancel 3 0 0 51 [(0, .ref (w.1 39)), (2, .int (nI (cntB (fun k => !(canO O j).2.2.2.2.2 k) k))), (3, .int (nI k))] [] (setM (setM w 39 (m39 w 0 np nl no nm nw en)) 58 (aZ G.2.2.1 8 (fun k => bI ((canO O j).2.2.2.2.2 k)))) (fun r w' => ∃ v : Int32, r = .inl (some (.int v)) ∧ (cdX (nI j) O = 0 → v = nI (cntB (fun k => !(canO O (idx (nI j))).2.2.2.2.2 k) no)) ∧ w' = if cdX (nI j) O = 0 then setM (setM w 39 (m39 w 0 np nl no nm nw en)) 58 (aZ G.2.2.1 8 (fun k => bI ((canO O (idx (nI j))).2.2.2.2.2 k))) else setM w 39 (m39 w (cdX (nI j) O) np nl no nm nw en)) := by
        intro n
        induction n with
        | zero => intro k hm hk; exact absurd hm (Nat.not_lt_zero _)
        | succ n ih =>
          intro k hm hk
          have k39 : cel (setM (setM w 39 (m39 w 0 np nl no nm nw en)) 58 (aZ G.2.2.1 8 (fun k => bI ((canO O j).2.2.2.2.2 k)))) 39 (m39 w 0 np nl no nm nw en) := ⟨h9.1, rfl⟩
          have k58 : cel (setM (setM w 39 (m39 w 0 np nl no nm nw en)) 58 (aZ G.2.2.1 8 (fun k => bI ((canO O j).2.2.2.2.2 k)))) 58 (aZ G.2.2.1 8 (fun k => bI ((canO O j).2.2.2.2.2 k))) := ⟨hO.2.2.2.2.1, rfl⟩
          refine X_iload_n dX11_cancel_51 (i := 3) rfl rfl ?_
          refine X_aload_n dX11_cancel_52 (i := 0) rfl rfl ?_
          refine X_get (i := 39) k39 rfl (ci := 10) rfl in11 (k := 3) (by decide) fX11_213 rfl dX11_cancel_53 ?_
          refine X_icmp_ge (tgt := 82) dX11_cancel_56 (by decide) (fun h4 => ?_) (fun h4 => ?_)
          · have h3 : k = no := by have := ge_nI (a := no) (by omega) (by omega) h4; omega
            subst h3
            refine X_iload_n dX11_cancel_82 (i := 2) rfl rfl ?_
            refine X_ireturn dX11_cancel_83 rfl rfl ?_
            exact ⟨_, rfl, fun _ => by rw [gj], by rw [hcd, if_pos rfl, gj]⟩
          · have h3 : k < no := nge_nI (a := no) (by omega) (by omega) h4
            refine X_iload_n dX11_cancel_59 (i := 2) rfl rfl ?_
            refine X_aload_n dX11_cancel_60 (i := 0) rfl rfl ?_
            refine X_get (i := 39) k39 rfl (ci := 10) rfl in11 (k := 25) (by decide) fX11_64 rfl dX11_cancel_61 ?_
            refine X_iload_n dX11_cancel_64 (i := 3) rfl rfl ?_
            refine X_zald (i := 58) k58 rfl rfl (by omega) (by decide) dX11_cancel_65 ?_
            refine X_if_eq (tgt := 73) dX11_cancel_66 (by decide) (fun h5 => ?_) (fun h5 => ?_)
            · have h6 := bI_eq h5
              refine X_iconst (v := 1) dX11_cancel_73 (by decide) ?_
              refine X_iadd dX11_cancel_74 ?_
              refine X_istore_n (i := 2) (lo' := [(2, _), (0, _), (3, _)]) dX11_cancel_75 rfl (by decide) rfl ?_
              refine X_iinc (i := 3) (v := nI (k + 1)) (lo' := [(3, _), (2, _), (0, _)]) dX11_cancel_76 rfl (nI_inc k) (by decide) rfl ?_
              refine X_goto (tgt := 51) dX11_cancel_79 (by decide) ?_
              first
                | exact XJ.lcs (lo' := [(0, .ref (w.1 39)), (2, .int (nI (cntB (fun k => !(canO O j).2.2.2.2.2 k) (k + 1)))), (3, .int (nI (k + 1)))]) ⟨rfl, (congrArg (fun x => some (Value.int x)) (show nI (cntB (fun k => !(canO O j).2.2.2.2.2 k) k) + 1 = nI (cntB (fun k => !(canO O j).2.2.2.2.2 k) k + (bif !(canO O j).2.2.2.2.2 k then 1 else 0)) by rw [h6]; first | exact Int32.add_zero _ | exact nI_1 _)), rfl, trivial⟩ (ih (k + 1) (by omega) (by omega))
                | exact XJ.lcs (lo' := [(0, .ref (w.1 39)), (2, .int (nI (cntB (fun k => !(canO O j).2.2.2.2.2 k) (k + 1)))), (3, .int (nI (k + 1)))]) ⟨rfl, (congrArg (fun x => some (Value.int x)) (show nI (cntB (fun k => !(canO O j).2.2.2.2.2 k) k) + 0 = nI (cntB (fun k => !(canO O j).2.2.2.2.2 k) k + (bif !(canO O j).2.2.2.2.2 k then 1 else 0)) by rw [h6]; first | exact Int32.add_zero _ | exact nI_1 _)), rfl, trivial⟩ (ih (k + 1) (by omega) (by omega))
            · have h6 := bI_ne h5
              refine X_iconst (v := 0) dX11_cancel_69 (by decide) ?_
              refine X_goto (tgt := 74) dX11_cancel_70 (by decide) ?_
              refine X_iadd dX11_cancel_74 ?_
              refine X_istore_n (i := 2) (lo' := [(2, _), (0, _), (3, _)]) dX11_cancel_75 rfl (by decide) rfl ?_
              refine X_iinc (i := 3) (v := nI (k + 1)) (lo' := [(3, _), (2, _), (0, _)]) dX11_cancel_76 rfl (nI_inc k) (by decide) rfl ?_
              refine X_goto (tgt := 51) dX11_cancel_79 (by decide) ?_
              first
                | exact XJ.lcs (lo' := [(0, .ref (w.1 39)), (2, .int (nI (cntB (fun k => !(canO O j).2.2.2.2.2 k) (k + 1)))), (3, .int (nI (k + 1)))]) ⟨rfl, (congrArg (fun x => some (Value.int x)) (show nI (cntB (fun k => !(canO O j).2.2.2.2.2 k) k) + 1 = nI (cntB (fun k => !(canO O j).2.2.2.2.2 k) k + (bif !(canO O j).2.2.2.2.2 k then 1 else 0)) by rw [h6]; first | exact Int32.add_zero _ | exact nI_1 _)), rfl, trivial⟩ (ih (k + 1) (by omega) (by omega))
                | exact XJ.lcs (lo' := [(0, .ref (w.1 39)), (2, .int (nI (cntB (fun k => !(canO O j).2.2.2.2.2 k) (k + 1)))), (3, .int (nI (k + 1)))]) ⟨rfl, (congrArg (fun x => some (Value.int x)) (show nI (cntB (fun k => !(canO O j).2.2.2.2.2 k) k) + 0 = nI (cntB (fun k => !(canO O j).2.2.2.2.2 k) k + (bif !(canO O j).2.2.2.2.2 k then 1 else 0)) by rw [h6]; first | exact Int32.add_zero _ | exact nI_1 _)), rfl, trivial⟩ (ih (k + 1) (by omega) (by omega))
      exact XJ.lcs (lo' := [(0, .ref (w.1 39)), (2, .int (nI (cntB (fun k => !(canO O j).2.2.2.2.2 k) 0))), (3, .int (nI 0))]) ⟨rfl, rfl, rfl, trivial⟩ (hloop (no + 1) 0 (by omega) (by omega))
    · have hcd : cdX (nI j) O = 2 := by rw [cdX, hno, hi, gj, bI_ne h2]; rfl
      refine X_aload_n dX11_cancel_29 (i := 0) rfl rfl ?_
      refine X_iconst (v := 2) dX11_cancel_30 (by decide) ?_
      refine X_callV (gc2 := 0) (gs2 := 0) (m_fails h9 2) (i := 39) h9 rfl rfl kmX11_fails rfl lX11_105 iX11_fails vX11_fails rfl rfl (Nat.le_of_ble_eq_true rfl) (by decide) dX11_cancel_31 (by decide) (by decide) (fun E w1 hq => nomatch hq.1) (fun v w1 hq => ?_)
      have hv := hq.1
      obtain rfl := hq.2.symm
      cases hv
      refine X_ireturn dX11_cancel_34 rfl rfl ?_
      exact ⟨_, rfl, fun h => absurd h (by rw [hcd]; decide), by rw [hcd]; rfl⟩
  · have hi : inP o no = false := by have := bI_eq h1; rw [btw_inP (by omega)] at this; exact this
    have hcd : cdX o O = 1 := by rw [cdX, hno, hi]; rfl
    refine X_aload_n dX11_cancel_14 (i := 0) rfl rfl ?_
    refine X_iconst (v := 1) dX11_cancel_15 (by decide) ?_
    refine X_callV (gc2 := 0) (gs2 := 0) (m_fails h9 1) (i := 39) h9 rfl rfl kmX11_fails rfl lX11_105 iX11_fails vX11_fails rfl rfl (Nat.le_of_ble_eq_true rfl) (by decide) dX11_cancel_16 (by decide) (by decide) (fun E w1 hq => nomatch hq.1) (fun v w1 hq => ?_)
    have hv := hq.1
    obtain rfl := hq.2.symm
    cases hv
    refine X_ireturn dX11_cancel_19 rfl rfl ?_
    exact ⟨_, rfl, fun h => absurd h (by rw [hcd]; decide), by rw [hcd]; rfl⟩
end OrdM
