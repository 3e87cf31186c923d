/-! REFERENCE: lines put, replaced, ended; choices (walks by gen/spec31.py) -/
section PutM
variable {G : Gx} {w : Wd} {t np nl no nm nw en : Nat}
def mPut (K : Nat → ClassId) (w : Wd) (L' : LSt) (np nl no nm nw en : Nat) : Wd := setM (setM (setM (setM (setM (setM (setM (setM (setM (setM (setM w 39 (m39 w 0 np nl no nm nw en)) 43 (aI K 40 (nf (pa L')))) 44 (aI K 40 (nf (po L')))) 45 (aI K 40 (nf (ch L')))) 46 (aI K 40 (nf (qt L')))) 47 (aI K 40 (nf (fi L')))) 48 (aI K 40 (nf (la L')))) 50 (aI K 40 (fun j => nI (op L' j) - 1))) 51 (aI K 40 (nf (cs L')))) 49 (aI K 40 (nf (sc L')))) 39 (m39 w 0 np (nl + 1) no nm nw en)
set_option maxRecDepth 20000 in
theorem m_puts (h9 : M0 w t np nl no nm nw en) {L : LSt} (hL : ML G.2.2.1 w L) (hnl : ln L = nl) (hI : LI np L) (hlt : nl < 40) (p k c q a b o s : Nat) : XC G mX11_puts 0 0 0 [.ref (w.1 39), .int (nI p), .int (nI k), .int (nI c), .int (nI q), .int (nI a), .int (nI b), .int (nI o - 1), .int (nI s)] w (fun r w' => r = .inl (some (.int (nI nl))) ∧ w' = mPut G.2.2.1 w (newL L p k c q 0 a b o s) np nl no nm nw en) := by
  refine XC.of (lo0 := [(0, .ref (w.1 39)), (1, .int (nI p)), (2, .int (nI k)), (3, .int (nI c)), (4, .int (nI q)), (5, .int (nI a)), (6, .int (nI b)), (7, .int (nI o - 1)), (8, .int (nI s))]) kmX11_puts (Nat.le_of_ble_eq_true rfl) rfl ?_
  refine X_aload_n dX11_puts_0 (i := 0) rfl rfl ?_
  refine X_iconst (v := 0) dX11_puts_1 (by decide) ?_
  refine X_put tyX11 tyX11_ok nmX11 (i := 39) h9 rfl (ci := 10) rfl in11 (k := 0) (by decide) fX11_82 rfl rfl rfl (Nat.le_of_ble_eq_true rfl) dX11_puts_2 (fun hc_2 => ?_)
  refine X_aload_n dX11_puts_5 (i := 0) rfl rfl ?_
  refine X_get (i := 39) hc_2 rfl (ci := 10) rfl in11 (k := 10) (by decide) fX11_19 rfl dX11_puts_6 ?_
  refine X_aload_n dX11_puts_9 (i := 0) rfl rfl ?_
  refine X_get (i := 39) hc_2 rfl (ci := 10) rfl in11 (k := 2) (by decide) fX11_93 rfl dX11_puts_10 ?_
  refine X_iload_n dX11_puts_13 (i := 1) rfl rfl ?_
  refine X_iast (i := 43) hL.1 rfl rfl (by omega) (by decide) dX11_puts_14 (fun hc_14 => ?_)
  refine X_aload_n dX11_puts_15 (i := 0) rfl rfl ?_
  refine X_get (i := 39) hc_2 rfl (ci := 10) rfl in11 (k := 11) (by decide) fX11_22 rfl dX11_puts_16 ?_
  refine X_aload_n dX11_puts_19 (i := 0) rfl rfl ?_
  refine X_get (i := 39) hc_2 rfl (ci := 10) rfl in11 (k := 2) (by decide) fX11_93 rfl dX11_puts_20 ?_
  refine X_iload_n dX11_puts_23 (i := 2) rfl rfl ?_
  refine X_iast (i := 44) hL.2.1 rfl rfl (by omega) (by decide) dX11_puts_24 (fun hc_24 => ?_)
  refine X_aload_n dX11_puts_25 (i := 0) rfl rfl ?_
  refine X_get (i := 39) hc_2 rfl (ci := 10) rfl in11 (k := 12) (by decide) fX11_25 rfl dX11_puts_26 ?_
  refine X_aload_n dX11_puts_29 (i := 0) rfl rfl ?_
  refine X_get (i := 39) hc_2 rfl (ci := 10) rfl in11 (k := 2) (by decide) fX11_93 rfl dX11_puts_30 ?_
  refine X_iload_n dX11_puts_33 (i := 3) rfl rfl ?_
  refine X_iast (i := 45) hL.2.2.1 rfl rfl (by omega) (by decide) dX11_puts_34 (fun hc_34 => ?_)
  refine X_aload_n dX11_puts_35 (i := 0) rfl rfl ?_
  refine X_get (i := 39) hc_2 rfl (ci := 10) rfl in11 (k := 13) (by decide) fX11_28 rfl dX11_puts_36 ?_
  refine X_aload_n dX11_puts_39 (i := 0) rfl rfl ?_
  refine X_get (i := 39) hc_2 rfl (ci := 10) rfl in11 (k := 2) (by decide) fX11_93 rfl dX11_puts_40 ?_
  refine X_iload dX11_puts_43 (i := 4) rfl ?_
  refine X_iast (i := 46) hL.2.2.2.1 rfl rfl (by omega) (by decide) dX11_puts_45 (fun hc_45 => ?_)
  refine X_aload_n dX11_puts_46 (i := 0) rfl rfl ?_
  refine X_get (i := 39) hc_2 rfl (ci := 10) rfl in11 (k := 14) (by decide) fX11_31 rfl dX11_puts_47 ?_
  refine X_aload_n dX11_puts_50 (i := 0) rfl rfl ?_
  refine X_get (i := 39) hc_2 rfl (ci := 10) rfl in11 (k := 2) (by decide) fX11_93 rfl dX11_puts_51 ?_
  refine X_iload dX11_puts_54 (i := 5) rfl ?_
  refine X_iast (i := 47) hL.2.2.2.2.1 rfl rfl (by omega) (by decide) dX11_puts_56 (fun hc_56 => ?_)
  refine X_aload_n dX11_puts_57 (i := 0) rfl rfl ?_
  refine X_get (i := 39) hc_2 rfl (ci := 10) rfl in11 (k := 15) (by decide) fX11_34 rfl dX11_puts_58 ?_
  refine X_aload_n dX11_puts_61 (i := 0) rfl rfl ?_
  refine X_get (i := 39) hc_2 rfl (ci := 10) rfl in11 (k := 2) (by decide) fX11_93 rfl dX11_puts_62 ?_
  refine X_iload dX11_puts_65 (i := 6) rfl ?_
  refine X_iast (i := 48) hL.2.2.2.2.2.1 rfl rfl (by omega) (by decide) dX11_puts_67 (fun hc_67 => ?_)
  refine X_aload_n dX11_puts_68 (i := 0) rfl rfl ?_
  refine X_get (i := 39) hc_2 rfl (ci := 10) rfl in11 (k := 17) (by decide) fX11_40 rfl dX11_puts_69 ?_
  refine X_aload_n dX11_puts_72 (i := 0) rfl rfl ?_
  refine X_get (i := 39) hc_2 rfl (ci := 10) rfl in11 (k := 2) (by decide) fX11_93 rfl dX11_puts_73 ?_
  refine X_iload dX11_puts_76 (i := 7) rfl ?_
  refine X_iast (i := 50) hL.2.2.2.2.2.2.2.1 rfl rfl (by omega) (by decide) dX11_puts_78 (fun hc_78 => ?_)
  refine X_aload_n dX11_puts_79 (i := 0) rfl rfl ?_
  refine X_get (i := 39) hc_2 rfl (ci := 10) rfl in11 (k := 18) (by decide) fX11_43 rfl dX11_puts_80 ?_
  refine X_aload_n dX11_puts_83 (i := 0) rfl rfl ?_
  refine X_get (i := 39) hc_2 rfl (ci := 10) rfl in11 (k := 2) (by decide) fX11_93 rfl dX11_puts_84 ?_
  refine X_iload dX11_puts_87 (i := 8) rfl ?_
  refine X_iast (i := 51) hL.2.2.2.2.2.2.2.2 rfl rfl (by omega) (by decide) dX11_puts_89 (fun hc_89 => ?_)
  refine X_aload_n dX11_puts_90 (i := 0) rfl rfl ?_
  refine X_get (i := 39) hc_2 rfl (ci := 10) rfl in11 (k := 16) (by decide) fX11_37 rfl dX11_puts_91 ?_
  refine X_aload_n dX11_puts_94 (i := 0) rfl rfl ?_
  refine X_get (i := 39) hc_2 rfl (ci := 10) rfl in11 (k := 2) (by decide) fX11_93 rfl dX11_puts_95 ?_
  refine X_iconst (v := 0) dX11_puts_98 (by decide) ?_
  refine X_iast (i := 49) hL.2.2.2.2.2.2.1 rfl rfl (by omega) (by decide) dX11_puts_99 (fun hc_99 => ?_)
  refine X_aload_n dX11_puts_100 (i := 0) rfl rfl ?_
  refine X_dup dX11_puts_101 rfl ?_
  refine X_get (i := 39) hc_2 rfl (ci := 10) rfl in11 (k := 2) (by decide) fX11_93 rfl dX11_puts_102 ?_
  refine X_iconst (v := 1) dX11_puts_105 (by decide) ?_
  refine X_iadd dX11_puts_106 ?_
  refine XJ.top (v' := .int (nI (nl + 1))) (by rw [← nI_1]) ?_
  refine X_put tyX11 tyX11_ok nmX11 (i := 39) hc_2 rfl (ci := 10) rfl in11 (k := 2) (by decide) fX11_93 rfl rfl rfl (Nat.le_of_ble_eq_true rfl) dX11_puts_107 (fun hc_107 => ?_)
  refine X_aload_n dX11_puts_110 (i := 0) rfl rfl ?_
  refine X_get (i := 39) hc_107 rfl (ci := 10) rfl in11 (k := 2) (by decide) fX11_93 rfl dX11_puts_111 ?_
  refine X_iconst (v := 1) dX11_puts_114 (by decide) ?_
  refine X_isub dX11_puts_115 ?_
  refine XJ.top (v' := .int (nI nl)) (by rw [nI_pred]) ?_
  refine X_ireturn dX11_puts_116 rfl rfl ?_
  refine ⟨rfl, ?_⟩
  subst hnl
  simp only [mPut, newL, pa, po, ch, qt, sc, fi, la, op, cs, ← nf_up]
  rw [show (fun j => nI (va_up (op L) (ln L) o j) - 1) = va_up (fun j => nI (op L j) - 1) (ln L) (nI o - 1) from (g_up (fun o => nI o - 1) (op L) (ln L) o).symm]
  rfl
theorem cdL_3 {L : LSt} {p c : Nat} {b : Bool} (h : rchB (ln L) (pa L) (ch L) 5 c p = true) : cdL L p c b = 3 := by rw [cdL, h]; rfl
theorem cdL_4 {L : LSt} {p c : Nat} {b : Bool} (h : rchB (ln L) (pa L) (ch L) 5 c p = false) (h2 : (deepB L p c || (b || decide (ln L = 40))) = true) : cdL L p c b = 4 := by rw [cdL, h, h2]; rfl
theorem cdL_0 {L : LSt} {p c : Nat} {b : Bool} (h : rchB (ln L) (pa L) (ch L) 5 c p = false) (h1 : deepB L p c = false) (h2 : b = false) (h3 : ln L ≠ 40) : cdL L p c b = 0 := by rw [cdL, h, h1, h2, decide_eq_false h3]; rfl
set_option maxRecDepth 20000 in
theorem m_adds (h9 : M0 w t np nl no nm nw en) {L : LSt} (hL : ML G.2.2.1 w L) (hnl : ln L = nl) (hI : LI np L) (hN : NC5 L) (p k c q a b o s : Nat) (hp : p < 16) (hc : c < 16) (hk : k ≤ 6) (ha : a ≤ 999) (hb9 : b ≤ 999) (ho : o ≤ 4) (hs : s < 16) : XC G mX11_adds 9 0 0 [.ref (w.1 39), .int (nI p), .int (nI k), .int (nI c), .int (nI q), .int (nI a), .int (nI b), .int (nI o - 1), .int (nI s)] w (fun r w' => ∃ v : Int32, r = .inl (some (.int v)) ∧ (cdL L p c (anyB (colB L p k a b o s) (ln L)) = 0 → v = nI nl) ∧ w' = if cdL L p c (anyB (colB L p k a b o s) (ln L)) = 0 then mPut G.2.2.1 w (newL L p k c q 0 a b o s) np nl no nm nw en else setM w 39 (m39 w (cdL L p c (anyB (colB L p k a b o s) (ln L))) np nl no nm nw en)) := by
  have h16 := hI.1
  have h40 := hI.2.1
  refine XC.of (lo0 := [(0, .ref (w.1 39)), (1, .int (nI p)), (2, .int (nI k)), (3, .int (nI c)), (4, .int (nI q)), (5, .int (nI a)), (6, .int (nI b)), (7, .int (nI o - 1)), (8, .int (nI s))]) kmX11_adds (Nat.le_of_ble_eq_true rfl) rfl ?_
  refine X_aload_n dX11_adds_0 (i := 0) rfl rfl ?_
  refine X_iload_n dX11_adds_1 (i := 3) rfl rfl ?_
  refine X_iload_n dX11_adds_2 (i := 1) rfl rfl ?_
  refine X_callV (gc2 := 0) (gs2 := 0) (m_reaches h9 hL hnl hI 5 (by decide) c p hc hp (by rw [← hnl]; exact hN c)) (i := 39) h9 rfl rfl kmX11_reaches rfl lX11_115 iX11_reaches vX11_reaches rfl rfl (Nat.le_of_ble_eq_true rfl) (by decide) dX11_adds_3 (by decide) (by decide) (fun E w1 hq => nomatch hq.1) (fun v w1 hq => ?_)
  have hv := hq.1
  obtain rfl := hq.2.symm
  cases hv
  refine X_if_eq (tgt := 15) dX11_adds_6 (by decide) (fun h1 => ?_) (fun h1 => ?_)
  · have g1 : rchB (ln L) (pa L) (ch L) 5 c p = false := by rw [hnl]; exact bI_eq h1
    refine X_aload_n dX11_adds_15 (i := 0) rfl rfl ?_
    refine X_iload_n dX11_adds_16 (i := 1) rfl rfl ?_
    refine X_iload_n dX11_adds_17 (i := 3) rfl rfl ?_
    refine X_callV (gc2 := 0) (gs2 := 0) (m_isDeep h9 hL hnl hI hN p c hp hc) (i := 39) h9 rfl rfl kmX11_isDeep rfl lX11_119 iX11_isDeep vX11_isDeep rfl rfl (Nat.le_of_ble_eq_true rfl) (by decide) dX11_adds_18 (by decide) (by decide) (fun E w1 hq => nomatch hq.1) (fun v w1 hq => ?_)
    have hv := hq.1
    obtain rfl := hq.2.symm
    cases hv
    refine X_if_ne (tgt := 50) dX11_adds_21 (by decide) (fun h2 => ?_) (fun h2 => ?_)
    · have g2 := bI_ne h2
      have hcd := cdL_4 (b := anyB (colB L p k a b o s) (ln L)) g1 (by rw [g2]; rfl)
      refine X_aload_n dX11_adds_50 (i := 0) rfl rfl ?_
      refine X_iconst (v := 4) dX11_adds_51 (by decide) ?_
      refine X_callV (gc2 := 0) (gs2 := 0) (m_fails h9 4) (i := 39) h9 rfl rfl kmX11_fails rfl lX11_105 iX11_fails vX11_fails rfl rfl (Nat.le_of_ble_eq_true rfl) (by decide) dX11_adds_52 (by decide) (by decide) (fun E w1 hq => nomatch hq.1) (fun v w1 hq => ?_)
      have hv := hq.1
      obtain rfl := hq.2.symm
      cases hv
      refine X_ireturn dX11_adds_55 rfl rfl ?_
      exact ⟨0, rfl, fun h => absurd h (by rw [hcd]; decide), by rw [hcd]; rfl⟩
    · have g2 := bI_eq h2
      refine X_aload_n dX11_adds_24 (i := 0) rfl rfl ?_
      refine X_iload_n dX11_adds_25 (i := 1) rfl rfl ?_
      refine X_iload_n dX11_adds_26 (i := 2) rfl rfl ?_
      refine X_iload dX11_adds_27 (i := 5) rfl ?_
      refine X_iload dX11_adds_29 (i := 6) rfl ?_
      refine X_iload dX11_adds_31 (i := 7) rfl ?_
      refine X_iload dX11_adds_33 (i := 8) rfl ?_
      refine X_callV (gc2 := 0) (gs2 := 0) (m_meets h9 hL hnl hI p k a b o s hp hk ha hb9 ho hs) (i := 39) h9 rfl rfl kmX11_meets rfl lX11_122 iX11_meets vX11_meets rfl rfl (Nat.le_of_ble_eq_true rfl) (by decide) dX11_adds_35 (by decide) (by decide) (fun E w1 hq => nomatch hq.1) (fun v w1 hq => ?_)
      have hv := hq.1
      obtain rfl := hq.2.symm
      cases hv
      refine X_if_ne (tgt := 50) dX11_adds_38 (by decide) (fun h3 => ?_) (fun h3 => ?_)
      · have g3 := bI_ne h3
        have hcd := cdL_4 (b := anyB (colB L p k a b o s) (ln L)) g1 (by rw [g2, hnl, g3]; rfl)
        refine X_aload_n dX11_adds_50 (i := 0) rfl rfl ?_
        refine X_iconst (v := 4) dX11_adds_51 (by decide) ?_
        refine X_callV (gc2 := 0) (gs2 := 0) (m_fails h9 4) (i := 39) h9 rfl rfl kmX11_fails rfl lX11_105 iX11_fails vX11_fails rfl rfl (Nat.le_of_ble_eq_true rfl) (by decide) dX11_adds_52 (by decide) (by decide) (fun E w1 hq => nomatch hq.1) (fun v w1 hq => ?_)
        have hv := hq.1
        obtain rfl := hq.2.symm
        cases hv
        refine X_ireturn dX11_adds_55 rfl rfl ?_
        exact ⟨0, rfl, fun h => absurd h (by rw [hcd]; decide), by rw [hcd]; rfl⟩
      · have g3 := bI_eq h3
        refine X_aload_n dX11_adds_41 (i := 0) rfl rfl ?_
        refine X_get (i := 39) h9 rfl (ci := 10) rfl in11 (k := 2) (by decide) fX11_93 rfl dX11_adds_42 ?_
        refine X_bipush (v := 40) dX11_adds_45 (by decide) ?_
        refine X_icmp_ne (tgt := 56) dX11_adds_47 (by decide) (fun h4 => ?_) (fun h4 => ?_)
        · have h5 : nl ≠ 40 := fun h => h4 (by rw [h]; rfl)
          have h6 : nl < 40 := by omega
          have hcd := cdL_0 (b := anyB (colB L p k a b o s) (ln L)) g1 g2 (by rw [hnl]; exact g3) (by omega)
          refine X_aload_n dX11_adds_56 (i := 0) rfl rfl ?_
          refine X_iload_n dX11_adds_57 (i := 1) rfl rfl ?_
          refine X_iload_n dX11_adds_58 (i := 2) rfl rfl ?_
          refine X_iload_n dX11_adds_59 (i := 3) rfl rfl ?_
          refine X_iload dX11_adds_60 (i := 4) rfl ?_
          refine X_iload dX11_adds_62 (i := 5) rfl ?_
          refine X_iload dX11_adds_64 (i := 6) rfl ?_
          refine X_iload dX11_adds_66 (i := 7) rfl ?_
          refine X_iload dX11_adds_68 (i := 8) rfl ?_
          refine X_callV (gc2 := 0) (gs2 := 0) (m_puts h9 hL hnl hI h6 p k c q a b o s) (i := 39) h9 rfl rfl kmX11_puts rfl lX11_126 iX11_puts vX11_puts rfl rfl (Nat.le_of_ble_eq_true rfl) (by decide) dX11_adds_70 (by decide) (by decide) (fun E w1 hq => nomatch hq.1) (fun v w1 hq => ?_)
          have hv := hq.1
          obtain rfl := hq.2.symm
          cases hv
          refine X_ireturn dX11_adds_73 rfl rfl ?_
          exact ⟨_, rfl, fun _ => rfl, by rw [hcd]; rfl⟩
        · have h5 : nl = 40 := (nI_eq (by omega) (by decide)).mp h4
          have hcd := cdL_4 (b := anyB (colB L p k a b o s) (ln L)) g1 (by rw [g2, hnl, h5]; simp)
          refine X_aload_n dX11_adds_50 (i := 0) rfl rfl ?_
          refine X_iconst (v := 4) dX11_adds_51 (by decide) ?_
          refine X_callV (gc2 := 0) (gs2 := 0) (m_fails h9 4) (i := 39) h9 rfl rfl kmX11_fails rfl lX11_105 iX11_fails vX11_fails rfl rfl (Nat.le_of_ble_eq_true rfl) (by decide) dX11_adds_52 (by decide) (by decide) (fun E w1 hq => nomatch hq.1) (fun v w1 hq => ?_)
          have hv := hq.1
          obtain rfl := hq.2.symm
          cases hv
          refine X_ireturn dX11_adds_55 rfl rfl ?_
          exact ⟨0, rfl, fun h => absurd h (by rw [hcd]; decide), by rw [hcd]; rfl⟩
  · have hcd := cdL_3 (b := anyB (colB L p k a b o s) (ln L)) (p := p) (c := c) (L := L) (by rw [hnl]; exact bI_ne h1)
    refine X_aload_n dX11_adds_9 (i := 0) rfl rfl ?_
    refine X_iconst (v := 3) dX11_adds_10 (by decide) ?_
    refine X_callV (gc2 := 0) (gs2 := 0) (m_fails h9 3) (i := 39) h9 rfl rfl kmX11_fails rfl lX11_105 iX11_fails vX11_fails rfl rfl (Nat.le_of_ble_eq_true rfl) (by decide) dX11_adds_11 (by decide) (by decide) (fun E w1 hq => nomatch hq.1) (fun v w1 hq => ?_)
    have hv := hq.1
    obtain rfl := hq.2.symm
    cases hv
    refine X_ireturn dX11_adds_14 rfl rfl ?_
    exact ⟨0, rfl, fun h => absurd h (by rw [hcd]; decide), by rw [hcd]; rfl⟩
def cdAL (np : Nat) (L : LSt) (p k c q a b : Int32) : Nat := bif inP p np && inP c np then (bif btw k 1 6 && (btw q 1 20 && (btw a 1 999 && btw b a 999)) then cdL L (idx p) (idx c) (anyB (colB L (idx p) (idx k) (idx a) (idx b) 0 0) (ln L)) else 2) else 1
def cdAV (np : Nat) (L : LSt) (p k c q o s : Int32) : Nat := bif inP p np && inP c np then (bif btw k 1 6 && (btw q 1 20 && (btw o 0 3 && btw s 1 15)) then cdL L (idx p) (idx c) (anyB (colB L (idx p) (idx k) 1 999 (idx o + 1) (idx s)) (ln L)) else 2) else 1
theorem btw_n {x : Int32} {lo hi : Nat} (hlo : lo < 2 ^ 31) (hhi : hi < 2 ^ 31) (h : btw x (nI lo) (nI hi) = true) : ∃ j : Nat, lo ≤ j ∧ j ≤ hi ∧ x = nI j := btw_nI hlo hhi h
set_option maxRecDepth 20000 in
theorem m_addLine (h9 : M0 w t np nl no nm nw en) {L : LSt} (hL : ML G.2.2.1 w L) (hnl : ln L = nl) (hI : LI np L) (hN : NC5 L) (p k c q a b : Int32) : XC G mX11_addLine 10 0 0 [.ref (w.1 39), .int p, .int k, .int c, .int q, .int a, .int b] w (fun r w' => ∃ v : Int32, r = .inl (some (.int v)) ∧ (cdAL np L p k c q a b = 0 → v = nI nl) ∧ w' = if cdAL np L p k c q a b = 0 then mPut G.2.2.1 w (newL L (idx p) (idx k) (idx c) (idx q) 0 (idx a) (idx b) 0 0) np nl no nm nw en else setM w 39 (m39 w (cdAL np L p k c q a b) np nl no nm nw en)) := by
  have h16 := hI.1
  have h40 := hI.2.1
  refine XC.of (lo0 := [(0, .ref (w.1 39)), (1, .int p), (2, .int k), (3, .int c), (4, .int q), (5, .int a), (6, .int b)]) kmX11_addLine (Nat.le_of_ble_eq_true rfl) rfl ?_
  refine X_aload_n dX11_addLine_0 (i := 0) rfl rfl ?_
  refine X_iload_n dX11_addLine_1 (i := 1) rfl rfl ?_
  refine X_callV (gc2 := 0) (gs2 := 0) (m_isPart h9 h16 p) (i := 39) h9 rfl rfl kmX11_isPart rfl lX11_96 iX11_isPart vX11_isPart rfl rfl (Nat.le_of_ble_eq_true rfl) (by decide) dX11_addLine_2 (by decide) (by decide) (fun E w1 hq => nomatch hq.1) (fun v w1 hq => ?_)
  have hv := hq.1
  obtain rfl := hq.2.symm
  cases hv
  refine X_if_eq (tgt := 16) dX11_addLine_5 (by decide) (fun h1 => ?_) (fun h1 => ?_)
  · have hcd : cdAL np L p k c q a b = 1 := by simp [cdAL, cdAV, bI_eq h1]
    refine X_aload_n dX11_addLine_16 (i := 0) rfl rfl ?_
    refine X_iconst (v := 1) dX11_addLine_17 (by decide) ?_
    refine X_callV (gc2 := 0) (gs2 := 0) (m_fails h9 1) (i := 39) h9 rfl rfl kmX11_fails rfl lX11_105 iX11_fails vX11_fails rfl rfl (Nat.le_of_ble_eq_true rfl) (by decide) dX11_addLine_18 (by decide) (by decide) (fun E w1 hq => nomatch hq.1) (fun v w1 hq => ?_)
    have hv := hq.1
    obtain rfl := hq.2.symm
    cases hv
    refine X_ireturn dX11_addLine_21 rfl rfl ?_
    exact ⟨0, rfl, fun h => absurd h (by rw [hcd]; decide), by rw [hcd]; rfl⟩
  · refine X_aload_n dX11_addLine_8 (i := 0) rfl rfl ?_
    refine X_iload_n dX11_addLine_9 (i := 3) rfl rfl ?_
    refine X_callV (gc2 := 0) (gs2 := 0) (m_isPart h9 h16 c) (i := 39) h9 rfl rfl kmX11_isPart rfl lX11_96 iX11_isPart vX11_isPart rfl rfl (Nat.le_of_ble_eq_true rfl) (by decide) dX11_addLine_10 (by decide) (by decide) (fun E w1 hq => nomatch hq.1) (fun v w1 hq => ?_)
    have hv := hq.1
    obtain rfl := hq.2.symm
    cases hv
    refine X_if_ne (tgt := 22) dX11_addLine_13 (by decide) (fun h2 => ?_) (fun h2 => ?_)
    · refine X_iload_n dX11_addLine_22 (i := 2) rfl rfl ?_
      refine X_iconst (v := 1) dX11_addLine_23 (by decide) ?_
      refine X_bipush (v := 6) dX11_addLine_24 (by decide) ?_
      refine X_callS (gc2 := 0) (gs2 := 0) (m_in k 1 6) kmX11_in rfl lX11_89 sX11_in rfl rfl (Nat.le_of_ble_eq_true rfl) (by decide) dX11_addLine_26 (by decide) (by decide) (fun E w1 hq => nomatch hq.1) (fun v w1 hq => ?_)
      have hv := hq.1
      obtain rfl := hq.2.symm
      cases hv
      refine X_if_eq (tgt := 68) dX11_addLine_29 (by decide) (fun h3 => ?_) (fun h3 => ?_)
      · have hcd : cdAL np L p k c q a b = 2 := by simp [cdAL, cdAV, bI_ne h1, bI_ne h2, bI_eq h3]
        refine X_aload_n dX11_addLine_68 (i := 0) rfl rfl ?_
        refine X_iconst (v := 2) dX11_addLine_69 (by decide) ?_
        refine X_callV (gc2 := 0) (gs2 := 0) (m_fails h9 2) (i := 39) h9 rfl rfl kmX11_fails rfl lX11_105 iX11_fails vX11_fails rfl rfl (Nat.le_of_ble_eq_true rfl) (by decide) dX11_addLine_70 (by decide) (by decide) (fun E w1 hq => nomatch hq.1) (fun v w1 hq => ?_)
        have hv := hq.1
        obtain rfl := hq.2.symm
        cases hv
        refine X_ireturn dX11_addLine_73 rfl rfl ?_
        exact ⟨0, rfl, fun h => absurd h (by rw [hcd]; decide), by rw [hcd]; rfl⟩
      · refine X_iload dX11_addLine_32 (i := 4) rfl ?_
        refine X_iconst (v := 1) dX11_addLine_34 (by decide) ?_
        refine X_bipush (v := 20) dX11_addLine_35 (by decide) ?_
        refine X_callS (gc2 := 0) (gs2 := 0) (m_in q 1 20) kmX11_in rfl lX11_89 sX11_in rfl rfl (Nat.le_of_ble_eq_true rfl) (by decide) dX11_addLine_37 (by decide) (by decide) (fun E w1 hq => nomatch hq.1) (fun v w1 hq => ?_)
        have hv := hq.1
        obtain rfl := hq.2.symm
        cases hv
        refine X_if_eq (tgt := 68) dX11_addLine_40 (by decide) (fun h4 => ?_) (fun h4 => ?_)
        · have hcd : cdAL np L p k c q a b = 2 := by simp [cdAL, cdAV, bI_ne h1, bI_ne h2, bI_eq h4]
          refine X_aload_n dX11_addLine_68 (i := 0) rfl rfl ?_
          refine X_iconst (v := 2) dX11_addLine_69 (by decide) ?_
          refine X_callV (gc2 := 0) (gs2 := 0) (m_fails h9 2) (i := 39) h9 rfl rfl kmX11_fails rfl lX11_105 iX11_fails vX11_fails rfl rfl (Nat.le_of_ble_eq_true rfl) (by decide) dX11_addLine_70 (by decide) (by decide) (fun E w1 hq => nomatch hq.1) (fun v w1 hq => ?_)
          have hv := hq.1
          obtain rfl := hq.2.symm
          cases hv
          refine X_ireturn dX11_addLine_73 rfl rfl ?_
          exact ⟨0, rfl, fun h => absurd h (by rw [hcd]; decide), by rw [hcd]; rfl⟩
        · refine X_iload dX11_addLine_43 (i := 5) rfl ?_
          refine X_iconst (v := 1) dX11_addLine_45 (by decide) ?_
          refine X_sipush (v := 999) dX11_addLine_46 (by decide) ?_
          refine X_callS (gc2 := 0) (gs2 := 0) (m_in a 1 999) kmX11_in rfl lX11_89 sX11_in rfl rfl (Nat.le_of_ble_eq_true rfl) (by decide) dX11_addLine_49 (by decide) (by decide) (fun E w1 hq => nomatch hq.1) (fun v w1 hq => ?_)
          have hv := hq.1
          obtain rfl := hq.2.symm
          cases hv
          refine X_if_eq (tgt := 68) dX11_addLine_52 (by decide) (fun h5 => ?_) (fun h5 => ?_)
          · have hcd : cdAL np L p k c q a b = 2 := by simp [cdAL, cdAV, bI_ne h1, bI_ne h2, bI_eq h5]
            refine X_aload_n dX11_addLine_68 (i := 0) rfl rfl ?_
            refine X_iconst (v := 2) dX11_addLine_69 (by decide) ?_
            refine X_callV (gc2 := 0) (gs2 := 0) (m_fails h9 2) (i := 39) h9 rfl rfl kmX11_fails rfl lX11_105 iX11_fails vX11_fails rfl rfl (Nat.le_of_ble_eq_true rfl) (by decide) dX11_addLine_70 (by decide) (by decide) (fun E w1 hq => nomatch hq.1) (fun v w1 hq => ?_)
            have hv := hq.1
            obtain rfl := hq.2.symm
            cases hv
            refine X_ireturn dX11_addLine_73 rfl rfl ?_
            exact ⟨0, rfl, fun h => absurd h (by rw [hcd]; decide), by rw [hcd]; rfl⟩
          · refine X_iload dX11_addLine_55 (i := 6) rfl ?_
            refine X_iload dX11_addLine_57 (i := 5) rfl ?_
            refine X_sipush (v := 999) dX11_addLine_59 (by decide) ?_
            refine X_callS (gc2 := 0) (gs2 := 0) (m_in b a 999) kmX11_in rfl lX11_89 sX11_in rfl rfl (Nat.le_of_ble_eq_true rfl) (by decide) dX11_addLine_62 (by decide) (by decide) (fun E w1 hq => nomatch hq.1) (fun v w1 hq => ?_)
            have hv := hq.1
            obtain rfl := hq.2.symm
            cases hv
            refine X_if_ne (tgt := 74) dX11_addLine_65 (by decide) (fun h6 => ?_) (fun h6 => ?_)
            · obtain ⟨p, hp, rfl⟩ := inP_of (by omega) (bI_ne h1)
              obtain ⟨c, hc, rfl⟩ := inP_of (by omega) (bI_ne h2)
              obtain ⟨k, hk1, hk, rfl⟩ := btw_n (lo := 1) (hi := 6) (by decide) (by decide) (bI_ne h3)
              obtain ⟨q, hq1, hq, rfl⟩ := btw_n (lo := 1) (hi := 20) (by decide) (by decide) (bI_ne h4)
              obtain ⟨a, ha1, ha, rfl⟩ := btw_n (lo := 1) (hi := 999) (by decide) (by decide) (bI_ne h5)
              obtain ⟨b, hb1, hb9, rfl⟩ := btw_n (lo := a) (hi := 999) (by omega) (by decide) (bI_ne h6)
              have hcd : cdAL np L (nI p) (nI k) (nI c) (nI q) (nI a) (nI b) = cdL L p c (anyB (colB L p k a b 0 0) (ln L)) := by simp only [cdAL, cdAV, bI_ne h1, bI_ne h2, bI_ne h3, bI_ne h4, bI_ne h5, bI_ne h6, Bool.and_self, cond_true, idx_nI (show p < 2 ^ 31 by omega), idx_nI (show c < 2 ^ 31 by omega), idx_nI (show k < 2 ^ 31 by omega), idx_nI (show a < 2 ^ 31 by omega), idx_nI (show b < 2 ^ 31 by omega)]
              refine X_aload_n dX11_addLine_74 (i := 0) rfl rfl ?_
              refine X_iload_n dX11_addLine_75 (i := 1) rfl rfl ?_
              refine X_iload_n dX11_addLine_76 (i := 2) rfl rfl ?_
              refine X_iload_n dX11_addLine_77 (i := 3) rfl rfl ?_
              refine X_iload dX11_addLine_78 (i := 4) rfl ?_
              refine X_iload dX11_addLine_80 (i := 5) rfl ?_
              refine X_iload dX11_addLine_82 (i := 6) rfl ?_
              refine X_iconst (v := -1) dX11_addLine_84 (by decide) ?_
              refine X_iconst (v := 0) dX11_addLine_85 (by decide) ?_
              refine X_callV (gc2 := 0) (gs2 := 0) (m_adds h9 hL hnl hI hN p k c q a b 0 0 (by omega) (by omega) hk ha hb9 (by decide) (by decide)) (i := 39) h9 rfl rfl kmX11_adds rfl lX11_130 iX11_adds vX11_adds rfl rfl (Nat.le_of_ble_eq_true rfl) (by decide) dX11_addLine_86 (by decide) (by decide) (fun E w1 hq => by obtain ⟨v3, hv3, _⟩ := hq; cases hv3) (fun v w1 hq => ?_)
              obtain ⟨v3, hv3, hv4, hw3⟩ := hq
              obtain rfl := hw3.symm
              cases hv3
              refine X_ireturn dX11_addLine_89 rfl rfl ?_
              rw [hcd]
              exact ⟨_, rfl, hv4, by rw [idx_nI (by omega), idx_nI (by omega), idx_nI (by omega), idx_nI (by omega), idx_nI (by omega), idx_nI (by omega)]⟩
            · have hcd : cdAL np L p k c q a b = 2 := by simp [cdAL, cdAV, bI_ne h1, bI_ne h2, bI_eq h6]
              refine X_aload_n dX11_addLine_68 (i := 0) rfl rfl ?_
              refine X_iconst (v := 2) dX11_addLine_69 (by decide) ?_
              refine X_callV (gc2 := 0) (gs2 := 0) (m_fails h9 2) (i := 39) h9 rfl rfl kmX11_fails rfl lX11_105 iX11_fails vX11_fails rfl rfl (Nat.le_of_ble_eq_true rfl) (by decide) dX11_addLine_70 (by decide) (by decide) (fun E w1 hq => nomatch hq.1) (fun v w1 hq => ?_)
              have hv := hq.1
              obtain rfl := hq.2.symm
              cases hv
              refine X_ireturn dX11_addLine_73 rfl rfl ?_
              exact ⟨0, rfl, fun h => absurd h (by rw [hcd]; decide), by rw [hcd]; rfl⟩
    · have hcd : cdAL np L p k c q a b = 1 := by simp [cdAL, cdAV, bI_eq h2]
      refine X_aload_n dX11_addLine_16 (i := 0) rfl rfl ?_
      refine X_iconst (v := 1) dX11_addLine_17 (by decide) ?_
      refine X_callV (gc2 := 0) (gs2 := 0) (m_fails h9 1) (i := 39) h9 rfl rfl kmX11_fails rfl lX11_105 iX11_fails vX11_fails rfl rfl (Nat.le_of_ble_eq_true rfl) (by decide) dX11_addLine_18 (by decide) (by decide) (fun E w1 hq => nomatch hq.1) (fun v w1 hq => ?_)
      have hv := hq.1
      obtain rfl := hq.2.symm
      cases hv
      refine X_ireturn dX11_addLine_21 rfl rfl ?_
      exact ⟨0, rfl, fun h => absurd h (by rw [hcd]; decide), by rw [hcd]; rfl⟩
set_option maxRecDepth 20000 in
theorem m_addVariant (h9 : M0 w t np nl no nm nw en) {L : LSt} (hL : ML G.2.2.1 w L) (hnl : ln L = nl) (hI : LI np L) (hN : NC5 L) (p k c q o s : Int32) : XC G mX11_addVariant 10 0 0 [.ref (w.1 39), .int p, .int k, .int c, .int q, .int o, .int s] w (fun r w' => ∃ v : Int32, r = .inl (some (.int v)) ∧ (cdAV np L p k c q o s = 0 → v = nI nl) ∧ w' = if cdAV np L p k c q o s = 0 then mPut G.2.2.1 w (newL L (idx p) (idx k) (idx c) (idx q) 0 1 999 (idx o + 1) (idx s)) np nl no nm nw en else setM w 39 (m39 w (cdAV np L p k c q o s) np nl no nm nw en)) := by
  have h16 := hI.1
  have h40 := hI.2.1
  refine XC.of (lo0 := [(0, .ref (w.1 39)), (1, .int p), (2, .int k), (3, .int c), (4, .int q), (5, .int o), (6, .int s)]) kmX11_addVariant (Nat.le_of_ble_eq_true rfl) rfl ?_
  refine X_aload_n dX11_addVariant_0 (i := 0) rfl rfl ?_
  refine X_iload_n dX11_addVariant_1 (i := 1) rfl rfl ?_
  refine X_callV (gc2 := 0) (gs2 := 0) (m_isPart h9 h16 p) (i := 39) h9 rfl rfl kmX11_isPart rfl lX11_96 iX11_isPart vX11_isPart rfl rfl (Nat.le_of_ble_eq_true rfl) (by decide) dX11_addVariant_2 (by decide) (by decide) (fun E w1 hq => nomatch hq.1) (fun v w1 hq => ?_)
  have hv := hq.1
  obtain rfl := hq.2.symm
  cases hv
  refine X_if_eq (tgt := 16) dX11_addVariant_5 (by decide) (fun h1 => ?_) (fun h1 => ?_)
  · have hcd : cdAV np L p k c q o s = 1 := by simp [cdAL, cdAV, bI_eq h1]
    refine X_aload_n dX11_addVariant_16 (i := 0) rfl rfl ?_
    refine X_iconst (v := 1) dX11_addVariant_17 (by decide) ?_
    refine X_callV (gc2 := 0) (gs2 := 0) (m_fails h9 1) (i := 39) h9 rfl rfl kmX11_fails rfl lX11_105 iX11_fails vX11_fails rfl rfl (Nat.le_of_ble_eq_true rfl) (by decide) dX11_addVariant_18 (by decide) (by decide) (fun E w1 hq => nomatch hq.1) (fun v w1 hq => ?_)
    have hv := hq.1
    obtain rfl := hq.2.symm
    cases hv
    refine X_ireturn dX11_addVariant_21 rfl rfl ?_
    exact ⟨0, rfl, fun h => absurd h (by rw [hcd]; decide), by rw [hcd]; rfl⟩
  · refine X_aload_n dX11_addVariant_8 (i := 0) rfl rfl ?_
    refine X_iload_n dX11_addVariant_9 (i := 3) rfl rfl ?_
    refine X_callV (gc2 := 0) (gs2 := 0) (m_isPart h9 h16 c) (i := 39) h9 rfl rfl kmX11_isPart rfl lX11_96 iX11_isPart vX11_isPart rfl rfl (Nat.le_of_ble_eq_true rfl) (by decide) dX11_addVariant_10 (by decide) (by decide) (fun E w1 hq => nomatch hq.1) (fun v w1 hq => ?_)
    have hv := hq.1
    obtain rfl := hq.2.symm
    cases hv
    refine X_if_ne (tgt := 22) dX11_addVariant_13 (by decide) (fun h2 => ?_) (fun h2 => ?_)
    · refine X_iload_n dX11_addVariant_22 (i := 2) rfl rfl ?_
      refine X_iconst (v := 1) dX11_addVariant_23 (by decide) ?_
      refine X_bipush (v := 6) dX11_addVariant_24 (by decide) ?_
      refine X_callS (gc2 := 0) (gs2 := 0) (m_in k 1 6) kmX11_in rfl lX11_89 sX11_in rfl rfl (Nat.le_of_ble_eq_true rfl) (by decide) dX11_addVariant_26 (by decide) (by decide) (fun E w1 hq => nomatch hq.1) (fun v w1 hq => ?_)
      have hv := hq.1
      obtain rfl := hq.2.symm
      cases hv
      refine X_if_eq (tgt := 64) dX11_addVariant_29 (by decide) (fun h3 => ?_) (fun h3 => ?_)
      · have hcd : cdAV np L p k c q o s = 2 := by simp [cdAL, cdAV, bI_ne h1, bI_ne h2, bI_eq h3]
        refine X_aload_n dX11_addVariant_64 (i := 0) rfl rfl ?_
        refine X_iconst (v := 2) dX11_addVariant_65 (by decide) ?_
        refine X_callV (gc2 := 0) (gs2 := 0) (m_fails h9 2) (i := 39) h9 rfl rfl kmX11_fails rfl lX11_105 iX11_fails vX11_fails rfl rfl (Nat.le_of_ble_eq_true rfl) (by decide) dX11_addVariant_66 (by decide) (by decide) (fun E w1 hq => nomatch hq.1) (fun v w1 hq => ?_)
        have hv := hq.1
        obtain rfl := hq.2.symm
        cases hv
        refine X_ireturn dX11_addVariant_69 rfl rfl ?_
        exact ⟨0, rfl, fun h => absurd h (by rw [hcd]; decide), by rw [hcd]; rfl⟩
      · refine X_iload dX11_addVariant_32 (i := 4) rfl ?_
        refine X_iconst (v := 1) dX11_addVariant_34 (by decide) ?_
        refine X_bipush (v := 20) dX11_addVariant_35 (by decide) ?_
        refine X_callS (gc2 := 0) (gs2 := 0) (m_in q 1 20) kmX11_in rfl lX11_89 sX11_in rfl rfl (Nat.le_of_ble_eq_true rfl) (by decide) dX11_addVariant_37 (by decide) (by decide) (fun E w1 hq => nomatch hq.1) (fun v w1 hq => ?_)
        have hv := hq.1
        obtain rfl := hq.2.symm
        cases hv
        refine X_if_eq (tgt := 64) dX11_addVariant_40 (by decide) (fun h4 => ?_) (fun h4 => ?_)
        · have hcd : cdAV np L p k c q o s = 2 := by simp [cdAL, cdAV, bI_ne h1, bI_ne h2, bI_eq h4]
          refine X_aload_n dX11_addVariant_64 (i := 0) rfl rfl ?_
          refine X_iconst (v := 2) dX11_addVariant_65 (by decide) ?_
          refine X_callV (gc2 := 0) (gs2 := 0) (m_fails h9 2) (i := 39) h9 rfl rfl kmX11_fails rfl lX11_105 iX11_fails vX11_fails rfl rfl (Nat.le_of_ble_eq_true rfl) (by decide) dX11_addVariant_66 (by decide) (by decide) (fun E w1 hq => nomatch hq.1) (fun v w1 hq => ?_)
          have hv := hq.1
          obtain rfl := hq.2.symm
          cases hv
          refine X_ireturn dX11_addVariant_69 rfl rfl ?_
          exact ⟨0, rfl, fun h => absurd h (by rw [hcd]; decide), by rw [hcd]; rfl⟩
        · refine X_iload dX11_addVariant_43 (i := 5) rfl ?_
          refine X_iconst (v := 0) dX11_addVariant_45 (by decide) ?_
          refine X_iconst (v := 3) dX11_addVariant_46 (by decide) ?_
          refine X_callS (gc2 := 0) (gs2 := 0) (m_in o 0 3) kmX11_in rfl lX11_89 sX11_in rfl rfl (Nat.le_of_ble_eq_true rfl) (by decide) dX11_addVariant_47 (by decide) (by decide) (fun E w1 hq => nomatch hq.1) (fun v w1 hq => ?_)
          have hv := hq.1
          obtain rfl := hq.2.symm
          cases hv
          refine X_if_eq (tgt := 64) dX11_addVariant_50 (by decide) (fun h5 => ?_) (fun h5 => ?_)
          · have hcd : cdAV np L p k c q o s = 2 := by simp [cdAL, cdAV, bI_ne h1, bI_ne h2, bI_eq h5]
            refine X_aload_n dX11_addVariant_64 (i := 0) rfl rfl ?_
            refine X_iconst (v := 2) dX11_addVariant_65 (by decide) ?_
            refine X_callV (gc2 := 0) (gs2 := 0) (m_fails h9 2) (i := 39) h9 rfl rfl kmX11_fails rfl lX11_105 iX11_fails vX11_fails rfl rfl (Nat.le_of_ble_eq_true rfl) (by decide) dX11_addVariant_66 (by decide) (by decide) (fun E w1 hq => nomatch hq.1) (fun v w1 hq => ?_)
            have hv := hq.1
            obtain rfl := hq.2.symm
            cases hv
            refine X_ireturn dX11_addVariant_69 rfl rfl ?_
            exact ⟨0, rfl, fun h => absurd h (by rw [hcd]; decide), by rw [hcd]; rfl⟩
          · refine X_iload dX11_addVariant_53 (i := 6) rfl ?_
            refine X_iconst (v := 1) dX11_addVariant_55 (by decide) ?_
            refine X_bipush (v := 15) dX11_addVariant_56 (by decide) ?_
            refine X_callS (gc2 := 0) (gs2 := 0) (m_in s 1 15) kmX11_in rfl lX11_89 sX11_in rfl rfl (Nat.le_of_ble_eq_true rfl) (by decide) dX11_addVariant_58 (by decide) (by decide) (fun E w1 hq => nomatch hq.1) (fun v w1 hq => ?_)
            have hv := hq.1
            obtain rfl := hq.2.symm
            cases hv
            refine X_if_ne (tgt := 70) dX11_addVariant_61 (by decide) (fun h6 => ?_) (fun h6 => ?_)
            · obtain ⟨p, hp, rfl⟩ := inP_of (by omega) (bI_ne h1)
              obtain ⟨c, hc, rfl⟩ := inP_of (by omega) (bI_ne h2)
              obtain ⟨k, hk1, hk, rfl⟩ := btw_n (lo := 1) (hi := 6) (by decide) (by decide) (bI_ne h3)
              obtain ⟨q, hq1, hq, rfl⟩ := btw_n (lo := 1) (hi := 20) (by decide) (by decide) (bI_ne h4)
              obtain ⟨o, ho1, ho, rfl⟩ := btw_n (lo := 0) (hi := 3) (by decide) (by decide) (bI_ne h5)
              obtain ⟨s, hs1, hs9, rfl⟩ := btw_n (lo := 1) (hi := 15) (by decide) (by decide) (bI_ne h6)
              have hcd : cdAV np L (nI p) (nI k) (nI c) (nI q) (nI o) (nI s) = cdL L p c (anyB (colB L p k 1 999 (o + 1) s) (ln L)) := by simp only [cdAL, cdAV, bI_ne h1, bI_ne h2, bI_ne h3, bI_ne h4, bI_ne h5, bI_ne h6, Bool.and_self, cond_true, idx_nI (show p < 2 ^ 31 by omega), idx_nI (show c < 2 ^ 31 by omega), idx_nI (show k < 2 ^ 31 by omega), idx_nI (show o < 2 ^ 31 by omega), idx_nI (show s < 2 ^ 31 by omega)]
              refine X_aload_n dX11_addVariant_70 (i := 0) rfl rfl ?_
              refine X_iload_n dX11_addVariant_71 (i := 1) rfl rfl ?_
              refine X_iload_n dX11_addVariant_72 (i := 2) rfl rfl ?_
              refine X_iload_n dX11_addVariant_73 (i := 3) rfl rfl ?_
              refine X_iload dX11_addVariant_74 (i := 4) rfl ?_
              refine X_iconst (v := 1) dX11_addVariant_76 (by decide) ?_
              refine X_sipush (v := 999) dX11_addVariant_77 (by decide) ?_
              refine X_iload dX11_addVariant_80 (i := 5) rfl ?_
              refine X_iload dX11_addVariant_82 (i := 6) rfl ?_
              refine X_callV (gc2 := 0) (gs2 := 0) (show XC G mX11_adds 9 0 0 [.ref (w.1 39), .int (nI p), .int (nI k), .int (nI c), .int (nI q), .int 1, .int 999, .int (nI o), .int (nI s)] w _ from by have h := m_adds h9 hL hnl hI hN p k c q 1 999 (o + 1) s (by omega) (by omega) hk (by decide) (by decide) (by omega) (by omega); rw [nI_pred] at h; exact h) (i := 39) h9 rfl rfl kmX11_adds rfl lX11_130 iX11_adds vX11_adds rfl rfl (Nat.le_of_ble_eq_true rfl) (by decide) dX11_addVariant_84 (by decide) (by decide) (fun E w1 hq => by obtain ⟨v3, hv3, _⟩ := hq; cases hv3) (fun v w1 hq => ?_)
              obtain ⟨v3, hv3, hv4, hw3⟩ := hq
              obtain rfl := hw3.symm
              cases hv3
              refine X_ireturn dX11_addVariant_87 rfl rfl ?_
              rw [hcd]
              exact ⟨_, rfl, hv4, by rw [idx_nI (by omega), idx_nI (by omega), idx_nI (by omega), idx_nI (by omega), idx_nI (by omega), idx_nI (by omega)]⟩
            · have hcd : cdAV np L p k c q o s = 2 := by simp [cdAL, cdAV, bI_ne h1, bI_ne h2, bI_eq h6]
              refine X_aload_n dX11_addVariant_64 (i := 0) rfl rfl ?_
              refine X_iconst (v := 2) dX11_addVariant_65 (by decide) ?_
              refine X_callV (gc2 := 0) (gs2 := 0) (m_fails h9 2) (i := 39) h9 rfl rfl kmX11_fails rfl lX11_105 iX11_fails vX11_fails rfl rfl (Nat.le_of_ble_eq_true rfl) (by decide) dX11_addVariant_66 (by decide) (by decide) (fun E w1 hq => nomatch hq.1) (fun v w1 hq => ?_)
              have hv := hq.1
              obtain rfl := hq.2.symm
              cases hv
              refine X_ireturn dX11_addVariant_69 rfl rfl ?_
              exact ⟨0, rfl, fun h => absurd h (by rw [hcd]; decide), by rw [hcd]; rfl⟩
    · have hcd : cdAV np L p k c q o s = 1 := by simp [cdAL, cdAV, bI_eq h2]
      refine X_aload_n dX11_addVariant_16 (i := 0) rfl rfl ?_
      refine X_iconst (v := 1) dX11_addVariant_17 (by decide) ?_
      refine X_callV (gc2 := 0) (gs2 := 0) (m_fails h9 1) (i := 39) h9 rfl rfl kmX11_fails rfl lX11_105 iX11_fails vX11_fails rfl rfl (Nat.le_of_ble_eq_true rfl) (by decide) dX11_addVariant_18 (by decide) (by decide) (fun E w1 hq => nomatch hq.1) (fun v w1 hq => ?_)
      have hv := hq.1
      obtain rfl := hq.2.symm
      cases hv
      refine X_ireturn dX11_addVariant_21 rfl rfl ?_
      exact ⟨0, rfl, fun h => absurd h (by rw [hcd]; decide), by rw [hcd]; rfl⟩
end PutM
