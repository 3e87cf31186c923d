/-! REFERENCE: list calls, text (walks by gen/spec40.py) -/
section TextM
variable {G : Gx} {w : Wd} {t np nl no nm nw en : Nat}
theorem lsW_39 {K : Nat → ClassId} {a : Nat → Int32} {b : Nat → Int64} {e : va_E} : lsW K (setM w 39 e) t np nl no nm nw en a b = lsW K w t np nl no nm nw en a b := by
  show setM (setM (setM (setM w 39 e) 39 _) 61 _) 62 _ = _
  rw [setM_setM]
  rfl
theorem lsW_t {K : Nat → ClassId} {a : Nat → Int32} {b : Nat → Int64} {t' : Nat} : setM (lsW K w t np nl no nm nw en a b) 39 (m39 w t' np nl no nm nw en) = lsW K w t' np nl no nm nw en a b := by
  show setM (setM (setM (setM w 39 _) 61 _) 62 _) 39 _ = _
  rw [setM_comm (i := 62) (k := 39) (by decide), setM_comm (i := 61) (k := 39) (by decide), setM_setM]
  rfl
def cdI (i : Int32) (n : Nat) : Nat := bif inP i n then 0 else 3
theorem xsN_len {kd : Nat → Nat} {L : LSt} {pr : Nat → Nat} {s p : Nat} (hN : NC5 L) : (listN kd L pr s 5 p 1).length ≤ 1296 := listN_len (hN p)
set_option maxRecDepth 20000 in
theorem m_isListed {P : PSt} {L : LSt} {pr : Nat → Nat} (hnl : ln L = nl) (hI : LI np L) (hW : PW L) (hpr : ∀ i, i < 4 → pr i < 4) (hk16 : ∀ j, P.2.1 j < 65536) (hN : NC5 L) (h9 : M0 w t np nl no nm nw en) (hL : ML G.2.2.1 w L) (hC : MC G.2.2.1 w pr) (hP : MP G.2.2.1 w P) {ea : Nat → Int32} {eb : Nat → Int64} (e61 : cel w 61 (aI G.2.2.1 1500 ea)) (e62 : cel w 62 (aL G.2.2.1 1500 eb)) (a s : Int32) : XC G mX11_isListed 8 0 0 [.ref (w.1 39), .int a, .int s] w (fun r w' => r = .inl (some (.int (bI (decide (cdA a s np = 0))))) ∧ w' = if cdA a s np = 0 then (lsW G.2.2.1 w 0 np nl no nm nw (listN P.2.1 L pr (idx s) 5 (idx a) 1).length (wr vPt ea 0 (listN P.2.1 L pr (idx s) 5 (idx a) 1)) (wr vQt eb 0 (listN P.2.1 L pr (idx s) 5 (idx a) 1))) else setM w 39 (m39 w (cdA a s np) np nl no nm nw en)) := by
  have h16 := hI.1
  have h40 := hI.2.1
  refine XC.of (lo0 := [(0, .ref (w.1 39)), (1, .int a), (2, .int s)]) kmX11_isListed (Nat.le_of_ble_eq_true rfl) rfl ?_
  refine X_aload_n dX11_isListed_0 (i := 0) rfl rfl ?_
  refine X_iload_n dX11_isListed_1 (i := 1) rfl rfl ?_
  refine X_iload_n dX11_isListed_2 (i := 2) rfl rfl ?_
  refine X_callV (gc2 := 0) (gs2 := 0) (m_isAsked h9 (by omega) a s) (i := 39) h9 rfl rfl kmX11_isAsked rfl lX11_150 iX11_isAsked vX11_isAsked rfl rfl (Nat.le_of_ble_eq_true rfl) (by decide) dX11_isListed_3 (by decide) (by decide) (fun E w1 hq => nomatch hq.1) (fun v w1 hq => ?_)
  have hv := hq.1
  obtain rfl := hq.2.symm
  cases hv
  have k9 : cel (setM w 39 (m39 w (cdA a s np) np nl no nm nw en)) 39 (m39 w (cdA a s np) np nl no nm nw en) := ⟨h9.1, rfl⟩
  refine X_if_ne (tgt := 11) dX11_isListed_6 (by decide) (fun h1 => ?_) (fun h1 => ?_)
  · have hcd : cdA a s np = 0 := of_decide_eq_true (bI_ne h1)
    obtain ⟨ha, hs⟩ := cdA_inv hcd
    obtain ⟨a, ha, rfl⟩ := inP_of (by omega) ha
    obtain ⟨s, hs1, hs2, rfl⟩ := btw_n (lo := 1) (hi := 999) (by decide) (by decide) hs
    have ga : idx (nI a) = a := idx_nI (by omega)
    have gs : idx (nI s) = s := idx_nI (by omega)
    refine X_aload_n dX11_isListed_11 (i := 0) rfl rfl ?_
    refine X_iconst (v := 0) dX11_isListed_12 (by decide) ?_
    refine X_put tyX11 tyX11_ok nmX11 (i := 39) k9 rfl (ci := 10) rfl in11 (k := 6) (by decide) fX11_147 rfl rfl rfl (Nat.le_of_ble_eq_true rfl) dX11_isListed_13 (fun hc_13 => ?_)
    refine X_aload_n dX11_isListed_16 (i := 0) rfl rfl ?_
    refine X_iload_n dX11_isListed_17 (i := 1) rfl rfl ?_
    refine X_iload_n dX11_isListed_18 (i := 2) rfl rfl ?_
    refine X_lconst (v := 1) dX11_isListed_19 rfl ?_
    refine X_callV (gc2 := 0) (gs2 := 0) (m_lists hnl hI hW hpr hk16 s (by omega) 5 (by decide) (setM (setM w 39 (m39 w (cdA (nI a) (nI s) np) np nl no nm nw en)) 39 (m39 w (cdA (nI a) (nI s) np) np nl no nm nw 0)) 0 ea eb ⟨h9.1, rfl⟩ hL hC hP e61 e62 a 1 (by omega) (hnl ▸ hN a) (by have := xsN_len (kd := P.2.1) (L := L) (pr := pr) (s := s) (p := a) hN; omega)) (i := 39) hc_13 rfl rfl kmX11_lists rfl lX11_143 iX11_lists vX11_lists rfl rfl (Nat.le_of_ble_eq_true rfl) (by decide) dX11_isListed_20 (by decide) (by decide) (fun E w1 hq => nomatch hq.1) (fun v w1 hq => ?_)
    have hv := hq.1
    obtain rfl := hq.2.symm
    cases hv
    refine X_iconst (v := 1) dX11_isListed_23 (by decide) ?_
    refine X_ireturn dX11_isListed_24 rfl rfl ?_
    exact ⟨by rw [hcd]; rfl, by rw [if_pos hcd, ga, gs, hcd, Nat.zero_add, lsW_39, lsW_39]⟩
  · have hcd : ¬ cdA a s np = 0 := of_decide_eq_false (bI_eq h1)
    refine X_iconst (v := 0) dX11_isListed_9 (by decide) ?_
    refine X_ireturn dX11_isListed_10 rfl rfl ?_
    exact ⟨by rw [decide_eq_false hcd]; rfl, by rw [if_neg hcd]⟩
set_option maxRecDepth 20000 in
theorem m_listSize {P : PSt} {L : LSt} {pr : Nat → Nat} (hnl : ln L = nl) (hI : LI np L) (hW : PW L) (hpr : ∀ i, i < 4 → pr i < 4) (hk16 : ∀ j, P.2.1 j < 65536) (hN : NC5 L) (h9 : M0 w t np nl no nm nw en) (hL : ML G.2.2.1 w L) (hC : MC G.2.2.1 w pr) (hP : MP G.2.2.1 w P) {ea : Nat → Int32} {eb : Nat → Int64} (e61 : cel w 61 (aI G.2.2.1 1500 ea)) (e62 : cel w 62 (aL G.2.2.1 1500 eb)) (a s : Int32) : XC G mX11_listSize 9 0 0 [.ref (w.1 39), .int a, .int s] w (fun r w' => ∃ v : Int32, r = .inl (some (.int v)) ∧ (cdA a s np = 0 → v = nI (listN P.2.1 L pr (idx s) 5 (idx a) 1).length) ∧ w' = if cdA a s np = 0 then (lsW G.2.2.1 w 0 np nl no nm nw (listN P.2.1 L pr (idx s) 5 (idx a) 1).length (wr vPt ea 0 (listN P.2.1 L pr (idx s) 5 (idx a) 1)) (wr vQt eb 0 (listN P.2.1 L pr (idx s) 5 (idx a) 1))) else setM w 39 (m39 w (cdA a s np) np nl no nm nw en)) := by
  have h16 := hI.1
  have h40 := hI.2.1
  refine XC.of (lo0 := [(0, .ref (w.1 39)), (1, .int a), (2, .int s)]) kmX11_listSize (Nat.le_of_ble_eq_true rfl) rfl ?_
  refine X_aload_n dX11_listSize_0 (i := 0) rfl rfl ?_
  refine X_iload_n dX11_listSize_1 (i := 1) rfl rfl ?_
  refine X_iload_n dX11_listSize_2 (i := 2) rfl rfl ?_
  refine X_callV (gc2 := 0) (gs2 := 0) (m_isListed hnl hI hW hpr hk16 hN h9 hL hC hP e61 e62 a s) (i := 39) h9 rfl rfl kmX11_isListed rfl lX11_153 iX11_isListed vX11_isListed rfl rfl (Nat.le_of_ble_eq_true rfl) (by decide) dX11_listSize_3 (by decide) (by decide) (fun E w1 hq => nomatch hq.1) (fun v w1 hq => ?_)
  have hv := hq.1
  obtain rfl := hq.2.symm
  cases hv
  refine X_if_eq (tgt := 16) dX11_listSize_6 (by decide) (fun h1 => ?_) (fun h1 => ?_)
  · have hcd : ¬ cdA a s np = 0 := of_decide_eq_false (bI_eq h1)
    rw [if_neg hcd]
    refine X_iconst (v := 0) dX11_listSize_16 (by decide) ?_
    refine X_ireturn dX11_listSize_17 rfl rfl ?_
    first
      | exact ⟨_, rfl, fun _ => rfl, by first | rfl | rw [if_pos hcd]⟩
      | exact ⟨_, rfl, fun h => absurd h hcd, by first | rfl | rw [if_neg hcd]⟩
  · have hcd : cdA a s np = 0 := of_decide_eq_true (bI_ne h1)
    rw [if_pos hcd]
    have k9 : cel (lsW G.2.2.1 w 0 np nl no nm nw (listN P.2.1 L pr (idx s) 5 (idx a) 1).length (wr vPt ea 0 (listN P.2.1 L pr (idx s) 5 (idx a) 1)) (wr vQt eb 0 (listN P.2.1 L pr (idx s) 5 (idx a) 1))) 39 (m39 w 0 np nl no nm nw (listN P.2.1 L pr (idx s) 5 (idx a) 1).length) := ⟨h9.1, rfl⟩
    have k61 : cel (lsW G.2.2.1 w 0 np nl no nm nw (listN P.2.1 L pr (idx s) 5 (idx a) 1).length (wr vPt ea 0 (listN P.2.1 L pr (idx s) 5 (idx a) 1)) (wr vQt eb 0 (listN P.2.1 L pr (idx s) 5 (idx a) 1))) 61 (aI G.2.2.1 1500 (wr vPt ea 0 (listN P.2.1 L pr (idx s) 5 (idx a) 1))) := ⟨e61.1, rfl⟩
    have k62 : cel (lsW G.2.2.1 w 0 np nl no nm nw (listN P.2.1 L pr (idx s) 5 (idx a) 1).length (wr vPt ea 0 (listN P.2.1 L pr (idx s) 5 (idx a) 1)) (wr vQt eb 0 (listN P.2.1 L pr (idx s) 5 (idx a) 1))) 62 (aL G.2.2.1 1500 (wr vQt eb 0 (listN P.2.1 L pr (idx s) 5 (idx a) 1))) := ⟨e62.1, rfl⟩
    have hxl : (listN P.2.1 L pr (idx s) 5 (idx a) 1).length ≤ 1296 := xsN_len hN
    refine X_aload_n dX11_listSize_9 (i := 0) rfl rfl ?_
    refine X_get (i := 39) k9 rfl (ci := 10) rfl in11 (k := 6) (by decide) fX11_147 rfl dX11_listSize_10 ?_
    refine X_goto (tgt := 17) dX11_listSize_13 (by decide) ?_
    refine X_ireturn dX11_listSize_17 rfl rfl ?_
    first
      | exact ⟨_, rfl, fun _ => rfl, by first | rfl | rw [if_pos hcd]⟩
      | exact ⟨_, rfl, fun h => absurd h hcd, by first | rfl | rw [if_neg hcd]⟩
set_option maxRecDepth 20000 in
theorem m_listPart {P : PSt} {L : LSt} {pr : Nat → Nat} (hnl : ln L = nl) (hI : LI np L) (hW : PW L) (hpr : ∀ i, i < 4 → pr i < 4) (hk16 : ∀ j, P.2.1 j < 65536) (hN : NC5 L) (h9 : M0 w t np nl no nm nw en) (hL : ML G.2.2.1 w L) (hC : MC G.2.2.1 w pr) (hP : MP G.2.2.1 w P) {ea : Nat → Int32} {eb : Nat → Int64} (e61 : cel w 61 (aI G.2.2.1 1500 ea)) (e62 : cel w 62 (aL G.2.2.1 1500 eb)) (a s i : Int32) : XC G mX11_listPart 9 0 0 [.ref (w.1 39), .int a, .int s, .int i] w (fun r w' => ∃ v : Int32, r = .inl (some (.int v)) ∧ (cdA a s np = 0 → inP i (listN P.2.1 L pr (idx s) 5 (idx a) 1).length = true → v = nI ((listN P.2.1 L pr (idx s) 5 (idx a) 1).getD (idx i) (0, 0)).1) ∧ w' = if cdA a s np = 0 then (lsW G.2.2.1 w (cdI i (listN P.2.1 L pr (idx s) 5 (idx a) 1).length) np nl no nm nw (listN P.2.1 L pr (idx s) 5 (idx a) 1).length (wr vPt ea 0 (listN P.2.1 L pr (idx s) 5 (idx a) 1)) (wr vQt eb 0 (listN P.2.1 L pr (idx s) 5 (idx a) 1))) else setM w 39 (m39 w (cdA a s np) np nl no nm nw en)) := by
  have h16 := hI.1
  have h40 := hI.2.1
  refine XC.of (lo0 := [(0, .ref (w.1 39)), (1, .int a), (2, .int s), (3, .int i)]) kmX11_listPart (Nat.le_of_ble_eq_true rfl) rfl ?_
  refine X_aload_n dX11_listPart_0 (i := 0) rfl rfl ?_
  refine X_iload_n dX11_listPart_1 (i := 1) rfl rfl ?_
  refine X_iload_n dX11_listPart_2 (i := 2) rfl rfl ?_
  refine X_callV (gc2 := 0) (gs2 := 0) (m_isListed hnl hI hW hpr hk16 hN h9 hL hC hP e61 e62 a s) (i := 39) h9 rfl rfl kmX11_isListed rfl lX11_153 iX11_isListed vX11_isListed rfl rfl (Nat.le_of_ble_eq_true rfl) (by decide) dX11_listPart_3 (by decide) (by decide) (fun E w1 hq => nomatch hq.1) (fun v w1 hq => ?_)
  have hv := hq.1
  obtain rfl := hq.2.symm
  cases hv
  refine X_if_ne (tgt := 11) dX11_listPart_6 (by decide) (fun h1 => ?_) (fun h1 => ?_)
  · have hcd : cdA a s np = 0 := of_decide_eq_true (bI_ne h1)
    rw [if_pos hcd]
    have k9 : cel (lsW G.2.2.1 w 0 np nl no nm nw (listN P.2.1 L pr (idx s) 5 (idx a) 1).length (wr vPt ea 0 (listN P.2.1 L pr (idx s) 5 (idx a) 1)) (wr vQt eb 0 (listN P.2.1 L pr (idx s) 5 (idx a) 1))) 39 (m39 w 0 np nl no nm nw (listN P.2.1 L pr (idx s) 5 (idx a) 1).length) := ⟨h9.1, rfl⟩
    have k61 : cel (lsW G.2.2.1 w 0 np nl no nm nw (listN P.2.1 L pr (idx s) 5 (idx a) 1).length (wr vPt ea 0 (listN P.2.1 L pr (idx s) 5 (idx a) 1)) (wr vQt eb 0 (listN P.2.1 L pr (idx s) 5 (idx a) 1))) 61 (aI G.2.2.1 1500 (wr vPt ea 0 (listN P.2.1 L pr (idx s) 5 (idx a) 1))) := ⟨e61.1, rfl⟩
    have k62 : cel (lsW G.2.2.1 w 0 np nl no nm nw (listN P.2.1 L pr (idx s) 5 (idx a) 1).length (wr vPt ea 0 (listN P.2.1 L pr (idx s) 5 (idx a) 1)) (wr vQt eb 0 (listN P.2.1 L pr (idx s) 5 (idx a) 1))) 62 (aL G.2.2.1 1500 (wr vQt eb 0 (listN P.2.1 L pr (idx s) 5 (idx a) 1))) := ⟨e62.1, rfl⟩
    have hxl : (listN P.2.1 L pr (idx s) 5 (idx a) 1).length ≤ 1296 := xsN_len hN
    refine X_iload_n dX11_listPart_11 (i := 3) rfl rfl ?_
    refine X_iconst (v := 0) dX11_listPart_12 (by decide) ?_
    refine X_aload_n dX11_listPart_13 (i := 0) rfl rfl ?_
    refine X_get (i := 39) k9 rfl (ci := 10) rfl in11 (k := 6) (by decide) fX11_147 rfl dX11_listPart_14 ?_
    refine X_iconst (v := 1) dX11_listPart_17 (by decide) ?_
    refine X_isub dX11_listPart_18 ?_
    refine X_callS (gc2 := 0) (gs2 := 0) (m_in i 0 (nI (listN P.2.1 L pr (idx s) 5 (idx a) 1).length - 1)) kmX11_in rfl lX11_89 sX11_in rfl rfl (Nat.le_of_ble_eq_true rfl) (by decide) dX11_listPart_19 (by decide) (by decide) (fun E w1 hq => nomatch hq.1) (fun v w1 hq => ?_)
    have hv := hq.1
    obtain rfl := hq.2.symm
    cases hv
    refine X_if_eq (tgt := 34) dX11_listPart_22 (by decide) (fun h2 => ?_) (fun h2 => ?_)
    · have hi : inP i (listN P.2.1 L pr (idx s) 5 (idx a) 1).length = false := by have := bI_eq h2; rw [btw_inP (by omega)] at this; exact this
      refine X_aload_n dX11_listPart_34 (i := 0) rfl rfl ?_
      refine X_iconst (v := 3) dX11_listPart_35 (by decide) ?_
      refine X_callV (gc2 := 0) (gs2 := 0) (m_fails (w := (lsW G.2.2.1 w 0 np nl no nm nw (listN P.2.1 L pr (idx s) 5 (idx a) 1).length (wr vPt ea 0 (listN P.2.1 L pr (idx s) 5 (idx a) 1)) (wr vQt eb 0 (listN P.2.1 L pr (idx s) 5 (idx a) 1)))) ⟨h9.1, rfl⟩ 3) (i := 39) k9 rfl rfl kmX11_fails rfl lX11_105 iX11_fails vX11_fails rfl rfl (Nat.le_of_ble_eq_true rfl) (by decide) dX11_listPart_36 (by decide) (by decide) (fun E w1 hq => nomatch hq.1) (fun v w1 hq => ?_)
      have hv := hq.1
      obtain rfl := hq.2.symm
      cases hv
      refine X_ireturn dX11_listPart_39 rfl rfl ?_
      first
        | exact ⟨_, rfl, fun _ _ => by rw [idx_nI (by omega), ← Nat.zero_add j, wr_at (z := (0, 0)) hj, Nat.zero_add]; rfl, by rw [if_pos hcd, cdI, hi]; rfl⟩
        | exact ⟨_, rfl, fun _ h => absurd h (by rw [hi]; decide), by rw [if_pos hcd, cdI, hi]; exact lsW_t⟩
    · have hi : inP i (listN P.2.1 L pr (idx s) 5 (idx a) 1).length = true := by have := bI_ne h2; rw [btw_inP (by omega)] at this; exact this
      obtain ⟨j, hj, rfl⟩ := inP_of (by omega) hi
      refine X_aload_n dX11_listPart_25 (i := 0) rfl rfl ?_
      refine X_get (i := 39) k9 rfl (ci := 10) rfl in11 (k := 28) (by decide) fX11_75 rfl dX11_listPart_26 ?_
      refine X_iload_n dX11_listPart_29 (i := 3) rfl rfl ?_
      refine X_iald (i := 61) k61 rfl rfl (by omega) (by decide) dX11_listPart_30 ?_
      refine X_goto (tgt := 39) dX11_listPart_31 (by decide) ?_
      refine X_ireturn dX11_listPart_39 rfl rfl ?_
      first
        | exact ⟨_, rfl, fun _ _ => by rw [idx_nI (by omega), ← Nat.zero_add j, wr_at (z := (0, 0)) hj, Nat.zero_add]; rfl, by rw [if_pos hcd, cdI, hi]; rfl⟩
        | exact ⟨_, rfl, fun _ h => absurd h (by rw [hi]; decide), by rw [if_pos hcd, cdI, hi]; exact lsW_t⟩
  · have hcd : ¬ cdA a s np = 0 := of_decide_eq_false (bI_eq h1)
    rw [if_neg hcd]
    refine X_iconst (v := 0) dX11_listPart_9 (by decide) ?_
    refine X_ireturn dX11_listPart_10 rfl rfl ?_
    exact ⟨_, rfl, fun h => absurd h hcd, by first | rfl | rw [if_neg hcd]⟩
set_option maxRecDepth 20000 in
theorem m_listQuantity {P : PSt} {L : LSt} {pr : Nat → Nat} (hnl : ln L = nl) (hI : LI np L) (hW : PW L) (hpr : ∀ i, i < 4 → pr i < 4) (hk16 : ∀ j, P.2.1 j < 65536) (hN : NC5 L) (h9 : M0 w t np nl no nm nw en) (hL : ML G.2.2.1 w L) (hC : MC G.2.2.1 w pr) (hP : MP G.2.2.1 w P) {ea : Nat → Int32} {eb : Nat → Int64} (e61 : cel w 61 (aI G.2.2.1 1500 ea)) (e62 : cel w 62 (aL G.2.2.1 1500 eb)) (a s i : Int32) : XC G mX11_listQuantity 9 0 0 [.ref (w.1 39), .int a, .int s, .int i] w (fun r w' => ∃ v : Int64, r = .inl (some (.long v)) ∧ (cdA a s np = 0 → inP i (listN P.2.1 L pr (idx s) 5 (idx a) 1).length = true → v = nL ((listN P.2.1 L pr (idx s) 5 (idx a) 1).getD (idx i) (0, 0)).2) ∧ w' = if cdA a s np = 0 then (lsW G.2.2.1 w (cdI i (listN P.2.1 L pr (idx s) 5 (idx a) 1).length) np nl no nm nw (listN P.2.1 L pr (idx s) 5 (idx a) 1).length (wr vPt ea 0 (listN P.2.1 L pr (idx s) 5 (idx a) 1)) (wr vQt eb 0 (listN P.2.1 L pr (idx s) 5 (idx a) 1))) else setM w 39 (m39 w (cdA a s np) np nl no nm nw en)) := by
  have h16 := hI.1
  have h40 := hI.2.1
  refine XC.of (lo0 := [(0, .ref (w.1 39)), (1, .int a), (2, .int s), (3, .int i)]) kmX11_listQuantity (Nat.le_of_ble_eq_true rfl) rfl ?_
  refine X_aload_n dX11_listQuantity_0 (i := 0) rfl rfl ?_
  refine X_iload_n dX11_listQuantity_1 (i := 1) rfl rfl ?_
  refine X_iload_n dX11_listQuantity_2 (i := 2) rfl rfl ?_
  refine X_callV (gc2 := 0) (gs2 := 0) (m_isListed hnl hI hW hpr hk16 hN h9 hL hC hP e61 e62 a s) (i := 39) h9 rfl rfl kmX11_isListed rfl lX11_153 iX11_isListed vX11_isListed rfl rfl (Nat.le_of_ble_eq_true rfl) (by decide) dX11_listQuantity_3 (by decide) (by decide) (fun E w1 hq => nomatch hq.1) (fun v w1 hq => ?_)
  have hv := hq.1
  obtain rfl := hq.2.symm
  cases hv
  refine X_if_ne (tgt := 11) dX11_listQuantity_6 (by decide) (fun h1 => ?_) (fun h1 => ?_)
  · have hcd : cdA a s np = 0 := of_decide_eq_true (bI_ne h1)
    rw [if_pos hcd]
    have k9 : cel (lsW G.2.2.1 w 0 np nl no nm nw (listN P.2.1 L pr (idx s) 5 (idx a) 1).length (wr vPt ea 0 (listN P.2.1 L pr (idx s) 5 (idx a) 1)) (wr vQt eb 0 (listN P.2.1 L pr (idx s) 5 (idx a) 1))) 39 (m39 w 0 np nl no nm nw (listN P.2.1 L pr (idx s) 5 (idx a) 1).length) := ⟨h9.1, rfl⟩
    have k61 : cel (lsW G.2.2.1 w 0 np nl no nm nw (listN P.2.1 L pr (idx s) 5 (idx a) 1).length (wr vPt ea 0 (listN P.2.1 L pr (idx s) 5 (idx a) 1)) (wr vQt eb 0 (listN P.2.1 L pr (idx s) 5 (idx a) 1))) 61 (aI G.2.2.1 1500 (wr vPt ea 0 (listN P.2.1 L pr (idx s) 5 (idx a) 1))) := ⟨e61.1, rfl⟩
    have k62 : cel (lsW G.2.2.1 w 0 np nl no nm nw (listN P.2.1 L pr (idx s) 5 (idx a) 1).length (wr vPt ea 0 (listN P.2.1 L pr (idx s) 5 (idx a) 1)) (wr vQt eb 0 (listN P.2.1 L pr (idx s) 5 (idx a) 1))) 62 (aL G.2.2.1 1500 (wr vQt eb 0 (listN P.2.1 L pr (idx s) 5 (idx a) 1))) := ⟨e62.1, rfl⟩
    have hxl : (listN P.2.1 L pr (idx s) 5 (idx a) 1).length ≤ 1296 := xsN_len hN
    refine X_iload_n dX11_listQuantity_11 (i := 3) rfl rfl ?_
    refine X_iconst (v := 0) dX11_listQuantity_12 (by decide) ?_
    refine X_aload_n dX11_listQuantity_13 (i := 0) rfl rfl ?_
    refine X_get (i := 39) k9 rfl (ci := 10) rfl in11 (k := 6) (by decide) fX11_147 rfl dX11_listQuantity_14 ?_
    refine X_iconst (v := 1) dX11_listQuantity_17 (by decide) ?_
    refine X_isub dX11_listQuantity_18 ?_
    refine X_callS (gc2 := 0) (gs2 := 0) (m_in i 0 (nI (listN P.2.1 L pr (idx s) 5 (idx a) 1).length - 1)) kmX11_in rfl lX11_89 sX11_in rfl rfl (Nat.le_of_ble_eq_true rfl) (by decide) dX11_listQuantity_19 (by decide) (by decide) (fun E w1 hq => nomatch hq.1) (fun v w1 hq => ?_)
    have hv := hq.1
    obtain rfl := hq.2.symm
    cases hv
    refine X_if_eq (tgt := 34) dX11_listQuantity_22 (by decide) (fun h2 => ?_) (fun h2 => ?_)
    · have hi : inP i (listN P.2.1 L pr (idx s) 5 (idx a) 1).length = false := by have := bI_eq h2; rw [btw_inP (by omega)] at this; exact this
      refine X_aload_n dX11_listQuantity_34 (i := 0) rfl rfl ?_
      refine X_iconst (v := 3) dX11_listQuantity_35 (by decide) ?_
      refine X_callV (gc2 := 0) (gs2 := 0) (m_fails (w := (lsW G.2.2.1 w 0 np nl no nm nw (listN P.2.1 L pr (idx s) 5 (idx a) 1).length (wr vPt ea 0 (listN P.2.1 L pr (idx s) 5 (idx a) 1)) (wr vQt eb 0 (listN P.2.1 L pr (idx s) 5 (idx a) 1)))) ⟨h9.1, rfl⟩ 3) (i := 39) k9 rfl rfl kmX11_fails rfl lX11_105 iX11_fails vX11_fails rfl rfl (Nat.le_of_ble_eq_true rfl) (by decide) dX11_listQuantity_36 (by decide) (by decide) (fun E w1 hq => nomatch hq.1) (fun v w1 hq => ?_)
      have hv := hq.1
      obtain rfl := hq.2.symm
      cases hv
      refine X_i2l dX11_listQuantity_39 rfl ?_
      refine X_lreturn dX11_listQuantity_40 rfl ?_
      first
        | exact ⟨_, rfl, fun _ _ => by rw [idx_nI (by omega), ← Nat.zero_add j, wr_at (z := (0, 0)) hj, Nat.zero_add]; rfl, by rw [if_pos hcd, cdI, hi]; rfl⟩
        | exact ⟨_, rfl, fun _ h => absurd h (by rw [hi]; decide), by rw [if_pos hcd, cdI, hi]; exact lsW_t⟩
    · have hi : inP i (listN P.2.1 L pr (idx s) 5 (idx a) 1).length = true := by have := bI_ne h2; rw [btw_inP (by omega)] at this; exact this
      obtain ⟨j, hj, rfl⟩ := inP_of (by omega) hi
      refine X_aload_n dX11_listQuantity_25 (i := 0) rfl rfl ?_
      refine X_get (i := 39) k9 rfl (ci := 10) rfl in11 (k := 29) (by decide) fX11_78 rfl dX11_listQuantity_26 ?_
      refine X_iload_n dX11_listQuantity_29 (i := 3) rfl rfl ?_
      refine X_lald (i := 62) k62 rfl rfl (by omega) (by decide) dX11_listQuantity_30 ?_
      refine X_goto (tgt := 40) dX11_listQuantity_31 (by decide) ?_
      refine X_lreturn dX11_listQuantity_40 rfl ?_
      first
        | exact ⟨_, rfl, fun _ _ => by rw [idx_nI (by omega), ← Nat.zero_add j, wr_at (z := (0, 0)) hj, Nat.zero_add]; rfl, by rw [if_pos hcd, cdI, hi]; rfl⟩
        | exact ⟨_, rfl, fun _ h => absurd h (by rw [hi]; decide), by rw [if_pos hcd, cdI, hi]; exact lsW_t⟩
  · have hcd : ¬ cdA a s np = 0 := of_decide_eq_false (bI_eq h1)
    rw [if_neg hcd]
    refine X_lconst (v := 0) dX11_listQuantity_9 rfl ?_
    refine X_lreturn dX11_listQuantity_10 rfl ?_
    exact ⟨_, rfl, fun h => absurd h hcd, by first | rfl | rw [if_neg hcd]⟩
end TextM
