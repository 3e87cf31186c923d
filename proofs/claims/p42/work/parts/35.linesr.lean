/-! LINES of the class: replaced, ended, scrap, choices (walks by gen/spec35.py) -/
section LinesR
variable {G : Gx} {w : Wd}
set_option maxRecDepth 20000 in
theorem c_endBefore {mp cf np : Nat} {L : LSt} (h0 : X0 w mp cf) (hB : XB w) (hL : XL G.2.2.1 w L) (hI : LI np L) (l s : Int32) : XC G mX10_endBefore 7 2 12 [.ref (w.1 0), .int l, .int s] w (fun r w' => r = xr (cdEB L l s) [eIOB, eIAE] (.int (nI (la L (idx l)))) ∧ w' = if cdEB L l s = 0 then setM w 13 (aI G.2.2.1 40 (nf (va_up (la L) (idx l) (idx s - 1)))) else w) := by
  have h16 := hI.1
  have h40 := hI.2.1
  refine XC.of (lo0 := [(0, .ref (w.1 0)), (1, .int l), (2, .int s)]) kmX10_endBefore (Nat.le_of_ble_eq_true rfl) rfl ?_
  refine X_aload_n dX10_endBefore_0 (i := 0) rfl rfl ?_
  refine X_iload_n dX10_endBefore_1 (i := 1) rfl rfl ?_
  refine X_callV (gc2 := 1) (gs2 := 6) (c_checkLine l h0 hB hL) (i := 0) h0 rfl rfl kmX10_checkLine rfl lX10_153 iX10_checkLine vX10_checkLine rfl rfl (Nat.le_of_ble_eq_true rfl) (by decide) dX10_endBefore_2 (by decide) (by decide) (fun E w1 hq => XT.out rfl (by
      have hv := hq.1
      obtain rfl := hq.2.symm
      obtain ⟨e1, rfl⟩ := rOK_inr hv
      have hcd := (show cdEB L l s = 1 by rw [cdEB, e1]; rfl)
      exact ⟨by rw [hcd]; rfl, by rw [hcd]; rfl⟩)) (fun v w1 hq => ?_)
  have hv := hq.1
  obtain rfl := hq.2.symm
  obtain ⟨e1, rfl⟩ := rOK_inl hv
  obtain ⟨j, hj, rfl⟩ := inP_of (by omega) e1
  have hb := hI.2.2 j hj
  have gj : idx (nI j) = j := idx_nI (by omega)
  refine X_aload_n dX10_endBefore_5 (i := 0) rfl rfl ?_
  refine X_iload_n dX10_endBefore_6 (i := 1) rfl rfl ?_
  refine X_iload_n dX10_endBefore_7 (i := 2) rfl rfl ?_
  refine X_callV (gc2 := 0) (gs2 := 0) (c_checkCut j s (by omega) h0 hB hL) (i := 0) h0 rfl rfl kmX10_checkCut rfl lX10_156 iX10_checkCut vX10_checkCut rfl rfl (Nat.le_of_ble_eq_true rfl) (by decide) dX10_endBefore_8 (by decide) (by decide) (fun E w1 hq => XT.out rfl (by
      have hv := hq.1
      obtain rfl := hq.2.symm
      obtain ⟨e2, rfl⟩ := rOK_inr hv
      have hcd := (show cdEB L (nI j) s = 2 by rw [cdEB, e1, gj, e2]; rfl)
      exact ⟨by rw [hcd]; rfl, by rw [hcd]; rfl⟩)) (fun v w1 hq => ?_)
  have hv := hq.1
  obtain rfl := hq.2.symm
  obtain ⟨e2, rfl⟩ := rOK_inl hv
  obtain ⟨n, hn1, hn2, rfl⟩ := cut_n hI hj e2
  have hcd : cdEB L (nI j) (nI n) = 0 := by rw [cdEB, e1, gj, e2]; rfl
  refine X_aload_n dX10_endBefore_11 (i := 0) rfl rfl ?_
  refine X_get (i := 0) h0 rfl (ci := 9) rfl in10 (k := 0) (by decide) fX10_10 rfl dX10_endBefore_12 ?_
  refine X_get (i := 1) hB rfl (ci := 0) rfl in0 (k := 1) (by decide) fX10_137 rfl dX10_endBefore_15 ?_
  refine X_get (i := 6) hL.1 rfl (ci := 3) rfl in4 (k := 6) (by decide) fX10_165 rfl dX10_endBefore_18 ?_
  refine X_iload_n dX10_endBefore_21 (i := 1) rfl rfl ?_
  refine X_iald (i := 13) hL.2.2.2.2.2.2.2.1 rfl rfl (by omega) (by decide) dX10_endBefore_22 ?_
  refine X_istore_n (i := 3) (lo' := [(3, _), (0, _), (1, _), (2, _)]) dX10_endBefore_23 rfl (by decide) rfl ?_
  refine X_aload_n dX10_endBefore_24 (i := 0) rfl rfl ?_
  refine X_get (i := 0) h0 rfl (ci := 9) rfl in10 (k := 0) (by decide) fX10_10 rfl dX10_endBefore_25 ?_
  refine X_get (i := 1) hB rfl (ci := 0) rfl in0 (k := 1) (by decide) fX10_137 rfl dX10_endBefore_28 ?_
  refine X_get (i := 6) hL.1 rfl (ci := 3) rfl in4 (k := 6) (by decide) fX10_165 rfl dX10_endBefore_31 ?_
  refine X_iload_n dX10_endBefore_34 (i := 1) rfl rfl ?_
  refine X_iload_n dX10_endBefore_35 (i := 2) rfl rfl ?_
  refine X_iconst (v := 1) dX10_endBefore_36 (by decide) ?_
  refine X_isub dX10_endBefore_37 ?_
  refine XJ.top (v' := .int (nI (n - 1))) (by rw [show (1 : Int32) = nI 1 from rfl, pk_sub (by omega)]) ?_
  refine X_iast (i := 13) hL.2.2.2.2.2.2.2.1 rfl rfl (by omega) (by decide) dX10_endBefore_38 (fun hc_38 => ?_)
  refine X_iload_n dX10_endBefore_39 (i := 3) rfl rfl ?_
  refine X_ireturn dX10_endBefore_40 rfl rfl ?_
  exact ⟨by rw [hcd, gj]; rfl, by rw [hcd, if_pos rfl, gj, idx_nI (by omega), ← nf_up]⟩
set_option maxRecDepth 20000 in
theorem c_setScrap {mp cf np : Nat} {L : LSt} (h0 : X0 w mp cf) (hB : XB w) (hL : XL G.2.2.1 w L) (hI : LI np L) (l c : Int32) : XC G mX10_setScrap 7 2 12 [.ref (w.1 0), .int l, .int c] w (fun r w' => r = xr (cdSS L l c) [eIOB, eIAE] (.int (nI (sc L (idx l)))) ∧ w' = if cdSS L l c = 0 then setM w 11 (aI G.2.2.1 40 (nf (va_up (sc L) (idx l) (idx c)))) else w) := by
  have h16 := hI.1
  have h40 := hI.2.1
  refine XC.of (lo0 := [(0, .ref (w.1 0)), (1, .int l), (2, .int c)]) kmX10_setScrap (Nat.le_of_ble_eq_true rfl) rfl ?_
  refine X_aload_n dX10_setScrap_0 (i := 0) rfl rfl ?_
  refine X_iload_n dX10_setScrap_1 (i := 1) rfl rfl ?_
  refine X_callV (gc2 := 1) (gs2 := 6) (c_checkLine l h0 hB hL) (i := 0) h0 rfl rfl kmX10_checkLine rfl lX10_153 iX10_checkLine vX10_checkLine rfl rfl (Nat.le_of_ble_eq_true rfl) (by decide) dX10_setScrap_2 (by decide) (by decide) (fun E w1 hq => XT.out rfl (by
      have hv := hq.1
      obtain rfl := hq.2.symm
      obtain ⟨e1, rfl⟩ := rOK_inr hv
      have hcd := (show cdSS L l c = 1 by rw [cdSS, e1]; rfl)
      exact ⟨by rw [hcd]; rfl, by rw [hcd]; rfl⟩)) (fun v w1 hq => ?_)
  have hv := hq.1
  obtain rfl := hq.2.symm
  obtain ⟨e1, rfl⟩ := rOK_inl hv
  obtain ⟨j, hj, rfl⟩ := inP_of (by omega) e1
  have hb := hI.2.2 j hj
  have gj : idx (nI j) = j := idx_nI (by omega)
  refine X_iload_n dX10_setScrap_5 (i := 2) rfl rfl ?_
  refine X_iconst (v := 0) dX10_setScrap_6 (by decide) ?_
  refine X_bipush (v := 50) dX10_setScrap_7 (by decide) ?_
  refine X_callS (gc2 := 1) (gs2 := 6) (c_isBetween c 0 50) kmX10_isBetween rfl lX10_177 sX10_isBetween rfl rfl (Nat.le_of_ble_eq_true rfl) (by decide) dX10_setScrap_9 (by decide) (by decide) (fun E w1 hq => nomatch hq.1) (fun v w1 hq => ?_)
  have hv := hq.1
  obtain rfl := hq.2.symm
  cases hv
  refine X_if_ne (tgt := 25) dX10_setScrap_12 (by decide) (fun h2 => ?_) (fun h2 => ?_)
  · have hcd : cdSS L (nI j) c = 0 := by rw [cdSS, e1, bI_ne h2]; rfl
    obtain ⟨n, hn1, hn2, rfl⟩ := btw_n (lo := 0) (hi := 50) (by decide) (by decide) (bI_ne h2)
    refine X_aload_n dX10_setScrap_25 (i := 0) rfl rfl ?_
    refine X_get (i := 0) h0 rfl (ci := 9) rfl in10 (k := 0) (by decide) fX10_10 rfl dX10_setScrap_26 ?_
    refine X_get (i := 1) hB rfl (ci := 0) rfl in0 (k := 1) (by decide) fX10_137 rfl dX10_setScrap_29 ?_
    refine X_get (i := 6) hL.1 rfl (ci := 3) rfl in4 (k := 4) (by decide) fX10_174 rfl dX10_setScrap_32 ?_
    refine X_iload_n dX10_setScrap_35 (i := 1) rfl rfl ?_
    refine X_iald (i := 11) hL.2.2.2.2.2.1 rfl rfl (by omega) (by decide) dX10_setScrap_36 ?_
    refine X_istore_n (i := 3) (lo' := [(3, _), (0, _), (1, _), (2, _)]) dX10_setScrap_37 rfl (by decide) rfl ?_
    refine X_aload_n dX10_setScrap_38 (i := 0) rfl rfl ?_
    refine X_get (i := 0) h0 rfl (ci := 9) rfl in10 (k := 0) (by decide) fX10_10 rfl dX10_setScrap_39 ?_
    refine X_get (i := 1) hB rfl (ci := 0) rfl in0 (k := 1) (by decide) fX10_137 rfl dX10_setScrap_42 ?_
    refine X_get (i := 6) hL.1 rfl (ci := 3) rfl in4 (k := 4) (by decide) fX10_174 rfl dX10_setScrap_45 ?_
    refine X_iload_n dX10_setScrap_48 (i := 1) rfl rfl ?_
    refine X_iload_n dX10_setScrap_49 (i := 2) rfl rfl ?_
    refine X_iast (i := 11) hL.2.2.2.2.2.1 rfl rfl (by omega) (by decide) dX10_setScrap_50 (fun hc_50 => ?_)
    refine X_iload_n dX10_setScrap_51 (i := 3) rfl rfl ?_
    refine X_ireturn dX10_setScrap_52 rfl rfl ?_
    exact ⟨by rw [hcd, gj]; rfl, by rw [hcd, if_pos rfl, gj, idx_nI (by omega), ← nf_up]⟩
  · have hcd : cdSS L (nI j) c = 2 := by rw [cdSS, e1, bI_eq h2]; rfl
    refine X_throwS (text := "scrap rate out of range") thr_IllegalArgumentException (by decide +kernel) rfl dX10_setScrap_15 dX10_setScrap_18 dX10_setScrap_19 dX10_setScrap_21 dX10_setScrap_24 (Nat.le_of_ble_eq_true rfl) (by decide) (by decide) (by decide) ?_
    exact ⟨by rw [hcd]; rfl, by rw [hcd]; rfl⟩
set_option maxRecDepth 20000 in
theorem c_lines {mp cf : Nat} {L : LSt} (h0 : X0 w mp cf) (hB : XB w) (hL : XL G.2.2.1 w L) : XC G mX10_lines 7 0 0 [.ref (w.1 0)] w (fun r w' => r = .inl (some (.int (nI (ln L)))) ∧ w' = w) := by
  refine XC.of (lo0 := [(0, .ref (w.1 0))]) kmX10_lines (Nat.le_of_ble_eq_true rfl) rfl ?_
  refine X_aload_n dX10_lines_0 (i := 0) rfl rfl ?_
  refine X_get (i := 0) h0 rfl (ci := 9) rfl in10 (k := 0) (by decide) fX10_10 rfl dX10_lines_1 ?_
  refine X_get (i := 1) hB rfl (ci := 0) rfl in0 (k := 1) (by decide) fX10_137 rfl dX10_lines_4 ?_
  refine X_get (i := 6) hL.1 rfl (ci := 3) rfl in4 (k := 9) (by decide) fX10_186 rfl dX10_lines_7 ?_
  refine X_ireturn dX10_lines_10 rfl rfl ?_
  exact ⟨rfl, rfl⟩
set_option maxRecDepth 20000 in
theorem c_lastSerial {mp cf np : Nat} {L : LSt} (h0 : X0 w mp cf) (hB : XB w) (hL : XL G.2.2.1 w L) (hI : LI np L) (l : Int32) : XC G mX10_lastSerial 7 1 6 [.ref (w.1 0), .int l] w (fun r w' => r = xr (cdP l (ln L)) [eIOB] (.int (nI (la L (idx l)))) ∧ w' = w) := by
  have h16 := hI.1
  have h40 := hI.2.1
  refine XC.of (lo0 := [(0, .ref (w.1 0)), (1, .int l)]) kmX10_lastSerial (Nat.le_of_ble_eq_true rfl) rfl ?_
  refine X_aload_n dX10_lastSerial_0 (i := 0) rfl rfl ?_
  refine X_iload_n dX10_lastSerial_1 (i := 1) rfl rfl ?_
  refine X_callV (gc2 := 0) (gs2 := 0) (c_checkLine l h0 hB hL) (i := 0) h0 rfl rfl kmX10_checkLine rfl lX10_153 iX10_checkLine vX10_checkLine rfl rfl (Nat.le_of_ble_eq_true rfl) (by decide) dX10_lastSerial_2 (by decide) (by decide) (fun E w1 hq => XT.out rfl (by
      have hv := hq.1
      obtain rfl := hq.2.symm
      obtain ⟨e1, rfl⟩ := rOK_inr hv
      have hcd := cdP_1 e1
      exact ⟨by rw [hcd]; rfl, rfl⟩)) (fun v w1 hq => ?_)
  have hv := hq.1
  obtain rfl := hq.2.symm
  obtain ⟨e1, rfl⟩ := rOK_inl hv
  obtain ⟨j, hj, rfl⟩ := inP_of (by omega) e1
  have hb := hI.2.2 j hj
  have gj : idx (nI j) = j := idx_nI (by omega)
  have hcd := cdP_0 e1
  refine X_aload_n dX10_lastSerial_5 (i := 0) rfl rfl ?_
  refine X_get (i := 0) h0 rfl (ci := 9) rfl in10 (k := 0) (by decide) fX10_10 rfl dX10_lastSerial_6 ?_
  refine X_get (i := 1) hB rfl (ci := 0) rfl in0 (k := 1) (by decide) fX10_137 rfl dX10_lastSerial_9 ?_
  refine X_get (i := 6) hL.1 rfl (ci := 3) rfl in4 (k := 6) (by decide) fX10_165 rfl dX10_lastSerial_12 ?_
  refine X_iload_n dX10_lastSerial_15 (i := 1) rfl rfl ?_
  refine X_iald (i := 13) hL.2.2.2.2.2.2.2.1 rfl rfl (by omega) (by decide) dX10_lastSerial_16 ?_
  refine X_ireturn dX10_lastSerial_17 rfl rfl ?_
  exact ⟨by rw [hcd, gj]; rfl, rfl⟩
set_option maxRecDepth 20000 in
theorem c_holds {mp np : Nat} {L : LSt} {pr : Nat → Nat} (h0 : X0 w mp (cfg pr)) (hB : XB w) (hL : XL G.2.2.1 w L) (hI : LI np L) (hpr : ∀ i, i < 4 → pr i < 4) (l s : Int32) : XC G mX10_holds 7 2 12 [.ref (w.1 0), .int l, .int s] w (fun r w' => r = xr (cdA l s (ln L)) [eIOB, eIAE] (.int (bI (hld L pr (idx s) (idx l)))) ∧ w' = w) := by
  have h16 := hI.1
  have h40 := hI.2.1
  refine XC.of (lo0 := [(0, .ref (w.1 0)), (1, .int l), (2, .int s)]) kmX10_holds (Nat.le_of_ble_eq_true rfl) rfl ?_
  refine X_aload_n dX10_holds_0 (i := 0) rfl rfl ?_
  refine X_iload_n dX10_holds_1 (i := 1) rfl rfl ?_
  refine X_callV (gc2 := 1) (gs2 := 6) (c_checkLine l h0 hB hL) (i := 0) h0 rfl rfl kmX10_checkLine rfl lX10_153 iX10_checkLine vX10_checkLine rfl rfl (Nat.le_of_ble_eq_true rfl) (by decide) dX10_holds_2 (by decide) (by decide) (fun E w1 hq => XT.out rfl (by
      have hv := hq.1
      obtain rfl := hq.2.symm
      obtain ⟨e1, rfl⟩ := rOK_inr hv
      have hcd := cdA_1 (s := s) e1
      exact ⟨by rw [hcd]; rfl, rfl⟩)) (fun v w1 hq => ?_)
  have hv := hq.1
  obtain rfl := hq.2.symm
  obtain ⟨e1, rfl⟩ := rOK_inl hv
  refine X_iload_n dX10_holds_5 (i := 2) rfl rfl ?_
  refine X_callS (gc2 := 0) (gs2 := 0) (c_checkSerial s) kmX10_checkSerial rfl lX10_187 sX10_checkSerial rfl rfl (Nat.le_of_ble_eq_true rfl) (by decide) dX10_holds_6 (by decide) (by decide) (fun E w1 hq => XT.out rfl (by
      have hv := hq.1
      obtain rfl := hq.2.symm
      obtain ⟨e2, rfl⟩ := rOK_inr hv
      have hcd := cdA_2 e1 e2
      exact ⟨by rw [hcd]; rfl, rfl⟩)) (fun v w1 hq => ?_)
  have hv := hq.1
  obtain rfl := hq.2.symm
  obtain ⟨e2, rfl⟩ := rOK_inl hv
  have hcd := cdA_0 e1 e2
  obtain ⟨j, hj, rfl⟩ := inP_of (by omega) e1
  obtain ⟨n, hn1, hn2, rfl⟩ := btw_n (lo := 1) (hi := 999) (by decide) (by decide) e2
  refine X_aload_n dX10_holds_9 (i := 0) rfl rfl ?_
  refine X_get (i := 0) h0 rfl (ci := 9) rfl in10 (k := 0) (by decide) fX10_10 rfl dX10_holds_10 ?_
  refine X_get (i := 1) hB rfl (ci := 0) rfl in0 (k := 1) (by decide) fX10_137 rfl dX10_holds_13 ?_
  refine X_iload_n dX10_holds_16 (i := 1) rfl rfl ?_
  refine X_iload_n dX10_holds_17 (i := 2) rfl rfl ?_
  refine X_aload_n dX10_holds_18 (i := 0) rfl rfl ?_
  refine X_get (i := 0) h0 rfl (ci := 9) rfl in10 (k := 9) (by decide) fX10_66 rfl dX10_holds_19 ?_
  refine X_callV (gc2 := 0) (gs2 := 0) (c_isHolding hL hI j hj hpr n (by omega)) (i := 6) hL.1 rfl rfl kmX4_isHolding rfl lX10_190 iX4_isHolding vX4_isHolding rfl rfl (Nat.le_of_ble_eq_true rfl) (by decide) dX10_holds_22 (by decide) (by decide) (fun E w1 hq => nomatch hq.1) (fun v w1 hq => ?_)
  have hv := hq.1
  obtain rfl := hq.2.symm
  cases hv
  refine X_ireturn dX10_holds_25 rfl (narrow_b _) ?_
  exact ⟨by rw [hcd, idx_nI (by omega), idx_nI (by omega)]; rfl, rfl⟩
set_option maxRecDepth 20000 in
theorem cfg_set : ∀ a b c d o x : Fin 4, (nI (a.val + 4 * b.val + 16 * c.val + 64 * d.val) &&& ((Int32.ofInt 3 <<< (2 * nI o.val)) ^^^ (-1))) ||| (nI x.val <<< (2 * nI o.val)) = nI (va_up (fun i => if i = 0 then a.val else if i = 1 then b.val else if i = 2 then c.val else d.val) o.val x.val 0 + 4 * va_up (fun i => if i = 0 then a.val else if i = 1 then b.val else if i = 2 then c.val else d.val) o.val x.val 1 + 16 * va_up (fun i => if i = 0 then a.val else if i = 1 then b.val else if i = 2 then c.val else d.val) o.val x.val 2 + 64 * va_up (fun i => if i = 0 then a.val else if i = 1 then b.val else if i = 2 then c.val else d.val) o.val x.val 3) := by decide +kernel
theorem cfg_up {pr : Nat → Nat} (hpr : ∀ i, i < 4 → pr i < 4) {o x : Nat} (ho : o < 4) (hx : x < 4) : (nI (cfg pr) &&& ((Int32.ofInt 3 <<< (2 * nI o)) ^^^ (-1))) ||| (nI x <<< (2 * nI o)) = nI (cfg (va_up pr o x)) := by
  have h := cfg_set ⟨pr 0, hpr 0 (by decide)⟩ ⟨pr 1, hpr 1 (by decide)⟩ ⟨pr 2, hpr 2 (by decide)⟩ ⟨pr 3, hpr 3 (by decide)⟩ ⟨o, ho⟩ ⟨x, hx⟩
  refine Eq.trans h (congrArg nI ?_)
  simp only [cfg, va_up]
  rfl
theorem cfg_sh {j : Nat} (hj : j < 4) (a n : Nat) : (nI a &&& ((3 : Int32) <<< (2 * nI j &&& 31) ^^^ (-1))) ||| (nI n <<< (2 * nI j &&& 31)) = (nI a &&& ((Int32.ofInt 3 <<< (2 * nI j)) ^^^ (-1))) ||| (nI n <<< (2 * nI j)) := by
  rw [show 2 * nI j &&& 31 = 2 * nI j from (by rcases (show j = 0 ∨ j = 1 ∨ j = 2 ∨ j = 3 by omega) with h | h | h | h <;> subst h <;> decide)]
  rfl
set_option maxRecDepth 20000 in
theorem c_setChoice {mp : Nat} {pr : Nat → Nat} (h0 : X0 w mp (cfg pr)) (hpr : ∀ i, i < 4 → pr i < 4) (l c : Int32) : XC G mX10_setChoice 7 2 12 [.ref (w.1 0), .int l, .int c] w (fun r w' => r = xr (cdSC l c) [eIOB, eIAE] (.int (nI (pr (idx l)))) ∧ w' = if cdSC l c = 0 then setM w 0 (oB 9 [.ref (w.1 1), .ref (w.1 20), .ref (w.1 26), .ref (w.1 29), .ref (w.1 31), .ref (w.1 33), .ref (w.1 36), .ref (w.1 38), .int (nI mp), .int (nI (cfg (va_up pr (idx l) (idx c))))]) else w) := by
  refine XC.of (lo0 := [(0, .ref (w.1 0)), (1, .int l), (2, .int c)]) kmX10_setChoice (Nat.le_of_ble_eq_true rfl) rfl ?_
  refine X_iload_n dX10_setChoice_0 (i := 1) rfl rfl ?_
  refine X_callS (gc2 := 1) (gs2 := 6) (c_checkOption l) kmX10_checkOption rfl lX10_193 sX10_checkOption rfl rfl (Nat.le_of_ble_eq_true rfl) (by decide) dX10_setChoice_1 (by decide) (by decide) (fun E w1 hq => XT.out rfl (by
      have hv := hq.1
      obtain rfl := hq.2.symm
      obtain ⟨e1, rfl⟩ := rOK_inr hv
      have hcd := (show cdSC l c = 1 by rw [cdSC, e1]; rfl)
      exact ⟨by rw [hcd]; rfl, by rw [hcd]; rfl⟩)) (fun v w1 hq => ?_)
  have hv := hq.1
  obtain rfl := hq.2.symm
  obtain ⟨e1, rfl⟩ := rOK_inl hv
  refine X_iload_n dX10_setChoice_4 (i := 2) rfl rfl ?_
  refine X_iconst (v := 0) dX10_setChoice_5 (by decide) ?_
  refine X_iconst (v := 3) dX10_setChoice_6 (by decide) ?_
  refine X_callS (gc2 := 1) (gs2 := 6) (c_isBetween c 0 3) kmX10_isBetween rfl lX10_177 sX10_isBetween rfl rfl (Nat.le_of_ble_eq_true rfl) (by decide) dX10_setChoice_7 (by decide) (by decide) (fun E w1 hq => nomatch hq.1) (fun v w1 hq => ?_)
  have hv := hq.1
  obtain rfl := hq.2.symm
  cases hv
  refine X_if_ne (tgt := 23) dX10_setChoice_10 (by decide) (fun h2 => ?_) (fun h2 => ?_)
  · have hcd : cdSC l c = 0 := by rw [cdSC, e1, bI_ne h2]; rfl
    obtain ⟨j, hj0, hj, rfl⟩ := btw_n (lo := 0) (hi := 3) (by decide) (by decide) e1
    obtain ⟨n, hn1, hn2, rfl⟩ := btw_n (lo := 0) (hi := 3) (by decide) (by decide) (bI_ne h2)
    refine X_aload_n dX10_setChoice_23 (i := 0) rfl rfl ?_
    refine X_get (i := 0) h0 rfl (ci := 9) rfl in10 (k := 9) (by decide) fX10_66 rfl dX10_setChoice_24 ?_
    refine X_iload_n dX10_setChoice_27 (i := 1) rfl rfl ?_
    refine X_callS (gc2 := 1) (gs2 := 6) (c_choiceIn hpr j (by omega)) kmX10_choiceIn rfl lX10_198 sX10_choiceIn rfl rfl (Nat.le_of_ble_eq_true rfl) (by decide) dX10_setChoice_28 (by decide) (by decide) (fun E w1 hq => nomatch hq.1) (fun v w1 hq => ?_)
    have hv := hq.1
    obtain rfl := hq.2.symm
    cases hv
    refine X_istore_n (i := 3) (lo' := [(3, _), (0, _), (1, _), (2, _)]) dX10_setChoice_31 rfl (by decide) rfl ?_
    refine X_aload_n dX10_setChoice_32 (i := 0) rfl rfl ?_
    refine X_aload_n dX10_setChoice_33 (i := 0) rfl rfl ?_
    refine X_get (i := 0) h0 rfl (ci := 9) rfl in10 (k := 9) (by decide) fX10_66 rfl dX10_setChoice_34 ?_
    refine X_iconst (v := 3) dX10_setChoice_37 (by decide) ?_
    refine X_iconst (v := 2) dX10_setChoice_38 (by decide) ?_
    refine X_iload_n dX10_setChoice_39 (i := 1) rfl rfl ?_
    refine X_imul dX10_setChoice_40 ?_
    refine X_ishl dX10_setChoice_41 ?_
    refine X_iconst (v := -1) dX10_setChoice_42 (by decide) ?_
    refine X_ixor dX10_setChoice_43 ?_
    refine X_iand dX10_setChoice_44 ?_
    refine X_iload_n dX10_setChoice_45 (i := 2) rfl rfl ?_
    refine X_iconst (v := 2) dX10_setChoice_46 (by decide) ?_
    refine X_iload_n dX10_setChoice_47 (i := 1) rfl rfl ?_
    refine X_imul dX10_setChoice_48 ?_
    refine X_ishl dX10_setChoice_49 ?_
    refine X_ior dX10_setChoice_50 ?_
    refine XJ.top (v' := .int (nI (cfg (va_up pr j n)))) (congrArg Value.int ((cfg_sh (show j < 4 by omega) (cfg pr) n).trans (cfg_up hpr (show j < 4 by omega) (show n < 4 by omega)))) ?_
    refine X_put tyX10 tyX10_ok nmX10 (i := 0) h0 rfl (ci := 9) rfl in10 (k := 9) (by decide) fX10_66 rfl rfl rfl (Nat.le_of_ble_eq_true rfl) dX10_setChoice_51 (fun hc_51 => ?_)
    refine X_iload_n dX10_setChoice_54 (i := 3) rfl rfl ?_
    refine X_ireturn dX10_setChoice_55 rfl rfl ?_
    exact ⟨by rw [hcd, idx_nI (by omega)]; rfl, by rw [hcd, if_pos rfl, idx_nI (by omega), idx_nI (by omega)]; rfl⟩
  · have hcd : cdSC l c = 2 := by rw [cdSC, e1, bI_eq h2]; rfl
    refine X_throwS (text := "choice out of range") thr_IllegalArgumentException (by decide +kernel) rfl dX10_setChoice_13 dX10_setChoice_16 dX10_setChoice_17 dX10_setChoice_19 dX10_setChoice_22 (Nat.le_of_ble_eq_true rfl) (by decide) (by decide) (by decide) ?_
    exact ⟨by rw [hcd]; rfl, by rw [hcd]; rfl⟩
set_option maxRecDepth 20000 in
theorem c_choice {mp : Nat} {pr : Nat → Nat} (h0 : X0 w mp (cfg pr)) (hpr : ∀ i, i < 4 → pr i < 4) (l : Int32) : XC G mX10_choice 7 1 6 [.ref (w.1 0), .int l] w (fun r w' => r = xr (cdC l) [eIOB] (.int (nI (pr (idx l)))) ∧ w' = w) := by
  refine XC.of (lo0 := [(0, .ref (w.1 0)), (1, .int l)]) kmX10_choice (Nat.le_of_ble_eq_true rfl) rfl ?_
  refine X_iload_n dX10_choice_0 (i := 1) rfl rfl ?_
  refine X_callS (gc2 := 0) (gs2 := 0) (c_checkOption l) kmX10_checkOption rfl lX10_193 sX10_checkOption rfl rfl (Nat.le_of_ble_eq_true rfl) (by decide) dX10_choice_1 (by decide) (by decide) (fun E w1 hq => XT.out rfl (by
      have hv := hq.1
      obtain rfl := hq.2.symm
      obtain ⟨e1, rfl⟩ := rOK_inr hv
      have hcd := (show cdC l = 1 by rw [cdC, e1]; rfl)
      exact ⟨by rw [hcd]; rfl, rfl⟩)) (fun v w1 hq => ?_)
  have hv := hq.1
  obtain rfl := hq.2.symm
  obtain ⟨e1, rfl⟩ := rOK_inl hv
  have hcd : cdC l = 0 := by rw [cdC, e1]; rfl
  obtain ⟨j, hj0, hj, rfl⟩ := btw_n (lo := 0) (hi := 3) (by decide) (by decide) e1
  refine X_aload_n dX10_choice_4 (i := 0) rfl rfl ?_
  refine X_get (i := 0) h0 rfl (ci := 9) rfl in10 (k := 9) (by decide) fX10_66 rfl dX10_choice_5 ?_
  refine X_iload_n dX10_choice_8 (i := 1) rfl rfl ?_
  refine X_callS (gc2 := 0) (gs2 := 0) (c_choiceIn hpr j (by omega)) kmX10_choiceIn rfl lX10_198 sX10_choiceIn rfl rfl (Nat.le_of_ble_eq_true rfl) (by decide) dX10_choice_9 (by decide) (by decide) (fun E w1 hq => nomatch hq.1) (fun v w1 hq => ?_)
  have hv := hq.1
  obtain rfl := hq.2.symm
  cases hv
  refine X_ireturn dX10_choice_12 rfl rfl ?_
  exact ⟨by rw [hcd, idx_nI (by omega)]; rfl, rfl⟩
theorem up_up {α : Type} (f : Nat → α) (k : Nat) (x y : α) : va_up (va_up f k x) k y = va_up f k y := by
  funext i
  simp only [va_up]
  split <;> rfl
set_option maxHeartbeats 4000000 in
set_option maxRecDepth 20000 in
theorem c_replaceFrom {mp cf np : Nat} {P : PSt} {L : LSt} (h0 : X0 w mp cf) (hB : XB w) (hP : XP G.2.2.1 w P) (hL : XL G.2.2.1 w L) (hS : XS G.2.2.1 w L) (hnp : P.1 = np) (hI : LI np L) (l s c q : Int32) : XC G mX10_replaceFrom 7 8 48 [.ref (w.1 0), .int l, .int s, .int c, .int q] w (fun r w' => r = xr (cdRF np L l s c q) [eIOB, eIAE, eUOE, eISE] (.int (nI (ln L))) ∧ w' = if cdRF np L l s c q = 0 then setM (setM (xNew G.2.2.1 w (newL L (pa L (idx l)) (po L (idx l)) (idx c) (idx q) 0 (idx s) (la L (idx l)) (op L (idx l)) (cs L (idx l)))) 11 (aI G.2.2.1 40 (nf (sc (repL L (idx l) (idx s) (idx c) (idx q)))))) 13 (aI G.2.2.1 40 (nf (la (repL L (idx l) (idx s) (idx c) (idx q))))) else w) := by
  have h16 := hI.1
  have h40 := hI.2.1
  refine XC.of (lo0 := [(0, .ref (w.1 0)), (1, .int l), (2, .int s), (3, .int c), (4, .int q)]) kmX10_replaceFrom (Nat.le_of_ble_eq_true rfl) rfl ?_
  refine X_aload_n dX10_replaceFrom_0 (i := 0) rfl rfl ?_
  refine X_iload_n dX10_replaceFrom_1 (i := 1) rfl rfl ?_
  refine X_callV (gc2 := 7) (gs2 := 42) (c_checkLine l h0 hB hL) (i := 0) h0 rfl rfl kmX10_checkLine rfl lX10_153 iX10_checkLine vX10_checkLine rfl rfl (Nat.le_of_ble_eq_true rfl) (by decide) dX10_replaceFrom_2 (by decide) (by decide) (fun E w1 hq => XT.out rfl (by
      have hv := hq.1
      obtain rfl := hq.2.symm
      obtain ⟨e1, rfl⟩ := rOK_inr hv
      have hcd := (show cdRF np L l s c q = 1 by simp [cdRF, e1])
      exact ⟨by rw [hcd]; rfl, by rw [hcd]; rfl⟩)) (fun v w1 hq => ?_)
  have hv := hq.1
  obtain rfl := hq.2.symm
  obtain ⟨e1, rfl⟩ := rOK_inl hv
  obtain ⟨j, hj, rfl⟩ := inP_of (by omega) e1
  have hb := hI.2.2 j hj
  have gj : idx (nI j) = j := idx_nI (by omega)
  refine X_aload_n dX10_replaceFrom_5 (i := 0) rfl rfl ?_
  refine X_iload_n dX10_replaceFrom_6 (i := 3) rfl rfl ?_
  refine X_callV (gc2 := 6) (gs2 := 36) (c_checkPart c h0 hB hP) (i := 0) h0 rfl rfl kmX10_checkPart rfl lX10_100 iX10_checkPart vX10_checkPart rfl rfl (Nat.le_of_ble_eq_true rfl) (by decide) dX10_replaceFrom_7 (by decide) (by decide) (fun E w1 hq => XT.out rfl (by
      have hv := hq.1
      obtain rfl := hq.2.symm
      obtain ⟨e2, rfl⟩ := rOK_inr hv
      have hcd := (show cdRF np L (nI j) s c q = 1 by rw [hnp] at e2; simp [cdRF, e2])
      exact ⟨by rw [hcd]; rfl, by rw [hcd]; rfl⟩)) (fun v w1 hq => ?_)
  have hv := hq.1
  obtain rfl := hq.2.symm
  obtain ⟨e2, rfl⟩ := rOK_inl hv
  refine X_iload dX10_replaceFrom_10 (i := 4) rfl ?_
  refine X_callS (gc2 := 5) (gs2 := 30) (c_checkQuantity q) kmX10_checkQuantity rfl lX10_117 sX10_checkQuantity rfl rfl (Nat.le_of_ble_eq_true rfl) (by decide) dX10_replaceFrom_12 (by decide) (by decide) (fun E w1 hq => XT.out rfl (by
      have hv := hq.1
      obtain rfl := hq.2.symm
      obtain ⟨e3, rfl⟩ := rOK_inr hv
      have hcd := (show cdRF np L (nI j) s c q = 2 by rw [hnp] at e2; simp [cdRF, e1, e2, e3])
      exact ⟨by rw [hcd]; rfl, by rw [hcd]; rfl⟩)) (fun v w1 hq => ?_)
  have hv := hq.1
  obtain rfl := hq.2.symm
  obtain ⟨e3, rfl⟩ := rOK_inl hv
  refine X_aload_n dX10_replaceFrom_15 (i := 0) rfl rfl ?_
  refine X_iload_n dX10_replaceFrom_16 (i := 1) rfl rfl ?_
  refine X_iload_n dX10_replaceFrom_17 (i := 2) rfl rfl ?_
  refine X_callV (gc2 := 4) (gs2 := 24) (c_checkCut j s (by omega) h0 hB hL) (i := 0) h0 rfl rfl kmX10_checkCut rfl lX10_156 iX10_checkCut vX10_checkCut rfl rfl (Nat.le_of_ble_eq_true rfl) (by decide) dX10_replaceFrom_18 (by decide) (by decide) (fun E w1 hq => XT.out rfl (by
      have hv := hq.1
      obtain rfl := hq.2.symm
      obtain ⟨e4, rfl⟩ := rOK_inr hv
      have hcd := (show cdRF np L (nI j) s c q = 2 by rw [hnp] at e2; simp [cdRF, e1, e2, e3, gj, e4])
      exact ⟨by rw [hcd]; rfl, by rw [hcd]; rfl⟩)) (fun v w1 hq => ?_)
  have hv := hq.1
  obtain rfl := hq.2.symm
  obtain ⟨e4, rfl⟩ := rOK_inl hv
  rw [hnp] at e2
  obtain ⟨c, hc, rfl⟩ := inP_of (by omega) e2
  obtain ⟨q, hq1, hq, rfl⟩ := btw_n (lo := 1) (hi := 20) (by decide) (by decide) e3
  obtain ⟨s, hs1, hs2, rfl⟩ := cut_n hI hj e4
  have hcd0 : cdRF np L (nI j) (nI s) (nI c) (nI q) = cdL L (pa L j) c false := by simp only [cdRF, e1, e2, e3, e4, gj, Bool.and_self, cond_true, idx_nI (show c < 2 ^ 31 by omega)]
  refine X_aload_n dX10_replaceFrom_21 (i := 0) rfl rfl ?_
  refine X_get (i := 0) h0 rfl (ci := 9) rfl in10 (k := 0) (by decide) fX10_10 rfl dX10_replaceFrom_22 ?_
  refine X_get (i := 1) hB rfl (ci := 0) rfl in0 (k := 1) (by decide) fX10_137 rfl dX10_replaceFrom_25 ?_
  refine X_get (i := 6) hL.1 rfl (ci := 3) rfl in4 (k := 0) (by decide) fX10_159 rfl dX10_replaceFrom_28 ?_
  refine X_iload_n dX10_replaceFrom_31 (i := 1) rfl rfl ?_
  refine X_iald (i := 7) hL.2.1 rfl rfl (by omega) (by decide) dX10_replaceFrom_32 ?_
  refine X_istore (i := 5) (lo' := [(5, _), (0, _), (1, _), (2, _), (3, _), (4, _)]) dX10_replaceFrom_33 (by decide) rfl ?_
  refine X_aload_n dX10_replaceFrom_35 (i := 0) rfl rfl ?_
  refine X_iload dX10_replaceFrom_36 (i := 5) rfl ?_
  refine X_iload_n dX10_replaceFrom_38 (i := 3) rfl rfl ?_
  refine X_callV (gc2 := 3) (gs2 := 18) (c_checkNoCircle h0 hB hL hS hI (pa L j) c (by omega) (by omega)) (i := 0) h0 rfl rfl kmX10_checkNoCircle rfl lX10_124 iX10_checkNoCircle vX10_checkNoCircle rfl rfl (Nat.le_of_ble_eq_true rfl) (by decide) dX10_replaceFrom_39 (by decide) (by decide) (fun E w1 hq => XT.out rfl (by
      have hv := hq.1
      obtain rfl := hq.2.symm
      obtain ⟨e6, rfl⟩ := rOK_inr hv
      have hcd := hcd0.trans (cdL_3 (by simpa using e6))
      exact ⟨by rw [hcd]; rfl, by rw [hcd]; rfl⟩)) (fun v w1 hq => ?_)
  have hv := hq.1
  obtain rfl := hq.2.symm
  obtain ⟨e6, rfl⟩ := rOK_inl hv
  refine X_aload_n dX10_replaceFrom_42 (i := 0) rfl rfl ?_
  refine X_iload dX10_replaceFrom_43 (i := 5) rfl ?_
  refine X_iload_n dX10_replaceFrom_45 (i := 3) rfl rfl ?_
  refine X_callV (gc2 := 2) (gs2 := 12) (c_checkRoom h0 hB hL hS hI (pa L j) c (by omega) (by omega)) (i := 0) h0 rfl rfl kmX10_checkRoomForLine rfl lX10_127 iX10_checkRoomForLine vX10_checkRoomForLine rfl rfl (Nat.le_of_ble_eq_true rfl) (by decide) dX10_replaceFrom_46 (by decide) (by decide) (fun E w1 hq => XT.out rfl (by
      have hv := hq.1
      obtain rfl := hq.2.symm
      obtain ⟨e7, rfl⟩ := rOK_inr hv
      have hcd := hcd0.trans (cdL_4 (by simpa using e6) (by cases hz : deepB L (pa L j) c <;> cases hy : decide (ln L = 40) <;> simp_all))
      exact ⟨by rw [hcd]; rfl, by rw [hcd]; rfl⟩)) (fun v w1 hq => ?_)
  have hv := hq.1
  obtain rfl := hq.2.symm
  obtain ⟨e7, rfl⟩ := rOK_inl hv
  have e71 : deepB L (pa L j) c = false := by cases hz : deepB L (pa L j) c <;> simp_all
  have e72 : ln L ≠ 40 := by intro hz; simp [hz] at e7
  have hlt : ln L < 40 := by omega
  have hcd := hcd0.trans (cdL_0 (by simpa using e6) e71 rfl e72)
  have hjn : j ≠ ln L := by omega
  refine X_aload_n dX10_replaceFrom_49 (i := 0) rfl rfl ?_
  refine X_get (i := 0) h0 rfl (ci := 9) rfl in10 (k := 0) (by decide) fX10_10 rfl dX10_replaceFrom_50 ?_
  refine X_iload dX10_replaceFrom_53 (i := 5) rfl ?_
  refine X_aload_n dX10_replaceFrom_55 (i := 0) rfl rfl ?_
  refine X_get (i := 0) h0 rfl (ci := 9) rfl in10 (k := 0) (by decide) fX10_10 rfl dX10_replaceFrom_56 ?_
  refine X_get (i := 1) hB rfl (ci := 0) rfl in0 (k := 1) (by decide) fX10_137 rfl dX10_replaceFrom_59 ?_
  refine X_get (i := 6) hL.1 rfl (ci := 3) rfl in4 (k := 1) (by decide) fX10_162 rfl dX10_replaceFrom_62 ?_
  refine X_iload_n dX10_replaceFrom_65 (i := 1) rfl rfl ?_
  refine X_iald (i := 8) hL.2.2.1 rfl rfl (by omega) (by decide) dX10_replaceFrom_66 ?_
  refine X_iload_n dX10_replaceFrom_67 (i := 3) rfl rfl ?_
  refine X_iload dX10_replaceFrom_68 (i := 4) rfl ?_
  refine X_callV (gc2 := 2) (gs2 := 12) (c_Bill_add hB hL hS hI hlt (pa L j) (po L j) c q s (la L j) (op L j) (cs L j) (by omega) (by omega)) (i := 1) hB rfl rfl kmX0_add rfl lX10_134 iX0_add vX0_add rfl rfl (Nat.le_of_ble_eq_true rfl) (by decide) dX10_replaceFrom_70 (by decide) (by decide) (fun E w1 hq => nomatch hq.1) (fun v w1 hq => ?_)
  have hv := hq.1
  obtain rfl := hq.2.symm
  cases hv
  have k6 : cel (xAdd G.2.2.1 w (newL L (pa L j) (po L j) c q 0 s (la L j) (op L j) (cs L j))) 6 (oB 3 [.ref (w.1 7), .ref (w.1 8), .ref (w.1 9), .ref (w.1 10), .ref (w.1 11), .ref (w.1 12), .ref (w.1 13), .ref (w.1 14), .ref (w.1 15), .int (nI (ln L + 1))]) := ⟨hL.1.1, rfl⟩
  have k11 : cel (xAdd G.2.2.1 w (newL L (pa L j) (po L j) c q 0 s (la L j) (op L j) (cs L j))) 11 (aI G.2.2.1 40 (nf (sc (newL L (pa L j) (po L j) c q 0 s (la L j) (op L j) (cs L j))))) := ⟨hL.2.2.2.2.2.1.1, rfl⟩
  refine X_istore (i := 6) (lo' := [(6, _), (5, _), (0, _), (1, _), (2, _), (3, _), (4, _)]) dX10_replaceFrom_73 (by decide) rfl ?_
  refine X_aload_n dX10_replaceFrom_75 (i := 0) rfl rfl ?_
  refine X_get (i := 0) h0 rfl (ci := 9) rfl in10 (k := 0) (by decide) fX10_10 rfl dX10_replaceFrom_76 ?_
  refine X_get (i := 1) hB rfl (ci := 0) rfl in0 (k := 1) (by decide) fX10_137 rfl dX10_replaceFrom_79 ?_
  refine X_iload dX10_replaceFrom_82 (i := 6) rfl ?_
  refine X_iload_n dX10_replaceFrom_84 (i := 2) rfl rfl ?_
  refine X_aload_n dX10_replaceFrom_85 (i := 0) rfl rfl ?_
  refine X_get (i := 0) h0 rfl (ci := 9) rfl in10 (k := 0) (by decide) fX10_10 rfl dX10_replaceFrom_86 ?_
  refine X_get (i := 1) hB rfl (ci := 0) rfl in0 (k := 1) (by decide) fX10_137 rfl dX10_replaceFrom_89 ?_
  refine X_get (i := 6) k6 rfl (ci := 3) rfl in4 (k := 6) (by decide) fX10_165 rfl dX10_replaceFrom_92 ?_
  refine X_iload_n dX10_replaceFrom_95 (i := 1) rfl rfl ?_
  refine X_iald (i := 13) hL.2.2.2.2.2.2.2.1 rfl rfl (by omega) (by decide) dX10_replaceFrom_96 ?_
  refine X_callV (gc2 := 2) (gs2 := 12) (c_setRange (w := (xAdd G.2.2.1 w (newL L (pa L j) (po L j) c q 0 s (la L j) (op L j) (cs L j)))) (x := .ofNat (ln L + 1)) (f := nf (fi L)) (g := nf (la L)) ⟨hL.1.1, rfl⟩ ⟨hL.2.2.2.2.2.2.1.1, hL.2.2.2.2.2.2.1.2⟩ ⟨hL.2.2.2.2.2.2.2.1.1, hL.2.2.2.2.2.2.2.1.2⟩ (ln L) hlt (nI s) (nI (la L j))) (i := 6) k6 rfl rfl kmX4_setRange rfl lX10_141 iX4_setRange vX4_setRange rfl rfl (Nat.le_of_ble_eq_true rfl) (by decide) dX10_replaceFrom_97 (by decide) (by decide) (fun E w1 hq => nomatch hq.1) (fun v w1 hq => ?_)
  have hv := hq.1
  obtain rfl := hq.2.symm
  cases hv
  have k13 : cel (setM (setM (xAdd G.2.2.1 w (newL L (pa L j) (po L j) c q 0 s (la L j) (op L j) (cs L j))) 12 (aI G.2.2.1 40 (va_up (nf (fi L)) (ln L) (nI s)))) 13 (aI G.2.2.1 40 (va_up (nf (la L)) (ln L) (nI (la L j))))) 13 (aI G.2.2.1 40 (va_up (nf (la L)) (ln L) (nI (la L j)))) := ⟨hL.2.2.2.2.2.2.2.1.1, rfl⟩
  refine X_aload_n dX10_replaceFrom_100 (i := 0) rfl rfl ?_
  refine X_get (i := 0) h0 rfl (ci := 9) rfl in10 (k := 0) (by decide) fX10_10 rfl dX10_replaceFrom_101 ?_
  refine X_get (i := 1) hB rfl (ci := 0) rfl in0 (k := 1) (by decide) fX10_137 rfl dX10_replaceFrom_104 ?_
  refine X_iload dX10_replaceFrom_107 (i := 6) rfl ?_
  refine X_aload_n dX10_replaceFrom_109 (i := 0) rfl rfl ?_
  refine X_get (i := 0) h0 rfl (ci := 9) rfl in10 (k := 0) (by decide) fX10_10 rfl dX10_replaceFrom_110 ?_
  refine X_get (i := 1) hB rfl (ci := 0) rfl in0 (k := 1) (by decide) fX10_137 rfl dX10_replaceFrom_113 ?_
  refine X_get (i := 6) k6 rfl (ci := 3) rfl in4 (k := 7) (by decide) fX10_168 rfl dX10_replaceFrom_116 ?_
  refine X_iload_n dX10_replaceFrom_119 (i := 1) rfl rfl ?_
  refine X_iald (i := 14) hL.2.2.2.2.2.2.2.2.1 rfl rfl (by omega) (by decide) dX10_replaceFrom_120 ?_
  refine X_aload_n dX10_replaceFrom_121 (i := 0) rfl rfl ?_
  refine X_get (i := 0) h0 rfl (ci := 9) rfl in10 (k := 0) (by decide) fX10_10 rfl dX10_replaceFrom_122 ?_
  refine X_get (i := 1) hB rfl (ci := 0) rfl in0 (k := 1) (by decide) fX10_137 rfl dX10_replaceFrom_125 ?_
  refine X_get (i := 6) k6 rfl (ci := 3) rfl in4 (k := 8) (by decide) fX10_171 rfl dX10_replaceFrom_128 ?_
  refine X_iload_n dX10_replaceFrom_131 (i := 1) rfl rfl ?_
  refine X_iald (i := 15) hL.2.2.2.2.2.2.2.2.2 rfl rfl (by omega) (by decide) dX10_replaceFrom_132 ?_
  refine X_callV (gc2 := 2) (gs2 := 12) (c_setCondition (w := (setM (setM (xAdd G.2.2.1 w (newL L (pa L j) (po L j) c q 0 s (la L j) (op L j) (cs L j))) 12 (aI G.2.2.1 40 (va_up (nf (fi L)) (ln L) (nI s)))) 13 (aI G.2.2.1 40 (va_up (nf (la L)) (ln L) (nI (la L j)))))) (x := .ofNat (ln L + 1)) (f := fun j => nI (op L j - 1)) (g := fun j => nI (xcs (op L j) (cs L j))) ⟨hL.1.1, rfl⟩ ⟨hL.2.2.2.2.2.2.2.2.1.1, hL.2.2.2.2.2.2.2.2.1.2⟩ ⟨hL.2.2.2.2.2.2.2.2.2.1, hL.2.2.2.2.2.2.2.2.2.2⟩ (ln L) hlt (nI (op L j - 1)) (nI (xcs (op L j) (cs L j)))) (i := 6) k6 rfl rfl kmX4_setCondition rfl lX10_147 iX4_setCondition vX4_setCondition rfl rfl (Nat.le_of_ble_eq_true rfl) (by decide) dX10_replaceFrom_133 (by decide) (by decide) (fun E w1 hq => nomatch hq.1) (fun v w1 hq => ?_)
  have hv := hq.1
  obtain rfl := hq.2.symm
  cases hv
  refine X_aload_n dX10_replaceFrom_136 (i := 0) rfl rfl ?_
  refine X_get (i := 0) h0 rfl (ci := 9) rfl in10 (k := 0) (by decide) fX10_10 rfl dX10_replaceFrom_137 ?_
  refine X_get (i := 1) hB rfl (ci := 0) rfl in0 (k := 1) (by decide) fX10_137 rfl dX10_replaceFrom_140 ?_
  refine X_get (i := 6) k6 rfl (ci := 3) rfl in4 (k := 4) (by decide) fX10_174 rfl dX10_replaceFrom_143 ?_
  refine X_iload dX10_replaceFrom_146 (i := 6) rfl ?_
  refine X_aload_n dX10_replaceFrom_148 (i := 0) rfl rfl ?_
  refine X_get (i := 0) h0 rfl (ci := 9) rfl in10 (k := 0) (by decide) fX10_10 rfl dX10_replaceFrom_149 ?_
  refine X_get (i := 1) hB rfl (ci := 0) rfl in0 (k := 1) (by decide) fX10_137 rfl dX10_replaceFrom_152 ?_
  refine X_get (i := 6) k6 rfl (ci := 3) rfl in4 (k := 4) (by decide) fX10_174 rfl dX10_replaceFrom_155 ?_
  refine X_iload_n dX10_replaceFrom_158 (i := 1) rfl rfl ?_
  refine X_iald (i := 11) k11 rfl rfl (by omega) (by decide) dX10_replaceFrom_159 ?_
  refine XJ.top (v' := .int (nI (sc L j))) (by rw [show nf (sc (newL L (pa L j) (po L j) c q 0 s (la L j) (op L j) (cs L j))) j = nI (sc L j) from congrArg nI (up_ne hjn)]) ?_
  refine X_iast (i := 11) k11 rfl rfl (by omega) (by decide) dX10_replaceFrom_160 (fun hc_160 => ?_)
  refine X_aload_n dX10_replaceFrom_161 (i := 0) rfl rfl ?_
  refine X_get (i := 0) h0 rfl (ci := 9) rfl in10 (k := 0) (by decide) fX10_10 rfl dX10_replaceFrom_162 ?_
  refine X_get (i := 1) hB rfl (ci := 0) rfl in0 (k := 1) (by decide) fX10_137 rfl dX10_replaceFrom_165 ?_
  refine X_get (i := 6) k6 rfl (ci := 3) rfl in4 (k := 6) (by decide) fX10_165 rfl dX10_replaceFrom_168 ?_
  refine X_iload_n dX10_replaceFrom_171 (i := 1) rfl rfl ?_
  refine X_iload_n dX10_replaceFrom_172 (i := 2) rfl rfl ?_
  refine X_iconst (v := 1) dX10_replaceFrom_173 (by decide) ?_
  refine X_isub dX10_replaceFrom_174 ?_
  refine XJ.top (v' := .int (nI (s - 1))) (by rw [show (1 : Int32) = nI 1 from rfl, pk_sub (by omega)]) ?_
  refine X_iast (i := 13) k13 rfl rfl (by omega) (by decide) dX10_replaceFrom_175 (fun hc_175 => ?_)
  refine X_iload dX10_replaceFrom_176 (i := 6) rfl ?_
  refine X_ireturn dX10_replaceFrom_178 rfl rfl ?_
  refine ⟨by rw [hcd]; rfl, ?_⟩
  rw [hcd, if_pos rfl, gj, idx_nI (show s < 2 ^ 31 by omega), idx_nI (show c < 2 ^ 31 by omega), idx_nI (show q < 2 ^ 31 by omega)]
  simp only [xNew]
  rw [show (fun j_1 => nI (op (newL L (pa L j) (po L j) c q 0 s (la L j) (op L j) (cs L j)) j_1 - 1)) = va_up (fun j => nI (op L j - 1)) (ln L) (nI (op L j - 1)) from (g_up (fun o => nI (o - 1)) (op L) (ln L) (op L j)).symm, show (fun j_1 => nI (xcs (op (newL L (pa L j) (po L j) c q 0 s (la L j) (op L j) (cs L j)) j_1) (cs (newL L (pa L j) (po L j) c q 0 s (la L j) (op L j) (cs L j)) j_1))) = va_up (fun j => nI (xcs (op L j) (cs L j))) (ln L) (nI (xcs (op L j) (cs L j))) from (up2 (h := fun o s => nI (xcs o s)) (f := op L) (g := cs L) (k := ln L) (x := op L j) (y := cs L j)).symm]
  rw [show nf (fi (newL L (pa L j) (po L j) c q 0 s (la L j) (op L j) (cs L j))) = va_up (nf (fi L)) (ln L) (nI s) from (nf_up _ _ _).symm, show nf (la (newL L (pa L j) (po L j) c q 0 s (la L j) (op L j) (cs L j))) = va_up (nf (la L)) (ln L) (nI (la L j)) from (nf_up _ _ _).symm]
  rw [show nf (sc (repL L j s c q)) = va_up (nf (sc (newL L (pa L j) (po L j) c q 0 s (la L j) (op L j) (cs L j)))) (ln L) (nI (sc L j)) from (by rw [nf_up]; exact congrArg nf (up_up _ _ _ _).symm), show nf (la (repL L j s c q)) = va_up (va_up (nf (la L)) (ln L) (nI (la L j))) j (nI (s - 1)) from (by rw [nf_up, nf_up]; rfl)]
end LinesR
