/-! QUANTITIES of the class: the calls (walks by gen/spec38.py) -/
section QtyP
variable {G : Gx} {w : Wd}
set_option maxRecDepth 20000 in
theorem c_quantity {mp np : Nat} {P : PSt} {L : LSt} {pr : Nat → Nat} {hc hl : Nat → Int32} {qa qb : Nat → Int64} (h0 : X0 w mp (cfg pr)) (hB : XB w) (hP : XP G.2.2.1 w P) (hL : XL G.2.2.1 w L) (hS : XSel G.2.2.1 w hc hl) (hnp : P.1 = np) (hI : LI np L) (hpr : ∀ i, i < 4 → pr i < 4) (hN : NC5 L) (hQ : XQ2 G.2.2.1 w qa qb) (a b s : Int32) : XC G mX10_quantity 7 4 24 [.ref (w.1 0), .int a, .int b, .int s] w (fun r w' => r = xr (cdQ a b s np) [eIOB, eIAE] (.long (nL (hasN L pr (idx s) 5 (idx a) (idx b)))) ∧ (if cdQ a b s np = 0 then qtyW G.2.2.1 w L pr (idx s) w' else w' = w)) := by
  have h16 := hI.1
  have h40 := hI.2.1
  refine XC.of (lo0 := [(0, .ref (w.1 0)), (1, .int a), (2, .int b), (3, .int s)]) kmX10_quantity (Nat.le_of_ble_eq_true rfl) rfl ?_
  refine X_aload_n dX10_quantity_0 (i := 0) rfl rfl ?_
  refine X_iload_n dX10_quantity_1 (i := 1) rfl rfl ?_
  refine X_callV (gc2 := 3) (gs2 := 18) (c_checkPart a h0 hB hP) (i := 0) h0 rfl rfl kmX10_checkPart rfl lX10_100 iX10_checkPart vX10_checkPart rfl rfl (Nat.le_of_ble_eq_true rfl) (by decide) dX10_quantity_2 (by decide) (by decide) (fun E w1 hq => XT.out rfl (by
      have hv := hq.1
      obtain rfl := hq.2.symm
      obtain ⟨e1, rfl⟩ := rOK_inr hv
      have hcd := cdQ_1 (b := b) (s := s) (np := np) (by rw [hnp] at e1; rw [e1]; rfl)
      exact ⟨by rw [hcd]; rfl, by rw [hcd]; exact rfl⟩)) (fun v w1 hq => ?_)
  have hv := hq.1
  obtain rfl := hq.2.symm
  obtain ⟨e1, rfl⟩ := rOK_inl hv
  refine X_aload_n dX10_quantity_5 (i := 0) rfl rfl ?_
  refine X_iload_n dX10_quantity_6 (i := 2) rfl rfl ?_
  refine X_callV (gc2 := 2) (gs2 := 12) (c_checkPart b h0 hB hP) (i := 0) h0 rfl rfl kmX10_checkPart rfl lX10_100 iX10_checkPart vX10_checkPart rfl rfl (Nat.le_of_ble_eq_true rfl) (by decide) dX10_quantity_7 (by decide) (by decide) (fun E w1 hq => XT.out rfl (by
      have hv := hq.1
      obtain rfl := hq.2.symm
      obtain ⟨e2, rfl⟩ := rOK_inr hv
      have hcd := cdQ_1 (a := a) (s := s) (np := np) (by rw [hnp] at e2; rw [e2, Bool.and_false])
      exact ⟨by rw [hcd]; rfl, by rw [hcd]; exact rfl⟩)) (fun v w1 hq => ?_)
  have hv := hq.1
  obtain rfl := hq.2.symm
  obtain ⟨e2, rfl⟩ := rOK_inl hv
  refine X_iload_n dX10_quantity_10 (i := 3) rfl rfl ?_
  refine X_callS (gc2 := 1) (gs2 := 6) (c_checkSerial s) kmX10_checkSerial rfl lX10_187 sX10_checkSerial rfl rfl (Nat.le_of_ble_eq_true rfl) (by decide) dX10_quantity_11 (by decide) (by decide) (fun E w1 hq => XT.out rfl (by
      have hv := hq.1
      obtain rfl := hq.2.symm
      obtain ⟨e3, rfl⟩ := rOK_inr hv
      have hcd := cdQ_2 (np := np) (hnp ▸ e1) (hnp ▸ e2) e3
      exact ⟨by rw [hcd]; rfl, by rw [hcd]; exact rfl⟩)) (fun v w1 hq => ?_)
  have hv := hq.1
  obtain rfl := hq.2.symm
  obtain ⟨e3, rfl⟩ := rOK_inl hv
  rw [hnp] at e1 e2
  have hcd := cdQ_0 e1 e2 e3
  obtain ⟨a, ha, rfl⟩ := inP_of (by omega) e1
  obtain ⟨b, hb, rfl⟩ := inP_of (by omega) e2
  obtain ⟨s, hs1, hs2, rfl⟩ := btw_n (lo := 1) (hi := 999) (by decide) (by decide) e3
  refine X_aload_n dX10_quantity_14 (i := 0) rfl rfl ?_
  refine X_get (i := 0) h0 rfl (ci := 9) rfl in10 (k := 0) (by decide) fX10_10 rfl dX10_quantity_15 ?_
  refine X_iload_n dX10_quantity_18 (i := 3) rfl rfl ?_
  refine X_aload_n dX10_quantity_19 (i := 0) rfl rfl ?_
  refine X_get (i := 0) h0 rfl (ci := 9) rfl in10 (k := 9) (by decide) fX10_66 rfl dX10_quantity_20 ?_
  refine X_callV (gc2 := 1) (gs2 := 6) (c_select hB hL hS hI hpr s (by omega)) (i := 1) hB rfl rfl kmX0_select rfl lX10_237 iX0_select vX0_select rfl rfl (Nat.le_of_ble_eq_true rfl) (by decide) dX10_quantity_23 (by decide) (by decide) (fun E w1 hq => nomatch hq.1) (fun v w1 hq => ?_)
  have hv := hq.1
  obtain rfl := hq.2.symm
  cases hv
  have hM : cel (selW G.2.2.1 w L pr s) 19 (aI G.2.2.1 96 (hlN L pr s (ln L))) := ⟨hS.2.1, rfl⟩
  refine X_aload_n dX10_quantity_26 (i := 0) rfl rfl ?_
  refine X_get (i := 0) h0 rfl (ci := 9) rfl in10 (k := 2) (by decide) fX10_26 rfl dX10_quantity_27 ?_
  refine X_aload_n dX10_quantity_30 (i := 0) rfl rfl ?_
  refine X_get (i := 0) h0 rfl (ci := 9) rfl in10 (k := 0) (by decide) fX10_10 rfl dX10_quantity_31 ?_
  refine X_iload_n dX10_quantity_34 (i := 1) rfl rfl ?_
  refine X_iload_n dX10_quantity_35 (i := 2) rfl rfl ?_
  refine X_callV (gc2 := 1) (gs2 := 6) (c_count (w := (selW G.2.2.1 w L pr s)) (s := s) hB hP hnp hL hM hI hN hQ a b (by omega) (by omega)) (i := 26) hQ.1 rfl rfl kmX8_count rfl lX10_240 iX8_count vX8_count rfl rfl (Nat.le_of_ble_eq_true rfl) (by decide) dX10_quantity_36 (by decide) (by decide) (fun E w1 hq => nomatch hq.1) (fun v w1 hq => ?_)
  have hv := hq.1
  have hw2 := hq.2
  cases hv
  refine X_lreturn dX10_quantity_39 rfl ?_
  exact ⟨by rw [hcd, idx_nI (by omega), idx_nI (by omega), idx_nI (by omega)]; rfl, by rw [hcd, if_pos rfl, idx_nI (by omega)]; exact hw2⟩
set_option maxRecDepth 20000 in
theorem c_quantityW {mp np : Nat} {P : PSt} {L : LSt} {pr : Nat → Nat} {hc hl : Nat → Int32} {qa qb : Nat → Int64} (h0 : X0 w mp (cfg pr)) (hB : XB w) (hP : XP G.2.2.1 w P) (hL : XL G.2.2.1 w L) (hS : XSel G.2.2.1 w hc hl) (hnp : P.1 = np) (hI : LI np L) (hpr : ∀ i, i < 4 → pr i < 4) (hN : NC5 L) (a b s : Int32) : XC G mX10_quantityByWalking 7 4 24 [.ref (w.1 0), .int a, .int b, .int s] w (fun r w' => r = xr (cdQ a b s np) [eIOB, eIAE] (.long (nL (hasN L pr (idx s) 5 (idx a) (idx b)))) ∧ w' = (if cdQ a b s np = 0 then selW G.2.2.1 w L pr (idx s) else w)) := by
  have h16 := hI.1
  have h40 := hI.2.1
  refine XC.of (lo0 := [(0, .ref (w.1 0)), (1, .int a), (2, .int b), (3, .int s)]) kmX10_quantityByWalking (Nat.le_of_ble_eq_true rfl) rfl ?_
  refine X_aload_n dX10_quantityByWalking_0 (i := 0) rfl rfl ?_
  refine X_iload_n dX10_quantityByWalking_1 (i := 1) rfl rfl ?_
  refine X_callV (gc2 := 3) (gs2 := 18) (c_checkPart a h0 hB hP) (i := 0) h0 rfl rfl kmX10_checkPart rfl lX10_100 iX10_checkPart vX10_checkPart rfl rfl (Nat.le_of_ble_eq_true rfl) (by decide) dX10_quantityByWalking_2 (by decide) (by decide) (fun E w1 hq => XT.out rfl (by
      have hv := hq.1
      obtain rfl := hq.2.symm
      obtain ⟨e1, rfl⟩ := rOK_inr hv
      have hcd := cdQ_1 (b := b) (s := s) (np := np) (by rw [hnp] at e1; rw [e1]; rfl)
      exact ⟨by rw [hcd]; rfl, by rw [hcd]; exact rfl⟩)) (fun v w1 hq => ?_)
  have hv := hq.1
  obtain rfl := hq.2.symm
  obtain ⟨e1, rfl⟩ := rOK_inl hv
  refine X_aload_n dX10_quantityByWalking_5 (i := 0) rfl rfl ?_
  refine X_iload_n dX10_quantityByWalking_6 (i := 2) rfl rfl ?_
  refine X_callV (gc2 := 2) (gs2 := 12) (c_checkPart b h0 hB hP) (i := 0) h0 rfl rfl kmX10_checkPart rfl lX10_100 iX10_checkPart vX10_checkPart rfl rfl (Nat.le_of_ble_eq_true rfl) (by decide) dX10_quantityByWalking_7 (by decide) (by decide) (fun E w1 hq => XT.out rfl (by
      have hv := hq.1
      obtain rfl := hq.2.symm
      obtain ⟨e2, rfl⟩ := rOK_inr hv
      have hcd := cdQ_1 (a := a) (s := s) (np := np) (by rw [hnp] at e2; rw [e2, Bool.and_false])
      exact ⟨by rw [hcd]; rfl, by rw [hcd]; exact rfl⟩)) (fun v w1 hq => ?_)
  have hv := hq.1
  obtain rfl := hq.2.symm
  obtain ⟨e2, rfl⟩ := rOK_inl hv
  refine X_iload_n dX10_quantityByWalking_10 (i := 3) rfl rfl ?_
  refine X_callS (gc2 := 1) (gs2 := 6) (c_checkSerial s) kmX10_checkSerial rfl lX10_187 sX10_checkSerial rfl rfl (Nat.le_of_ble_eq_true rfl) (by decide) dX10_quantityByWalking_11 (by decide) (by decide) (fun E w1 hq => XT.out rfl (by
      have hv := hq.1
      obtain rfl := hq.2.symm
      obtain ⟨e3, rfl⟩ := rOK_inr hv
      have hcd := cdQ_2 (np := np) (hnp ▸ e1) (hnp ▸ e2) e3
      exact ⟨by rw [hcd]; rfl, by rw [hcd]; exact rfl⟩)) (fun v w1 hq => ?_)
  have hv := hq.1
  obtain rfl := hq.2.symm
  obtain ⟨e3, rfl⟩ := rOK_inl hv
  rw [hnp] at e1 e2
  have hcd := cdQ_0 e1 e2 e3
  obtain ⟨a, ha, rfl⟩ := inP_of (by omega) e1
  obtain ⟨b, hb, rfl⟩ := inP_of (by omega) e2
  obtain ⟨s, hs1, hs2, rfl⟩ := btw_n (lo := 1) (hi := 999) (by decide) (by decide) e3
  refine X_aload_n dX10_quantityByWalking_14 (i := 0) rfl rfl ?_
  refine X_get (i := 0) h0 rfl (ci := 9) rfl in10 (k := 0) (by decide) fX10_10 rfl dX10_quantityByWalking_15 ?_
  refine X_iload_n dX10_quantityByWalking_18 (i := 3) rfl rfl ?_
  refine X_aload_n dX10_quantityByWalking_19 (i := 0) rfl rfl ?_
  refine X_get (i := 0) h0 rfl (ci := 9) rfl in10 (k := 9) (by decide) fX10_66 rfl dX10_quantityByWalking_20 ?_
  refine X_callV (gc2 := 1) (gs2 := 6) (c_select hB hL hS hI hpr s (by omega)) (i := 1) hB rfl rfl kmX0_select rfl lX10_237 iX0_select vX0_select rfl rfl (Nat.le_of_ble_eq_true rfl) (by decide) dX10_quantityByWalking_23 (by decide) (by decide) (fun E w1 hq => nomatch hq.1) (fun v w1 hq => ?_)
  have hv := hq.1
  obtain rfl := hq.2.symm
  cases hv
  have hM : cel (selW G.2.2.1 w L pr s) 19 (aI G.2.2.1 96 (hlN L pr s (ln L))) := ⟨hS.2.1, rfl⟩
  refine X_aload_n dX10_quantityByWalking_26 (i := 0) rfl rfl ?_
  refine X_get (i := 0) h0 rfl (ci := 9) rfl in10 (k := 0) (by decide) fX10_10 rfl dX10_quantityByWalking_27 ?_
  refine X_iload_n dX10_quantityByWalking_30 (i := 1) rfl rfl ?_
  refine X_iload_n dX10_quantityByWalking_31 (i := 2) rfl rfl ?_
  refine X_iconst (v := 0) dX10_quantityByWalking_32 (by decide) ?_
  refine X_callS (gc2 := 1) (gs2 := 6) (c_walkQ (w := (selW G.2.2.1 w L pr s)) (s := s) hB hL hM hI b (by omega) 5 0 rfl a (by omega) (hN a)) kmX10_walkQuantity rfl lX10_243 sX10_walkQuantity rfl rfl (Nat.le_of_ble_eq_true rfl) (by decide) dX10_quantityByWalking_33 (by decide) (by decide) (fun E w1 hq => nomatch hq.1) (fun v w1 hq => ?_)
  have hv := hq.1
  obtain rfl := hq.2.symm
  cases hv
  refine X_lreturn dX10_quantityByWalking_36 rfl ?_
  exact ⟨by rw [hcd, idx_nI (by omega), idx_nI (by omega), idx_nI (by omega)]; rfl, by rw [hcd, if_pos rfl, idx_nI (by omega)]⟩
set_option maxRecDepth 20000 in
theorem c_levels {mp np : Nat} {P : PSt} {L : LSt} {pr : Nat → Nat} {hc hl : Nat → Int32} {qa qb : Nat → Int64} (h0 : X0 w mp (cfg pr)) (hB : XB w) (hP : XP G.2.2.1 w P) (hL : XL G.2.2.1 w L) (hS : XSel G.2.2.1 w hc hl) (hnp : P.1 = np) (hI : LI np L) (hpr : ∀ i, i < 4 → pr i < 4) (hW : PW L) (a s : Int32) : XC G mX10_levels 7 3 18 [.ref (w.1 0), .int a, .int s] w (fun r w' => r = xr (cdA a s np) [eIOB, eIAE] (.int (nI (dptN L pr (idx s) 5 (idx a)))) ∧ w' = (if cdA a s np = 0 then selW G.2.2.1 w L pr (idx s) else w)) := by
  have h16 := hI.1
  have h40 := hI.2.1
  refine XC.of (lo0 := [(0, .ref (w.1 0)), (1, .int a), (2, .int s)]) kmX10_levels (Nat.le_of_ble_eq_true rfl) rfl ?_
  refine X_aload_n dX10_levels_0 (i := 0) rfl rfl ?_
  refine X_iload_n dX10_levels_1 (i := 1) rfl rfl ?_
  refine X_callV (gc2 := 2) (gs2 := 12) (c_checkPart a h0 hB hP) (i := 0) h0 rfl rfl kmX10_checkPart rfl lX10_100 iX10_checkPart vX10_checkPart rfl rfl (Nat.le_of_ble_eq_true rfl) (by decide) dX10_levels_2 (by decide) (by decide) (fun E w1 hq => XT.out rfl (by
      have hv := hq.1
      obtain rfl := hq.2.symm
      obtain ⟨e1, rfl⟩ := rOK_inr hv
      have hcd := cdA_1 (s := s) (n := np) (by rw [hnp] at e1; exact e1)
      exact ⟨by rw [hcd]; rfl, by rw [hcd]; exact rfl⟩)) (fun v w1 hq => ?_)
  have hv := hq.1
  obtain rfl := hq.2.symm
  obtain ⟨e1, rfl⟩ := rOK_inl hv
  refine X_iload_n dX10_levels_5 (i := 2) rfl rfl ?_
  refine X_callS (gc2 := 1) (gs2 := 6) (c_checkSerial s) kmX10_checkSerial rfl lX10_187 sX10_checkSerial rfl rfl (Nat.le_of_ble_eq_true rfl) (by decide) dX10_levels_6 (by decide) (by decide) (fun E w1 hq => XT.out rfl (by
      have hv := hq.1
      obtain rfl := hq.2.symm
      obtain ⟨e3, rfl⟩ := rOK_inr hv
      have hcd := cdA_2 (n := np) (hnp ▸ e1) e3
      exact ⟨by rw [hcd]; rfl, by rw [hcd]; exact rfl⟩)) (fun v w1 hq => ?_)
  have hv := hq.1
  obtain rfl := hq.2.symm
  obtain ⟨e3, rfl⟩ := rOK_inl hv
  rw [hnp] at e1
  have hcd := cdA_0 e1 e3
  obtain ⟨a, ha, rfl⟩ := inP_of (by omega) e1
  obtain ⟨s, hs1, hs2, rfl⟩ := btw_n (lo := 1) (hi := 999) (by decide) (by decide) e3
  refine X_aload_n dX10_levels_9 (i := 0) rfl rfl ?_
  refine X_get (i := 0) h0 rfl (ci := 9) rfl in10 (k := 0) (by decide) fX10_10 rfl dX10_levels_10 ?_
  refine X_iload_n dX10_levels_13 (i := 2) rfl rfl ?_
  refine X_aload_n dX10_levels_14 (i := 0) rfl rfl ?_
  refine X_get (i := 0) h0 rfl (ci := 9) rfl in10 (k := 9) (by decide) fX10_66 rfl dX10_levels_15 ?_
  refine X_callV (gc2 := 1) (gs2 := 6) (c_select hB hL hS hI hpr s (by omega)) (i := 1) hB rfl rfl kmX0_select rfl lX10_237 iX0_select vX0_select rfl rfl (Nat.le_of_ble_eq_true rfl) (by decide) dX10_levels_18 (by decide) (by decide) (fun E w1 hq => nomatch hq.1) (fun v w1 hq => ?_)
  have hv := hq.1
  obtain rfl := hq.2.symm
  cases hv
  refine X_aload_n dX10_levels_21 (i := 0) rfl rfl ?_
  refine X_get (i := 0) h0 rfl (ci := 9) rfl in10 (k := 0) (by decide) fX10_10 rfl dX10_levels_22 ?_
  refine X_iload_n dX10_levels_25 (i := 1) rfl rfl ?_
  refine X_callV (gc2 := 1) (gs2 := 6) (c_heldLevelsBelow (w := (selW G.2.2.1 w L pr s)) (f := hcN L pr s (ln L)) a (by omega) hB ⟨hS.1.1, rfl⟩ (fun p _ => hcN_lt hI p)) (i := 1) hB rfl rfl kmX0_heldLevelsBelow rfl lX10_247 iX0_heldLevelsBelow vX0_heldLevelsBelow rfl rfl (Nat.le_of_ble_eq_true rfl) (by decide) dX10_levels_26 (by decide) (by decide) (fun E w1 hq => nomatch hq.1) (fun v w1 hq => ?_)
  have hv := hq.1
  obtain rfl := hq.2.symm
  cases hv
  refine XJ.top (v' := .int (nI (dptN L pr s 5 a))) (by rw [stp_dptN hI hW (by omega)]) ?_
  refine X_ireturn dX10_levels_29 rfl rfl ?_
  exact ⟨by rw [hcd, idx_nI (by omega), idx_nI (by omega)]; rfl, by rw [hcd, if_pos rfl, idx_nI (by omega)]⟩
set_option maxRecDepth 20000 in
theorem c_whereUsed {mp np : Nat} {P : PSt} {L : LSt} {pr : Nat → Nat} {hc hl : Nat → Int32} {qa qb : Nat → Int64} (h0 : X0 w mp (cfg pr)) (hB : XB w) (hP : XP G.2.2.1 w P) (hL : XL G.2.2.1 w L) (hS : XSel G.2.2.1 w hc hl) (hnp : P.1 = np) (hI : LI np L) (hpr : ∀ i, i < 4 → pr i < 4) (hN : NC5 L) (hQ : XQ2 G.2.2.1 w qa qb) (a s : Int32) : XC G mX10_whereUsed 7 3 18 [.ref (w.1 0), .int a, .int s] w (fun r w' => r = xr (cdA a s np) [eIOB, eIAE] (.int (nI (cntB (fun p => decide (p ≠ idx a) && decide (hasN L pr (idx s) 5 p (idx a) ≠ 0)) np))) ∧ (if cdA a s np = 0 then qtyW G.2.2.1 w L pr (idx s) w' else w' = w)) := by
  have h16 := hI.1
  have h40 := hI.2.1
  refine XC.of (lo0 := [(0, .ref (w.1 0)), (1, .int a), (2, .int s)]) kmX10_whereUsed (Nat.le_of_ble_eq_true rfl) rfl ?_
  refine X_aload_n dX10_whereUsed_0 (i := 0) rfl rfl ?_
  refine X_iload_n dX10_whereUsed_1 (i := 1) rfl rfl ?_
  refine X_callV (gc2 := 2) (gs2 := 12) (c_checkPart a h0 hB hP) (i := 0) h0 rfl rfl kmX10_checkPart rfl lX10_100 iX10_checkPart vX10_checkPart rfl rfl (Nat.le_of_ble_eq_true rfl) (by decide) dX10_whereUsed_2 (by decide) (by decide) (fun E w1 hq => XT.out rfl (by
      have hv := hq.1
      obtain rfl := hq.2.symm
      obtain ⟨e1, rfl⟩ := rOK_inr hv
      have hcd := cdA_1 (s := s) (n := np) (by rw [hnp] at e1; exact e1)
      exact ⟨by rw [hcd]; rfl, by rw [hcd]; exact rfl⟩)) (fun v w1 hq => ?_)
  have hv := hq.1
  obtain rfl := hq.2.symm
  obtain ⟨e1, rfl⟩ := rOK_inl hv
  refine X_iload_n dX10_whereUsed_5 (i := 2) rfl rfl ?_
  refine X_callS (gc2 := 1) (gs2 := 6) (c_checkSerial s) kmX10_checkSerial rfl lX10_187 sX10_checkSerial rfl rfl (Nat.le_of_ble_eq_true rfl) (by decide) dX10_whereUsed_6 (by decide) (by decide) (fun E w1 hq => XT.out rfl (by
      have hv := hq.1
      obtain rfl := hq.2.symm
      obtain ⟨e3, rfl⟩ := rOK_inr hv
      have hcd := cdA_2 (n := np) (hnp ▸ e1) e3
      exact ⟨by rw [hcd]; rfl, by rw [hcd]; exact rfl⟩)) (fun v w1 hq => ?_)
  have hv := hq.1
  obtain rfl := hq.2.symm
  obtain ⟨e3, rfl⟩ := rOK_inl hv
  rw [hnp] at e1
  have hcd := cdA_0 e1 e3
  obtain ⟨a, ha, rfl⟩ := inP_of (by omega) e1
  obtain ⟨s, hs1, hs2, rfl⟩ := btw_n (lo := 1) (hi := 999) (by decide) (by decide) e3
  refine X_aload_n dX10_whereUsed_9 (i := 0) rfl rfl ?_
  refine X_get (i := 0) h0 rfl (ci := 9) rfl in10 (k := 0) (by decide) fX10_10 rfl dX10_whereUsed_10 ?_
  refine X_iload_n dX10_whereUsed_13 (i := 2) rfl rfl ?_
  refine X_aload_n dX10_whereUsed_14 (i := 0) rfl rfl ?_
  refine X_get (i := 0) h0 rfl (ci := 9) rfl in10 (k := 9) (by decide) fX10_66 rfl dX10_whereUsed_15 ?_
  refine X_callV (gc2 := 1) (gs2 := 6) (c_select hB hL hS hI hpr s (by omega)) (i := 1) hB rfl rfl kmX0_select rfl lX10_237 iX0_select vX0_select rfl rfl (Nat.le_of_ble_eq_true rfl) (by decide) dX10_whereUsed_18 (by decide) (by decide) (fun E w1 hq => nomatch hq.1) (fun v w1 hq => ?_)
  have hv := hq.1
  obtain rfl := hq.2.symm
  cases hv
  refine X_iconst (v := 0) dX10_whereUsed_21 (by decide) ?_
  refine X_istore_n (i := 3) (lo' := [(3, _), (0, _), (1, _), (2, _)]) dX10_whereUsed_22 rfl (by decide) rfl ?_
  refine X_iconst (v := 0) dX10_whereUsed_23 (by decide) ?_
  refine X_istore (i := 4) (lo' := [(4, _), (3, _), (0, _), (1, _), (2, _)]) dX10_whereUsed_24 (by decide) rfl ?_
  have hloop : ∀ (n : Nat) (l : Nat) (x y : Nat → Int64), np - l < n → l ≤ np → XJ G mX10_whereUsed 7 1 6 26 [(0, .ref (w.1 0)), (1, .int (nI a)), (2, .int (nI s)), (3, .int (nI (cntB (fun p => decide (p ≠ a) && decide (hasN L pr s 5 p a ≠ 0)) l))), (4, .int (nI l))] [] (setM (setM (selW G.2.2.1 w L pr s) 27 (aL G.2.2.1 16 x)) 28 (aL G.2.2.1 16 y)) (fun r w' => r = xr (cdA (nI a) (nI s) np) [eIOB, eIAE] (.int (nI (cntB (fun p => decide (p ≠ idx (nI a)) && decide (hasN L pr (idx (nI s)) 5 p (idx (nI a)) ≠ 0)) np))) ∧ (if cdA (nI a) (nI s) np = 0 then qtyW G.2.2.1 w L pr (idx (nI s)) w' else w' = w)) := by
    intro n
    induction n with
    | zero => intro l x y hm hl; exact absurd hm (Nat.not_lt_zero _)
    | succ n ih =>
      intro l x y hm hl
      have hM2 : cel (setM (setM (selW G.2.2.1 w L pr s) 27 (aL G.2.2.1 16 x)) 28 (aL G.2.2.1 16 y)) 19 (aI G.2.2.1 96 (hlN L pr s (ln L))) := ⟨hS.2.1, rfl⟩
      refine X_iload dX10_whereUsed_26 (i := 4) rfl ?_
      refine X_aload_n dX10_whereUsed_28 (i := 0) rfl rfl ?_
      refine X_get (i := 0) h0 rfl (ci := 9) rfl in10 (k := 0) (by decide) fX10_10 rfl dX10_whereUsed_29 ?_
      refine X_get (i := 1) hB rfl (ci := 0) rfl in0 (k := 0) (by decide) fX10_80 rfl dX10_whereUsed_32 ?_
      refine X_get (i := 2) hP.1 rfl (ci := 6) rfl in7 (k := 3) (by decide) fX10_84 rfl dX10_whereUsed_35 ?_
      refine X_icmp_ge (tgt := 75) dX10_whereUsed_38 (by decide) (fun h2 => ?_) (fun h2 => ?_)
      · have h5 : l = np := by rw [hnp] at h2; have := ge_nI (a := np) (by omega) (by omega) h2; omega
        subst h5
        refine X_iload_n dX10_whereUsed_75 (i := 3) rfl rfl ?_
        refine X_ireturn dX10_whereUsed_76 rfl rfl ?_
        exact ⟨by rw [hcd, idx_nI (by omega), idx_nI (by omega)]; rfl, by rw [hcd, if_pos rfl, idx_nI (by omega)]; exact ⟨_, _, rfl⟩⟩
      · have h5 : l < np := by rw [hnp] at h2; exact nge_nI (a := np) (by omega) (by omega) h2
        refine X_iload dX10_whereUsed_41 (i := 4) rfl ?_
        refine X_iload_n dX10_whereUsed_43 (i := 1) rfl rfl ?_
        refine X_icmp_eq (tgt := 69) dX10_whereUsed_44 (by decide) (fun h3 => ?_) (fun h3 => ?_)
        · have h6 : l = a := (nI_eq (by omega) (by omega)).mp h3
          have h8 : (fun p => decide (p ≠ a) && decide (hasN L pr s 5 p a ≠ 0)) l = false := by show (decide (l ≠ a) && _) = false; rw [decide_eq_false (fun h => h h6)]; rfl
          refine X_iinc (i := 4) (v := nI (l + 1)) (lo' := [(4, _), (0, _), (1, _), (2, _), (3, _)]) dX10_whereUsed_69 rfl (nI_inc l) (by decide) rfl ?_
          refine X_goto (tgt := 26) dX10_whereUsed_72 (by decide) ?_
          first
            | exact XJ.lcs (lo' := [(0, .ref (w.1 0)), (1, .int (nI a)), (2, .int (nI s)), (3, .int (nI (cntB (fun p => decide (p ≠ a) && decide (hasN L pr s 5 p a ≠ 0)) (l + 1)))), (4, .int (nI (l + 1)))]) ⟨rfl, rfl, rfl, (congrArg (fun x => some (Value.int (nI x))) (show cntB (fun p => decide (p ≠ a) && decide (hasN L pr s 5 p a ≠ 0)) l + 1 = cntB (fun p => decide (p ≠ a) && decide (hasN L pr s 5 p a ≠ 0)) l + (bif (fun p => decide (p ≠ a) && decide (hasN L pr s 5 p a ≠ 0)) l then 1 else 0) by rw [h8]; rfl)), rfl, trivial⟩ (ih (l + 1) _ _ (by omega) (by omega))
            | exact XJ.lcs (lo' := [(0, .ref (w.1 0)), (1, .int (nI a)), (2, .int (nI s)), (3, .int (nI (cntB (fun p => decide (p ≠ a) && decide (hasN L pr s 5 p a ≠ 0)) (l + 1)))), (4, .int (nI (l + 1)))]) ⟨rfl, rfl, rfl, (congrArg (fun x => some (Value.int (nI x))) (show cntB (fun p => decide (p ≠ a) && decide (hasN L pr s 5 p a ≠ 0)) l = cntB (fun p => decide (p ≠ a) && decide (hasN L pr s 5 p a ≠ 0)) l + (bif (fun p => decide (p ≠ a) && decide (hasN L pr s 5 p a ≠ 0)) l then 1 else 0) by rw [h8]; rfl)), rfl, trivial⟩ (ih (l + 1) _ _ (by omega) (by omega))
        · have h6 : ¬ l = a := fun h => h3 (by rw [h])
          refine X_aload_n dX10_whereUsed_47 (i := 0) rfl rfl ?_
          refine X_get (i := 0) h0 rfl (ci := 9) rfl in10 (k := 2) (by decide) fX10_26 rfl dX10_whereUsed_48 ?_
          refine X_aload_n dX10_whereUsed_51 (i := 0) rfl rfl ?_
          refine X_get (i := 0) h0 rfl (ci := 9) rfl in10 (k := 0) (by decide) fX10_10 rfl dX10_whereUsed_52 ?_
          refine X_iload dX10_whereUsed_55 (i := 4) rfl ?_
          refine X_iload_n dX10_whereUsed_57 (i := 1) rfl rfl ?_
          refine X_callV (gc2 := 1) (gs2 := 6) (c_count (w := (setM (setM (selW G.2.2.1 w L pr s) 27 (aL G.2.2.1 16 x)) 28 (aL G.2.2.1 16 y))) (s := s) hB hP hnp hL hM2 hI hN ⟨hQ.1, ⟨hQ.2.1.1, rfl⟩, ⟨hQ.2.2.1, rfl⟩⟩ l a (by omega) (by omega)) (i := 26) hQ.1 rfl rfl kmX8_count rfl lX10_240 iX8_count vX8_count rfl rfl (Nat.le_of_ble_eq_true rfl) (by decide) dX10_whereUsed_58 (by decide) (by decide) (fun E w1 hq => nomatch hq.1) (fun v w1 hq => ?_)
          have hv := hq.1
          obtain ⟨x1, y1, hw2⟩ := hq.2
          subst hw2
          cases hv
          rw [set_2728b]
          refine X_lconst (v := 0) dX10_whereUsed_61 rfl ?_
          refine X_lcmp dX10_whereUsed_62 ?_
          refine X_if_le (tgt := 69) dX10_whereUsed_63 (by decide) (fun h4 => ?_) (fun h4 => ?_)
          · have h7 := (nL_gt0 (Nat.lt_of_le_of_lt (hasN_le hI 5 l a) (by decide))).mp h4
            have h8 : (fun p => decide (p ≠ a) && decide (hasN L pr s 5 p a ≠ 0)) l = false := by show (_ && decide (_ ≠ 0)) = false; rw [h7, Bool.and_comm]; rfl
            refine X_iinc (i := 4) (v := nI (l + 1)) (lo' := [(4, _), (0, _), (1, _), (2, _), (3, _)]) dX10_whereUsed_69 rfl (nI_inc l) (by decide) rfl ?_
            refine X_goto (tgt := 26) dX10_whereUsed_72 (by decide) ?_
            first
              | exact XJ.lcs (lo' := [(0, .ref (w.1 0)), (1, .int (nI a)), (2, .int (nI s)), (3, .int (nI (cntB (fun p => decide (p ≠ a) && decide (hasN L pr s 5 p a ≠ 0)) (l + 1)))), (4, .int (nI (l + 1)))]) ⟨rfl, rfl, rfl, (congrArg (fun x => some (Value.int (nI x))) (show cntB (fun p => decide (p ≠ a) && decide (hasN L pr s 5 p a ≠ 0)) l + 1 = cntB (fun p => decide (p ≠ a) && decide (hasN L pr s 5 p a ≠ 0)) l + (bif (fun p => decide (p ≠ a) && decide (hasN L pr s 5 p a ≠ 0)) l then 1 else 0) by rw [h8]; rfl)), rfl, trivial⟩ (ih (l + 1) _ _ (by omega) (by omega))
              | exact XJ.lcs (lo' := [(0, .ref (w.1 0)), (1, .int (nI a)), (2, .int (nI s)), (3, .int (nI (cntB (fun p => decide (p ≠ a) && decide (hasN L pr s 5 p a ≠ 0)) (l + 1)))), (4, .int (nI (l + 1)))]) ⟨rfl, rfl, rfl, (congrArg (fun x => some (Value.int (nI x))) (show cntB (fun p => decide (p ≠ a) && decide (hasN L pr s 5 p a ≠ 0)) l = cntB (fun p => decide (p ≠ a) && decide (hasN L pr s 5 p a ≠ 0)) l + (bif (fun p => decide (p ≠ a) && decide (hasN L pr s 5 p a ≠ 0)) l then 1 else 0) by rw [h8]; rfl)), rfl, trivial⟩ (ih (l + 1) _ _ (by omega) (by omega))
          · have h7 : hasN L pr s 5 l a ≠ 0 := fun h => h4 ((nL_gt0 (Nat.lt_of_le_of_lt (hasN_le hI 5 l a) (by decide))).mpr h)
            have h8 : (fun p => decide (p ≠ a) && decide (hasN L pr s 5 p a ≠ 0)) l = true := by show (decide (l ≠ a) && decide (_ ≠ 0)) = true; rw [decide_eq_true h6, decide_eq_true h7]; rfl
            refine X_iinc (i := 3) (v := nI (cntB (fun p => decide (p ≠ a) && decide (hasN L pr s 5 p a ≠ 0)) l + 1)) (lo' := [(3, _), (0, _), (1, _), (2, _), (4, _)]) dX10_whereUsed_66 rfl (nI_inc _) (by decide) rfl ?_
            refine X_iinc (i := 4) (v := nI (l + 1)) (lo' := [(4, _), (3, _), (0, _), (1, _), (2, _)]) dX10_whereUsed_69 rfl (nI_inc l) (by decide) rfl ?_
            refine X_goto (tgt := 26) dX10_whereUsed_72 (by decide) ?_
            first
              | exact XJ.lcs (lo' := [(0, .ref (w.1 0)), (1, .int (nI a)), (2, .int (nI s)), (3, .int (nI (cntB (fun p => decide (p ≠ a) && decide (hasN L pr s 5 p a ≠ 0)) (l + 1)))), (4, .int (nI (l + 1)))]) ⟨rfl, rfl, rfl, (congrArg (fun x => some (Value.int (nI x))) (show cntB (fun p => decide (p ≠ a) && decide (hasN L pr s 5 p a ≠ 0)) l + 1 = cntB (fun p => decide (p ≠ a) && decide (hasN L pr s 5 p a ≠ 0)) l + (bif (fun p => decide (p ≠ a) && decide (hasN L pr s 5 p a ≠ 0)) l then 1 else 0) by rw [h8]; rfl)), rfl, trivial⟩ (ih (l + 1) _ _ (by omega) (by omega))
              | exact XJ.lcs (lo' := [(0, .ref (w.1 0)), (1, .int (nI a)), (2, .int (nI s)), (3, .int (nI (cntB (fun p => decide (p ≠ a) && decide (hasN L pr s 5 p a ≠ 0)) (l + 1)))), (4, .int (nI (l + 1)))]) ⟨rfl, rfl, rfl, (congrArg (fun x => some (Value.int (nI x))) (show cntB (fun p => decide (p ≠ a) && decide (hasN L pr s 5 p a ≠ 0)) l = cntB (fun p => decide (p ≠ a) && decide (hasN L pr s 5 p a ≠ 0)) l + (bif (fun p => decide (p ≠ a) && decide (hasN L pr s 5 p a ≠ 0)) l then 1 else 0) by rw [h8]; rfl)), rfl, trivial⟩ (ih (l + 1) _ _ (by omega) (by omega))
  refine XJ.wd (w' := setM (setM (selW G.2.2.1 w L pr s) 27 (aL G.2.2.1 16 qa)) 28 (aL G.2.2.1 16 qb)) (by rw [setM_id (show (selW G.2.2.1 w L pr s).2.2 27 = _ from hQ.2.1.2)]; exact (setM_id (show (selW G.2.2.1 w L pr s).2.2 28 = _ from hQ.2.2.2)).symm) ?_
  exact XJ.lcs (lo' := [(0, .ref (w.1 0)), (1, .int (nI a)), (2, .int (nI s)), (3, .int (nI (cntB (fun p => decide (p ≠ a) && decide (hasN L pr s 5 p a ≠ 0)) 0))), (4, .int (nI 0))]) ⟨rfl, rfl, rfl, rfl, rfl, trivial⟩ (hloop (np + 1) 0 _ _ (by omega) (by omega))
end QtyP
