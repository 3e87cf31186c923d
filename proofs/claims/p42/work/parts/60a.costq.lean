/-! COSTS of the class: what is asked for (walks by gen/spec60.py) -/
section CostQ
variable {G : Gx} {w : Wd}
theorem z100 : Z32 133 134 1120403456 := Or.inr ⟨by decide, by decide⟩
theorem cents_nn {x : UInt32} (hx : Z32 120 234 x) : vf_n32 (FP.fmul x 1120403456) :=
  z_nn (ft_z_fmul (lo' := 126) (hi' := 243) hx z100 (by omega) (by omega) (by omega) (by omega) (by omega) (by omega) (by omega) (by omega) (by omega) (by omega)) (by omega)
theorem chg_nn {x y : UInt32} (hx : Z32 120 234 x) (hy : Z32 120 234 y) : vf_n32 (FP.fsub x y) := ft_tov (ft_z_fsub_nn hx hy (by omega) (by omega) (by omega) (by omega) (by omega) (by omega))
theorem ord_nn {x : UInt32} {u : Nat} (hu : u ≤ 999) (hx : Z32 120 234 x) : vf_n32 (FP.fmul (FP.i2f (nI u)) x) :=
  z_nn (ft_z_fmul (lo' := 120) (hi' := 246) (i2f_z (k := 10) (hi := 137) (by omega) (by omega) (by omega) (by omega)) hx (by omega) (by omega) (by omega) (by omega) (by omega) (by omega) (by omega) (by omega) (by omega) (by omega)) (by omega)
theorem pri5_z {np : Nat} {P : PSt} {L : LSt} {pr : Nat → Nat} {s p : Nat} (hI : LI np L) (hnp : P.1 = np) (hPI : PI P) (hp : p < np) : Z32 120 234 (priF P L pr s 5 p) := priF_z hI (fun p hp => (hPI.2 p (by omega)).2.1) 5 p (by omega) hp
theorem mas5_z {np : Nat} {P : PSt} {L : LSt} {pr : Nat → Nat} {s p : Nat} (hI : LI np L) (hnp : P.1 = np) (hPI : PI P) (hp : p < np) : Z64 1013 1127 (masF P L pr s 5 p) := masF_z hI (fun p hp => (hPI.2 p (by omega)).2.2) 5 p (by omega) hp
set_option maxRecDepth 20000 in
theorem c_cost {mp np : Nat} {P : PSt} {L : LSt} {pr : Nat → Nat} {hc hl : Nat → Int32} (h0 : X0 w mp (cfg pr)) (hB : XB w) (hP : XP G.2.2.1 w P) (hL : XL G.2.2.1 w L) (hS : XSel G.2.2.1 w hc hl) (hnp : P.1 = np) (hI : LI np L) (hN : NC5 L) (hPI : PI P) (hpr : ∀ i, i < 4 → pr i < 4) {c : Nat → UInt32} (hC : XC2 G.2.2.1 w c) (a s : Int32) : XC G mX10_cost 7 3 18 [.ref (w.1 0), .int a, .int s] w (fun r w' => r = xr (cdA a s np) [eIOB, eIAE] (.float (priF P L pr (idx s) 5 (idx a))) ∧ (if cdA a s np = 0 then cstW G.2.2.1 w L pr (idx s) w' else w' = w)) := by
  have h16 := hI.1
  have h40 := hI.2.1
  refine XC.of (lo0 := [(0, .ref (w.1 0)), (1, .int a), (2, .int s)]) kmX10_cost (Nat.le_of_ble_eq_true rfl) rfl ?_
  refine X_aload_n dX10_cost_0 (i := 0) rfl rfl ?_
  refine X_iload_n dX10_cost_1 (i := 1) rfl rfl ?_
  refine X_callV (gc2 := 2) (gs2 := 12) (c_checkPart a h0 hB hP) (i := 0) h0 rfl rfl kmX10_checkPart rfl lX10_100 iX10_checkPart vX10_checkPart rfl rfl (Nat.le_of_ble_eq_true rfl) (by decide) dX10_cost_2 (by decide) (by decide) (fun E w1 hq => XT.out rfl (by
      have hv := hq.1
      obtain rfl := hq.2.symm
      obtain ⟨e1, rfl⟩ := rOK_inr hv
      have hcd := cdA_1 (s := s) (n := np) (by rw [hnp] at e1; exact e1)
      exact ⟨by rw [hcd]; rfl, by rw [hcd]; exact rfl⟩)) (fun v w1 hq => ?_)
  have hv := hq.1
  obtain rfl := hq.2.symm
  obtain ⟨e1, rfl⟩ := rOK_inl hv
  refine X_iload_n dX10_cost_5 (i := 2) rfl rfl ?_
  refine X_callS (gc2 := 1) (gs2 := 6) (c_checkSerial s) kmX10_checkSerial rfl lX10_187 sX10_checkSerial rfl rfl (Nat.le_of_ble_eq_true rfl) (by decide) dX10_cost_6 (by decide) (by decide) (fun E w1 hq => XT.out rfl (by
      have hv := hq.1
      obtain rfl := hq.2.symm
      obtain ⟨e3, rfl⟩ := rOK_inr hv
      have hcd := cdA_2 (n := np) (hnp ▸ e1) e3
      exact ⟨by rw [hcd]; rfl, by rw [hcd]; exact rfl⟩)) (fun v w1 hq => ?_)
  have hv := hq.1
  obtain rfl := hq.2.symm
  obtain ⟨e3, rfl⟩ := rOK_inl hv
  rw [hnp] at e1
  have hcd := cdA_0 e1 e3
  obtain ⟨a, ha, rfl⟩ := inP_of (by omega) e1
  obtain ⟨s, hs1, hs2, rfl⟩ := btw_n (lo := 1) (hi := 999) (by decide) (by decide) e3
  have ga : idx (nI a) = a := idx_nI (by omega)
  have gs : idx (nI s) = s := idx_nI (by omega)
  refine X_aload_n dX10_cost_9 (i := 0) rfl rfl ?_
  refine X_iload_n dX10_cost_10 (i := 1) rfl rfl ?_
  refine X_iload_n dX10_cost_11 (i := 2) rfl rfl ?_
  refine X_aload_n dX10_cost_12 (i := 0) rfl rfl ?_
  refine X_get (i := 0) h0 rfl (ci := 9) rfl in10 (k := 9) (by decide) fX10_66 rfl dX10_cost_13 ?_
  refine X_callV (gc2 := 1) (gs2 := 6) (c_rolled h0 hB hP hL hS hnp hI hN hPI hC hpr a s ha (by omega)) (i := 0) h0 rfl rfl kmX10_rolledUpCost rfl lX10_251 iX10_rolledUpCost vX10_rolledUpCost rfl rfl (Nat.le_of_ble_eq_true rfl) (by decide) dX10_cost_16 (by decide) (by decide) (fun E w1 hq => nomatch hq.1) (fun v w1 hq => ?_)
  have hv := hq.1
  have hw2 := hq.2
  cases hv
  refine X_freturn dX10_cost_19 rfl ?_
  exact ⟨by rw [hcd, ga, gs]; rfl, by rw [hcd, if_pos rfl, gs]; exact hw2⟩
set_option maxRecDepth 20000 in
theorem c_costW {mp np : Nat} {P : PSt} {L : LSt} {pr : Nat → Nat} {hc hl : Nat → Int32} (h0 : X0 w mp (cfg pr)) (hB : XB w) (hP : XP G.2.2.1 w P) (hL : XL G.2.2.1 w L) (hS : XSel G.2.2.1 w hc hl) (hnp : P.1 = np) (hI : LI np L) (hN : NC5 L) (hPI : PI P) (hpr : ∀ i, i < 4 → pr i < 4) (a s : Int32) : XC G mX10_costByWalking 7 3 18 [.ref (w.1 0), .int a, .int s] w (fun r w' => r = xr (cdA a s np) [eIOB, eIAE] (.float (priF P L pr (idx s) 5 (idx a))) ∧ (if cdA a s np = 0 then w' = selW G.2.2.1 w L pr (idx s) else w' = w)) := by
  have h16 := hI.1
  have h40 := hI.2.1
  refine XC.of (lo0 := [(0, .ref (w.1 0)), (1, .int a), (2, .int s)]) kmX10_costByWalking (Nat.le_of_ble_eq_true rfl) rfl ?_
  refine X_aload_n dX10_costByWalking_0 (i := 0) rfl rfl ?_
  refine X_iload_n dX10_costByWalking_1 (i := 1) rfl rfl ?_
  refine X_callV (gc2 := 2) (gs2 := 12) (c_checkPart a h0 hB hP) (i := 0) h0 rfl rfl kmX10_checkPart rfl lX10_100 iX10_checkPart vX10_checkPart rfl rfl (Nat.le_of_ble_eq_true rfl) (by decide) dX10_costByWalking_2 (by decide) (by decide) (fun E w1 hq => XT.out rfl (by
      have hv := hq.1
      obtain rfl := hq.2.symm
      obtain ⟨e1, rfl⟩ := rOK_inr hv
      have hcd := cdA_1 (s := s) (n := np) (by rw [hnp] at e1; exact e1)
      exact ⟨by rw [hcd]; rfl, by rw [hcd]; exact rfl⟩)) (fun v w1 hq => ?_)
  have hv := hq.1
  obtain rfl := hq.2.symm
  obtain ⟨e1, rfl⟩ := rOK_inl hv
  refine X_iload_n dX10_costByWalking_5 (i := 2) rfl rfl ?_
  refine X_callS (gc2 := 1) (gs2 := 6) (c_checkSerial s) kmX10_checkSerial rfl lX10_187 sX10_checkSerial rfl rfl (Nat.le_of_ble_eq_true rfl) (by decide) dX10_costByWalking_6 (by decide) (by decide) (fun E w1 hq => XT.out rfl (by
      have hv := hq.1
      obtain rfl := hq.2.symm
      obtain ⟨e3, rfl⟩ := rOK_inr hv
      have hcd := cdA_2 (n := np) (hnp ▸ e1) e3
      exact ⟨by rw [hcd]; rfl, by rw [hcd]; exact rfl⟩)) (fun v w1 hq => ?_)
  have hv := hq.1
  obtain rfl := hq.2.symm
  obtain ⟨e3, rfl⟩ := rOK_inl hv
  rw [hnp] at e1
  have hcd := cdA_0 e1 e3
  obtain ⟨a, ha, rfl⟩ := inP_of (by omega) e1
  obtain ⟨s, hs1, hs2, rfl⟩ := btw_n (lo := 1) (hi := 999) (by decide) (by decide) e3
  have ga : idx (nI a) = a := idx_nI (by omega)
  have gs : idx (nI s) = s := idx_nI (by omega)
  refine X_aload_n dX10_costByWalking_9 (i := 0) rfl rfl ?_
  refine X_get (i := 0) h0 rfl (ci := 9) rfl in10 (k := 0) (by decide) fX10_10 rfl dX10_costByWalking_10 ?_
  refine X_iload_n dX10_costByWalking_13 (i := 2) rfl rfl ?_
  refine X_aload_n dX10_costByWalking_14 (i := 0) rfl rfl ?_
  refine X_get (i := 0) h0 rfl (ci := 9) rfl in10 (k := 9) (by decide) fX10_66 rfl dX10_costByWalking_15 ?_
  refine X_callV (gc2 := 1) (gs2 := 6) (c_select hB hL hS hI hpr s (by omega)) (i := 1) hB rfl rfl kmX0_select rfl lX10_237 iX0_select vX0_select rfl rfl (Nat.le_of_ble_eq_true rfl) (by decide) dX10_costByWalking_18 (by decide) (by decide) (fun E w1 hq => nomatch hq.1) (fun v w1 hq => ?_)
  have hv := hq.1
  obtain rfl := hq.2.symm
  cases hv
  refine X_aload_n dX10_costByWalking_21 (i := 0) rfl rfl ?_
  refine X_get (i := 0) h0 rfl (ci := 9) rfl in10 (k := 0) (by decide) fX10_10 rfl dX10_costByWalking_22 ?_
  refine X_iload_n dX10_costByWalking_25 (i := 1) rfl rfl ?_
  refine X_iconst (v := 0) dX10_costByWalking_26 (by decide) ?_
  refine X_callS (gc2 := 1) (gs2 := 6) (c_walkC (w := (selW G.2.2.1 w L pr s)) (s := s) hB hP hL ⟨hS.2.1, rfl⟩ hI (fun p hp => (hPI.2 p (by omega)).2.1) 5 0 rfl a ha (hN a)) kmX10_walkCost rfl lX10_255 sX10_walkCost rfl rfl (Nat.le_of_ble_eq_true rfl) (by decide) dX10_costByWalking_27 (by decide) (by decide) (fun E w1 hq => nomatch hq.1) (fun v w1 hq => ?_)
  have hv := hq.1
  obtain rfl := hq.2.symm
  cases hv
  refine X_freturn dX10_costByWalking_30 rfl ?_
  exact ⟨by rw [hcd, ga, gs]; rfl, by rw [hcd, if_pos rfl, gs]⟩
set_option maxRecDepth 20000 in
theorem c_costBits {mp np : Nat} {P : PSt} {L : LSt} {pr : Nat → Nat} {hc hl : Nat → Int32} (h0 : X0 w mp (cfg pr)) (hB : XB w) (hP : XP G.2.2.1 w P) (hL : XL G.2.2.1 w L) (hS : XSel G.2.2.1 w hc hl) (hnp : P.1 = np) (hI : LI np L) (hN : NC5 L) (hPI : PI P) (hpr : ∀ i, i < 4 → pr i < 4) {c : Nat → UInt32} (hC : XC2 G.2.2.1 w c) (a s : Int32) : XC G mX10_costBits 7 3 18 [.ref (w.1 0), .int a, .int s] w (fun r w' => r = xr (cdA a s np) [eIOB, eIAE] (.int (priF P L pr (idx s) 5 (idx a)).toInt32) ∧ (if cdA a s np = 0 then cstW G.2.2.1 w L pr (idx s) w' else w' = w)) := by
  have h16 := hI.1
  have h40 := hI.2.1
  refine XC.of (lo0 := [(0, .ref (w.1 0)), (1, .int a), (2, .int s)]) kmX10_costBits (Nat.le_of_ble_eq_true rfl) rfl ?_
  refine X_aload_n dX10_costBits_0 (i := 0) rfl rfl ?_
  refine X_iload_n dX10_costBits_1 (i := 1) rfl rfl ?_
  refine X_callV (gc2 := 2) (gs2 := 12) (c_checkPart a h0 hB hP) (i := 0) h0 rfl rfl kmX10_checkPart rfl lX10_100 iX10_checkPart vX10_checkPart rfl rfl (Nat.le_of_ble_eq_true rfl) (by decide) dX10_costBits_2 (by decide) (by decide) (fun E w1 hq => XT.out rfl (by
      have hv := hq.1
      obtain rfl := hq.2.symm
      obtain ⟨e1, rfl⟩ := rOK_inr hv
      have hcd := cdA_1 (s := s) (n := np) (by rw [hnp] at e1; exact e1)
      exact ⟨by rw [hcd]; rfl, by rw [hcd]; exact rfl⟩)) (fun v w1 hq => ?_)
  have hv := hq.1
  obtain rfl := hq.2.symm
  obtain ⟨e1, rfl⟩ := rOK_inl hv
  refine X_iload_n dX10_costBits_5 (i := 2) rfl rfl ?_
  refine X_callS (gc2 := 1) (gs2 := 6) (c_checkSerial s) kmX10_checkSerial rfl lX10_187 sX10_checkSerial rfl rfl (Nat.le_of_ble_eq_true rfl) (by decide) dX10_costBits_6 (by decide) (by decide) (fun E w1 hq => XT.out rfl (by
      have hv := hq.1
      obtain rfl := hq.2.symm
      obtain ⟨e3, rfl⟩ := rOK_inr hv
      have hcd := cdA_2 (n := np) (hnp ▸ e1) e3
      exact ⟨by rw [hcd]; rfl, by rw [hcd]; exact rfl⟩)) (fun v w1 hq => ?_)
  have hv := hq.1
  obtain rfl := hq.2.symm
  obtain ⟨e3, rfl⟩ := rOK_inl hv
  rw [hnp] at e1
  have hcd := cdA_0 e1 e3
  obtain ⟨a, ha, rfl⟩ := inP_of (by omega) e1
  obtain ⟨s, hs1, hs2, rfl⟩ := btw_n (lo := 1) (hi := 999) (by decide) (by decide) e3
  have ga : idx (nI a) = a := idx_nI (by omega)
  have gs : idx (nI s) = s := idx_nI (by omega)
  refine X_aload_n dX10_costBits_9 (i := 0) rfl rfl ?_
  refine X_iload_n dX10_costBits_10 (i := 1) rfl rfl ?_
  refine X_iload_n dX10_costBits_11 (i := 2) rfl rfl ?_
  refine X_aload_n dX10_costBits_12 (i := 0) rfl rfl ?_
  refine X_get (i := 0) h0 rfl (ci := 9) rfl in10 (k := 9) (by decide) fX10_66 rfl dX10_costBits_13 ?_
  refine X_callV (gc2 := 1) (gs2 := 6) (c_rolled h0 hB hP hL hS hnp hI hN hPI hC hpr a s ha (by omega)) (i := 0) h0 rfl rfl kmX10_rolledUpCost rfl lX10_251 iX10_rolledUpCost vX10_rolledUpCost rfl rfl (Nat.le_of_ble_eq_true rfl) (by decide) dX10_costBits_16 (by decide) (by decide) (fun E w1 hq => nomatch hq.1) (fun v w1 hq => ?_)
  have hv := hq.1
  have hw2 := hq.2
  cases hv
  refine X_callS (gc2 := 1) (gs2 := 6) (c_ofFloat _ (pri5_z hI hnp hPI ha)) kmX1_ofFloat rfl lX10_259 sX1_ofFloat rfl rfl (Nat.le_of_ble_eq_true rfl) (by decide) dX10_costBits_19 (by decide) (by decide) (fun E w1 hq => nomatch hq.1) (fun v w1 hq => ?_)
  have hv := hq.1
  obtain rfl := hq.2.symm
  cases hv
  refine X_ireturn dX10_costBits_22 rfl rfl ?_
  exact ⟨by rw [hcd, ga, gs]; rfl, by rw [hcd, if_pos rfl, gs]; exact hw2⟩
set_option maxRecDepth 20000 in
theorem c_costCents {mp np : Nat} {P : PSt} {L : LSt} {pr : Nat → Nat} {hc hl : Nat → Int32} (h0 : X0 w mp (cfg pr)) (hB : XB w) (hP : XP G.2.2.1 w P) (hL : XL G.2.2.1 w L) (hS : XSel G.2.2.1 w hc hl) (hnp : P.1 = np) (hI : LI np L) (hN : NC5 L) (hPI : PI P) (hpr : ∀ i, i < 4 → pr i < 4) {c : Nat → UInt32} (hC : XC2 G.2.2.1 w c) (a s : Int32) : XC G mX10_costCents 7 3 18 [.ref (w.1 0), .int a, .int s] w (fun r w' => r = xr (cdA a s np) [eIOB, eIAE] (.int (FP.f2i (FP.fmul (priF P L pr (idx s) 5 (idx a)) 1120403456))) ∧ (if cdA a s np = 0 then cstW G.2.2.1 w L pr (idx s) w' else w' = w)) := by
  have h16 := hI.1
  have h40 := hI.2.1
  refine XC.of (lo0 := [(0, .ref (w.1 0)), (1, .int a), (2, .int s)]) kmX10_costCents (Nat.le_of_ble_eq_true rfl) rfl ?_
  refine X_aload_n dX10_costCents_0 (i := 0) rfl rfl ?_
  refine X_iload_n dX10_costCents_1 (i := 1) rfl rfl ?_
  refine X_callV (gc2 := 2) (gs2 := 12) (c_checkPart a h0 hB hP) (i := 0) h0 rfl rfl kmX10_checkPart rfl lX10_100 iX10_checkPart vX10_checkPart rfl rfl (Nat.le_of_ble_eq_true rfl) (by decide) dX10_costCents_2 (by decide) (by decide) (fun E w1 hq => XT.out rfl (by
      have hv := hq.1
      obtain rfl := hq.2.symm
      obtain ⟨e1, rfl⟩ := rOK_inr hv
      have hcd := cdA_1 (s := s) (n := np) (by rw [hnp] at e1; exact e1)
      exact ⟨by rw [hcd]; rfl, by rw [hcd]; exact rfl⟩)) (fun v w1 hq => ?_)
  have hv := hq.1
  obtain rfl := hq.2.symm
  obtain ⟨e1, rfl⟩ := rOK_inl hv
  refine X_iload_n dX10_costCents_5 (i := 2) rfl rfl ?_
  refine X_callS (gc2 := 1) (gs2 := 6) (c_checkSerial s) kmX10_checkSerial rfl lX10_187 sX10_checkSerial rfl rfl (Nat.le_of_ble_eq_true rfl) (by decide) dX10_costCents_6 (by decide) (by decide) (fun E w1 hq => XT.out rfl (by
      have hv := hq.1
      obtain rfl := hq.2.symm
      obtain ⟨e3, rfl⟩ := rOK_inr hv
      have hcd := cdA_2 (n := np) (hnp ▸ e1) e3
      exact ⟨by rw [hcd]; rfl, by rw [hcd]; exact rfl⟩)) (fun v w1 hq => ?_)
  have hv := hq.1
  obtain rfl := hq.2.symm
  obtain ⟨e3, rfl⟩ := rOK_inl hv
  rw [hnp] at e1
  have hcd := cdA_0 e1 e3
  obtain ⟨a, ha, rfl⟩ := inP_of (by omega) e1
  obtain ⟨s, hs1, hs2, rfl⟩ := btw_n (lo := 1) (hi := 999) (by decide) (by decide) e3
  have ga : idx (nI a) = a := idx_nI (by omega)
  have gs : idx (nI s) = s := idx_nI (by omega)
  refine X_aload_n dX10_costCents_9 (i := 0) rfl rfl ?_
  refine X_iload_n dX10_costCents_10 (i := 1) rfl rfl ?_
  refine X_iload_n dX10_costCents_11 (i := 2) rfl rfl ?_
  refine X_aload_n dX10_costCents_12 (i := 0) rfl rfl ?_
  refine X_get (i := 0) h0 rfl (ci := 9) rfl in10 (k := 9) (by decide) fX10_66 rfl dX10_costCents_13 ?_
  refine X_callV (gc2 := 1) (gs2 := 6) (c_rolled h0 hB hP hL hS hnp hI hN hPI hC hpr a s ha (by omega)) (i := 0) h0 rfl rfl kmX10_rolledUpCost rfl lX10_251 iX10_rolledUpCost vX10_rolledUpCost rfl rfl (Nat.le_of_ble_eq_true rfl) (by decide) dX10_costCents_16 (by decide) (by decide) (fun E w1 hq => nomatch hq.1) (fun v w1 hq => ?_)
  have hv := hq.1
  have hw2 := hq.2
  cases hv
  refine X_ldcfw dX10_costCents_19 kX10_265 ?_
  refine X_fmul dX10_costCents_22 (cents_nn (pri5_z hI hnp hPI ha)) ?_
  refine X_f2i dX10_costCents_23 ?_
  refine X_ireturn dX10_costCents_24 rfl rfl ?_
  exact ⟨by rw [hcd, ga, gs]; rfl, by rw [hcd, if_pos rfl, gs]; exact hw2⟩
set_option maxRecDepth 20000 in
theorem c_weight {mp np : Nat} {P : PSt} {L : LSt} {pr : Nat → Nat} {hc hl : Nat → Int32} (h0 : X0 w mp (cfg pr)) (hB : XB w) (hP : XP G.2.2.1 w P) (hL : XL G.2.2.1 w L) (hS : XSel G.2.2.1 w hc hl) (hnp : P.1 = np) (hI : LI np L) (hN : NC5 L) (hPI : PI P) (hpr : ∀ i, i < 4 → pr i < 4) {c : Nat → UInt64} (hC : XW2 G.2.2.1 w c) (a s : Int32) : XC G mX10_weight 7 3 18 [.ref (w.1 0), .int a, .int s] w (fun r w' => r = xr (cdA a s np) [eIOB, eIAE] (.double (masF P L pr (idx s) 5 (idx a))) ∧ (if cdA a s np = 0 then wgtW G.2.2.1 w L pr (idx s) w' else w' = w)) := by
  have h16 := hI.1
  have h40 := hI.2.1
  refine XC.of (lo0 := [(0, .ref (w.1 0)), (1, .int a), (2, .int s)]) kmX10_weight (Nat.le_of_ble_eq_true rfl) rfl ?_
  refine X_aload_n dX10_weight_0 (i := 0) rfl rfl ?_
  refine X_iload_n dX10_weight_1 (i := 1) rfl rfl ?_
  refine X_callV (gc2 := 2) (gs2 := 12) (c_checkPart a h0 hB hP) (i := 0) h0 rfl rfl kmX10_checkPart rfl lX10_100 iX10_checkPart vX10_checkPart rfl rfl (Nat.le_of_ble_eq_true rfl) (by decide) dX10_weight_2 (by decide) (by decide) (fun E w1 hq => XT.out rfl (by
      have hv := hq.1
      obtain rfl := hq.2.symm
      obtain ⟨e1, rfl⟩ := rOK_inr hv
      have hcd := cdA_1 (s := s) (n := np) (by rw [hnp] at e1; exact e1)
      exact ⟨by rw [hcd]; rfl, by rw [hcd]; exact rfl⟩)) (fun v w1 hq => ?_)
  have hv := hq.1
  obtain rfl := hq.2.symm
  obtain ⟨e1, rfl⟩ := rOK_inl hv
  refine X_iload_n dX10_weight_5 (i := 2) rfl rfl ?_
  refine X_callS (gc2 := 1) (gs2 := 6) (c_checkSerial s) kmX10_checkSerial rfl lX10_187 sX10_checkSerial rfl rfl (Nat.le_of_ble_eq_true rfl) (by decide) dX10_weight_6 (by decide) (by decide) (fun E w1 hq => XT.out rfl (by
      have hv := hq.1
      obtain rfl := hq.2.symm
      obtain ⟨e3, rfl⟩ := rOK_inr hv
      have hcd := cdA_2 (n := np) (hnp ▸ e1) e3
      exact ⟨by rw [hcd]; rfl, by rw [hcd]; exact rfl⟩)) (fun v w1 hq => ?_)
  have hv := hq.1
  obtain rfl := hq.2.symm
  obtain ⟨e3, rfl⟩ := rOK_inl hv
  rw [hnp] at e1
  have hcd := cdA_0 e1 e3
  obtain ⟨a, ha, rfl⟩ := inP_of (by omega) e1
  obtain ⟨s, hs1, hs2, rfl⟩ := btw_n (lo := 1) (hi := 999) (by decide) (by decide) e3
  have ga : idx (nI a) = a := idx_nI (by omega)
  have gs : idx (nI s) = s := idx_nI (by omega)
  refine X_aload_n dX10_weight_9 (i := 0) rfl rfl ?_
  refine X_iload_n dX10_weight_10 (i := 1) rfl rfl ?_
  refine X_iload_n dX10_weight_11 (i := 2) rfl rfl ?_
  refine X_callV (gc2 := 1) (gs2 := 6) (c_rolledW h0 hB hP hL hS hnp hI hN hPI hC hpr a s ha (by omega)) (i := 0) h0 rfl rfl kmX10_rolledUpWeight rfl lX10_279 iX10_rolledUpWeight vX10_rolledUpWeight rfl rfl (Nat.le_of_ble_eq_true rfl) (by decide) dX10_weight_12 (by decide) (by decide) (fun E w1 hq => nomatch hq.1) (fun v w1 hq => ?_)
  have hv := hq.1
  have hw2 := hq.2
  cases hv
  refine X_dreturn dX10_weight_15 rfl ?_
  exact ⟨by rw [hcd, ga, gs]; rfl, by rw [hcd, if_pos rfl, gs]; exact hw2⟩
set_option maxRecDepth 20000 in
theorem c_weightBits {mp np : Nat} {P : PSt} {L : LSt} {pr : Nat → Nat} {hc hl : Nat → Int32} (h0 : X0 w mp (cfg pr)) (hB : XB w) (hP : XP G.2.2.1 w P) (hL : XL G.2.2.1 w L) (hS : XSel G.2.2.1 w hc hl) (hnp : P.1 = np) (hI : LI np L) (hN : NC5 L) (hPI : PI P) (hpr : ∀ i, i < 4 → pr i < 4) {c : Nat → UInt64} (hC : XW2 G.2.2.1 w c) (a s : Int32) : XC G mX10_weightBits 7 3 18 [.ref (w.1 0), .int a, .int s] w (fun r w' => r = xr (cdA a s np) [eIOB, eIAE] (.long (masF P L pr (idx s) 5 (idx a)).toInt64) ∧ (if cdA a s np = 0 then wgtW G.2.2.1 w L pr (idx s) w' else w' = w)) := by
  have h16 := hI.1
  have h40 := hI.2.1
  refine XC.of (lo0 := [(0, .ref (w.1 0)), (1, .int a), (2, .int s)]) kmX10_weightBits (Nat.le_of_ble_eq_true rfl) rfl ?_
  refine X_aload_n dX10_weightBits_0 (i := 0) rfl rfl ?_
  refine X_iload_n dX10_weightBits_1 (i := 1) rfl rfl ?_
  refine X_callV (gc2 := 2) (gs2 := 12) (c_checkPart a h0 hB hP) (i := 0) h0 rfl rfl kmX10_checkPart rfl lX10_100 iX10_checkPart vX10_checkPart rfl rfl (Nat.le_of_ble_eq_true rfl) (by decide) dX10_weightBits_2 (by decide) (by decide) (fun E w1 hq => XT.out rfl (by
      have hv := hq.1
      obtain rfl := hq.2.symm
      obtain ⟨e1, rfl⟩ := rOK_inr hv
      have hcd := cdA_1 (s := s) (n := np) (by rw [hnp] at e1; exact e1)
      exact ⟨by rw [hcd]; rfl, by rw [hcd]; exact rfl⟩)) (fun v w1 hq => ?_)
  have hv := hq.1
  obtain rfl := hq.2.symm
  obtain ⟨e1, rfl⟩ := rOK_inl hv
  refine X_iload_n dX10_weightBits_5 (i := 2) rfl rfl ?_
  refine X_callS (gc2 := 1) (gs2 := 6) (c_checkSerial s) kmX10_checkSerial rfl lX10_187 sX10_checkSerial rfl rfl (Nat.le_of_ble_eq_true rfl) (by decide) dX10_weightBits_6 (by decide) (by decide) (fun E w1 hq => XT.out rfl (by
      have hv := hq.1
      obtain rfl := hq.2.symm
      obtain ⟨e3, rfl⟩ := rOK_inr hv
      have hcd := cdA_2 (n := np) (hnp ▸ e1) e3
      exact ⟨by rw [hcd]; rfl, by rw [hcd]; exact rfl⟩)) (fun v w1 hq => ?_)
  have hv := hq.1
  obtain rfl := hq.2.symm
  obtain ⟨e3, rfl⟩ := rOK_inl hv
  rw [hnp] at e1
  have hcd := cdA_0 e1 e3
  obtain ⟨a, ha, rfl⟩ := inP_of (by omega) e1
  obtain ⟨s, hs1, hs2, rfl⟩ := btw_n (lo := 1) (hi := 999) (by decide) (by decide) e3
  have ga : idx (nI a) = a := idx_nI (by omega)
  have gs : idx (nI s) = s := idx_nI (by omega)
  refine X_aload_n dX10_weightBits_9 (i := 0) rfl rfl ?_
  refine X_iload_n dX10_weightBits_10 (i := 1) rfl rfl ?_
  refine X_iload_n dX10_weightBits_11 (i := 2) rfl rfl ?_
  refine X_callV (gc2 := 1) (gs2 := 6) (c_rolledW h0 hB hP hL hS hnp hI hN hPI hC hpr a s ha (by omega)) (i := 0) h0 rfl rfl kmX10_rolledUpWeight rfl lX10_279 iX10_rolledUpWeight vX10_rolledUpWeight rfl rfl (Nat.le_of_ble_eq_true rfl) (by decide) dX10_weightBits_12 (by decide) (by decide) (fun E w1 hq => nomatch hq.1) (fun v w1 hq => ?_)
  have hv := hq.1
  have hw2 := hq.2
  cases hv
  refine X_callS (gc2 := 1) (gs2 := 6) (c_ofDouble _ (mas5_z hI hnp hPI ha)) kmX1_ofDouble rfl lX10_283 sX1_ofDouble rfl rfl (Nat.le_of_ble_eq_true rfl) (by decide) dX10_weightBits_15 (by decide) (by decide) (fun E w1 hq => nomatch hq.1) (fun v w1 hq => ?_)
  have hv := hq.1
  obtain rfl := hq.2.symm
  cases hv
  refine X_lreturn dX10_weightBits_18 rfl ?_
  exact ⟨by rw [hcd, ga, gs]; rfl, by rw [hcd, if_pos rfl, gs]; exact hw2⟩
set_option maxRecDepth 20000 in
theorem c_dearest {mp np : Nat} {P : PSt} {L : LSt} {pr : Nat → Nat} {hc hl : Nat → Int32} (h0 : X0 w mp (cfg pr)) (hB : XB w) (hP : XP G.2.2.1 w P) (hL : XL G.2.2.1 w L) (hS : XSel G.2.2.1 w hc hl) (hnp : P.1 = np) (hI : LI np L) (hN : NC5 L) (hPI : PI P) (hpr : ∀ i, i < 4 → pr i < 4) {c : Nat → UInt32} (hC : XC2 G.2.2.1 w c) (a s : Int32) : XC G mX10_dearest 7 4 24 [.ref (w.1 0), .int a, .int s] w (fun r w' => r = xr (cdD a s np (dstF L pr (idx s) (idx a) (mrF L (priF P L pr (idx s) 5)) 6)) [eIOB, eIAE, eNSE] (.int (oI (dstF L pr (idx s) (idx a) (mrF L (priF P L pr (idx s) 5)) 6))) ∧ (if cdA a s np = 0 then cstW G.2.2.1 w L pr (idx s) w' else w' = w)) := by
  have h16 := hI.1
  have h40 := hI.2.1
  refine XC.of (lo0 := [(0, .ref (w.1 0)), (1, .int a), (2, .int s)]) kmX10_dearest (Nat.le_of_ble_eq_true rfl) rfl ?_
  refine X_aload_n dX10_dearest_0 (i := 0) rfl rfl ?_
  refine X_iload_n dX10_dearest_1 (i := 1) rfl rfl ?_
  refine X_callV (gc2 := 3) (gs2 := 18) (c_checkPart a h0 hB hP) (i := 0) h0 rfl rfl kmX10_checkPart rfl lX10_100 iX10_checkPart vX10_checkPart rfl rfl (Nat.le_of_ble_eq_true rfl) (by decide) dX10_dearest_2 (by decide) (by decide) (fun E w1 hq => XT.out rfl (by
      have hv := hq.1
      obtain rfl := hq.2.symm
      obtain ⟨e1, rfl⟩ := rOK_inr hv
      have hcd := cdA_1 (s := s) (n := np) (by rw [hnp] at e1; exact e1)
      exact ⟨by rw [cdD_n (by rw [hcd]; decide), hcd]; rfl, by rw [hcd]; exact rfl⟩)) (fun v w1 hq => ?_)
  have hv := hq.1
  obtain rfl := hq.2.symm
  obtain ⟨e1, rfl⟩ := rOK_inl hv
  refine X_iload_n dX10_dearest_5 (i := 2) rfl rfl ?_
  refine X_callS (gc2 := 2) (gs2 := 12) (c_checkSerial s) kmX10_checkSerial rfl lX10_187 sX10_checkSerial rfl rfl (Nat.le_of_ble_eq_true rfl) (by decide) dX10_dearest_6 (by decide) (by decide) (fun E w1 hq => XT.out rfl (by
      have hv := hq.1
      obtain rfl := hq.2.symm
      obtain ⟨e3, rfl⟩ := rOK_inr hv
      have hcd := cdA_2 (n := np) (hnp ▸ e1) e3
      exact ⟨by rw [cdD_n (by rw [hcd]; decide), hcd]; rfl, by rw [hcd]; exact rfl⟩)) (fun v w1 hq => ?_)
  have hv := hq.1
  obtain rfl := hq.2.symm
  obtain ⟨e3, rfl⟩ := rOK_inl hv
  rw [hnp] at e1
  have hcd := cdA_0 e1 e3
  obtain ⟨a, ha, rfl⟩ := inP_of (by omega) e1
  obtain ⟨s, hs1, hs2, rfl⟩ := btw_n (lo := 1) (hi := 999) (by decide) (by decide) e3
  have ga : idx (nI a) = a := idx_nI (by omega)
  have gs : idx (nI s) = s := idx_nI (by omega)
  refine X_aload_n dX10_dearest_9 (i := 0) rfl rfl ?_
  refine X_get (i := 0) h0 rfl (ci := 9) rfl in10 (k := 0) (by decide) fX10_10 rfl dX10_dearest_10 ?_
  refine X_iload_n dX10_dearest_13 (i := 2) rfl rfl ?_
  refine X_aload_n dX10_dearest_14 (i := 0) rfl rfl ?_
  refine X_get (i := 0) h0 rfl (ci := 9) rfl in10 (k := 9) (by decide) fX10_66 rfl dX10_dearest_15 ?_
  refine X_callV (gc2 := 2) (gs2 := 12) (c_select hB hL hS hI hpr s (by omega)) (i := 1) hB rfl rfl kmX0_select rfl lX10_237 iX0_select vX0_select rfl rfl (Nat.le_of_ble_eq_true rfl) (by decide) dX10_dearest_18 (by decide) (by decide) (fun E w1 hq => nomatch hq.1) (fun v w1 hq => ?_)
  have hv := hq.1
  obtain rfl := hq.2.symm
  cases hv
  refine X_aload_n dX10_dearest_21 (i := 0) rfl rfl ?_
  refine X_get (i := 0) h0 rfl (ci := 9) rfl in10 (k := 3) (by decide) fX10_33 rfl dX10_dearest_22 ?_
  refine X_aload_n dX10_dearest_25 (i := 0) rfl rfl ?_
  refine X_get (i := 0) h0 rfl (ci := 9) rfl in10 (k := 0) (by decide) fX10_10 rfl dX10_dearest_26 ?_
  refine X_callV (gc2 := 2) (gs2 := 12) (c_rollUp (w := (selW G.2.2.1 w L pr s)) (s := s) (pr := pr) hB hP hL ⟨hS.2.1, rfl⟩ hI hnp hN (fun p hp => (hPI.2 p (by omega)).2.1) ⟨hS.1.1, rfl⟩ (c := c) hC) (i := 29) hC.1 rfl rfl kmX2_rollUp rfl lX10_266 iX2_rollUp vX2_rollUp rfl rfl (Nat.le_of_ble_eq_true rfl) (by decide) dX10_dearest_29 (by decide) (by decide) (fun E w1 hq => nomatch hq.1) (fun v w1 hq => ?_)
  have hv := hq.1
  obtain ⟨c', hw2, hc'⟩ := hq.2
  subst hw2
  cases hv
  have e30 : cel (setM (selW G.2.2.1 w L pr s) 30 (aF G.2.2.1 16 c')) 30 (aF G.2.2.1 16 c') := ⟨hC.2.1, rfl⟩
  refine X_aload_n dX10_dearest_32 (i := 0) rfl rfl ?_
  refine X_get (i := 0) h0 rfl (ci := 9) rfl in10 (k := 3) (by decide) fX10_33 rfl dX10_dearest_33 ?_
  refine X_aload_n dX10_dearest_36 (i := 0) rfl rfl ?_
  refine X_get (i := 0) h0 rfl (ci := 9) rfl in10 (k := 0) (by decide) fX10_10 rfl dX10_dearest_37 ?_
  refine X_iload_n dX10_dearest_40 (i := 1) rfl rfl ?_
  refine X_callV (gc2 := 2) (gs2 := 12) (c_dearestLine (w := (setM (selW G.2.2.1 w L pr s) 30 (aF G.2.2.1 16 c'))) (s := s) hB hP hL ⟨hS.2.1, rfl⟩ hI (fun p hp => (hPI.2 p (by omega)).2.1) (c := c') ⟨hC.1, e30⟩ hc' a ha) (i := 29) hC.1 rfl rfl kmX2_dearestLine rfl lX10_270 iX2_dearestLine vX2_dearestLine rfl rfl (Nat.le_of_ble_eq_true rfl) (by decide) dX10_dearest_41 (by decide) (by decide) (fun E w1 hq => nomatch hq.1) (fun v w1 hq => ?_)
  have hv := hq.1
  obtain rfl := hq.2.symm
  cases hv
  refine X_istore_n (i := 3) (lo' := [(3, _), (0, _), (1, _), (2, _)]) dX10_dearest_44 rfl (by decide) rfl ?_
  refine X_iload_n dX10_dearest_45 (i := 3) rfl rfl ?_
  refine X_iconst (v := -1) dX10_dearest_46 (by decide) ?_
  refine X_icmp_ne (tgt := 61) dX10_dearest_47 (by decide) (fun h5 => ?_) (fun h5 => ?_)
  · obtain ⟨b, h8⟩ := oI_some (n := ln L) (fun j h => dst_lt (L := L) (pr := pr) (s := s) (p := a) (g := mrF L (priF P L pr s 5)) 6 j h) (by omega) h5
    refine X_iload_n dX10_dearest_61 (i := 3) rfl rfl ?_
    refine X_ireturn dX10_dearest_62 rfl rfl ?_
    exact ⟨by rw [ga, gs, h8, cdD_0 hcd]; rfl, by rw [hcd, if_pos rfl, gs]; exact ⟨_, rfl⟩⟩
  · have h8 := oI_none (n := ln L) (fun j h => dst_lt (L := L) (pr := pr) (s := s) (p := a) (g := mrF L (priF P L pr s 5)) 6 j h) (by omega) h5
    refine X_throwSWX (text := "the part has no lines") thr_NoSuchElementException (by decide +kernel) rfl dX10_dearest_50 dX10_dearest_53 dX10_dearest_54 dX10_dearest_57 dX10_dearest_60 (Nat.le_of_ble_eq_true rfl) (by decide) (by decide) (by decide) ?_
    exact ⟨by rw [ga, gs, h8, cdD_3 hcd]; rfl, by rw [hcd, if_pos rfl, gs]; exact ⟨_, rfl⟩⟩
/-- the world after the costs were marked -/
def mrkW (K : Nat → ClassId) (w : Wd) (P : PSt) (L : LSt) (pr : Nat → Nat) (np s : Nat) (w' : Wd) : Prop := ∃ c' f' : Nat → UInt32, w' = (setM (setM (setM (selW K w L pr s) 30 (aF K 16 c')) 0 (oB 9 [.ref (w.1 1), .ref (w.1 20), .ref (w.1 26), .ref (w.1 29), .ref (w.1 31), .ref (w.1 33), .ref (w.1 36), .ref (w.1 38), .int (nI np), .int (nI (cfg pr))])) 38 (aF K 16 f')) ∧ ∀ x, x < np → f' x = priF P L pr s 5 x
theorem cdM_0 {s : Int32} (h : btw s 1 999 = true) : cdM s = 0 := by rw [cdM, h]; rfl
theorem cdM_1 {s : Int32} (h : btw s 1 999 = false) : cdM s = 1 := by rw [cdM, h]; rfl
set_option maxRecDepth 20000 in
theorem c_markCosts {mp np : Nat} {P : PSt} {L : LSt} {pr : Nat → Nat} {hc hl : Nat → Int32} (h0 : X0 w mp (cfg pr)) (hB : XB w) (hP : XP G.2.2.1 w P) (hL : XL G.2.2.1 w L) (hS : XSel G.2.2.1 w hc hl) (hnp : P.1 = np) (hI : LI np L) (hN : NC5 L) (hPI : PI P) (hpr : ∀ i, i < 4 → pr i < 4) {c : Nat → UInt32} (hC : XC2 G.2.2.1 w c) {mk : Nat → UInt32} (hX : XM G.2.2.1 w mk) (s : Int32) : XC G mX10_markCosts 7 2 12 [.ref (w.1 0), .int s] w (fun r w' => r = xr (cdM s) [eIAE] (.int (nI np)) ∧ (if cdM s = 0 then mrkW G.2.2.1 w P L pr np (idx s) w' else w' = w)) := by
  have h16 := hI.1
  have h40 := hI.2.1
  refine XC.of (lo0 := [(0, .ref (w.1 0)), (1, .int s)]) kmX10_markCosts (Nat.le_of_ble_eq_true rfl) rfl ?_
  refine X_iload_n dX10_markCosts_0 (i := 1) rfl rfl ?_
  refine X_callS (gc2 := 1) (gs2 := 6) (c_checkSerial s) kmX10_checkSerial rfl lX10_187 sX10_checkSerial rfl rfl (Nat.le_of_ble_eq_true rfl) (by decide) dX10_markCosts_1 (by decide) (by decide) (fun E w1 hq => XT.out rfl (by
      have hv := hq.1
      obtain rfl := hq.2.symm
      obtain ⟨e3, rfl⟩ := rOK_inr hv
      have hcd := cdM_1 e3
      exact ⟨by rw [hcd]; rfl, by rw [hcd]; exact rfl⟩)) (fun v w1 hq => ?_)
  have hv := hq.1
  obtain rfl := hq.2.symm
  obtain ⟨e3, rfl⟩ := rOK_inl hv
  have hcd := cdM_0 e3
  obtain ⟨s, hs1, hs2, rfl⟩ := btw_n (lo := 1) (hi := 999) (by decide) (by decide) e3
  have gs : idx (nI s) = s := idx_nI (by omega)
  refine X_aload_n dX10_markCosts_4 (i := 0) rfl rfl ?_
  refine X_get (i := 0) h0 rfl (ci := 9) rfl in10 (k := 0) (by decide) fX10_10 rfl dX10_markCosts_5 ?_
  refine X_iload_n dX10_markCosts_8 (i := 1) rfl rfl ?_
  refine X_aload_n dX10_markCosts_9 (i := 0) rfl rfl ?_
  refine X_get (i := 0) h0 rfl (ci := 9) rfl in10 (k := 9) (by decide) fX10_66 rfl dX10_markCosts_10 ?_
  refine X_callV (gc2 := 1) (gs2 := 6) (c_select hB hL hS hI hpr s (by omega)) (i := 1) hB rfl rfl kmX0_select rfl lX10_237 iX0_select vX0_select rfl rfl (Nat.le_of_ble_eq_true rfl) (by decide) dX10_markCosts_13 (by decide) (by decide) (fun E w1 hq => nomatch hq.1) (fun v w1 hq => ?_)
  have hv := hq.1
  obtain rfl := hq.2.symm
  cases hv
  refine X_aload_n dX10_markCosts_16 (i := 0) rfl rfl ?_
  refine X_get (i := 0) h0 rfl (ci := 9) rfl in10 (k := 3) (by decide) fX10_33 rfl dX10_markCosts_17 ?_
  refine X_aload_n dX10_markCosts_20 (i := 0) rfl rfl ?_
  refine X_get (i := 0) h0 rfl (ci := 9) rfl in10 (k := 0) (by decide) fX10_10 rfl dX10_markCosts_21 ?_
  refine X_callV (gc2 := 1) (gs2 := 6) (c_rollUp (w := (selW G.2.2.1 w L pr s)) (s := s) (pr := pr) hB hP hL ⟨hS.2.1, rfl⟩ hI hnp hN (fun p hp => (hPI.2 p (by omega)).2.1) ⟨hS.1.1, rfl⟩ (c := c) hC) (i := 29) hC.1 rfl rfl kmX2_rollUp rfl lX10_266 iX2_rollUp vX2_rollUp rfl rfl (Nat.le_of_ble_eq_true rfl) (by decide) dX10_markCosts_24 (by decide) (by decide) (fun E w1 hq => nomatch hq.1) (fun v w1 hq => ?_)
  have hv := hq.1
  obtain ⟨c', hw2, hc'⟩ := hq.2
  subst hw2
  cases hv
  have e30 : cel (setM (selW G.2.2.1 w L pr s) 30 (aF G.2.2.1 16 c')) 30 (aF G.2.2.1 16 c') := ⟨hC.2.1, rfl⟩
  refine X_aload_n dX10_markCosts_27 (i := 0) rfl rfl ?_
  refine X_aload_n dX10_markCosts_28 (i := 0) rfl rfl ?_
  refine X_get (i := 0) h0 rfl (ci := 9) rfl in10 (k := 0) (by decide) fX10_10 rfl dX10_markCosts_29 ?_
  refine X_get (i := 1) hB rfl (ci := 0) rfl in0 (k := 0) (by decide) fX10_80 rfl dX10_markCosts_32 ?_
  refine X_get (i := 2) hP.1 rfl (ci := 6) rfl in7 (k := 3) (by decide) fX10_84 rfl dX10_markCosts_35 ?_
  refine XJ.top (v' := .int (nI np)) (by rw [hnp]) ?_
  refine X_put tyX10 tyX10_ok nmX10 (i := 0) h0 rfl (ci := 9) rfl in10 (k := 8) (by decide) fX10_62 rfl rfl rfl (Nat.le_of_ble_eq_true rfl) dX10_markCosts_38 (fun hc_38 => ?_)
  refine X_iconst (v := 0) dX10_markCosts_41 (by decide) ?_
  refine X_istore_n (i := 2) (lo' := [(2, _), (0, _), (1, _)]) dX10_markCosts_42 rfl (by decide) rfl ?_
  have hloop : ∀ (n : Nat) (i : Nat) (f : Nat → UInt32), np - i < n → i ≤ np → (∀ q, q < i → f q = c' q) → XJ G mX10_markCosts 7 0 0 43 [(0, .ref (w.1 0)), (1, .int (nI s)), (2, .int (nI i))] [] (setM (setM (setM (selW G.2.2.1 w L pr s) 30 (aF G.2.2.1 16 c')) 0 (oB 9 [.ref (w.1 1), .ref (w.1 20), .ref (w.1 26), .ref (w.1 29), .ref (w.1 31), .ref (w.1 33), .ref (w.1 36), .ref (w.1 38), .int (nI np), .int (nI (cfg pr))])) 38 (aF G.2.2.1 16 f)) (fun r w' => r = xr (cdM (nI s)) [eIAE] (.int (nI np)) ∧ (if cdM (nI s) = 0 then mrkW G.2.2.1 w P L pr np (idx (nI s)) w' else w' = w)) := by
    intro n
    induction n with
    | zero => intro i f hm hi hf; exact absurd hm (Nat.not_lt_zero _)
    | succ n ih =>
      intro i f hm hi hf
      have e0 : cel (setM (setM (setM (selW G.2.2.1 w L pr s) 30 (aF G.2.2.1 16 c')) 0 (oB 9 [.ref (w.1 1), .ref (w.1 20), .ref (w.1 26), .ref (w.1 29), .ref (w.1 31), .ref (w.1 33), .ref (w.1 36), .ref (w.1 38), .int (nI np), .int (nI (cfg pr))])) 38 (aF G.2.2.1 16 f)) 0 (oB 9 [.ref (w.1 1), .ref (w.1 20), .ref (w.1 26), .ref (w.1 29), .ref (w.1 31), .ref (w.1 33), .ref (w.1 36), .ref (w.1 38), .int (nI np), .int (nI (cfg pr))]) := ⟨h0.1, rfl⟩
      have e30b : cel (setM (setM (setM (selW G.2.2.1 w L pr s) 30 (aF G.2.2.1 16 c')) 0 (oB 9 [.ref (w.1 1), .ref (w.1 20), .ref (w.1 26), .ref (w.1 29), .ref (w.1 31), .ref (w.1 33), .ref (w.1 36), .ref (w.1 38), .int (nI np), .int (nI (cfg pr))])) 38 (aF G.2.2.1 16 f)) 30 (aF G.2.2.1 16 c') := ⟨hC.2.1, rfl⟩
      have e38 : cel (setM (setM (setM (selW G.2.2.1 w L pr s) 30 (aF G.2.2.1 16 c')) 0 (oB 9 [.ref (w.1 1), .ref (w.1 20), .ref (w.1 26), .ref (w.1 29), .ref (w.1 31), .ref (w.1 33), .ref (w.1 36), .ref (w.1 38), .int (nI np), .int (nI (cfg pr))])) 38 (aF G.2.2.1 16 f)) 38 (aF G.2.2.1 16 f) := ⟨hX.1, rfl⟩
      refine X_iload_n dX10_markCosts_43 (i := 2) rfl rfl ?_
      refine X_aload_n dX10_markCosts_44 (i := 0) rfl rfl ?_
      refine X_get (i := 0) e0 rfl (ci := 9) rfl in10 (k := 8) (by decide) fX10_62 rfl dX10_markCosts_45 ?_
      refine X_icmp_ge (tgt := 72) dX10_markCosts_48 (by decide) (fun h2 => ?_) (fun h2 => ?_)
      · have h5 : i = np := by have := ge_nI (a := np) (by omega) (by omega) h2; omega
        refine X_aload_n dX10_markCosts_72 (i := 0) rfl rfl ?_
        refine X_get (i := 0) e0 rfl (ci := 9) rfl in10 (k := 8) (by decide) fX10_62 rfl dX10_markCosts_73 ?_
        refine X_ireturn dX10_markCosts_76 rfl rfl ?_
        exact ⟨by rw [hcd]; rfl, by rw [hcd, if_pos rfl, gs]; exact ⟨_, _, rfl, fun x hx => (hf x (by omega)).trans (hc' x hx)⟩⟩
      · have h5 : i < np := nge_nI (a := np) (by omega) (by omega) h2
        refine X_aload_n dX10_markCosts_51 (i := 0) rfl rfl ?_
        refine X_get (i := 0) e0 rfl (ci := 9) rfl in10 (k := 7) (by decide) fX10_58 rfl dX10_markCosts_52 ?_
        refine X_iload_n dX10_markCosts_55 (i := 2) rfl rfl ?_
        refine X_aload_n dX10_markCosts_56 (i := 0) rfl rfl ?_
        refine X_get (i := 0) e0 rfl (ci := 9) rfl in10 (k := 3) (by decide) fX10_33 rfl dX10_markCosts_57 ?_
        refine X_get (i := 29) hC.1 rfl (ci := 1) rfl in2 (k := 0) (by decide) fX10_287 rfl dX10_markCosts_60 ?_
        refine X_iload_n dX10_markCosts_63 (i := 2) rfl rfl ?_
        refine X_fald (i := 30) e30b rfl rfl (by omega) (by decide) dX10_markCosts_64 ?_
        refine X_fast (i := 38) e38 rfl rfl (by omega) (by decide) dX10_markCosts_65 (fun hc_65 => ?_)
        refine X_iinc (i := 2) (v := nI (i + 1)) (lo' := [(2, _), (0, _), (1, _)]) dX10_markCosts_66 rfl (nI_inc i) (by decide) rfl ?_
        refine X_goto (tgt := 43) dX10_markCosts_69 (by decide) ?_
        refine XJ.wd (w' := (setM (setM (setM (selW G.2.2.1 w L pr s) 30 (aF G.2.2.1 16 c')) 0 (oB 9 [.ref (w.1 1), .ref (w.1 20), .ref (w.1 26), .ref (w.1 29), .ref (w.1 31), .ref (w.1 33), .ref (w.1 36), .ref (w.1 38), .int (nI np), .int (nI (cfg pr))])) 38 (aF G.2.2.1 16 (va_up f i (c' i))))) setM_setM ?_
        exact XJ.lcs (lo' := [(0, .ref (w.1 0)), (1, .int (nI s)), (2, .int (nI (i + 1)))]) ⟨rfl, rfl, rfl, trivial⟩ (ih (i + 1) _ (by omega) (by omega) (fun q hq => by simp only [va_up]; split; rename_i h; rw [h]; exact hf q (by omega)))
  refine XJ.wd (w' := (setM (setM (setM (selW G.2.2.1 w L pr s) 30 (aF G.2.2.1 16 c')) 0 (oB 9 [.ref (w.1 1), .ref (w.1 20), .ref (w.1 26), .ref (w.1 29), .ref (w.1 31), .ref (w.1 33), .ref (w.1 36), .ref (w.1 38), .int (nI np), .int (nI (cfg pr))])) 38 (aF G.2.2.1 16 mk))) (setM_id (show (setM (setM (selW G.2.2.1 w L pr s) 30 (aF G.2.2.1 16 c')) 0 (oB 9 [.ref (w.1 1), .ref (w.1 20), .ref (w.1 26), .ref (w.1 29), .ref (w.1 31), .ref (w.1 33), .ref (w.1 36), .ref (w.1 38), .int (nI np), .int (nI (cfg pr))])).2.2 38 = _ from hX.2)).symm ?_
  refine XJ.less (Nat.zero_le _) (Nat.zero_le _) ?_
  exact XJ.lcs (lo' := [(0, .ref (w.1 0)), (1, .int (nI s)), (2, .int (nI 0))]) ⟨rfl, rfl, rfl, trivial⟩ (hloop (np + 1) 0 _ (by omega) (by omega) (fun q hq => absurd hq (Nat.not_lt_zero q)))
set_option maxRecDepth 20000 in
theorem c_costChange {mp np : Nat} {P : PSt} {L : LSt} {pr : Nat → Nat} {hc hl : Nat → Int32} (h0 : X0 w mp (cfg pr)) (hB : XB w) (hP : XP G.2.2.1 w P) (hL : XL G.2.2.1 w L) (hS : XSel G.2.2.1 w hc hl) (hnp : P.1 = np) (hI : LI np L) (hN : NC5 L) (hPI : PI P) (hpr : ∀ i, i < 4 → pr i < 4) {c : Nat → UInt32} (hC : XC2 G.2.2.1 w c) {mk : Nat → UInt32} (hX : XM G.2.2.1 w mk) (hmp : mp ≤ 16) (hmk : ∀ x, x < mp → Z32 120 234 (mk x)) (a s : Int32) : XC G mX10_costChange 7 4 24 [.ref (w.1 0), .int a, .int s] w (fun r w' => r = xr (cdH a s np mp) [eIOB, eIAE, eNSE] (.float (FP.fsub (priF P L pr (idx s) 5 (idx a)) (mk (idx a)))) ∧ (if cdH a s np mp = 0 then cstW G.2.2.1 w L pr (idx s) w' else w' = w)) := by
  have h16 := hI.1
  have h40 := hI.2.1
  refine XC.of (lo0 := [(0, .ref (w.1 0)), (1, .int a), (2, .int s)]) kmX10_costChange (Nat.le_of_ble_eq_true rfl) rfl ?_
  refine X_aload_n dX10_costChange_0 (i := 0) rfl rfl ?_
  refine X_iload_n dX10_costChange_1 (i := 1) rfl rfl ?_
  refine X_callV (gc2 := 3) (gs2 := 18) (c_checkPart a h0 hB hP) (i := 0) h0 rfl rfl kmX10_checkPart rfl lX10_100 iX10_checkPart vX10_checkPart rfl rfl (Nat.le_of_ble_eq_true rfl) (by decide) dX10_costChange_2 (by decide) (by decide) (fun E w1 hq => XT.out rfl (by
      have hv := hq.1
      obtain rfl := hq.2.symm
      obtain ⟨e1, rfl⟩ := rOK_inr hv
      have hcd := cdA_1 (s := s) (n := np) (by rw [hnp] at e1; exact e1)
      exact ⟨by rw [cdH_n (by rw [hcd]; decide), hcd]; rfl, by rw [cdH_n (by rw [hcd]; decide), hcd]; exact rfl⟩)) (fun v w1 hq => ?_)
  have hv := hq.1
  obtain rfl := hq.2.symm
  obtain ⟨e1, rfl⟩ := rOK_inl hv
  refine X_iload_n dX10_costChange_5 (i := 2) rfl rfl ?_
  refine X_callS (gc2 := 2) (gs2 := 12) (c_checkSerial s) kmX10_checkSerial rfl lX10_187 sX10_checkSerial rfl rfl (Nat.le_of_ble_eq_true rfl) (by decide) dX10_costChange_6 (by decide) (by decide) (fun E w1 hq => XT.out rfl (by
      have hv := hq.1
      obtain rfl := hq.2.symm
      obtain ⟨e3, rfl⟩ := rOK_inr hv
      have hcd := cdA_2 (n := np) (hnp ▸ e1) e3
      exact ⟨by rw [cdH_n (by rw [hcd]; decide), hcd]; rfl, by rw [cdH_n (by rw [hcd]; decide), hcd]; exact rfl⟩)) (fun v w1 hq => ?_)
  have hv := hq.1
  obtain rfl := hq.2.symm
  obtain ⟨e3, rfl⟩ := rOK_inl hv
  rw [hnp] at e1
  have hcd := cdA_0 e1 e3
  obtain ⟨a, ha, rfl⟩ := inP_of (by omega) e1
  obtain ⟨s, hs1, hs2, rfl⟩ := btw_n (lo := 1) (hi := 999) (by decide) (by decide) e3
  have ga : idx (nI a) = a := idx_nI (by omega)
  have gs : idx (nI s) = s := idx_nI (by omega)
  refine X_iload_n dX10_costChange_9 (i := 1) rfl rfl ?_
  refine X_aload_n dX10_costChange_10 (i := 0) rfl rfl ?_
  refine X_get (i := 0) h0 rfl (ci := 9) rfl in10 (k := 8) (by decide) fX10_62 rfl dX10_costChange_11 ?_
  refine X_icmp_lt (tgt := 28) dX10_costChange_14 (by decide) (fun h5 => ?_) (fun h5 => ?_)
  · have h6 : a < mp := by rw [Int32.lt_iff_toInt_lt, nI_toInt (by omega), nI_toInt (by omega)] at h5; omega
    refine X_aload_n dX10_costChange_28 (i := 0) rfl rfl ?_
    refine X_iload_n dX10_costChange_29 (i := 1) rfl rfl ?_
    refine X_iload_n dX10_costChange_30 (i := 2) rfl rfl ?_
    refine X_aload_n dX10_costChange_31 (i := 0) rfl rfl ?_
    refine X_get (i := 0) h0 rfl (ci := 9) rfl in10 (k := 9) (by decide) fX10_66 rfl dX10_costChange_32 ?_
    refine X_callV (gc2 := 2) (gs2 := 12) (c_rolled h0 hB hP hL hS hnp hI hN hPI hC hpr a s ha (by omega)) (i := 0) h0 rfl rfl kmX10_rolledUpCost rfl lX10_251 iX10_rolledUpCost vX10_rolledUpCost rfl rfl (Nat.le_of_ble_eq_true rfl) (by decide) dX10_costChange_35 (by decide) (by decide) (fun E w1 hq => nomatch hq.1) (fun v w1 hq => ?_)
    have hv := hq.1
    obtain ⟨c', hw2⟩ := hq.2
    subst hw2
    cases hv
    have e38 : cel (setM (selW G.2.2.1 w L pr s) 30 (aF G.2.2.1 16 c')) 38 (aF G.2.2.1 16 mk) := hX
    refine X_aload_n dX10_costChange_38 (i := 0) rfl rfl ?_
    refine X_get (i := 0) h0 rfl (ci := 9) rfl in10 (k := 7) (by decide) fX10_58 rfl dX10_costChange_39 ?_
    refine X_iload_n dX10_costChange_42 (i := 1) rfl rfl ?_
    refine X_fald (i := 38) e38 rfl rfl (by omega) (by decide) dX10_costChange_43 ?_
    refine X_fsub dX10_costChange_44 (chg_nn (pri5_z hI hnp hPI ha) (hmk a h6)) ?_
    refine X_freturn dX10_costChange_45 rfl ?_
    exact ⟨by rw [cdH_0 hcd (by rw [ga]; exact h6), ga, gs]; rfl, by rw [cdH_0 hcd (by rw [ga]; exact h6), if_pos rfl, gs]; exact ⟨_, rfl⟩⟩
  · have h6 : ¬ a < mp := fun h => h5 (nI_lt h (by omega))
    refine X_throwSWX (text := "no cost of this part is marked") thr_NoSuchElementException (by decide +kernel) rfl dX10_costChange_17 dX10_costChange_20 dX10_costChange_21 dX10_costChange_24 dX10_costChange_27 (Nat.le_of_ble_eq_true rfl) (by decide) (by decide) (by decide) ?_
    exact ⟨by rw [cdH_3 hcd (by rw [ga]; exact h6)]; rfl, by rw [cdH_3 hcd (by rw [ga]; exact h6)]; exact rfl⟩
def ocF (P : PSt) (L : LSt) (O : OSt) (j : Nat) : UInt32 := FP.fmul (FP.i2f (nI (O.2.2.2.1 j))) (priF P L (O.2.2.2.2.1 j) (O.2.2.1 j) 5 (O.2.1 j))
end CostQ
