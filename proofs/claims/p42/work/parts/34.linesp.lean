/-! LINES of the class: the calls (walks by gen/spec34.py) -/
section LinesP
variable {G : Gx} {w : Wd}
set_option maxRecDepth 20000 in
theorem c_addLine {mp cf np : Nat} {P : PSt} {L : LSt} (h0 : X0 w mp cf) (hB : XB w) (hP : XP G.2.2.1 w P) (hL : XL G.2.2.1 w L) (hS : XS G.2.2.1 w L) (hnp : P.1 = np) (hI : LI np L) (p k c q a b : Int32) : XC G mX10_addLine 7 8 48 [.ref (w.1 0), .int p, .int k, .int c, .int q, .int a, .int b] w (fun r w' => r = xr (cdAL np L p k c q a b) [eIOB, eIAE, eUOE, eISE] (.int (nI (ln L))) ∧ w' = if cdAL np L p k c q a b = 0 then xNew G.2.2.1 w (newL L (idx p) (idx k) (idx c) (idx q) 0 (idx a) (idx b) 0 0) else w) := by
  have h16 := hI.1
  have h40 := hI.2.1
  refine XC.of (lo0 := [(0, .ref (w.1 0)), (1, .int p), (2, .int k), (3, .int c), (4, .int q), (5, .int a), (6, .int b)]) kmX10_addLine (Nat.le_of_ble_eq_true rfl) rfl ?_
  refine X_aload_n dX10_addLine_0 (i := 0) rfl rfl ?_
  refine X_iload_n dX10_addLine_1 (i := 1) rfl rfl ?_
  refine X_callV (gc2 := 7) (gs2 := 42) (c_checkPart p h0 hB hP) (i := 0) h0 rfl rfl kmX10_checkPart rfl lX10_100 iX10_checkPart vX10_checkPart rfl rfl (Nat.le_of_ble_eq_true rfl) (by decide) dX10_addLine_2 (by decide) (by decide) (fun E w1 hq => XT.out rfl (by
      have hv := hq.1
      obtain rfl := hq.2.symm
      obtain ⟨e1, rfl⟩ := rOK_inr hv
      have hcd := (show cdAL np L p k c q a b = 1 by rw [hnp] at e1; simp [cdAL, e1])
      exact ⟨by rw [hcd]; rfl, by rw [hcd]; rfl⟩)) (fun v w1 hq => ?_)
  have hv := hq.1
  obtain rfl := hq.2.symm
  obtain ⟨e1, rfl⟩ := rOK_inl hv
  refine X_aload_n dX10_addLine_5 (i := 0) rfl rfl ?_
  refine X_iload_n dX10_addLine_6 (i := 3) rfl rfl ?_
  refine X_callV (gc2 := 6) (gs2 := 36) (c_checkPart c h0 hB hP) (i := 0) h0 rfl rfl kmX10_checkPart rfl lX10_100 iX10_checkPart vX10_checkPart rfl rfl (Nat.le_of_ble_eq_true rfl) (by decide) dX10_addLine_7 (by decide) (by decide) (fun E w1 hq => XT.out rfl (by
      have hv := hq.1
      obtain rfl := hq.2.symm
      obtain ⟨e2, rfl⟩ := rOK_inr hv
      have hcd := (show cdAL np L p k c q a b = 1 by rw [hnp] at e2; simp [cdAL, e2])
      exact ⟨by rw [hcd]; rfl, by rw [hcd]; rfl⟩)) (fun v w1 hq => ?_)
  have hv := hq.1
  obtain rfl := hq.2.symm
  obtain ⟨e2, rfl⟩ := rOK_inl hv
  refine X_iload_n dX10_addLine_10 (i := 2) rfl rfl ?_
  refine X_callS (gc2 := 5) (gs2 := 30) (c_checkPosition k) kmX10_checkPosition rfl lX10_114 sX10_checkPosition rfl rfl (Nat.le_of_ble_eq_true rfl) (by decide) dX10_addLine_11 (by decide) (by decide) (fun E w1 hq => XT.out rfl (by
      have hv := hq.1
      obtain rfl := hq.2.symm
      obtain ⟨e3, rfl⟩ := rOK_inr hv
      have hcd := (show cdAL np L p k c q a b = 2 by rw [hnp] at e1 e2; simp [cdAL, e1, e2, e3])
      exact ⟨by rw [hcd]; rfl, by rw [hcd]; rfl⟩)) (fun v w1 hq => ?_)
  have hv := hq.1
  obtain rfl := hq.2.symm
  obtain ⟨e3, rfl⟩ := rOK_inl hv
  refine X_iload dX10_addLine_14 (i := 4) rfl ?_
  refine X_callS (gc2 := 4) (gs2 := 24) (c_checkQuantity q) kmX10_checkQuantity rfl lX10_117 sX10_checkQuantity rfl rfl (Nat.le_of_ble_eq_true rfl) (by decide) dX10_addLine_16 (by decide) (by decide) (fun E w1 hq => XT.out rfl (by
      have hv := hq.1
      obtain rfl := hq.2.symm
      obtain ⟨e4, rfl⟩ := rOK_inr hv
      have hcd := (show cdAL np L p k c q a b = 2 by rw [hnp] at e1 e2; simp [cdAL, e1, e2, e4])
      exact ⟨by rw [hcd]; rfl, by rw [hcd]; rfl⟩)) (fun v w1 hq => ?_)
  have hv := hq.1
  obtain rfl := hq.2.symm
  obtain ⟨e4, rfl⟩ := rOK_inl hv
  refine X_iload dX10_addLine_19 (i := 5) rfl ?_
  refine X_iload dX10_addLine_21 (i := 6) rfl ?_
  refine X_callS (gc2 := 3) (gs2 := 18) (c_checkRange a b) kmX10_checkRange rfl lX10_120 sX10_checkRange rfl rfl (Nat.le_of_ble_eq_true rfl) (by decide) dX10_addLine_23 (by decide) (by decide) (fun E w1 hq => XT.out rfl (by
      have hv := hq.1
      obtain rfl := hq.2.symm
      obtain ⟨e5, rfl⟩ := rOK_inr hv
      have hcd := (show cdAL np L p k c q a b = 2 by rw [hnp] at e1 e2; simp only [cdAL, e1, e2, e3, e4, e5, Bool.and_self, Bool.and_false, cond_true, cond_false])
      exact ⟨by rw [hcd]; rfl, by rw [hcd]; rfl⟩)) (fun v w1 hq => ?_)
  have hv := hq.1
  obtain rfl := hq.2.symm
  obtain ⟨e5, rfl⟩ := rOK_inl hv
  rw [hnp] at e1 e2
  obtain ⟨p, hp, rfl⟩ := inP_of (by omega) e1
  obtain ⟨c, hc, rfl⟩ := inP_of (by omega) e2
  obtain ⟨k, hk1, hk, rfl⟩ := btw_n (lo := 1) (hi := 6) (by decide) (by decide) e3
  obtain ⟨q, hq1, hq, rfl⟩ := btw_n (lo := 1) (hi := 20) (by decide) (by decide) e4
  have e5a : btw a 1 999 = true := by cases hz : btw a 1 999 <;> simp_all
  have e5b : btw b a 999 = true := by cases hz : btw b a 999 <;> simp_all
  obtain ⟨a, ha1, ha, rfl⟩ := btw_n (lo := 1) (hi := 999) (by decide) (by decide) e5a
  obtain ⟨b, hb1, hb9, rfl⟩ := btw_n (lo := a) (hi := 999) (by omega) (by decide) e5b
  have hcd0 : cdAL np L (nI p) (nI k) (nI c) (nI q) (nI a) (nI b) = cdL L p c (anyB (colB L p k a b 0 0) (ln L)) := by simp only [cdAL, e1, e2, e3, e4, e5a, e5b, Bool.and_self, cond_true, idx_nI (show p < 2 ^ 31 by omega), idx_nI (show c < 2 ^ 31 by omega), idx_nI (show k < 2 ^ 31 by omega), idx_nI (show a < 2 ^ 31 by omega), idx_nI (show b < 2 ^ 31 by omega)]
  refine X_aload_n dX10_addLine_26 (i := 0) rfl rfl ?_
  refine X_iload_n dX10_addLine_27 (i := 1) rfl rfl ?_
  refine X_iload_n dX10_addLine_28 (i := 3) rfl rfl ?_
  refine X_callV (gc2 := 2) (gs2 := 12) (c_checkNoCircle h0 hB hL hS hI p c (by omega) (by omega)) (i := 0) h0 rfl rfl kmX10_checkNoCircle rfl lX10_124 iX10_checkNoCircle vX10_checkNoCircle rfl rfl (Nat.le_of_ble_eq_true rfl) (by decide) dX10_addLine_29 (by decide) (by decide) (fun E w1 hq => XT.out rfl (by
      have hv := hq.1
      obtain rfl := hq.2.symm
      obtain ⟨e6, rfl⟩ := rOK_inr hv
      have hcd := hcd0.trans (cdL_3 (by simpa using e6))
      exact ⟨by rw [hcd]; rfl, by rw [hcd]; rfl⟩)) (fun v w1 hq => ?_)
  have hv := hq.1
  obtain rfl := hq.2.symm
  obtain ⟨e6, rfl⟩ := rOK_inl hv
  refine X_aload_n dX10_addLine_32 (i := 0) rfl rfl ?_
  refine X_iload_n dX10_addLine_33 (i := 1) rfl rfl ?_
  refine X_iload_n dX10_addLine_34 (i := 3) rfl rfl ?_
  refine X_callV (gc2 := 1) (gs2 := 6) (c_checkRoom h0 hB hL hS hI p c (by omega) (by omega)) (i := 0) h0 rfl rfl kmX10_checkRoomForLine rfl lX10_127 iX10_checkRoomForLine vX10_checkRoomForLine rfl rfl (Nat.le_of_ble_eq_true rfl) (by decide) dX10_addLine_35 (by decide) (by decide) (fun E w1 hq => XT.out rfl (by
      have hv := hq.1
      obtain rfl := hq.2.symm
      obtain ⟨e7, rfl⟩ := rOK_inr hv
      have hcd := hcd0.trans (cdL_4 (by simpa using e6) (by cases hz : deepB L p c <;> cases hy : decide (ln L = 40) <;> simp_all))
      exact ⟨by rw [hcd]; rfl, by rw [hcd]; rfl⟩)) (fun v w1 hq => ?_)
  have hv := hq.1
  obtain rfl := hq.2.symm
  obtain ⟨e7, rfl⟩ := rOK_inl hv
  refine X_aload_n dX10_addLine_38 (i := 0) rfl rfl ?_
  refine X_iload_n dX10_addLine_39 (i := 1) rfl rfl ?_
  refine X_iload_n dX10_addLine_40 (i := 2) rfl rfl ?_
  refine X_iload dX10_addLine_41 (i := 5) rfl ?_
  refine X_iload dX10_addLine_43 (i := 6) rfl ?_
  refine X_iconst (v := 0) dX10_addLine_45 (by decide) ?_
  refine X_bipush (v := 15) dX10_addLine_46 (by decide) ?_
  refine X_callV (gc2 := 0) (gs2 := 0) (c_checkUnique h0 hB hL hS hI p k a b 0 0 (by omega) hk ha hb9 (by decide) (by decide) (by omega)) (i := 0) h0 rfl rfl kmX10_checkUnique rfl lX10_130 iX10_checkUnique vX10_checkUnique rfl rfl (Nat.le_of_ble_eq_true rfl) (by decide) dX10_addLine_48 (by decide) (by decide) (fun E w1 hq => XT.out rfl (by
      have hv := hq.1
      obtain rfl := hq.2.symm
      obtain ⟨e8, rfl⟩ := rOK_inr hv
      have hcd := hcd0.trans (cdL_4 (by simpa using e6) (by have e9 : anyB (colB L p k a b 0 0) (ln L) = true := (by simpa using e8); rw [e9]; simp))
      exact ⟨by rw [hcd]; rfl, by rw [hcd]; rfl⟩)) (fun v w1 hq => ?_)
  have hv := hq.1
  obtain rfl := hq.2.symm
  obtain ⟨e8, rfl⟩ := rOK_inl hv
  have e71 : deepB L p c = false := by cases hz : deepB L p c <;> simp_all
  have e72 : ln L ≠ 40 := by intro hz; simp [hz] at e7
  have hlt : ln L < 40 := by omega
  refine X_aload_n dX10_addLine_51 (i := 0) rfl rfl ?_
  refine X_get (i := 0) h0 rfl (ci := 9) rfl in10 (k := 0) (by decide) fX10_10 rfl dX10_addLine_52 ?_
  refine X_iload_n dX10_addLine_55 (i := 1) rfl rfl ?_
  refine X_iload_n dX10_addLine_56 (i := 2) rfl rfl ?_
  refine X_iload_n dX10_addLine_57 (i := 3) rfl rfl ?_
  refine X_iload dX10_addLine_58 (i := 4) rfl ?_
  refine X_callV (gc2 := 0) (gs2 := 0) (c_Bill_add hB hL hS hI hlt p k c q a b 0 0 (by omega) (by omega)) (i := 1) hB rfl rfl kmX0_add rfl lX10_134 iX0_add vX0_add rfl rfl (Nat.le_of_ble_eq_true rfl) (by decide) dX10_addLine_60 (by decide) (by decide) (fun E w1 hq => nomatch hq.1) (fun v w1 hq => ?_)
  have hv := hq.1
  obtain rfl := hq.2.symm
  cases hv
  have k6 : cel (xAdd G.2.2.1 w (newL L p k c q 0 a b 0 0)) 6 (oB 3 [.ref (w.1 7), .ref (w.1 8), .ref (w.1 9), .ref (w.1 10), .ref (w.1 11), .ref (w.1 12), .ref (w.1 13), .ref (w.1 14), .ref (w.1 15), .int (nI (ln L + 1))]) := ⟨hL.1.1, rfl⟩
  refine X_istore (i := 7) (lo' := [(7, _), (0, _), (1, _), (2, _), (3, _), (4, _), (5, _), (6, _)]) dX10_addLine_63 (by decide) rfl ?_
  refine X_aload_n dX10_addLine_65 (i := 0) rfl rfl ?_
  refine X_get (i := 0) h0 rfl (ci := 9) rfl in10 (k := 0) (by decide) fX10_10 rfl dX10_addLine_66 ?_
  refine X_get (i := 1) hB rfl (ci := 0) rfl in0 (k := 1) (by decide) fX10_137 rfl dX10_addLine_69 ?_
  refine X_iload dX10_addLine_72 (i := 7) rfl ?_
  refine X_iload dX10_addLine_74 (i := 5) rfl ?_
  refine X_iload dX10_addLine_76 (i := 6) rfl ?_
  refine X_callV (gc2 := 0) (gs2 := 0) (c_setRange (w := xAdd G.2.2.1 w (newL L p k c q 0 a b 0 0)) (x := .ofNat (ln L + 1)) (f := nf (fi L)) (g := nf (la L)) ⟨hL.1.1, rfl⟩ ⟨hL.2.2.2.2.2.2.1.1, hL.2.2.2.2.2.2.1.2⟩ ⟨hL.2.2.2.2.2.2.2.1.1, hL.2.2.2.2.2.2.2.1.2⟩ (ln L) hlt (nI a) (nI b)) (i := 6) k6 rfl rfl kmX4_setRange rfl lX10_141 iX4_setRange vX4_setRange rfl rfl (Nat.le_of_ble_eq_true rfl) (by decide) dX10_addLine_78 (by decide) (by decide) (fun E w1 hq => nomatch hq.1) (fun v w1 hq => ?_)
  have hv := hq.1
  obtain rfl := hq.2.symm
  cases hv
  refine X_aload_n dX10_addLine_81 (i := 0) rfl rfl ?_
  refine X_get (i := 0) h0 rfl (ci := 9) rfl in10 (k := 0) (by decide) fX10_10 rfl dX10_addLine_82 ?_
  refine X_get (i := 1) hB rfl (ci := 0) rfl in0 (k := 1) (by decide) fX10_137 rfl dX10_addLine_85 ?_
  refine X_iload dX10_addLine_88 (i := 7) rfl ?_
  refine X_iconst (v := 0) dX10_addLine_90 (by decide) ?_
  refine X_bipush (v := 15) dX10_addLine_91 (by decide) ?_
  refine X_callV (gc2 := 0) (gs2 := 0) (c_setCondition (w := setM (setM (xAdd G.2.2.1 w (newL L p k c q 0 a b 0 0)) 12 (aI G.2.2.1 40 (va_up (nf (fi L)) (ln L) (nI a)))) 13 (aI G.2.2.1 40 (va_up (nf (la L)) (ln L) (nI b)))) (x := .ofNat (ln L + 1)) (f := fun j => nI (op L j - 1)) (g := fun j => nI (xcs (op L j) (cs L j))) ⟨hL.1.1, rfl⟩ ⟨hL.2.2.2.2.2.2.2.2.1.1, hL.2.2.2.2.2.2.2.2.1.2⟩ ⟨hL.2.2.2.2.2.2.2.2.2.1, hL.2.2.2.2.2.2.2.2.2.2⟩ (ln L) hlt 0 15) (i := 6) k6 rfl rfl kmX4_setCondition rfl lX10_147 iX4_setCondition vX4_setCondition rfl rfl (Nat.le_of_ble_eq_true rfl) (by decide) dX10_addLine_93 (by decide) (by decide) (fun E w1 hq => nomatch hq.1) (fun v w1 hq => ?_)
  have hv := hq.1
  obtain rfl := hq.2.symm
  cases hv
  refine X_iload dX10_addLine_96 (i := 7) rfl ?_
  refine X_ireturn dX10_addLine_98 rfl rfl ?_
  have hcd := hcd0.trans (cdL_0 (by simpa using e6) e71 (by simpa using e8) e72)
  refine ⟨by rw [hcd]; rfl, ?_⟩
  rw [hcd, if_pos rfl, idx_nI (show p < 2 ^ 31 by omega), idx_nI (show k < 2 ^ 31 by omega), idx_nI (show c < 2 ^ 31 by omega), idx_nI (show q < 2 ^ 31 by omega), idx_nI (show a < 2 ^ 31 by omega), idx_nI (show b < 2 ^ 31 by omega)]
  simp only [xNew]
  rw [show (fun j => nI (op (newL L p k c q 0 a b 0 0) j - 1)) = va_up (fun j => nI (op L j - 1)) (ln L) 0 from (g_up (fun o => nI (o - 1)) (op L) (ln L) 0).symm, show (fun j => nI (xcs (op (newL L p k c q 0 a b 0 0) j) (cs (newL L p k c q 0 a b 0 0) j))) = va_up (fun j => nI (xcs (op L j) (cs L j))) (ln L) 15 from (up2 (h := fun o s => nI (xcs o s)) (f := op L) (g := cs L) (k := ln L) (x := 0) (y := 0)).symm]
  rw [show nf (fi (newL L p k c q 0 a b 0 0)) = va_up (nf (fi L)) (ln L) (nI a) from (nf_up _ _ _).symm, show nf (la (newL L p k c q 0 a b 0 0)) = va_up (nf (la L)) (ln L) (nI b) from (nf_up _ _ _).symm]
  try rfl
set_option maxRecDepth 20000 in
theorem c_addVariant {mp cf np : Nat} {P : PSt} {L : LSt} (h0 : X0 w mp cf) (hB : XB w) (hP : XP G.2.2.1 w P) (hL : XL G.2.2.1 w L) (hS : XS G.2.2.1 w L) (hnp : P.1 = np) (hI : LI np L) (p k c q o s : Int32) : XC G mX10_addVariant 7 8 48 [.ref (w.1 0), .int p, .int k, .int c, .int q, .int o, .int s] w (fun r w' => r = xr (cdAV np L p k c q o s) [eIOB, eIAE, eUOE, eISE] (.int (nI (ln L))) ∧ w' = if cdAV np L p k c q o s = 0 then xNew G.2.2.1 w (newL L (idx p) (idx k) (idx c) (idx q) 0 1 999 (idx o + 1) (idx s)) else w) := by
  have h16 := hI.1
  have h40 := hI.2.1
  refine XC.of (lo0 := [(0, .ref (w.1 0)), (1, .int p), (2, .int k), (3, .int c), (4, .int q), (5, .int o), (6, .int s)]) kmX10_addVariant (Nat.le_of_ble_eq_true rfl) rfl ?_
  refine X_aload_n dX10_addVariant_0 (i := 0) rfl rfl ?_
  refine X_iload_n dX10_addVariant_1 (i := 1) rfl rfl ?_
  refine X_callV (gc2 := 7) (gs2 := 42) (c_checkPart p h0 hB hP) (i := 0) h0 rfl rfl kmX10_checkPart rfl lX10_100 iX10_checkPart vX10_checkPart rfl rfl (Nat.le_of_ble_eq_true rfl) (by decide) dX10_addVariant_2 (by decide) (by decide) (fun E w1 hq => XT.out rfl (by
      have hv := hq.1
      obtain rfl := hq.2.symm
      obtain ⟨e1, rfl⟩ := rOK_inr hv
      have hcd := (show cdAV np L p k c q o s = 1 by rw [hnp] at e1; simp [cdAV, e1])
      exact ⟨by rw [hcd]; rfl, by rw [hcd]; rfl⟩)) (fun v w1 hq => ?_)
  have hv := hq.1
  obtain rfl := hq.2.symm
  obtain ⟨e1, rfl⟩ := rOK_inl hv
  refine X_aload_n dX10_addVariant_5 (i := 0) rfl rfl ?_
  refine X_iload_n dX10_addVariant_6 (i := 3) rfl rfl ?_
  refine X_callV (gc2 := 6) (gs2 := 36) (c_checkPart c h0 hB hP) (i := 0) h0 rfl rfl kmX10_checkPart rfl lX10_100 iX10_checkPart vX10_checkPart rfl rfl (Nat.le_of_ble_eq_true rfl) (by decide) dX10_addVariant_7 (by decide) (by decide) (fun E w1 hq => XT.out rfl (by
      have hv := hq.1
      obtain rfl := hq.2.symm
      obtain ⟨e2, rfl⟩ := rOK_inr hv
      have hcd := (show cdAV np L p k c q o s = 1 by rw [hnp] at e2; simp [cdAV, e2])
      exact ⟨by rw [hcd]; rfl, by rw [hcd]; rfl⟩)) (fun v w1 hq => ?_)
  have hv := hq.1
  obtain rfl := hq.2.symm
  obtain ⟨e2, rfl⟩ := rOK_inl hv
  refine X_iload_n dX10_addVariant_10 (i := 2) rfl rfl ?_
  refine X_callS (gc2 := 5) (gs2 := 30) (c_checkPosition k) kmX10_checkPosition rfl lX10_114 sX10_checkPosition rfl rfl (Nat.le_of_ble_eq_true rfl) (by decide) dX10_addVariant_11 (by decide) (by decide) (fun E w1 hq => XT.out rfl (by
      have hv := hq.1
      obtain rfl := hq.2.symm
      obtain ⟨e3, rfl⟩ := rOK_inr hv
      have hcd := (show cdAV np L p k c q o s = 2 by rw [hnp] at e1 e2; simp [cdAV, e1, e2, e3])
      exact ⟨by rw [hcd]; rfl, by rw [hcd]; rfl⟩)) (fun v w1 hq => ?_)
  have hv := hq.1
  obtain rfl := hq.2.symm
  obtain ⟨e3, rfl⟩ := rOK_inl hv
  refine X_iload dX10_addVariant_14 (i := 4) rfl ?_
  refine X_callS (gc2 := 4) (gs2 := 24) (c_checkQuantity q) kmX10_checkQuantity rfl lX10_117 sX10_checkQuantity rfl rfl (Nat.le_of_ble_eq_true rfl) (by decide) dX10_addVariant_16 (by decide) (by decide) (fun E w1 hq => XT.out rfl (by
      have hv := hq.1
      obtain rfl := hq.2.symm
      obtain ⟨e4, rfl⟩ := rOK_inr hv
      have hcd := (show cdAV np L p k c q o s = 2 by rw [hnp] at e1 e2; simp [cdAV, e1, e2, e4])
      exact ⟨by rw [hcd]; rfl, by rw [hcd]; rfl⟩)) (fun v w1 hq => ?_)
  have hv := hq.1
  obtain rfl := hq.2.symm
  obtain ⟨e4, rfl⟩ := rOK_inl hv
  refine X_iload dX10_addVariant_19 (i := 5) rfl ?_
  refine X_iload dX10_addVariant_21 (i := 6) rfl ?_
  refine X_callS (gc2 := 3) (gs2 := 18) (c_checkCondition o s) kmX10_checkCondition rfl lX10_150 sX10_checkCondition rfl rfl (Nat.le_of_ble_eq_true rfl) (by decide) dX10_addVariant_23 (by decide) (by decide) (fun E w1 hq => XT.out rfl (by
      have hv := hq.1
      obtain rfl := hq.2.symm
      obtain ⟨e5, rfl⟩ := rOK_inr hv
      have hcd := (show cdAV np L p k c q o s = 2 by rw [hnp] at e1 e2; simp only [cdAV, e1, e2, e3, e4, e5, Bool.and_self, Bool.and_false, cond_true, cond_false])
      exact ⟨by rw [hcd]; rfl, by rw [hcd]; rfl⟩)) (fun v w1 hq => ?_)
  have hv := hq.1
  obtain rfl := hq.2.symm
  obtain ⟨e5, rfl⟩ := rOK_inl hv
  rw [hnp] at e1 e2
  obtain ⟨p, hp, rfl⟩ := inP_of (by omega) e1
  obtain ⟨c, hc, rfl⟩ := inP_of (by omega) e2
  obtain ⟨k, hk1, hk, rfl⟩ := btw_n (lo := 1) (hi := 6) (by decide) (by decide) e3
  obtain ⟨q, hq1, hq, rfl⟩ := btw_n (lo := 1) (hi := 20) (by decide) (by decide) e4
  have e5a : btw o 0 3 = true := by cases hz : btw o 0 3 <;> simp_all
  have e5b : btw s 1 15 = true := by cases hz : btw s 1 15 <;> simp_all
  obtain ⟨o, ho1, ho, rfl⟩ := btw_n (lo := 0) (hi := 3) (by decide) (by decide) e5a
  obtain ⟨s, hs1, hs9, rfl⟩ := btw_n (lo := 1) (hi := 15) (by decide) (by decide) e5b
  have hcd0 : cdAV np L (nI p) (nI k) (nI c) (nI q) (nI o) (nI s) = cdL L p c (anyB (colB L p k 1 999 (o + 1) s) (ln L)) := by simp only [cdAV, e1, e2, e3, e4, e5a, e5b, Bool.and_self, cond_true, idx_nI (show p < 2 ^ 31 by omega), idx_nI (show c < 2 ^ 31 by omega), idx_nI (show k < 2 ^ 31 by omega), idx_nI (show o < 2 ^ 31 by omega), idx_nI (show s < 2 ^ 31 by omega)]
  refine X_aload_n dX10_addVariant_26 (i := 0) rfl rfl ?_
  refine X_iload_n dX10_addVariant_27 (i := 1) rfl rfl ?_
  refine X_iload_n dX10_addVariant_28 (i := 3) rfl rfl ?_
  refine X_callV (gc2 := 2) (gs2 := 12) (c_checkNoCircle h0 hB hL hS hI p c (by omega) (by omega)) (i := 0) h0 rfl rfl kmX10_checkNoCircle rfl lX10_124 iX10_checkNoCircle vX10_checkNoCircle rfl rfl (Nat.le_of_ble_eq_true rfl) (by decide) dX10_addVariant_29 (by decide) (by decide) (fun E w1 hq => XT.out rfl (by
      have hv := hq.1
      obtain rfl := hq.2.symm
      obtain ⟨e6, rfl⟩ := rOK_inr hv
      have hcd := hcd0.trans (cdL_3 (by simpa using e6))
      exact ⟨by rw [hcd]; rfl, by rw [hcd]; rfl⟩)) (fun v w1 hq => ?_)
  have hv := hq.1
  obtain rfl := hq.2.symm
  obtain ⟨e6, rfl⟩ := rOK_inl hv
  refine X_aload_n dX10_addVariant_32 (i := 0) rfl rfl ?_
  refine X_iload_n dX10_addVariant_33 (i := 1) rfl rfl ?_
  refine X_iload_n dX10_addVariant_34 (i := 3) rfl rfl ?_
  refine X_callV (gc2 := 1) (gs2 := 6) (c_checkRoom h0 hB hL hS hI p c (by omega) (by omega)) (i := 0) h0 rfl rfl kmX10_checkRoomForLine rfl lX10_127 iX10_checkRoomForLine vX10_checkRoomForLine rfl rfl (Nat.le_of_ble_eq_true rfl) (by decide) dX10_addVariant_35 (by decide) (by decide) (fun E w1 hq => XT.out rfl (by
      have hv := hq.1
      obtain rfl := hq.2.symm
      obtain ⟨e7, rfl⟩ := rOK_inr hv
      have hcd := hcd0.trans (cdL_4 (by simpa using e6) (by cases hz : deepB L p c <;> cases hy : decide (ln L = 40) <;> simp_all))
      exact ⟨by rw [hcd]; rfl, by rw [hcd]; rfl⟩)) (fun v w1 hq => ?_)
  have hv := hq.1
  obtain rfl := hq.2.symm
  obtain ⟨e7, rfl⟩ := rOK_inl hv
  refine X_aload_n dX10_addVariant_38 (i := 0) rfl rfl ?_
  refine X_iload_n dX10_addVariant_39 (i := 1) rfl rfl ?_
  refine X_iload_n dX10_addVariant_40 (i := 2) rfl rfl ?_
  refine X_iconst (v := 1) dX10_addVariant_41 (by decide) ?_
  refine X_sipush (v := 999) dX10_addVariant_42 (by decide) ?_
  refine X_iload dX10_addVariant_45 (i := 5) rfl ?_
  refine X_iload dX10_addVariant_47 (i := 6) rfl ?_
  refine X_callV (gc2 := 0) (gs2 := 0) (show XC G mX10_checkUnique 6 1 6 [.ref (w.1 0), .int (nI p), .int (nI k), .int 1, .int 999, .int (nI o), .int (nI s)] w _ from c_checkUnique h0 hB hL hS hI p k 1 999 (o + 1) s (by omega) hk (by decide) (by decide) (by omega) (by omega) (by omega)) (i := 0) h0 rfl rfl kmX10_checkUnique rfl lX10_130 iX10_checkUnique vX10_checkUnique rfl rfl (Nat.le_of_ble_eq_true rfl) (by decide) dX10_addVariant_49 (by decide) (by decide) (fun E w1 hq => XT.out rfl (by
      have hv := hq.1
      obtain rfl := hq.2.symm
      obtain ⟨e8, rfl⟩ := rOK_inr hv
      have hcd := hcd0.trans (cdL_4 (by simpa using e6) (by have e9 : anyB (colB L p k 1 999 (o + 1) s) (ln L) = true := (by simpa using e8); rw [e9]; simp))
      exact ⟨by rw [hcd]; rfl, by rw [hcd]; rfl⟩)) (fun v w1 hq => ?_)
  have hv := hq.1
  obtain rfl := hq.2.symm
  obtain ⟨e8, rfl⟩ := rOK_inl hv
  have e71 : deepB L p c = false := by cases hz : deepB L p c <;> simp_all
  have e72 : ln L ≠ 40 := by intro hz; simp [hz] at e7
  have hlt : ln L < 40 := by omega
  refine X_aload_n dX10_addVariant_52 (i := 0) rfl rfl ?_
  refine X_get (i := 0) h0 rfl (ci := 9) rfl in10 (k := 0) (by decide) fX10_10 rfl dX10_addVariant_53 ?_
  refine X_iload_n dX10_addVariant_56 (i := 1) rfl rfl ?_
  refine X_iload_n dX10_addVariant_57 (i := 2) rfl rfl ?_
  refine X_iload_n dX10_addVariant_58 (i := 3) rfl rfl ?_
  refine X_iload dX10_addVariant_59 (i := 4) rfl ?_
  refine X_callV (gc2 := 0) (gs2 := 0) (c_Bill_add hB hL hS hI hlt p k c q 1 999 (o + 1) s (by omega) (by omega)) (i := 1) hB rfl rfl kmX0_add rfl lX10_134 iX0_add vX0_add rfl rfl (Nat.le_of_ble_eq_true rfl) (by decide) dX10_addVariant_61 (by decide) (by decide) (fun E w1 hq => nomatch hq.1) (fun v w1 hq => ?_)
  have hv := hq.1
  obtain rfl := hq.2.symm
  cases hv
  have k6 : cel (xAdd G.2.2.1 w (newL L p k c q 0 1 999 (o + 1) s)) 6 (oB 3 [.ref (w.1 7), .ref (w.1 8), .ref (w.1 9), .ref (w.1 10), .ref (w.1 11), .ref (w.1 12), .ref (w.1 13), .ref (w.1 14), .ref (w.1 15), .int (nI (ln L + 1))]) := ⟨hL.1.1, rfl⟩
  refine X_istore (i := 7) (lo' := [(7, _), (0, _), (1, _), (2, _), (3, _), (4, _), (5, _), (6, _)]) dX10_addVariant_64 (by decide) rfl ?_
  refine X_aload_n dX10_addVariant_66 (i := 0) rfl rfl ?_
  refine X_get (i := 0) h0 rfl (ci := 9) rfl in10 (k := 0) (by decide) fX10_10 rfl dX10_addVariant_67 ?_
  refine X_get (i := 1) hB rfl (ci := 0) rfl in0 (k := 1) (by decide) fX10_137 rfl dX10_addVariant_70 ?_
  refine X_iload dX10_addVariant_73 (i := 7) rfl ?_
  refine X_iconst (v := 1) dX10_addVariant_75 (by decide) ?_
  refine X_sipush (v := 999) dX10_addVariant_76 (by decide) ?_
  refine X_callV (gc2 := 0) (gs2 := 0) (c_setRange (w := xAdd G.2.2.1 w (newL L p k c q 0 1 999 (o + 1) s)) (x := .ofNat (ln L + 1)) (f := nf (fi L)) (g := nf (la L)) ⟨hL.1.1, rfl⟩ ⟨hL.2.2.2.2.2.2.1.1, hL.2.2.2.2.2.2.1.2⟩ ⟨hL.2.2.2.2.2.2.2.1.1, hL.2.2.2.2.2.2.2.1.2⟩ (ln L) hlt 1 999) (i := 6) k6 rfl rfl kmX4_setRange rfl lX10_141 iX4_setRange vX4_setRange rfl rfl (Nat.le_of_ble_eq_true rfl) (by decide) dX10_addVariant_79 (by decide) (by decide) (fun E w1 hq => nomatch hq.1) (fun v w1 hq => ?_)
  have hv := hq.1
  obtain rfl := hq.2.symm
  cases hv
  refine X_aload_n dX10_addVariant_82 (i := 0) rfl rfl ?_
  refine X_get (i := 0) h0 rfl (ci := 9) rfl in10 (k := 0) (by decide) fX10_10 rfl dX10_addVariant_83 ?_
  refine X_get (i := 1) hB rfl (ci := 0) rfl in0 (k := 1) (by decide) fX10_137 rfl dX10_addVariant_86 ?_
  refine X_iload dX10_addVariant_89 (i := 7) rfl ?_
  refine X_iload dX10_addVariant_91 (i := 5) rfl ?_
  refine X_iload dX10_addVariant_93 (i := 6) rfl ?_
  refine X_callV (gc2 := 0) (gs2 := 0) (c_setCondition (w := setM (setM (xAdd G.2.2.1 w (newL L p k c q 0 1 999 (o + 1) s)) 12 (aI G.2.2.1 40 (va_up (nf (fi L)) (ln L) (1)))) 13 (aI G.2.2.1 40 (va_up (nf (la L)) (ln L) (999)))) (x := .ofNat (ln L + 1)) (f := fun j => nI (op L j - 1)) (g := fun j => nI (xcs (op L j) (cs L j))) ⟨hL.1.1, rfl⟩ ⟨hL.2.2.2.2.2.2.2.2.1.1, hL.2.2.2.2.2.2.2.2.1.2⟩ ⟨hL.2.2.2.2.2.2.2.2.2.1, hL.2.2.2.2.2.2.2.2.2.2⟩ (ln L) hlt (nI o) (nI s)) (i := 6) k6 rfl rfl kmX4_setCondition rfl lX10_147 iX4_setCondition vX4_setCondition rfl rfl (Nat.le_of_ble_eq_true rfl) (by decide) dX10_addVariant_95 (by decide) (by decide) (fun E w1 hq => nomatch hq.1) (fun v w1 hq => ?_)
  have hv := hq.1
  obtain rfl := hq.2.symm
  cases hv
  refine X_iload dX10_addVariant_98 (i := 7) rfl ?_
  refine X_ireturn dX10_addVariant_100 rfl rfl ?_
  have hcd := hcd0.trans (cdL_0 (by simpa using e6) e71 (by simpa using e8) e72)
  refine ⟨by rw [hcd]; rfl, ?_⟩
  rw [hcd, if_pos rfl, idx_nI (show p < 2 ^ 31 by omega), idx_nI (show k < 2 ^ 31 by omega), idx_nI (show c < 2 ^ 31 by omega), idx_nI (show q < 2 ^ 31 by omega), idx_nI (show o < 2 ^ 31 by omega), idx_nI (show s < 2 ^ 31 by omega)]
  simp only [xNew]
  rw [show (fun j => nI (op (newL L p k c q 0 1 999 (o + 1) s) j - 1)) = va_up (fun j => nI (op L j - 1)) (ln L) (nI o) from (g_up (fun o => nI (o - 1)) (op L) (ln L) (o + 1)).symm, show (fun j => nI (xcs (op (newL L p k c q 0 1 999 (o + 1) s) j) (cs (newL L p k c q 0 1 999 (o + 1) s) j))) = va_up (fun j => nI (xcs (op L j) (cs L j))) (ln L) (nI s) from (up2 (h := fun o s => nI (xcs o s)) (f := op L) (g := cs L) (k := ln L) (x := (o + 1)) (y := s)).symm]
  rw [show nf (fi (newL L p k c q 0 1 999 (o + 1) s)) = va_up (nf (fi L)) (ln L) (nI 1) from (nf_up _ _ _).symm, show nf (la (newL L p k c q 0 1 999 (o + 1) s)) = va_up (nf (la L)) (ln L) (nI 999) from (nf_up _ _ _).symm]
  try rfl
end LinesP
