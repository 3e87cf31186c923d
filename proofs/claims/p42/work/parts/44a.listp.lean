/-! LISTS of the class: the calls (walks by gen/spec44.py) -/
section ListP
variable {G : Gx} {w : Wd}
def xv (cd : Nat) : XRes := match cd with
  | 0 => .inl none
  | 1 => .inr eIOB
  | _ => .inr eIAE
theorem xv_inr {E : String} {a s : Int32} {np : Nat} {v : Value} {es : List String} (h : (.inr E : XRes) = xv (cdA a s np)) : (.inr E : XRes) = xr (cdA a s np) (eIOB :: eIAE :: es) v ∧ cdA a s np ≠ 0 := by
  cases h1 : inP a np with
  | false => rw [cdA_1 (s := s) h1] at h ⊢; exact ⟨h, by decide⟩
  | true =>
    cases h2 : btw s 1 999 with
    | false => rw [cdA_2 h1 h2] at h ⊢; exact ⟨h, by decide⟩
    | true => rw [cdA_0 h1 h2] at h; cases h
theorem xv_inl {v : Option Value} {a s : Int32} {np : Nat} (h : (.inl v : XRes) = xv (cdA a s np)) : v = none ∧ cdA a s np = 0 := by
  cases h1 : inP a np with
  | false => rw [cdA_1 (s := s) h1] at h; cases h
  | true =>
    cases h2 : btw s 1 999 with
    | false => rw [cdA_2 h1 h2] at h; cases h
    | true => rw [cdA_0 h1 h2] at h; cases h; exact ⟨rfl, cdA_0 h1 h2⟩
/-- the world after a list was made -/
def lstX (K : Nat → ClassId) (w : Wd) (P : PSt) (L : LSt) (pr : Nat → Nat) (cap : Nat) (a s : Int32) (cd : Nat) (w' : Wd) : Prop := if cd = 0 then ∃ q1 q2 a1 b1, w' = relD K (selW K w L pr (idx s)) q1 q2 (listN P.2.1 L pr (idx s) 5 (idx a) 1).length (capL 0 cap (listN P.2.1 L pr (idx s) 5 (idx a) 1).length) a1 b1 ∧ DC a1 b1 (listN P.2.1 L pr (idx s) 5 (idx a) 1) else w' = w
theorem relD_33 {K : Nat → ClassId} {q1 q2 n cap : Nat} {a : Nat → Int32} {b : Nat → Int64} {e : va_E} : relD K (setM w 33 e) q1 q2 n cap a b = relD K w q1 q2 n cap a b := by
  refine wd_ext (fun j => rfl) rfl (fun j => ?_)
  show (bif Nat.beq j 33 then _ else bif Nat.beq j 34 then _ else bif Nat.beq j 35 then _ else bif Nat.beq j 33 then _ else w.2.2 j) = bif Nat.beq j 33 then _ else bif Nat.beq j 34 then _ else bif Nat.beq j 35 then _ else w.2.2 j
  cases Nat.beq j 33 <;> rfl
def cdLP (a s i : Int32) (np n : Nat) : Nat := if cdA a s np = 0 then cdI i n else cdA a s np
theorem cdLP_n {a s i : Int32} {np n : Nat} (h : cdA a s np ≠ 0) : cdLP a s i np n = cdA a s np := if_neg h
theorem cdLP_0 {a s i : Int32} {np n : Nat} (h : cdA a s np = 0) : cdLP a s i np n = cdI i n := if_pos h
set_option maxRecDepth 20000 in
theorem c_mkList {mp np n cap : Nat} {P : PSt} {L : LSt} {pr : Nat → Nat} {hc hl : Nat → Int32} {da : Nat → Int32} {db : Nat → Int64} (h0 : X0 w mp (cfg pr)) (hB : XB w) (hP : XP G.2.2.1 w P) (hL : XL G.2.2.1 w L) (hS : XSel G.2.2.1 w hc hl) (hnp : P.1 = np) (hI : LI np L) (hpr : ∀ i, i < 4 → pr i < 4) (hN : NC5 L) (hk16 : ∀ j, P.2.1 j < 65536) (hD : XD G.2.2.1 w n cap da db) (hc16 : 16 ≤ cap) (hcap : cap < 2 ^ 19) (a s : Int32) : XC G mX10_makeDirectList 8 (2 + (capL 0 cap (listN P.2.1 L pr (idx s) 5 (idx a) 1).length - cap)) (12 + 4 * (capL 0 cap (listN P.2.1 L pr (idx s) 5 (idx a) 1).length - cap)) [.ref (w.1 0), .int a, .int s] w (fun r w' => r = xv (cdA a s np) ∧ lstX G.2.2.1 w P L pr cap a s (cdA a s np) w') := by
  have h16 := hI.1
  have h40 := hI.2.1
  refine XC.of (lo0 := [(0, .ref (w.1 0)), (1, .int a), (2, .int s)]) kmX10_makeDirectList (Nat.le_of_ble_eq_true rfl) rfl ?_
  refine X_aload_n dX10_makeDirectList_0 (i := 0) rfl rfl ?_
  refine X_iload_n dX10_makeDirectList_1 (i := 1) rfl rfl ?_
  refine X_callV (gc2 := (2 + (capL 0 cap (listN P.2.1 L pr (idx s) 5 (idx a) 1).length - cap)) - 1) (gs2 := (12 + 4 * (capL 0 cap (listN P.2.1 L pr (idx s) 5 (idx a) 1).length - cap)) - 6) (c_checkPart a h0 hB hP) (i := 0) h0 rfl rfl kmX10_checkPart rfl lX10_100 iX10_checkPart vX10_checkPart rfl rfl (Nat.le_of_ble_eq_true rfl) (by decide) dX10_makeDirectList_2 (by omega) (by omega) (fun E w1 hq => XT.out rfl (by
      have hv := hq.1
      obtain rfl := hq.2.symm
      obtain ⟨e1, rfl⟩ := rOK_inr hv
      have hcd := cdA_1 (s := s) (n := np) (by rw [hnp] at e1; exact e1)
      exact ⟨by rw [hcd]; rfl, by rw [lstX, hcd]; exact rfl⟩)) (fun v w1 hq => ?_)
  have hv := hq.1
  obtain rfl := hq.2.symm
  obtain ⟨e1, rfl⟩ := rOK_inl hv
  refine X_iload_n dX10_makeDirectList_5 (i := 2) rfl rfl ?_
  refine X_callS (gc2 := (2 + (capL 0 cap (listN P.2.1 L pr (idx s) 5 (idx a) 1).length - cap)) - 1 - 1) (gs2 := (12 + 4 * (capL 0 cap (listN P.2.1 L pr (idx s) 5 (idx a) 1).length - cap)) - 6 - 6) (c_checkSerial s) kmX10_checkSerial rfl lX10_187 sX10_checkSerial rfl rfl (Nat.le_of_ble_eq_true rfl) (by decide) dX10_makeDirectList_6 (by omega) (by omega) (fun E w1 hq => XT.out rfl (by
      have hv := hq.1
      obtain rfl := hq.2.symm
      obtain ⟨e3, rfl⟩ := rOK_inr hv
      have hcd := cdA_2 (n := np) (hnp ▸ e1) e3
      exact ⟨by rw [hcd]; rfl, by rw [lstX, hcd]; exact rfl⟩)) (fun v w1 hq => ?_)
  have hv := hq.1
  obtain rfl := hq.2.symm
  obtain ⟨e3, rfl⟩ := rOK_inl hv
  rw [hnp] at e1
  have hcd := cdA_0 e1 e3
  obtain ⟨a, ha, rfl⟩ := inP_of (by omega) e1
  obtain ⟨s, hs1, hs2, rfl⟩ := btw_n (lo := 1) (hi := 999) (by decide) (by decide) e3
  have ga : idx (nI a) = a := idx_nI (by omega)
  have gs : idx (nI s) = s := idx_nI (by omega)
  rw [ga, gs]
  refine X_aload_n dX10_makeDirectList_9 (i := 0) rfl rfl ?_
  refine X_get (i := 0) h0 rfl (ci := 9) rfl in10 (k := 0) (by decide) fX10_10 rfl dX10_makeDirectList_10 ?_
  refine X_iload_n dX10_makeDirectList_13 (i := 2) rfl rfl ?_
  refine X_aload_n dX10_makeDirectList_14 (i := 0) rfl rfl ?_
  refine X_get (i := 0) h0 rfl (ci := 9) rfl in10 (k := 9) (by decide) fX10_66 rfl dX10_makeDirectList_15 ?_
  refine X_callV (gc2 := (capL 0 cap (listN P.2.1 L pr s 5 a 1).length - cap)) (gs2 := 4 * (capL 0 cap (listN P.2.1 L pr s 5 a 1).length - cap)) (c_select hB hL hS hI hpr s (by omega)) (i := 1) hB rfl rfl kmX0_select rfl lX10_237 iX0_select vX0_select rfl rfl (Nat.le_of_ble_eq_true rfl) (by decide) dX10_makeDirectList_18 (by omega) (by omega) (fun E w1 hq => nomatch hq.1) (fun v w1 hq => ?_)
  have hv := hq.1
  obtain rfl := hq.2.symm
  cases hv
  refine X_aload_n dX10_makeDirectList_21 (i := 0) rfl rfl ?_
  refine X_get (i := 0) h0 rfl (ci := 9) rfl in10 (k := 5) (by decide) fX10_47 rfl dX10_makeDirectList_22 ?_
  refine X_callV (gc2 := (capL 0 cap (listN P.2.1 L pr s 5 a 1).length - cap)) (gs2 := 4 * (capL 0 cap (listN P.2.1 L pr s 5 a 1).length - cap)) (c_DLclear (w := (selW G.2.2.1 w L pr s)) (a := da) (b := db) (n := n) (cap := cap) hD) (i := 33) hD.1 rfl rfl kmX3_clear rfl lX10_409 iX3_clear vX3_clear rfl rfl (Nat.le_of_ble_eq_true rfl) (by decide) dX10_makeDirectList_25 (by omega) (by omega) (fun E w1 hq => nomatch hq.1) (fun v w1 hq => ?_)
  have hv := hq.1
  obtain rfl := hq.2.symm
  cases hv
  refine X_aload_n dX10_makeDirectList_28 (i := 0) rfl rfl ?_
  refine X_get (i := 0) h0 rfl (ci := 9) rfl in10 (k := 0) (by decide) fX10_10 rfl dX10_makeDirectList_29 ?_
  refine X_aload_n dX10_makeDirectList_32 (i := 0) rfl rfl ?_
  refine X_get (i := 0) h0 rfl (ci := 9) rfl in10 (k := 5) (by decide) fX10_47 rfl dX10_makeDirectList_33 ?_
  refine X_iload_n dX10_makeDirectList_36 (i := 1) rfl rfl ?_
  refine X_lconst (v := 1) dX10_makeDirectList_37 rfl ?_
  refine X_iconst (v := 0) dX10_makeDirectList_38 (by decide) ?_
  refine X_callS (gc2 := 0) (gs2 := 0) (c_coll hI hk16 5 0 rfl (setM (selW G.2.2.1 w L pr s) 33 (oB 2 [.ref (w.1 34), .ref (w.1 35), .int (nI 0)])) [] cap da db hB hP hL ⟨hS.2.1, rfl⟩ ⟨⟨hD.1.1, rfl⟩, hD.2.1, hD.2.2⟩ DC_nil (Nat.zero_le _) hc16 hcap a 1 (by omega) (hN a) (by have := xsN_len (kd := P.2.1) (L := L) (pr := pr) (s := s) (p := a) hN; show 0 + _ < _; omega)) kmX10_collectEntries rfl lX10_410 sX10_collectEntries rfl rfl (Nat.le_of_ble_eq_true rfl) (by decide) dX10_makeDirectList_39 (by show capL 0 cap _ - cap + 0 ≤ _; omega) (by show 4 * (capL 0 cap _ - cap) + 0 ≤ _; omega) (fun E w1 hq => nomatch hq.1) (fun v w1 hq => ?_)
  have hv := hq.1
  obtain ⟨q1, q2, a1, b1, hw2, hd2⟩ := hq.2
  subst hw2
  cases hv
  refine X_vreturn dX10_makeDirectList_42 rfl ?_
  exact ⟨by rw [hcd]; rfl, by rw [lstX, hcd, if_pos rfl, ga, gs]; exact ⟨q1, q2, a1, b1, relD_33, hd2⟩⟩
set_option maxRecDepth 20000 in
theorem c_listSize {mp np n cap : Nat} {P : PSt} {L : LSt} {pr : Nat → Nat} {hc hl : Nat → Int32} {da : Nat → Int32} {db : Nat → Int64} (h0 : X0 w mp (cfg pr)) (hB : XB w) (hP : XP G.2.2.1 w P) (hL : XL G.2.2.1 w L) (hS : XSel G.2.2.1 w hc hl) (hnp : P.1 = np) (hI : LI np L) (hpr : ∀ i, i < 4 → pr i < 4) (hN : NC5 L) (hk16 : ∀ j, P.2.1 j < 65536) (hD : XD G.2.2.1 w n cap da db) (hc16 : 16 ≤ cap) (hcap : cap < 2 ^ 19) (a s : Int32) : XC G mX10_listSize 9 (2 + (capL 0 cap (listN P.2.1 L pr (idx s) 5 (idx a) 1).length - cap)) (12 + 4 * (capL 0 cap (listN P.2.1 L pr (idx s) 5 (idx a) 1).length - cap)) [.ref (w.1 0), .int a, .int s] w (fun r w' => r = xr (cdA a s np) [eIOB, eIAE] (.int (nI (listN P.2.1 L pr (idx s) 5 (idx a) 1).length)) ∧ lstX G.2.2.1 w P L pr cap a s (cdA a s np) w') := by
  have h16 := hI.1
  have h40 := hI.2.1
  refine XC.of (lo0 := [(0, .ref (w.1 0)), (1, .int a), (2, .int s)]) kmX10_listSize (Nat.le_of_ble_eq_true rfl) rfl ?_
  refine X_aload_n dX10_listSize_0 (i := 0) rfl rfl ?_
  refine X_iload_n dX10_listSize_1 (i := 1) rfl rfl ?_
  refine X_iload_n dX10_listSize_2 (i := 2) rfl rfl ?_
  refine X_callV (gc2 := 0) (gs2 := 0) (c_mkList h0 hB hP hL hS hnp hI hpr hN hk16 hD hc16 hcap a s) (i := 0) h0 rfl rfl kmX10_makeDirectList rfl lX10_202 iX10_makeDirectList vX10_makeDirectList rfl rfl (Nat.le_of_ble_eq_true rfl) (by decide) dX10_listSize_3 (by omega) (by omega) (fun E w1 hq => XT.out rfl ⟨(xv_inr hq.1).1, hq.2⟩) (fun v w1 hq => ?_)
  obtain ⟨rfl, hcd⟩ := xv_inl hq.1
  have hw1 := hq.2
  rw [lstX, if_pos hcd] at hw1
  obtain ⟨q1, q2, a1, b1, hw2, hd2⟩ := hw1
  subst hw2
  have kD : XD G.2.2.1 (relD G.2.2.1 (selW G.2.2.1 w L pr (idx s)) q1 q2 (listN P.2.1 L pr (idx s) 5 (idx a) 1).length (capL 0 cap (listN P.2.1 L pr (idx s) 5 (idx a) 1).length) a1 b1) (listN P.2.1 L pr (idx s) 5 (idx a) 1).length (capL 0 cap (listN P.2.1 L pr (idx s) 5 (idx a) 1).length) a1 b1 := ⟨⟨hD.1.1, rfl⟩, ⟨hD.2.1.1, rfl⟩, ⟨hD.2.2.1, rfl⟩⟩
  have hxl : (listN P.2.1 L pr (idx s) 5 (idx a) 1).length ≤ 1296 := xsN_len hN
  have hcl : (listN P.2.1 L pr (idx s) 5 (idx a) 1).length ≤ capL 0 cap (listN P.2.1 L pr (idx s) 5 (idx a) 1).length ∧ capL 0 cap (listN P.2.1 L pr (idx s) 5 (idx a) 1).length < 2 ^ 19 := by have c1 := capL_ge (n := 0) (cap := cap) (k := (listN P.2.1 L pr (idx s) 5 (idx a) 1).length) (by omega) (by omega); have c2 := capL_le (n := 0) (cap := cap) (b := 2 ^ 19 - 1) (k := (listN P.2.1 L pr (idx s) 5 (idx a) 1).length) (by omega) (by omega) (by omega); omega
  refine X_aload_n dX10_listSize_6 (i := 0) rfl rfl ?_
  refine X_get (i := 0) h0 rfl (ci := 9) rfl in10 (k := 5) (by decide) fX10_47 rfl dX10_listSize_7 ?_
  refine X_get (i := 33) kD.1 rfl (ci := 2) rfl in3 (k := 2) (by decide) fX10_205 rfl dX10_listSize_10 ?_
  refine X_ireturn dX10_listSize_13 rfl rfl ?_
  exact ⟨by rw [hcd]; rfl, by rw [lstX, if_pos hcd]; exact ⟨q1, q2, a1, b1, rfl, hd2⟩⟩
set_option maxRecDepth 20000 in
theorem c_listPart {mp np n cap : Nat} {P : PSt} {L : LSt} {pr : Nat → Nat} {hc hl : Nat → Int32} {da : Nat → Int32} {db : Nat → Int64} (h0 : X0 w mp (cfg pr)) (hB : XB w) (hP : XP G.2.2.1 w P) (hL : XL G.2.2.1 w L) (hS : XSel G.2.2.1 w hc hl) (hnp : P.1 = np) (hI : LI np L) (hpr : ∀ i, i < 4 → pr i < 4) (hN : NC5 L) (hk16 : ∀ j, P.2.1 j < 65536) (hD : XD G.2.2.1 w n cap da db) (hc16 : 16 ≤ cap) (hcap : cap < 2 ^ 19) (a s i : Int32) : XC G mX10_listPart 9 (3 + (capL 0 cap (listN P.2.1 L pr (idx s) 5 (idx a) 1).length - cap)) (18 + 4 * (capL 0 cap (listN P.2.1 L pr (idx s) 5 (idx a) 1).length - cap)) [.ref (w.1 0), .int a, .int s, .int i] w (fun r w' => r = xr (cdLP a s i np (listN P.2.1 L pr (idx s) 5 (idx a) 1).length) [eIOB, eIAE, eNSE] (.int (nI ((listN P.2.1 L pr (idx s) 5 (idx a) 1).getD (idx i) (0, 0)).1)) ∧ lstX G.2.2.1 w P L pr cap a s (cdA a s np) w') := by
  have h16 := hI.1
  have h40 := hI.2.1
  refine XC.of (lo0 := [(0, .ref (w.1 0)), (1, .int a), (2, .int s), (3, .int i)]) kmX10_listPart (Nat.le_of_ble_eq_true rfl) rfl ?_
  refine X_aload_n dX10_listPart_0 (i := 0) rfl rfl ?_
  refine X_iload_n dX10_listPart_1 (i := 1) rfl rfl ?_
  refine X_iload_n dX10_listPart_2 (i := 2) rfl rfl ?_
  refine X_callV (gc2 := 1) (gs2 := 6) (c_mkList h0 hB hP hL hS hnp hI hpr hN hk16 hD hc16 hcap a s) (i := 0) h0 rfl rfl kmX10_makeDirectList rfl lX10_202 iX10_makeDirectList vX10_makeDirectList rfl rfl (Nat.le_of_ble_eq_true rfl) (by decide) dX10_listPart_3 (by omega) (by omega) (fun E w1 hq => XT.out rfl ⟨by rw [cdLP_n (xv_inr (v := .int 0) (es := []) hq.1).2]; exact (xv_inr hq.1).1, hq.2⟩) (fun v w1 hq => ?_)
  obtain ⟨rfl, hcd⟩ := xv_inl hq.1
  have hw1 := hq.2
  rw [lstX, if_pos hcd] at hw1
  obtain ⟨q1, q2, a1, b1, hw2, hd2⟩ := hw1
  subst hw2
  have kD : XD G.2.2.1 (relD G.2.2.1 (selW G.2.2.1 w L pr (idx s)) q1 q2 (listN P.2.1 L pr (idx s) 5 (idx a) 1).length (capL 0 cap (listN P.2.1 L pr (idx s) 5 (idx a) 1).length) a1 b1) (listN P.2.1 L pr (idx s) 5 (idx a) 1).length (capL 0 cap (listN P.2.1 L pr (idx s) 5 (idx a) 1).length) a1 b1 := ⟨⟨hD.1.1, rfl⟩, ⟨hD.2.1.1, rfl⟩, ⟨hD.2.2.1, rfl⟩⟩
  have hxl : (listN P.2.1 L pr (idx s) 5 (idx a) 1).length ≤ 1296 := xsN_len hN
  have hcl : (listN P.2.1 L pr (idx s) 5 (idx a) 1).length ≤ capL 0 cap (listN P.2.1 L pr (idx s) 5 (idx a) 1).length ∧ capL 0 cap (listN P.2.1 L pr (idx s) 5 (idx a) 1).length < 2 ^ 19 := by have c1 := capL_ge (n := 0) (cap := cap) (k := (listN P.2.1 L pr (idx s) 5 (idx a) 1).length) (by omega) (by omega); have c2 := capL_le (n := 0) (cap := cap) (b := 2 ^ 19 - 1) (k := (listN P.2.1 L pr (idx s) 5 (idx a) 1).length) (by omega) (by omega) (by omega); omega
  refine X_aload_n dX10_listPart_6 (i := 0) rfl rfl ?_
  refine X_iload_n dX10_listPart_7 (i := 3) rfl rfl ?_
  refine X_callV (gc2 := 0) (gs2 := 0) (c_checkEntry i h0 kD) (i := 0) h0 rfl rfl kmX10_checkEntry rfl lX10_208 iX10_checkEntry vX10_checkEntry rfl rfl (Nat.le_of_ble_eq_true rfl) (by decide) dX10_listPart_8 (by decide) (by decide) (fun E w1 hq => XT.out rfl (by
      have hv := hq.1
      obtain rfl := hq.2.symm
      obtain ⟨e5, rfl⟩ := rOK_inr hv
      exact ⟨by rw [cdLP_0 hcd, cdI, e5]; rfl, by rw [lstX, if_pos hcd]; exact ⟨q1, q2, a1, b1, rfl, hd2⟩⟩)) (fun v w1 hq => ?_)
  have hv := hq.1
  obtain rfl := hq.2.symm
  obtain ⟨e5, rfl⟩ := rOK_inl hv
  obtain ⟨j, hj, rfl⟩ := inP_of (by omega) e5
  have gj : idx (nI j) = j := idx_nI (by omega)
  refine X_aload_n dX10_listPart_11 (i := 0) rfl rfl ?_
  refine X_get (i := 0) h0 rfl (ci := 9) rfl in10 (k := 5) (by decide) fX10_47 rfl dX10_listPart_12 ?_
  refine X_get (i := 33) kD.1 rfl (ci := 2) rfl in3 (k := 0) (by decide) fX10_211 rfl dX10_listPart_15 ?_
  refine X_iload_n dX10_listPart_18 (i := 3) rfl rfl ?_
  refine X_iald (i := 34) kD.2.1 rfl rfl (by omega) (by omega) dX10_listPart_19 ?_
  refine X_ireturn dX10_listPart_20 rfl rfl ?_
  exact ⟨by rw [cdLP_0 hcd, cdI, e5, gj, (hd2 j hj).1]; rfl, by rw [lstX, if_pos hcd]; exact ⟨q1, q2, a1, b1, rfl, hd2⟩⟩
set_option maxRecDepth 20000 in
theorem c_listQuantity {mp np n cap : Nat} {P : PSt} {L : LSt} {pr : Nat → Nat} {hc hl : Nat → Int32} {da : Nat → Int32} {db : Nat → Int64} (h0 : X0 w mp (cfg pr)) (hB : XB w) (hP : XP G.2.2.1 w P) (hL : XL G.2.2.1 w L) (hS : XSel G.2.2.1 w hc hl) (hnp : P.1 = np) (hI : LI np L) (hpr : ∀ i, i < 4 → pr i < 4) (hN : NC5 L) (hk16 : ∀ j, P.2.1 j < 65536) (hD : XD G.2.2.1 w n cap da db) (hc16 : 16 ≤ cap) (hcap : cap < 2 ^ 19) (a s i : Int32) : XC G mX10_listQuantity 9 (3 + (capL 0 cap (listN P.2.1 L pr (idx s) 5 (idx a) 1).length - cap)) (18 + 4 * (capL 0 cap (listN P.2.1 L pr (idx s) 5 (idx a) 1).length - cap)) [.ref (w.1 0), .int a, .int s, .int i] w (fun r w' => r = xr (cdLP a s i np (listN P.2.1 L pr (idx s) 5 (idx a) 1).length) [eIOB, eIAE, eNSE] (.long (nL ((listN P.2.1 L pr (idx s) 5 (idx a) 1).getD (idx i) (0, 0)).2)) ∧ lstX G.2.2.1 w P L pr cap a s (cdA a s np) w') := by
  have h16 := hI.1
  have h40 := hI.2.1
  refine XC.of (lo0 := [(0, .ref (w.1 0)), (1, .int a), (2, .int s), (3, .int i)]) kmX10_listQuantity (Nat.le_of_ble_eq_true rfl) rfl ?_
  refine X_aload_n dX10_listQuantity_0 (i := 0) rfl rfl ?_
  refine X_iload_n dX10_listQuantity_1 (i := 1) rfl rfl ?_
  refine X_iload_n dX10_listQuantity_2 (i := 2) rfl rfl ?_
  refine X_callV (gc2 := 1) (gs2 := 6) (c_mkList h0 hB hP hL hS hnp hI hpr hN hk16 hD hc16 hcap a s) (i := 0) h0 rfl rfl kmX10_makeDirectList rfl lX10_202 iX10_makeDirectList vX10_makeDirectList rfl rfl (Nat.le_of_ble_eq_true rfl) (by decide) dX10_listQuantity_3 (by omega) (by omega) (fun E w1 hq => XT.out rfl ⟨by rw [cdLP_n (xv_inr (v := .int 0) (es := []) hq.1).2]; exact (xv_inr hq.1).1, hq.2⟩) (fun v w1 hq => ?_)
  obtain ⟨rfl, hcd⟩ := xv_inl hq.1
  have hw1 := hq.2
  rw [lstX, if_pos hcd] at hw1
  obtain ⟨q1, q2, a1, b1, hw2, hd2⟩ := hw1
  subst hw2
  have kD : XD G.2.2.1 (relD G.2.2.1 (selW G.2.2.1 w L pr (idx s)) q1 q2 (listN P.2.1 L pr (idx s) 5 (idx a) 1).length (capL 0 cap (listN P.2.1 L pr (idx s) 5 (idx a) 1).length) a1 b1) (listN P.2.1 L pr (idx s) 5 (idx a) 1).length (capL 0 cap (listN P.2.1 L pr (idx s) 5 (idx a) 1).length) a1 b1 := ⟨⟨hD.1.1, rfl⟩, ⟨hD.2.1.1, rfl⟩, ⟨hD.2.2.1, rfl⟩⟩
  have hxl : (listN P.2.1 L pr (idx s) 5 (idx a) 1).length ≤ 1296 := xsN_len hN
  have hcl : (listN P.2.1 L pr (idx s) 5 (idx a) 1).length ≤ capL 0 cap (listN P.2.1 L pr (idx s) 5 (idx a) 1).length ∧ capL 0 cap (listN P.2.1 L pr (idx s) 5 (idx a) 1).length < 2 ^ 19 := by have c1 := capL_ge (n := 0) (cap := cap) (k := (listN P.2.1 L pr (idx s) 5 (idx a) 1).length) (by omega) (by omega); have c2 := capL_le (n := 0) (cap := cap) (b := 2 ^ 19 - 1) (k := (listN P.2.1 L pr (idx s) 5 (idx a) 1).length) (by omega) (by omega) (by omega); omega
  refine X_aload_n dX10_listQuantity_6 (i := 0) rfl rfl ?_
  refine X_iload_n dX10_listQuantity_7 (i := 3) rfl rfl ?_
  refine X_callV (gc2 := 0) (gs2 := 0) (c_checkEntry i h0 kD) (i := 0) h0 rfl rfl kmX10_checkEntry rfl lX10_208 iX10_checkEntry vX10_checkEntry rfl rfl (Nat.le_of_ble_eq_true rfl) (by decide) dX10_listQuantity_8 (by decide) (by decide) (fun E w1 hq => XT.out rfl (by
      have hv := hq.1
      obtain rfl := hq.2.symm
      obtain ⟨e5, rfl⟩ := rOK_inr hv
      exact ⟨by rw [cdLP_0 hcd, cdI, e5]; rfl, by rw [lstX, if_pos hcd]; exact ⟨q1, q2, a1, b1, rfl, hd2⟩⟩)) (fun v w1 hq => ?_)
  have hv := hq.1
  obtain rfl := hq.2.symm
  obtain ⟨e5, rfl⟩ := rOK_inl hv
  obtain ⟨j, hj, rfl⟩ := inP_of (by omega) e5
  have gj : idx (nI j) = j := idx_nI (by omega)
  refine X_aload_n dX10_listQuantity_11 (i := 0) rfl rfl ?_
  refine X_get (i := 0) h0 rfl (ci := 9) rfl in10 (k := 5) (by decide) fX10_47 rfl dX10_listQuantity_12 ?_
  refine X_get (i := 33) kD.1 rfl (ci := 2) rfl in3 (k := 1) (by decide) fX10_214 rfl dX10_listQuantity_15 ?_
  refine X_iload_n dX10_listQuantity_18 (i := 3) rfl rfl ?_
  refine X_lald (i := 35) kD.2.2 rfl rfl (by omega) (by omega) dX10_listQuantity_19 ?_
  refine X_lreturn dX10_listQuantity_20 rfl ?_
  exact ⟨by rw [cdLP_0 hcd, cdI, e5, gj, (hd2 j hj).2]; rfl, by rw [lstX, if_pos hcd]; exact ⟨q1, q2, a1, b1, rfl, hd2⟩⟩
end ListP
