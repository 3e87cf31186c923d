/-! ORDERS of the class (walks by gen/spec47.py) -/
section OrdX
variable {G : Gx} {w : Wd}
theorem up_map {α β : Type} (h : α → β) (f : Nat → α) (k : Nat) (x : α) : va_up (fun j => h (f j)) k (h x) = fun j => h (va_up f k x j) := by
  funext j
  simp only [va_up]
  split <;> rfl
theorem up_same {α : Type} {f : Nat → α} {k : Nat} {x : α} (h : f k = x) : va_up f k x = f := by
  funext j
  simp only [va_up]
  split
  · rename_i h1; rw [h1, h]
  · rfl
/-- one more order -/
def addO (O : OSt) (p s u : Nat) (pr : Nat → Nat) : OSt := (O.1 + 1, va_up O.2.1 O.1 p, va_up O.2.2.1 O.1 s, va_up O.2.2.2.1 O.1 u, va_up O.2.2.2.2.1 O.1 pr, O.2.2.2.2.2)
/-- an order cancelled -/
def canO (O : OSt) (j : Nat) : OSt := (O.1, O.2.1, O.2.2.1, O.2.2.2.1, O.2.2.2.2.1, va_up O.2.2.2.2.2 j true)
/-- bounds of the orders -/
def OI (np : Nat) (O : OSt) : Prop := O.1 ≤ 8 ∧ (∀ k, k < O.1 → O.2.1 k < np ∧ (1 ≤ O.2.2.1 k ∧ O.2.2.1 k ≤ 999) ∧ (1 ≤ O.2.2.2.1 k ∧ O.2.2.2.1 k ≤ 999) ∧ ∀ i, i < 4 → O.2.2.2.2.1 k i < 4) ∧ ∀ k, O.1 ≤ k → O.2.2.2.2.2 k = false
def oW (K : Nat → ClassId) (w : Wd) (O : OSt) : Wd := setM (setM (setM (setM (setM (setM w 21 (aI K 8 (nf O.2.1))) 22 (aI K 8 (nf O.2.2.1))) 23 (aI K 8 (nf O.2.2.2.1))) 24 (aI K 8 (fun k => nI (cfg (O.2.2.2.2.1 k))))) 25 (aZ K 8 (fun k => bI (O.2.2.2.2.2 k)))) 20 (oB 4 [.ref (w.1 21), .ref (w.1 22), .ref (w.1 23), .ref (w.1 24), .ref (w.1 25), .int (nI O.1)])
def cdO (p s u : Int32) (np no : Nat) : Nat := bif inP p np then (bif btw s 1 999 && btw u 1 999 then (if no = 8 then 3 else 0) else 2) else 1
theorem cdO_1 {p s u : Int32} {np no : Nat} (h : inP p np = false) : cdO p s u np no = 1 := by rw [cdO, h]; rfl
theorem cdO_2 {p s u : Int32} {np no : Nat} (h : inP p np = true) (h2 : (btw s 1 999 && btw u 1 999) = false) : cdO p s u np no = 2 := by rw [cdO, h, h2]; rfl
theorem cdO_3 {p s u : Int32} {np : Nat} (h : inP p np = true) (h2 : btw s 1 999 = true) (h3 : btw u 1 999 = true) : cdO p s u np 8 = 3 := by rw [cdO, h, h2, h3]; rfl
theorem cdO_0 {p s u : Int32} {np no : Nat} (h : inP p np = true) (h2 : btw s 1 999 = true) (h3 : btw u 1 999 = true) (h4 : no ≠ 8) : cdO p s u np no = 0 := by rw [cdO, h, h2, h3]; exact if_neg h4
def cdX (o : Int32) (O : OSt) : Nat := bif inP o O.1 then (bif O.2.2.2.2.2 (idx o) then 2 else 0) else 1
set_option maxRecDepth 20000 in
theorem c_OBadd {O : OSt} (hO : XO G.2.2.1 w O) (h8 : O.1 < 8) (hcn : O.2.2.2.2.2 O.1 = false) (p s u : Nat) (pr : Nat → Nat) : XC G mX5_add 0 0 0 [.ref (w.1 20), .int (nI p), .int (nI s), .int (nI u), .int (nI (cfg pr))] w (fun r w' => r = .inl (some (.int (nI O.1))) ∧ w' = oW G.2.2.1 w (addO O p s u pr)) := by
  refine XC.of (lo0 := [(0, .ref (w.1 20)), (1, .int (nI p)), (2, .int (nI s)), (3, .int (nI u)), (4, .int (nI (cfg pr)))]) kmX5_add (Nat.le_of_ble_eq_true rfl) rfl ?_
  refine X_aload_n dX5_add_0 (i := 0) rfl rfl ?_
  refine X_get (i := 20) hO.1 rfl (ci := 4) rfl in5 (k := 5) (by decide) fX5_28 rfl dX5_add_1 ?_
  refine X_istore (i := 5) (lo' := [(5, _), (0, _), (1, _), (2, _), (3, _), (4, _)]) dX5_add_4 (by decide) rfl ?_
  refine X_aload_n dX5_add_6 (i := 0) rfl rfl ?_
  refine X_get (i := 20) hO.1 rfl (ci := 4) rfl in5 (k := 0) (by decide) fX5_9 rfl dX5_add_7 ?_
  refine X_iload dX5_add_10 (i := 5) rfl ?_
  refine X_iload_n dX5_add_12 (i := 1) rfl rfl ?_
  refine X_iast (i := 21) hO.2.1 rfl rfl (by omega) (by decide) dX5_add_13 (fun hc_13 => ?_)
  refine X_aload_n dX5_add_14 (i := 0) rfl rfl ?_
  refine X_get (i := 20) hO.1 rfl (ci := 4) rfl in5 (k := 1) (by decide) fX5_15 rfl dX5_add_15 ?_
  refine X_iload dX5_add_18 (i := 5) rfl ?_
  refine X_iload_n dX5_add_20 (i := 2) rfl rfl ?_
  refine X_iast (i := 22) hO.2.2.1 rfl rfl (by omega) (by decide) dX5_add_21 (fun hc_21 => ?_)
  refine X_aload_n dX5_add_22 (i := 0) rfl rfl ?_
  refine X_get (i := 20) hO.1 rfl (ci := 4) rfl in5 (k := 2) (by decide) fX5_18 rfl dX5_add_23 ?_
  refine X_iload dX5_add_26 (i := 5) rfl ?_
  refine X_iload_n dX5_add_28 (i := 3) rfl rfl ?_
  refine X_iast (i := 23) hO.2.2.2.1 rfl rfl (by omega) (by decide) dX5_add_29 (fun hc_29 => ?_)
  refine X_aload_n dX5_add_30 (i := 0) rfl rfl ?_
  refine X_get (i := 20) hO.1 rfl (ci := 4) rfl in5 (k := 3) (by decide) fX5_21 rfl dX5_add_31 ?_
  refine X_iload dX5_add_34 (i := 5) rfl ?_
  refine X_iload dX5_add_36 (i := 4) rfl ?_
  refine X_iast (i := 24) hO.2.2.2.2.1 rfl rfl (by omega) (by decide) dX5_add_38 (fun hc_38 => ?_)
  refine X_aload_n dX5_add_39 (i := 0) rfl rfl ?_
  refine X_get (i := 20) hO.1 rfl (ci := 4) rfl in5 (k := 4) (by decide) fX5_24 rfl dX5_add_40 ?_
  refine X_iload dX5_add_43 (i := 5) rfl ?_
  refine X_iconst (v := 0) dX5_add_45 (by decide) ?_
  refine X_zast (i := 25) hO.2.2.2.2.2 rfl rfl (by omega) (by decide) dX5_add_46 (fun hc_46 => ?_)
  refine X_aload_n dX5_add_47 (i := 0) rfl rfl ?_
  refine X_iload dX5_add_48 (i := 5) rfl ?_
  refine X_iconst (v := 1) dX5_add_50 (by decide) ?_
  refine X_iadd dX5_add_51 ?_
  refine XJ.top (v' := _) (congrArg Value.int (nI_1 _)) ?_
  refine X_put tyX5 tyX5_ok nmX5 (i := 20) hO.1 rfl (ci := 4) rfl in5 (k := 5) (by decide) fX5_28 rfl rfl rfl (Nat.le_of_ble_eq_true rfl) dX5_add_52 (fun hc_52 => ?_)
  refine X_iload dX5_add_55 (i := 5) rfl ?_
  refine X_ireturn dX5_add_57 rfl rfl ?_
  refine ⟨rfl, ?_⟩
  rw [nf_up, nf_up, nf_up, up_map (fun f => nI (cfg f)), up_same (f := fun k => bI (O.2.2.2.2.2 k)) (x := vp_nar .boolean 0) (by show bI (O.2.2.2.2.2 O.1) = _; rw [hcn]; rfl)]
  rfl
set_option maxRecDepth 20000 in
theorem c_countOpen {O : OSt} (hO : XO G.2.2.1 w O) (h8 : O.1 ≤ 8) : XC G mX5_countOpen 0 0 0 [.ref (w.1 20)] w (fun r w' => r = .inl (some (.int (nI (cntB (fun k => !O.2.2.2.2.2 k) O.1)))) ∧ w' = w) := by
  refine XC.of (lo0 := [(0, .ref (w.1 20))]) kmX5_countOpen (Nat.le_of_ble_eq_true rfl) rfl ?_
  have hloop : ∀ (n : Nat) (k : Nat), O.1 - k < n → k ≤ O.1 → XJ G mX5_countOpen 0 0 0 4 [(0, .ref (w.1 20)), (1, .int (nI (cntB (fun k => !O.2.2.2.2.2 k) k))), (2, .int (nI k))] [] w (fun r w' => r = .inl (some (.int (nI (cntB (fun k => !O.2.2.2.2.2 k) O.1)))) ∧ w' = w) := by
    intro n
    induction n with
    | zero => intro k hm hk; exact absurd hm (Nat.not_lt_zero _)
    | succ n ih =>
      intro k hm hk
      refine X_iload_n dX5_countOpen_4 (i := 2) rfl rfl ?_
      refine X_aload_n dX5_countOpen_5 (i := 0) rfl rfl ?_
      refine X_get (i := 20) hO.1 rfl (ci := 4) rfl in5 (k := 5) (by decide) fX5_28 rfl dX5_countOpen_6 ?_
      refine X_icmp_ge (tgt := 30) dX5_countOpen_9 (by decide) (fun h1 => ?_) (fun h1 => ?_)
      · have h3 : k = O.1 := by have := ge_nI (a := O.1) (by omega) (by omega) h1; omega
        subst h3
        refine X_iload_n dX5_countOpen_30 (i := 1) rfl rfl ?_
        refine X_ireturn dX5_countOpen_31 rfl rfl ?_
        exact ⟨rfl, rfl⟩
      · have h3 : k < O.1 := nge_nI (a := O.1) (by omega) (by omega) h1
        refine X_aload_n dX5_countOpen_12 (i := 0) rfl rfl ?_
        refine X_get (i := 20) hO.1 rfl (ci := 4) rfl in5 (k := 4) (by decide) fX5_24 rfl dX5_countOpen_13 ?_
        refine X_iload_n dX5_countOpen_16 (i := 2) rfl rfl ?_
        refine X_zald (i := 25) hO.2.2.2.2.2 rfl rfl (by omega) (by decide) dX5_countOpen_17 ?_
        refine X_if_ne (tgt := 24) dX5_countOpen_18 (by decide) (fun h2 => ?_) (fun h2 => ?_)
        · have h5 := bI_ne h2
          refine X_iinc (i := 2) (v := nI (k + 1)) (lo' := [(2, _), (0, _), (1, _)]) dX5_countOpen_24 rfl (nI_inc k) (by decide) rfl ?_
          refine X_goto (tgt := 4) dX5_countOpen_27 (by decide) ?_
          first
            | exact XJ.lcs (lo' := [(0, .ref (w.1 20)), (1, .int (nI (cntB (fun k => !O.2.2.2.2.2 k) (k + 1)))), (2, .int (nI (k + 1)))]) ⟨rfl, (congrArg (fun x => some (Value.int (nI x))) (show cntB (fun k => !O.2.2.2.2.2 k) k + 1 = cntB (fun k => !O.2.2.2.2.2 k) k + (bif !O.2.2.2.2.2 k then 1 else 0) by rw [h5]; rfl)), rfl, trivial⟩ (ih (k + 1) (by omega) (by omega))
            | exact XJ.lcs (lo' := [(0, .ref (w.1 20)), (1, .int (nI (cntB (fun k => !O.2.2.2.2.2 k) (k + 1)))), (2, .int (nI (k + 1)))]) ⟨rfl, (congrArg (fun x => some (Value.int (nI x))) (show cntB (fun k => !O.2.2.2.2.2 k) k = cntB (fun k => !O.2.2.2.2.2 k) k + (bif !O.2.2.2.2.2 k then 1 else 0) by rw [h5]; rfl)), rfl, trivial⟩ (ih (k + 1) (by omega) (by omega))
        · have h5 := bI_eq h2
          refine X_iinc (i := 1) (v := nI (cntB (fun k => !O.2.2.2.2.2 k) k + 1)) (lo' := [(1, _), (0, _), (2, _)]) dX5_countOpen_21 rfl (nI_inc _) (by decide) rfl ?_
          refine X_iinc (i := 2) (v := nI (k + 1)) (lo' := [(2, _), (1, _), (0, _)]) dX5_countOpen_24 rfl (nI_inc k) (by decide) rfl ?_
          refine X_goto (tgt := 4) dX5_countOpen_27 (by decide) ?_
          first
            | exact XJ.lcs (lo' := [(0, .ref (w.1 20)), (1, .int (nI (cntB (fun k => !O.2.2.2.2.2 k) (k + 1)))), (2, .int (nI (k + 1)))]) ⟨rfl, (congrArg (fun x => some (Value.int (nI x))) (show cntB (fun k => !O.2.2.2.2.2 k) k + 1 = cntB (fun k => !O.2.2.2.2.2 k) k + (bif !O.2.2.2.2.2 k then 1 else 0) by rw [h5]; rfl)), rfl, trivial⟩ (ih (k + 1) (by omega) (by omega))
            | exact XJ.lcs (lo' := [(0, .ref (w.1 20)), (1, .int (nI (cntB (fun k => !O.2.2.2.2.2 k) (k + 1)))), (2, .int (nI (k + 1)))]) ⟨rfl, (congrArg (fun x => some (Value.int (nI x))) (show cntB (fun k => !O.2.2.2.2.2 k) k = cntB (fun k => !O.2.2.2.2.2 k) k + (bif !O.2.2.2.2.2 k then 1 else 0) by rw [h5]; rfl)), rfl, trivial⟩ (ih (k + 1) (by omega) (by omega))
  refine X_iconst (v := 0) dX5_countOpen_0 (by decide) ?_
  refine X_istore_n (i := 1) (lo' := [(1, _), (0, _)]) dX5_countOpen_1 rfl (by decide) rfl ?_
  refine X_iconst (v := 0) dX5_countOpen_2 (by decide) ?_
  refine X_istore_n (i := 2) (lo' := [(2, _), (1, _), (0, _)]) dX5_countOpen_3 rfl (by decide) rfl ?_
  exact XJ.lcs (lo' := [(0, .ref (w.1 20)), (1, .int (nI (cntB (fun k => !O.2.2.2.2.2 k) 0))), (2, .int (nI 0))]) ⟨rfl, rfl, rfl, trivial⟩ (hloop (O.1 + 1) 0 (by omega) (by omega))
set_option maxRecDepth 20000 in
theorem c_order {mp np : Nat} {P : PSt} {pr : Nat → Nat} (h0 : X0 w mp (cfg pr)) (hB : XB w) (hP : XP G.2.2.1 w P) (hnp : P.1 = np) (h16 : np ≤ 16) {O : OSt} (hO : XO G.2.2.1 w O) (hOI : OI np O) (p s u : Int32) : XC G mX10_order 7 3 18 [.ref (w.1 0), .int p, .int s, .int u] w (fun r w' => r = xr (cdO p s u np O.1) [eIOB, eIAE, eISE] (.int (nI O.1)) ∧ w' = if cdO p s u np O.1 = 0 then oW G.2.2.1 w (addO O (idx p) (idx s) (idx u) pr) else w) := by
  refine XC.of (lo0 := [(0, .ref (w.1 0)), (1, .int p), (2, .int s), (3, .int u)]) kmX10_order (Nat.le_of_ble_eq_true rfl) rfl ?_
  refine X_aload_n dX10_order_0 (i := 0) rfl rfl ?_
  refine X_iload_n dX10_order_1 (i := 1) rfl rfl ?_
  refine X_callV (gc2 := 2) (gs2 := 12) (c_checkPart p h0 hB hP) (i := 0) h0 rfl rfl kmX10_checkPart rfl lX10_100 iX10_checkPart vX10_checkPart rfl rfl (Nat.le_of_ble_eq_true rfl) (by decide) dX10_order_2 (by decide) (by decide) (fun E w1 hq => XT.out rfl (by
      have hv := hq.1
      obtain rfl := hq.2.symm
      obtain ⟨e1, rfl⟩ := rOK_inr hv
      have hcd := cdO_1 (s := s) (u := u) (no := O.1) (hnp ▸ e1)
      exact ⟨by rw [hcd]; rfl, by rw [hcd]; rfl⟩)) (fun v w1 hq => ?_)
  have hv := hq.1
  obtain rfl := hq.2.symm
  obtain ⟨e1, rfl⟩ := rOK_inl hv
  refine X_iload_n dX10_order_5 (i := 2) rfl rfl ?_
  refine X_callS (gc2 := 1) (gs2 := 6) (c_checkSerial s) kmX10_checkSerial rfl lX10_187 sX10_checkSerial rfl rfl (Nat.le_of_ble_eq_true rfl) (by decide) dX10_order_6 (by decide) (by decide) (fun E w1 hq => XT.out rfl (by
      have hv := hq.1
      obtain rfl := hq.2.symm
      obtain ⟨e2, rfl⟩ := rOK_inr hv
      have hcd := cdO_2 (u := u) (no := O.1) (hnp ▸ e1) (by rw [e2]; rfl)
      exact ⟨by rw [hcd]; rfl, by rw [hcd]; rfl⟩)) (fun v w1 hq => ?_)
  have hv := hq.1
  obtain rfl := hq.2.symm
  obtain ⟨e2, rfl⟩ := rOK_inl hv
  refine X_iload_n dX10_order_9 (i := 3) rfl rfl ?_
  refine X_iconst (v := 1) dX10_order_10 (by decide) ?_
  refine X_sipush (v := 999) dX10_order_11 (by decide) ?_
  refine X_callS (gc2 := 1) (gs2 := 6) (c_isBetween u 1 999) kmX10_isBetween rfl lX10_177 sX10_isBetween rfl rfl (Nat.le_of_ble_eq_true rfl) (by decide) dX10_order_14 (by decide) (by decide) (fun E w1 hq => nomatch hq.1) (fun v w1 hq => ?_)
  have hv := hq.1
  obtain rfl := hq.2.symm
  cases hv
  refine X_if_ne (tgt := 31) dX10_order_17 (by decide) (fun h3 => ?_) (fun h3 => ?_)
  · rw [hnp] at e1
    have e3 := bI_ne h3
    refine X_aload_n dX10_order_31 (i := 0) rfl rfl ?_
    refine X_get (i := 0) h0 rfl (ci := 9) rfl in10 (k := 1) (by decide) fX10_19 rfl dX10_order_32 ?_
    refine X_get (i := 20) hO.1 rfl (ci := 4) rfl in5 (k := 5) (by decide) fX10_294 rfl dX10_order_35 ?_
    refine X_bipush (v := 8) dX10_order_38 (by decide) ?_
    refine X_icmp_lt (tgt := 54) dX10_order_40 (by decide) (fun h4 => ?_) (fun h4 => ?_)
    · have h5 : O.1 < 8 := lt_nI (b := 8) (by have := hOI.1; omega) (by decide) h4
      have hcd := cdO_0 (no := O.1) e1 e2 e3 (by omega)
      obtain ⟨p, hp, rfl⟩ := inP_of (by omega) e1
      obtain ⟨s, hs1, hs2, rfl⟩ := btw_n (lo := 1) (hi := 999) (by decide) (by decide) e2
      obtain ⟨u, hu1, hu2, rfl⟩ := btw_n (lo := 1) (hi := 999) (by decide) (by decide) e3
      refine X_aload_n dX10_order_54 (i := 0) rfl rfl ?_
      refine X_get (i := 0) h0 rfl (ci := 9) rfl in10 (k := 1) (by decide) fX10_19 rfl dX10_order_55 ?_
      refine X_iload_n dX10_order_58 (i := 1) rfl rfl ?_
      refine X_iload_n dX10_order_59 (i := 2) rfl rfl ?_
      refine X_iload_n dX10_order_60 (i := 3) rfl rfl ?_
      refine X_aload_n dX10_order_61 (i := 0) rfl rfl ?_
      refine X_get (i := 0) h0 rfl (ci := 9) rfl in10 (k := 9) (by decide) fX10_66 rfl dX10_order_62 ?_
      refine X_callV (gc2 := 1) (gs2 := 6) (c_OBadd hO (by omega) (hOI.2.2 _ (Nat.le_refl _)) p s u pr) (i := 20) hO.1 rfl rfl kmX5_add rfl lX10_297 iX5_add vX5_add rfl rfl (Nat.le_of_ble_eq_true rfl) (by decide) dX10_order_65 (by decide) (by decide) (fun E w1 hq => nomatch hq.1) (fun v w1 hq => ?_)
      have hv := hq.1
      obtain rfl := hq.2.symm
      cases hv
      refine X_ireturn dX10_order_68 rfl rfl ?_
      exact ⟨by rw [hcd]; rfl, by rw [hcd, if_pos rfl, idx_nI (by omega), idx_nI (by omega), idx_nI (by omega)]⟩
    · have h5 : O.1 = 8 := by have := nlt_nI (b := 8) (by have := hOI.1; omega) (by decide) h4; have := hOI.1; omega
      have hcd := cdO_3 (np := np) e1 e2 e3
      rw [← h5] at hcd
      refine X_throwSW (text := "there are 8 orders") thr_IllegalStateException (by decide +kernel) rfl dX10_order_43 dX10_order_46 dX10_order_47 dX10_order_50 dX10_order_53 (Nat.le_of_ble_eq_true rfl) (by decide) (by decide) (by decide) ?_
      exact ⟨by rw [hcd]; rfl, by rw [hcd]; rfl⟩
  · have hcd := cdO_2 (s := s) (u := u) (np := np) (no := O.1) (hnp ▸ e1) (by rw [bI_eq h3, Bool.and_false])
    refine X_throwSW (text := "number of units out of range") thr_IllegalArgumentException (by decide +kernel) rfl dX10_order_20 dX10_order_23 dX10_order_24 dX10_order_27 dX10_order_30 (Nat.le_of_ble_eq_true rfl) (by decide) (by decide) (by decide) ?_
    exact ⟨by rw [hcd]; rfl, by rw [hcd]; rfl⟩
set_option maxRecDepth 20000 in
theorem c_cancel {mp cf np : Nat} (h0 : X0 w mp cf) {O : OSt} (hO : XO G.2.2.1 w O) (hOI : OI np O) (o : Int32) : XC G mX10_cancel 7 2 12 [.ref (w.1 0), .int o] w (fun r w' => r = xr (cdX o O) [eIOB, eISE] (.int (nI (cntB (fun k => !(canO O (idx o)).2.2.2.2.2 k) O.1))) ∧ w' = if cdX o O = 0 then setM w 25 (aZ G.2.2.1 8 (fun k => bI ((canO O (idx o)).2.2.2.2.2 k))) else w) := by
  refine XC.of (lo0 := [(0, .ref (w.1 0)), (1, .int o)]) kmX10_cancel (Nat.le_of_ble_eq_true rfl) rfl ?_
  refine X_aload_n dX10_cancel_0 (i := 0) rfl rfl ?_
  refine X_iload_n dX10_cancel_1 (i := 1) rfl rfl ?_
  refine X_callV (gc2 := 1) (gs2 := 6) (c_checkOrder o h0 hO) (i := 0) h0 rfl rfl kmX10_checkOrder rfl lX10_298 iX10_checkOrder vX10_checkOrder rfl rfl (Nat.le_of_ble_eq_true rfl) (by decide) dX10_cancel_2 (by decide) (by decide) (fun E w1 hq => XT.out rfl (by
      have hv := hq.1
      obtain rfl := hq.2.symm
      obtain ⟨e1, rfl⟩ := rOK_inr hv
      have hcd := (show cdX o O = 1 by rw [cdX, e1]; rfl)
      exact ⟨by rw [hcd]; rfl, by rw [hcd]; rfl⟩)) (fun v w1 hq => ?_)
  have hv := hq.1
  obtain rfl := hq.2.symm
  obtain ⟨e1, rfl⟩ := rOK_inl hv
  obtain ⟨j, hj, rfl⟩ := inP_of (by have := hOI.1; omega) e1
  have gj : idx (nI j) = j := idx_nI (by have := hOI.1; omega)
  have h8 := hOI.1
  refine X_aload_n dX10_cancel_5 (i := 0) rfl rfl ?_
  refine X_get (i := 0) h0 rfl (ci := 9) rfl in10 (k := 1) (by decide) fX10_19 rfl dX10_cancel_6 ?_
  refine X_get (i := 20) hO.1 rfl (ci := 4) rfl in5 (k := 4) (by decide) fX10_301 rfl dX10_cancel_9 ?_
  refine X_iload_n dX10_cancel_12 (i := 1) rfl rfl ?_
  refine X_zald (i := 25) hO.2.2.2.2.2 rfl rfl (by omega) (by decide) dX10_cancel_13 ?_
  refine X_if_eq (tgt := 28) dX10_cancel_14 (by decide) (fun h2 => ?_) (fun h2 => ?_)
  · have hcd : cdX (nI j) O = 0 := by rw [cdX, e1, gj, bI_eq h2]; rfl
    refine X_aload_n dX10_cancel_28 (i := 0) rfl rfl ?_
    refine X_get (i := 0) h0 rfl (ci := 9) rfl in10 (k := 1) (by decide) fX10_19 rfl dX10_cancel_29 ?_
    refine X_get (i := 20) hO.1 rfl (ci := 4) rfl in5 (k := 4) (by decide) fX10_301 rfl dX10_cancel_32 ?_
    refine X_iload_n dX10_cancel_35 (i := 1) rfl rfl ?_
    refine X_iconst (v := 1) dX10_cancel_36 (by decide) ?_
    refine X_zast (i := 25) hO.2.2.2.2.2 rfl rfl (by omega) (by decide) dX10_cancel_37 (fun hc_37 => ?_)
    rw [show va_up (fun k => bI (O.2.2.2.2.2 k)) j (vp_nar .boolean 1) = fun k => bI ((canO O j).2.2.2.2.2 k) from up_map bI O.2.2.2.2.2 j true]
    refine X_aload_n dX10_cancel_38 (i := 0) rfl rfl ?_
    refine X_get (i := 0) h0 rfl (ci := 9) rfl in10 (k := 1) (by decide) fX10_19 rfl dX10_cancel_39 ?_
    refine X_callV (gc2 := 1) (gs2 := 6) (c_countOpen (w := setM w 25 (aZ G.2.2.1 8 (fun k => bI ((canO O j).2.2.2.2.2 k)))) (O := canO O j) ⟨hO.1, hO.2.1, hO.2.2.1, hO.2.2.2.1, hO.2.2.2.2.1, ⟨hO.2.2.2.2.2.1, rfl⟩⟩ hOI.1) (i := 20) hO.1 rfl rfl kmX5_countOpen rfl lX10_307 iX5_countOpen vX5_countOpen rfl rfl (Nat.le_of_ble_eq_true rfl) (by decide) dX10_cancel_42 (by decide) (by decide) (fun E w1 hq => nomatch hq.1) (fun v w1 hq => ?_)
    have hv := hq.1
    obtain rfl := hq.2.symm
    cases hv
    refine X_ireturn dX10_cancel_45 rfl rfl ?_
    exact ⟨by rw [hcd, gj]; rfl, by rw [hcd, if_pos rfl, gj]⟩
  · have hcd : cdX (nI j) O = 2 := by rw [cdX, e1, gj, bI_ne h2]; rfl
    refine X_throwSW (text := "the order was cancelled before") thr_IllegalStateException (by decide +kernel) rfl dX10_cancel_17 dX10_cancel_20 dX10_cancel_21 dX10_cancel_24 dX10_cancel_27 (Nat.le_of_ble_eq_true rfl) (by decide) (by decide) (by decide) ?_
    exact ⟨by rw [hcd]; rfl, by rw [hcd]; rfl⟩
end OrdX
