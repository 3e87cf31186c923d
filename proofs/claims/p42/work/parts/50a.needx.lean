/-! NEED of the class (walks by gen/spec50.py) -/
section NeedX
variable {G : Gx} {w : Wd}
/-- the world after selections and counts -/
def selQ (K : Nat → ClassId) (w : Wd) (hl hc : Nat → Int32) (x y : Nat → Int64) : Wd := setM (setM (setM (setM w 19 (aI K 96 hl)) 18 (aI K 16 hc)) 27 (aL K 16 x)) 28 (aL K 16 y)
theorem selQ_sel {K : Nat → ClassId} {hl hc : Nat → Int32} {x y x1 y1 : Nat → Int64} {L : LSt} {pr : Nat → Nat} {s : Nat} : setM (setM (selW K (selQ K w hl hc x y) L pr s) 27 (aL K 16 x1)) 28 (aL K 16 y1) = selQ K w (hlN L pr s (ln L)) (nf (hcN L pr s (ln L))) x1 y1 := by
  refine wd_ext (fun j => rfl) rfl (fun j => ?_)
  show (bif Nat.beq j 28 then _ else bif Nat.beq j 27 then _ else bif Nat.beq j 18 then _ else bif Nat.beq j 19 then _ else bif Nat.beq j 28 then _ else bif Nat.beq j 27 then _ else bif Nat.beq j 18 then _ else bif Nat.beq j 19 then _ else w.2.2 j) = bif Nat.beq j 28 then _ else bif Nat.beq j 27 then _ else bif Nat.beq j 18 then _ else bif Nat.beq j 19 then _ else w.2.2 j
  cases Nat.beq j 28 <;> cases Nat.beq j 27 <;> cases Nat.beq j 18 <;> cases Nat.beq j 19 <;> rfl
theorem selQ_id {K : Nat → ClassId} {hl hc : Nat → Int32} {x y : Nat → Int64} (hS : XSel K w hc hl) (hQ : XQ2 K w x y) : w = selQ K w hl hc x y := by
  rw [selQ, setM_id hS.2.2, setM_id hS.1.2, setM_id hQ.2.1.2, setM_id hQ.2.2.2]
set_option maxRecDepth 20000 in
theorem c_need {mp cf np : Nat} {P : PSt} {L : LSt} {O : OSt} {hc hl : Nat → Int32} {qa qb : Nat → Int64} (h0 : X0 w mp cf) (hB : XB w) (hP : XP G.2.2.1 w P) (hL : XL G.2.2.1 w L) (hS : XSel G.2.2.1 w hc hl) (hnp : P.1 = np) (hI : LI np L) (hN : NC5 L) (hQ : XQ2 G.2.2.1 w qa qb) (hO : XO G.2.2.1 w O) (hOI : OI np O) (c : Int32) : XC G mX10_need 7 2 12 [.ref (w.1 0), .int c] w (fun r w' => r = xr (cdP c np) [eIOB] (.long (nL (needN L O (idx c) O.1))) ∧ (if cdP c np = 0 then ∃ hl hc x y, w' = selQ G.2.2.1 w hl hc x y else w' = w)) := by
  have h16 := hI.1
  have h8 := hOI.1
  refine XC.of (lo0 := [(0, .ref (w.1 0)), (1, .int c)]) kmX10_need (Nat.le_of_ble_eq_true rfl) rfl ?_
  refine X_aload_n dX10_need_0 (i := 0) rfl rfl ?_
  refine X_iload_n dX10_need_1 (i := 1) rfl rfl ?_
  refine X_callV (gc2 := 1) (gs2 := 6) (c_checkPart c h0 hB hP) (i := 0) h0 rfl rfl kmX10_checkPart rfl lX10_100 iX10_checkPart vX10_checkPart rfl rfl (Nat.le_of_ble_eq_true rfl) (by decide) dX10_need_2 (by decide) (by decide) (fun E w1 hq => XT.out rfl (by
      have hv := hq.1
      obtain rfl := hq.2.symm
      obtain ⟨e1, rfl⟩ := rOK_inr hv
      have hcd := cdP_1 (n := np) (hnp ▸ e1)
      exact ⟨by rw [hcd]; rfl, by rw [hcd]; exact rfl⟩)) (fun v w1 hq => ?_)
  have hv := hq.1
  obtain rfl := hq.2.symm
  obtain ⟨e1, rfl⟩ := rOK_inl hv
  rw [hnp] at e1
  have hcd := cdP_0 e1
  obtain ⟨c, hc0, rfl⟩ := inP_of (by omega) e1
  have gc : idx (nI c) = c := idx_nI (by omega)
  refine X_lconst (v := 0) dX10_need_5 rfl ?_
  refine X_lstore_n (i := 2) (lo' := [(2, _), (0, _), (1, _)]) dX10_need_6 rfl (by decide) rfl ?_
  refine X_iconst (v := 0) dX10_need_7 (by decide) ?_
  refine X_istore (i := 4) (lo' := [(4, _), (2, _), (0, _), (1, _)]) dX10_need_8 (by decide) rfl ?_
  have hloop : ∀ (n : Nat) (k : Nat) (hl1 hc1 : Nat → Int32) (x y : Nat → Int64), O.1 - k < n → k ≤ O.1 → XJ G mX10_need 7 0 0 10 [(0, .ref (w.1 0)), (1, .int (nI c)), (2, .long (nL (needN L O c k))), (4, .int (nI k))] [] (selQ G.2.2.1 w hl1 hc1 x y) (fun r w' => r = xr (cdP (nI c) np) [eIOB] (.long (nL (needN L O (idx (nI c)) O.1))) ∧ (if cdP (nI c) np = 0 then ∃ hl hc x y, w' = selQ G.2.2.1 w hl hc x y else w' = w)) := by
    intro n
    induction n with
    | zero => intro k hl1 hc1 x y hm hk; exact absurd hm (Nat.not_lt_zero _)
    | succ n ih =>
      intro k hl1 hc1 x y hm hk
      refine X_iload dX10_need_10 (i := 4) rfl ?_
      refine X_aload_n dX10_need_12 (i := 0) rfl rfl ?_
      refine X_get (i := 0) h0 rfl (ci := 9) rfl in10 (k := 1) (by decide) fX10_19 rfl dX10_need_13 ?_
      refine X_get (i := 20) hO.1 rfl (ci := 4) rfl in5 (k := 5) (by decide) fX10_294 rfl dX10_need_16 ?_
      refine X_icmp_ge (tgt := 105) dX10_need_19 (by decide) (fun h2 => ?_) (fun h2 => ?_)
      · have h5 : k = O.1 := by have := ge_nI (a := O.1) (by omega) (by omega) h2; omega
        subst h5
        refine X_lload_n dX10_need_105 (i := 2) rfl rfl ?_
        refine X_lreturn dX10_need_106 rfl ?_
        exact ⟨by rw [hcd, gc]; rfl, by rw [hcd, if_pos rfl]; exact ⟨_, _, _, _, rfl⟩⟩
      · have h5 : k < O.1 := nge_nI (a := O.1) (by omega) (by omega) h2
        have ho := hOI.2.1 k h5
        refine X_aload_n dX10_need_22 (i := 0) rfl rfl ?_
        refine X_get (i := 0) h0 rfl (ci := 9) rfl in10 (k := 1) (by decide) fX10_19 rfl dX10_need_23 ?_
        refine X_get (i := 20) hO.1 rfl (ci := 4) rfl in5 (k := 4) (by decide) fX10_301 rfl dX10_need_26 ?_
        refine X_iload dX10_need_29 (i := 4) rfl ?_
        refine X_zald (i := 25) hO.2.2.2.2.2 rfl rfl (by omega) (by decide) dX10_need_31 ?_
        refine X_if_ne (tgt := 99) dX10_need_32 (by decide) (fun h3 => ?_) (fun h3 => ?_)
        · have h6 := bI_ne h3
          refine X_iinc (i := 4) (v := nI (k + 1)) (lo' := [(4, _), (0, _), (1, _), (2, _)]) dX10_need_99 rfl (nI_inc k) (by decide) rfl ?_
          refine X_goto (tgt := 10) dX10_need_102 (by decide) ?_
          first
            | exact XJ.lcs (lo' := [(0, .ref (w.1 0)), (1, .int (nI c)), (2, .long (nL (needN L O c (k + 1)))), (4, .int (nI (k + 1)))]) ⟨rfl, rfl, rfl, rfl, trivial⟩ (ih (k + 1) _ _ _ _ (by omega) (by omega))
            | exact XJ.lcs (lo' := [(0, .ref (w.1 0)), (1, .int (nI c)), (2, .long (nL (needN L O c (k + 1)))), (4, .int (nI (k + 1)))]) ⟨rfl, rfl, (by rw [needN, h6]; rfl), rfl, trivial⟩ (ih (k + 1) _ _ _ _ (by omega) (by omega))
        · have h6 := bI_eq h3
          refine X_aload_n dX10_need_35 (i := 0) rfl rfl ?_
          refine X_get (i := 0) h0 rfl (ci := 9) rfl in10 (k := 0) (by decide) fX10_10 rfl dX10_need_36 ?_
          refine X_aload_n dX10_need_39 (i := 0) rfl rfl ?_
          refine X_get (i := 0) h0 rfl (ci := 9) rfl in10 (k := 1) (by decide) fX10_19 rfl dX10_need_40 ?_
          refine X_get (i := 20) hO.1 rfl (ci := 4) rfl in5 (k := 1) (by decide) fX10_314 rfl dX10_need_43 ?_
          refine X_iload dX10_need_46 (i := 4) rfl ?_
          refine X_iald (i := 22) hO.2.2.1 rfl rfl (by omega) (by decide) dX10_need_48 ?_
          refine X_aload_n dX10_need_49 (i := 0) rfl rfl ?_
          refine X_get (i := 0) h0 rfl (ci := 9) rfl in10 (k := 1) (by decide) fX10_19 rfl dX10_need_50 ?_
          refine X_get (i := 20) hO.1 rfl (ci := 4) rfl in5 (k := 3) (by decide) fX10_317 rfl dX10_need_53 ?_
          refine X_iload dX10_need_56 (i := 4) rfl ?_
          refine X_iald (i := 24) hO.2.2.2.2.1 rfl rfl (by omega) (by decide) dX10_need_58 ?_
          refine X_callV (gc2 := 0) (gs2 := 0) (c_select (w := (selQ G.2.2.1 w hl1 hc1 x y)) (hc := hc1) (hl := hl1) hB hL ⟨⟨hS.1.1, rfl⟩, ⟨hS.2.1, rfl⟩⟩ hI ho.2.2.2 (O.2.2.1 k) (by omega)) (i := 1) hB rfl rfl kmX0_select rfl lX10_237 iX0_select vX0_select rfl rfl (Nat.le_of_ble_eq_true rfl) (by decide) dX10_need_59 (by decide) (by decide) (fun E w1 hq => nomatch hq.1) (fun v w1 hq => ?_)
          have hv := hq.1
          obtain rfl := hq.2.symm
          cases hv
          refine X_lload_n dX10_need_62 (i := 2) rfl rfl ?_
          refine X_aload_n dX10_need_63 (i := 0) rfl rfl ?_
          refine X_get (i := 0) h0 rfl (ci := 9) rfl in10 (k := 1) (by decide) fX10_19 rfl dX10_need_64 ?_
          refine X_get (i := 20) hO.1 rfl (ci := 4) rfl in5 (k := 2) (by decide) fX10_320 rfl dX10_need_67 ?_
          refine X_iload dX10_need_70 (i := 4) rfl ?_
          refine X_iald (i := 23) hO.2.2.2.1 rfl rfl (by omega) (by decide) dX10_need_72 ?_
          refine X_i2l dX10_need_73 rfl ?_
          refine XJ.top (v' := .long (nL (O.2.2.2.1 k))) (by rw [show nf O.2.2.2.1 k = nI (O.2.2.2.1 k) from rfl, nL_i2l (by omega)]) ?_
          refine X_aload_n dX10_need_74 (i := 0) rfl rfl ?_
          refine X_get (i := 0) h0 rfl (ci := 9) rfl in10 (k := 2) (by decide) fX10_26 rfl dX10_need_75 ?_
          refine X_aload_n dX10_need_78 (i := 0) rfl rfl ?_
          refine X_get (i := 0) h0 rfl (ci := 9) rfl in10 (k := 0) (by decide) fX10_10 rfl dX10_need_79 ?_
          refine X_aload_n dX10_need_82 (i := 0) rfl rfl ?_
          refine X_get (i := 0) h0 rfl (ci := 9) rfl in10 (k := 1) (by decide) fX10_19 rfl dX10_need_83 ?_
          refine X_get (i := 20) hO.1 rfl (ci := 4) rfl in5 (k := 0) (by decide) fX10_311 rfl dX10_need_86 ?_
          refine X_iload dX10_need_89 (i := 4) rfl ?_
          refine X_iald (i := 21) hO.2.1 rfl rfl (by omega) (by decide) dX10_need_91 ?_
          refine X_iload_n dX10_need_92 (i := 1) rfl rfl ?_
          refine X_callV (gc2 := 0) (gs2 := 0) (c_count (w := (selW G.2.2.1 (selQ G.2.2.1 w hl1 hc1 x y) L (O.2.2.2.2.1 k) (O.2.2.1 k))) (pr := O.2.2.2.2.1 k) (s := O.2.2.1 k) hB hP hnp hL ⟨hS.2.1, rfl⟩ hI hN (a := x) (b := y) ⟨hQ.1, ⟨hQ.2.1.1, rfl⟩, ⟨hQ.2.2.1, rfl⟩⟩ (O.2.1 k) c ho.1 (by omega)) (i := 26) hQ.1 rfl rfl kmX8_count rfl lX10_240 iX8_count vX8_count rfl rfl (Nat.le_of_ble_eq_true rfl) (by decide) dX10_need_93 (by decide) (by decide) (fun E w1 hq => nomatch hq.1) (fun v w1 hq => ?_)
          have hv := hq.1
          obtain ⟨x1, y1, hw2⟩ := hq.2
          subst hw2
          cases hv
          rw [selQ_sel]
          refine X_lmul dX10_need_96 ?_
          refine XJ.top (v' := _) (congrArg Value.long (nL_mul _ _)) ?_
          refine X_ladd dX10_need_97 ?_
          refine XJ.top (v' := .long (nL (needN L O c (k + 1)))) (by rw [nL_add, needN, h6]; rfl) ?_
          refine X_lstore_n (i := 2) (lo' := [(2, _), (0, _), (1, _), (4, _)]) dX10_need_98 rfl (by decide) rfl ?_
          refine X_iinc (i := 4) (v := nI (k + 1)) (lo' := [(4, _), (2, _), (0, _), (1, _)]) dX10_need_99 rfl (nI_inc k) (by decide) rfl ?_
          refine X_goto (tgt := 10) dX10_need_102 (by decide) ?_
          first
            | exact XJ.lcs (lo' := [(0, .ref (w.1 0)), (1, .int (nI c)), (2, .long (nL (needN L O c (k + 1)))), (4, .int (nI (k + 1)))]) ⟨rfl, rfl, rfl, rfl, trivial⟩ (ih (k + 1) _ _ _ _ (by omega) (by omega))
            | exact XJ.lcs (lo' := [(0, .ref (w.1 0)), (1, .int (nI c)), (2, .long (nL (needN L O c (k + 1)))), (4, .int (nI (k + 1)))]) ⟨rfl, rfl, (by rw [needN, h6]; rfl), rfl, trivial⟩ (ih (k + 1) _ _ _ _ (by omega) (by omega))
  refine XJ.wd (w' := selQ G.2.2.1 w hl hc qa qb) (selQ_id hS hQ) ?_
  refine XJ.less (Nat.zero_le _) (Nat.zero_le _) ?_
  exact XJ.lcs (lo' := [(0, .ref (w.1 0)), (1, .int (nI c)), (2, .long (nL (needN L O c 0))), (4, .int (nI 0))]) ⟨rfl, rfl, rfl, rfl, trivial⟩ (hloop (O.1 + 1) 0 _ _ _ _ (by omega) (by omega))
end NeedX
