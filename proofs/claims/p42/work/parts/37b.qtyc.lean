/-! QUANTITIES of the class (walks by gen/spec37.py) -/
section QtyX
variable {G : Gx} {w : Wd}
set_option maxRecDepth 20000 in
theorem c_walkQ_s {np : Nat} {L : LSt} {pr : Nat → Nat} {s : Nat} (hB : XB w) (hL : XL G.2.2.1 w L) (hM : cel w 19 (aI G.2.2.1 96 (hlN L pr s (ln L)))) (hI : LI np L) (c : Nat) (hc : c < 16) {f dd : Nat} (hd : f + 1 + dd = 5) (p : Nat) (hp : p < 16) (hnc : ∀ i, i < ln L → pa L i = p → NC (ln L) (pa L) (ch L) f (ch L i)) (hrec : ∀ q, q < 16 → NC (ln L) (pa L) (ch L) f q → XC G mX10_walkQuantity (f + 1) 0 0 [.ref (w.1 1), .int (nI q), .int (nI c), .int (nI (dd + 1))] w (fun r w' => r = .inl (some (.long (nL (hasN L pr s f q c)))) ∧ w' = w)) : XC G mX10_walkQuantity (f + 2) 0 0 [.ref (w.1 1), .int (nI p), .int (nI c), .int (nI dd)] w (fun r w' => r = .inl (some (.long (nL (hasN L pr s (f + 1) p c)))) ∧ w' = w) := by
  have h16 := hI.1
  have h40 := hI.2.1
  refine XC.of (lo0 := [(0, .ref (w.1 1)), (1, .int (nI p)), (2, .int (nI c)), (3, .int (nI dd))]) kmX10_walkQuantity (Nat.le_of_ble_eq_true rfl) rfl ?_
  have hloop : ∀ (n : Nat) (l : Nat), 6 - l < n → l ≤ 6 → ¬ p = c → XJ G mX10_walkQuantity (f + 2) 0 0 20 [(0, .ref (w.1 1)), (1, .int (nI p)), (2, .int (nI c)), (3, .int (nI dd)), (4, .long (nL (sK (fun k => oN (fun l => qt L l * hasN L pr s f (ch L l) c) (lnAt L pr s p k)) l))), (6, .int (nI (l + 1)))] [] w (fun r w' => r = .inl (some (.long (nL (hasN L pr s (f + 1) p c)))) ∧ w' = w) := by
    intro n
    induction n with
    | zero => intro l hm hl hpc; exact absurd hm (Nat.not_lt_zero _)
    | succ n ih =>
      intro l hm hl hpc
      refine X_iload dX10_walkQuantity_20 (i := 6) rfl ?_
      refine X_bipush (v := 6) dX10_walkQuantity_22 (by decide) ?_
      refine X_icmp_gt (tgt := 83) dX10_walkQuantity_24 (by decide) (fun h1 => ?_) (fun h1 => ?_)
      · have h5 : l = 6 := by have := lt_nI (a := 6) (by decide) (by omega) h1; omega
        subst h5
        refine X_lload dX10_walkQuantity_83 (i := 4) rfl ?_
        refine X_lreturn dX10_walkQuantity_85 rfl ?_
        exact ⟨rL (by rw [hasN, if_neg hpc]; rfl), rfl⟩
      · have h5 : l < 6 := by have := nlt_nI (a := 6) (by decide) (by omega) h1; omega
        refine X_aload_n dX10_walkQuantity_27 (i := 0) rfl rfl ?_
        refine X_iload_n dX10_walkQuantity_28 (i := 1) rfl rfl ?_
        refine X_iload dX10_walkQuantity_29 (i := 6) rfl ?_
        refine X_callV (gc2 := 0) (gs2 := 0) (c_heldLine p (l + 1) hp (by omega) (by omega) hB hM) (i := 1) hB rfl rfl kmX0_heldLine rfl lX10_419 iX0_heldLine vX0_heldLine rfl rfl (Nat.le_of_ble_eq_true rfl) (by omega) dX10_walkQuantity_31 (by decide) (by decide) (fun E w1 hq => nomatch hq.1) (fun v w1 hq => ?_)
        have hv := hq.1
        obtain rfl := hq.2.symm
        cases hv
        refine XJ.top (v' := .int (oI (lnAt L pr s p (l + 1)))) (by rw [hlN_at hI (by omega) (by omega)]) ?_
        refine X_istore (i := 7) (lo' := [(7, _), (0, _), (1, _), (2, _), (3, _), (4, _), (6, _)]) dX10_walkQuantity_34 (by decide) rfl ?_
        refine X_iload dX10_walkQuantity_36 (i := 7) rfl ?_
        refine X_iconst (v := -1) dX10_walkQuantity_38 (by decide) ?_
        refine X_icmp_eq (tgt := 77) dX10_walkQuantity_39 (by decide) (fun h2 => ?_) (fun h2 => ?_)
        · have hx := oI_none (n := ln L) (fun j h => (lnAt_some (L := L) (pr := pr) (s := s) (p := p) (k := l + 1) h).1) (by omega) h2
          refine X_iinc (i := 6) (v := nI (l + 1 + 1)) (lo' := [(6, _), (7, _), (0, _), (1, _), (2, _), (3, _), (4, _)]) dX10_walkQuantity_77 rfl (nI_inc (l + 1)) (by decide) rfl ?_
          refine X_goto (tgt := 20) dX10_walkQuantity_80 (by decide) ?_
          first
            | exact XJ.lcs (lo' := [(0, .ref (w.1 1)), (1, .int (nI p)), (2, .int (nI c)), (3, .int (nI dd)), (4, .long (nL (sK (fun k => oN (fun l => qt L l * hasN L pr s f (ch L l) c) (lnAt L pr s p k)) (l + 1)))), (6, .int (nI (l + 1 + 1)))]) ⟨rfl, rfl, rfl, rfl, rfl, rfl, trivial⟩ (ih (l + 1) (by omega) (by omega) hpc)
            | exact XJ.lcs (lo' := [(0, .ref (w.1 1)), (1, .int (nI p)), (2, .int (nI c)), (3, .int (nI dd)), (4, .long (nL (sK (fun k => oN (fun l => qt L l * hasN L pr s f (ch L l) c) (lnAt L pr s p k)) (l + 1)))), (6, .int (nI (l + 1 + 1)))]) ⟨rfl, rfl, rfl, rfl, (by rw [sK, hx]; rfl), rfl, trivial⟩ (ih (l + 1) (by omega) (by omega) hpc)
        · obtain ⟨j, hx⟩ := oI_some (n := ln L) (fun j h => (lnAt_some (L := L) (pr := pr) (s := s) (p := p) (k := l + 1) h).1) (by omega) h2
          have hj := lnAt_some hx
          have hb := hI.2.2 j hj.1
          have hjn := hj.1
          rw [show oI (lnAt L pr s p (l + 1)) = nI j by rw [hx]; rfl]
          refine X_lload dX10_walkQuantity_42 (i := 4) rfl ?_
          refine X_aload_n dX10_walkQuantity_44 (i := 0) rfl rfl ?_
          refine X_get (i := 1) hB rfl (ci := 0) rfl in0 (k := 1) (by decide) fX10_137 rfl dX10_walkQuantity_45 ?_
          refine X_get (i := 6) hL.1 rfl (ci := 3) rfl in4 (k := 3) (by decide) fX10_425 rfl dX10_walkQuantity_48 ?_
          refine X_iload dX10_walkQuantity_51 (i := 7) rfl ?_
          refine X_iald (i := 10) hL.2.2.2.2.1 rfl rfl (by omega) (by decide) dX10_walkQuantity_53 ?_
          refine X_i2l dX10_walkQuantity_54 rfl ?_
          refine XJ.top (v' := .long (nL (qt L j))) (by rw [show nf (qt L) j = nI (qt L j) from rfl, nL_i2l (by omega)]) ?_
          refine X_aload_n dX10_walkQuantity_55 (i := 0) rfl rfl ?_
          refine X_aload_n dX10_walkQuantity_56 (i := 0) rfl rfl ?_
          refine X_get (i := 1) hB rfl (ci := 0) rfl in0 (k := 1) (by decide) fX10_137 rfl dX10_walkQuantity_57 ?_
          refine X_get (i := 6) hL.1 rfl (ci := 3) rfl in4 (k := 2) (by decide) fX10_422 rfl dX10_walkQuantity_60 ?_
          refine X_iload dX10_walkQuantity_63 (i := 7) rfl ?_
          refine X_iald (i := 9) hL.2.2.2.1 rfl rfl (by omega) (by decide) dX10_walkQuantity_65 ?_
          refine X_iload_n dX10_walkQuantity_66 (i := 2) rfl rfl ?_
          refine X_iload_n dX10_walkQuantity_67 (i := 3) rfl rfl ?_
          refine X_iconst (v := 1) dX10_walkQuantity_68 (by decide) ?_
          refine X_iadd dX10_walkQuantity_69 ?_
          refine XJ.top (v' := .int (nI (dd + 1))) (by rw [← nI_1]) ?_
          refine X_callS (gc2 := 0) (gs2 := 0) (hrec (ch L j) (by omega) (hnc j (by omega) hj.2.2.1)) kmX10_walkQuantity rfl lX10_243 sX10_walkQuantity rfl rfl (Nat.le_of_ble_eq_true rfl) (by omega) dX10_walkQuantity_70 (by decide) (by decide) (fun E w1 hq => nomatch hq.1) (fun v w1 hq => ?_)
          have hv := hq.1
          obtain rfl := hq.2.symm
          cases hv
          refine X_lmul dX10_walkQuantity_73 ?_
          refine X_ladd dX10_walkQuantity_74 ?_
          refine XJ.top (v' := .long (nL (sK (fun k => oN (fun l => qt L l * hasN L pr s f (ch L l) c) (lnAt L pr s p k)) (l + 1)))) (by rw [nL_mul, nL_add, sK, hx]; rfl) ?_
          refine X_lstore (i := 4) (lo' := [(4, _), (7, _), (0, _), (1, _), (2, _), (3, _), (6, _)]) dX10_walkQuantity_75 (by decide) rfl ?_
          refine X_iinc (i := 6) (v := nI (l + 1 + 1)) (lo' := [(6, _), (4, _), (7, _), (0, _), (1, _), (2, _), (3, _)]) dX10_walkQuantity_77 rfl (nI_inc (l + 1)) (by decide) rfl ?_
          refine X_goto (tgt := 20) dX10_walkQuantity_80 (by decide) ?_
          first
            | exact XJ.lcs (lo' := [(0, .ref (w.1 1)), (1, .int (nI p)), (2, .int (nI c)), (3, .int (nI dd)), (4, .long (nL (sK (fun k => oN (fun l => qt L l * hasN L pr s f (ch L l) c) (lnAt L pr s p k)) (l + 1)))), (6, .int (nI (l + 1 + 1)))]) ⟨rfl, rfl, rfl, rfl, rfl, rfl, trivial⟩ (ih (l + 1) (by omega) (by omega) hpc)
            | exact XJ.lcs (lo' := [(0, .ref (w.1 1)), (1, .int (nI p)), (2, .int (nI c)), (3, .int (nI dd)), (4, .long (nL (sK (fun k => oN (fun l => qt L l * hasN L pr s f (ch L l) c) (lnAt L pr s p k)) (l + 1)))), (6, .int (nI (l + 1 + 1)))]) ⟨rfl, rfl, rfl, rfl, (by rw [sK, hx]; rfl), rfl, trivial⟩ (ih (l + 1) (by omega) (by omega) hpc)
  refine X_iload_n dX10_walkQuantity_0 (i := 1) rfl rfl ?_
  refine X_iload_n dX10_walkQuantity_1 (i := 2) rfl rfl ?_
  refine X_icmp_ne (tgt := 7) dX10_walkQuantity_2 (by decide) (fun h0 => ?_) (fun h0 => ?_)
  · have hpc : ¬ p = c := fun h => h0 (by rw [h])
    refine X_iload_n dX10_walkQuantity_7 (i := 3) rfl rfl ?_
    refine X_iconst (v := 4) dX10_walkQuantity_8 (by decide) ?_
    refine X_icmp_lt (tgt := 14) dX10_walkQuantity_9 (by decide) (fun h3 => ?_) (fun h3 => ?_)
    · refine X_lconst (v := 0) dX10_walkQuantity_14 rfl ?_
      refine X_lstore (i := 4) (lo' := [(4, _), (0, _), (1, _), (2, _), (3, _)]) dX10_walkQuantity_15 (by decide) rfl ?_
      refine X_iconst (v := 1) dX10_walkQuantity_17 (by decide) ?_
      refine X_istore (i := 6) (lo' := [(6, _), (4, _), (0, _), (1, _), (2, _), (3, _)]) dX10_walkQuantity_18 (by decide) rfl ?_
      exact XJ.lcs (lo' := [(0, .ref (w.1 1)), (1, .int (nI p)), (2, .int (nI c)), (3, .int (nI dd)), (4, .long (nL (sK (fun k => oN (fun l => qt L l * hasN L pr s f (ch L l) c) (lnAt L pr s p k)) 0))), (6, .int (nI (0 + 1)))]) ⟨rfl, rfl, rfl, rfl, rfl, rfl, trivial⟩ (hloop 7 0 (by omega) (by omega) hpc)
    · have h4 : 4 ≤ dd := by have := nlt_nI (a := dd) (b := 4) (by omega) (by decide) h3; omega
      have hf0 : f = 0 := by omega
      subst hf0
      refine X_lconst (v := 0) dX10_walkQuantity_12 rfl ?_
      refine X_lreturn dX10_walkQuantity_13 rfl ?_
      exact ⟨rL (by rw [hasN, if_neg hpc, atS_0 (fun j h1 _ h2 => (hnc j h1 h2).elim)]; rfl), rfl⟩
  · have hpc : p = c := (nI_eq (by omega) (by omega)).mp h0
    refine X_lconst (v := 1) dX10_walkQuantity_5 rfl ?_
    refine X_lreturn dX10_walkQuantity_6 rfl ?_
    exact ⟨rL (by rw [hasN, if_pos hpc]; rfl), rfl⟩
theorem c_walkQ {np : Nat} {L : LSt} {pr : Nat → Nat} {s : Nat} (hB : XB w) (hL : XL G.2.2.1 w L) (hM : cel w 19 (aI G.2.2.1 96 (hlN L pr s (ln L)))) (hI : LI np L) (c : Nat) (hc : c < 16) : ∀ (f dd : Nat), f + dd = 5 → ∀ (p : Nat), p < 16 → NC (ln L) (pa L) (ch L) f p → XC G mX10_walkQuantity (f + 1) 0 0 [.ref (w.1 1), .int (nI p), .int (nI c), .int (nI dd)] w (fun r w' => r = .inl (some (.long (nL (hasN L pr s f p c)))) ∧ w' = w)
  | 0, _, _, _, _, h => h.elim
  | f + 1, dd, hd, p, hp, h => c_walkQ_s hB hL hM hI c hc (by omega) p hp h (fun q hq hn => c_walkQ hB hL hM hI c hc f (dd + 1) (by omega) q hq hn)
set_option maxRecDepth 20000 in
theorem c_clear27 {a : Nat → Int64} (hM : cel w 27 (aL G.2.2.1 16 a)) : XC G mX8_clear 0 0 0 [.ref (w.1 27)] w (fun r w' => r = .inl none ∧ w' = setM w 27 (aL G.2.2.1 16 (fun _ => 0))) := by
  refine XC.of (lo0 := [(0, .ref (w.1 27))]) kmX8_clear (Nat.le_of_ble_eq_true rfl) rfl ?_
  have hloop : ∀ (n : Nat) (i : Nat) (f : Nat → Int64), 16 - i < n → i ≤ 16 → (∀ q, q < i → f q = 0) → XJ G mX8_clear 0 0 0 2 [(0, .ref (w.1 27)), (1, .int (nI i))] [] (setM w 27 (aL G.2.2.1 16 f)) (fun r w' => r = .inl none ∧ w' = setM w 27 (aL G.2.2.1 16 (fun _ => 0))) := by
    intro n
    induction n with
    | zero => intro i f hm hi hf; exact absurd hm (Nat.not_lt_zero _)
    | succ n ih =>
      intro i f hm hi hf
      have e1 : cel (setM w 27 (aL G.2.2.1 16 f)) 27 (aL G.2.2.1 16 f) := ⟨hM.1, rfl⟩
      refine X_iload_n dX8_clear_2 (i := 1) rfl rfl ?_
      refine X_aload_n dX8_clear_3 (i := 0) rfl rfl ?_
      refine X_alen (n := 0) (i := 27) (t := 3) (v := 16) e1 rfl rfl rfl dX8_clear_4 ?_
      refine X_icmp_ge (tgt := 18) dX8_clear_5 (by decide) (fun h1 => ?_) (fun h1 => ?_)
      · have h3 : i = 16 := by have := ge_nI (a := 16) (by decide) (by omega) h1; omega
        subst h3
        refine XJ.extL (i := 27) (n := 16) (g := fun _ => 0) e1 (fun q hq => hf q hq) ?_
        rw [setM_setM]
        refine X_vreturn dX8_clear_18 rfl ?_
        exact ⟨rfl, rfl⟩
      · have h3 : i < 16 := nge_nI (a := 16) (by decide) (by omega) h1
        refine X_aload_n dX8_clear_8 (i := 0) rfl rfl ?_
        refine X_iload_n dX8_clear_9 (i := 1) rfl rfl ?_
        refine X_lconst (v := 0) dX8_clear_10 rfl ?_
        refine X_last (i := 27) e1 rfl rfl (by omega) (by decide) dX8_clear_11 (fun hc_11 => ?_)
        refine X_iinc (i := 1) (v := nI (i + 1)) (lo' := [(1, _), (0, _)]) dX8_clear_12 rfl (nI_inc i) (by decide) rfl ?_
        refine X_goto (tgt := 2) dX8_clear_15 (by decide) ?_
        refine XJ.wd (w' := setM w 27 (aL G.2.2.1 16 (va_up f i 0))) setM_setM ?_
        exact XJ.lcs (lo' := [(0, .ref (w.1 27)), (1, .int (nI (i + 1)))]) ⟨rfl, rfl, trivial⟩ (ih (i + 1) _ (by omega) (by omega) (fun q hq => by simp only [va_up]; split; rfl; exact hf q (by omega)))
  refine X_iconst (v := 0) dX8_clear_0 (by decide) ?_
  refine X_istore_n (i := 1) (lo' := [(1, _), (0, _)]) dX8_clear_1 rfl (by decide) rfl ?_
  refine XJ.wd (w' := setM w 27 (aL G.2.2.1 16 a)) (setM_id hM.2).symm ?_
  exact XJ.lcs (lo' := [(0, .ref (w.1 27)), (1, .int (nI 0))]) ⟨rfl, rfl, trivial⟩ (hloop 17 0 a (by omega) (by omega) (fun q hq => absurd hq (by omega)))
set_option maxRecDepth 20000 in
theorem c_clear28 {a : Nat → Int64} (hM : cel w 28 (aL G.2.2.1 16 a)) : XC G mX8_clear 0 0 0 [.ref (w.1 28)] w (fun r w' => r = .inl none ∧ w' = setM w 28 (aL G.2.2.1 16 (fun _ => 0))) := by
  refine XC.of (lo0 := [(0, .ref (w.1 28))]) kmX8_clear (Nat.le_of_ble_eq_true rfl) rfl ?_
  have hloop : ∀ (n : Nat) (i : Nat) (f : Nat → Int64), 16 - i < n → i ≤ 16 → (∀ q, q < i → f q = 0) → XJ G mX8_clear 0 0 0 2 [(0, .ref (w.1 28)), (1, .int (nI i))] [] (setM w 28 (aL G.2.2.1 16 f)) (fun r w' => r = .inl none ∧ w' = setM w 28 (aL G.2.2.1 16 (fun _ => 0))) := by
    intro n
    induction n with
    | zero => intro i f hm hi hf; exact absurd hm (Nat.not_lt_zero _)
    | succ n ih =>
      intro i f hm hi hf
      have e1 : cel (setM w 28 (aL G.2.2.1 16 f)) 28 (aL G.2.2.1 16 f) := ⟨hM.1, rfl⟩
      refine X_iload_n dX8_clear_2 (i := 1) rfl rfl ?_
      refine X_aload_n dX8_clear_3 (i := 0) rfl rfl ?_
      refine X_alen (n := 0) (i := 28) (t := 3) (v := 16) e1 rfl rfl rfl dX8_clear_4 ?_
      refine X_icmp_ge (tgt := 18) dX8_clear_5 (by decide) (fun h1 => ?_) (fun h1 => ?_)
      · have h3 : i = 16 := by have := ge_nI (a := 16) (by decide) (by omega) h1; omega
        subst h3
        refine XJ.extL (i := 28) (n := 16) (g := fun _ => 0) e1 (fun q hq => hf q hq) ?_
        rw [setM_setM]
        refine X_vreturn dX8_clear_18 rfl ?_
        exact ⟨rfl, rfl⟩
      · have h3 : i < 16 := nge_nI (a := 16) (by decide) (by omega) h1
        refine X_aload_n dX8_clear_8 (i := 0) rfl rfl ?_
        refine X_iload_n dX8_clear_9 (i := 1) rfl rfl ?_
        refine X_lconst (v := 0) dX8_clear_10 rfl ?_
        refine X_last (i := 28) e1 rfl rfl (by omega) (by decide) dX8_clear_11 (fun hc_11 => ?_)
        refine X_iinc (i := 1) (v := nI (i + 1)) (lo' := [(1, _), (0, _)]) dX8_clear_12 rfl (nI_inc i) (by decide) rfl ?_
        refine X_goto (tgt := 2) dX8_clear_15 (by decide) ?_
        refine XJ.wd (w' := setM w 28 (aL G.2.2.1 16 (va_up f i 0))) setM_setM ?_
        exact XJ.lcs (lo' := [(0, .ref (w.1 28)), (1, .int (nI (i + 1)))]) ⟨rfl, rfl, trivial⟩ (ih (i + 1) _ (by omega) (by omega) (fun q hq => by simp only [va_up]; split; rfl; exact hf q (by omega)))
  refine X_iconst (v := 0) dX8_clear_0 (by decide) ?_
  refine X_istore_n (i := 1) (lo' := [(1, _), (0, _)]) dX8_clear_1 rfl (by decide) rfl ?_
  refine XJ.wd (w' := setM w 28 (aL G.2.2.1 16 a)) (setM_id hM.2).symm ?_
  exact XJ.lcs (lo' := [(0, .ref (w.1 28)), (1, .int (nI 0))]) ⟨rfl, rfl, trivial⟩ (hloop 17 0 a (by omega) (by omega) (fun q hq => absurd hq (by omega)))
set_option maxRecDepth 20000 in
theorem c_addChildren {np : Nat} {L : LSt} {pr : Nat → Nat} {s : Nat} (hB : XB w) (hL : XL G.2.2.1 w L) (hM : cel w 19 (aI G.2.2.1 96 (hlN L pr s (ln L)))) (hI : LI np L) {a b : Nat → Nat} (hQ : XQ2 G.2.2.1 w (nLf a) (nLf b)) (p : Nat) (hp : p < 16) : XC G mX8_addChildrenOf 2 0 0 [.ref (w.1 26), .ref (w.1 1), .int (nI p)] w (fun r w' => r = .inl none ∧ w' = (setM w 28 (aL G.2.2.1 16 (nLf (fun x => b x + givN L pr s p (a p) x 6))))) := by
  have h16 := hI.1
  have h40 := hI.2.1
  refine XC.of (lo0 := [(0, .ref (w.1 26)), (1, .ref (w.1 1)), (2, .int (nI p))]) kmX8_addChildrenOf (Nat.le_of_ble_eq_true rfl) rfl ?_
  have hloop : ∀ (n : Nat) (l : Nat), 6 - l < n → l ≤ 6 → XJ G mX8_addChildrenOf 2 0 0 2 [(0, .ref (w.1 26)), (1, .ref (w.1 1)), (2, .int (nI p)), (3, .int (nI (l + 1)))] [] (setM w 28 (aL G.2.2.1 16 (nLf (fun x => b x + givN L pr s p (a p) x l)))) (fun r w' => r = .inl none ∧ w' = (setM w 28 (aL G.2.2.1 16 (nLf (fun x => b x + givN L pr s p (a p) x 6))))) := by
    intro n
    induction n with
    | zero => intro l hm hl; exact absurd hm (Nat.not_lt_zero _)
    | succ n ih =>
      intro l hm hl
      have e1 : cel (setM w 28 (aL G.2.2.1 16 (nLf (fun x => b x + givN L pr s p (a p) x l)))) 28 (aL G.2.2.1 16 (nLf (fun x => b x + givN L pr s p (a p) x l))) := ⟨hQ.2.2.1, rfl⟩
      refine X_iload_n dX8_addChildrenOf_2 (i := 3) rfl rfl ?_
      refine X_bipush (v := 6) dX8_addChildrenOf_3 (by decide) ?_
      refine X_icmp_gt (tgt := 64) dX8_addChildrenOf_5 (by decide) (fun h1 => ?_) (fun h1 => ?_)
      · have h5 : l = 6 := by have := lt_nI (a := 6) (by decide) (by omega) h1; omega
        subst h5
        refine X_vreturn dX8_addChildrenOf_64 rfl ?_
        exact ⟨rfl, rfl⟩
      · have h5 : l < 6 := by have := nlt_nI (a := 6) (by decide) (by omega) h1; omega
        refine X_aload_n dX8_addChildrenOf_8 (i := 1) rfl rfl ?_
        refine X_iload_n dX8_addChildrenOf_9 (i := 2) rfl rfl ?_
        refine X_iload_n dX8_addChildrenOf_10 (i := 3) rfl rfl ?_
        refine X_callV (gc2 := 0) (gs2 := 0) (c_heldLine (w := (setM w 28 (aL G.2.2.1 16 (nLf (fun x => b x + givN L pr s p (a p) x l))))) p (l + 1) hp (by omega) (by omega) hB hM) (i := 1) hB rfl rfl kmX0_heldLine rfl lX8_42 iX0_heldLine vX0_heldLine rfl rfl (Nat.le_of_ble_eq_true rfl) (by decide) dX8_addChildrenOf_11 (by decide) (by decide) (fun E w1 hq => nomatch hq.1) (fun v w1 hq => ?_)
        have hv := hq.1
        obtain rfl := hq.2.symm
        cases hv
        refine XJ.top (v' := .int (oI (lnAt L pr s p (l + 1)))) (by rw [hlN_at hI (by omega) (by omega)]) ?_
        refine X_istore (i := 4) (lo' := [(4, _), (0, _), (1, _), (2, _), (3, _)]) dX8_addChildrenOf_14 (by decide) rfl ?_
        refine X_iload dX8_addChildrenOf_16 (i := 4) rfl ?_
        refine X_iconst (v := -1) dX8_addChildrenOf_18 (by decide) ?_
        refine X_icmp_eq (tgt := 58) dX8_addChildrenOf_19 (by decide) (fun h2 => ?_) (fun h2 => ?_)
        · have hx := oI_none (n := ln L) (fun j h => (lnAt_some (L := L) (pr := pr) (s := s) (p := p) (k := l + 1) h).1) (by omega) h2
          refine X_iinc (i := 3) (v := nI (l + 1 + 1)) (lo' := [(3, _), (4, _), (0, _), (1, _), (2, _)]) dX8_addChildrenOf_58 rfl (nI_inc (l + 1)) (by decide) rfl ?_
          refine X_goto (tgt := 2) dX8_addChildrenOf_61 (by decide) ?_
          first
            | refine XJ.wd (w' := (setM w 28 (aL G.2.2.1 16 (nLf (fun x => b x + givN L pr s p (a p) x (l + 1)))))) (by rw [nLf_giv0 hx]) ?_
              exact XJ.lcs (lo' := [(0, .ref (w.1 26)), (1, .ref (w.1 1)), (2, .int (nI p)), (3, .int (nI (l + 1 + 1)))]) ⟨rfl, rfl, rfl, rfl, trivial⟩ (ih (l + 1) (by omega) (by omega))
            | refine XJ.wd (w' := (setM w 28 (aL G.2.2.1 16 (nLf (fun x => b x + givN L pr s p (a p) x (l + 1)))))) (by rw [← nLf_giv hx]; exact setM_setM) ?_
              exact XJ.lcs (lo' := [(0, .ref (w.1 26)), (1, .ref (w.1 1)), (2, .int (nI p)), (3, .int (nI (l + 1 + 1)))]) ⟨rfl, rfl, rfl, rfl, trivial⟩ (ih (l + 1) (by omega) (by omega))
        · obtain ⟨j, hx⟩ := oI_some (n := ln L) (fun j h => (lnAt_some (L := L) (pr := pr) (s := s) (p := p) (k := l + 1) h).1) (by omega) h2
          have hj := lnAt_some hx
          have hb := hI.2.2 j hj.1
          have hjn := hj.1
          rw [show oI (lnAt L pr s p (l + 1)) = nI j by rw [hx]; rfl]
          refine X_aload_n dX8_addChildrenOf_22 (i := 0) rfl rfl ?_
          refine X_get (i := 26) hQ.1 rfl (ci := 7) rfl in8 (k := 1) (by decide) fX8_15 rfl dX8_addChildrenOf_23 ?_
          refine X_aload_n dX8_addChildrenOf_26 (i := 1) rfl rfl ?_
          refine X_get (i := 1) hB rfl (ci := 0) rfl in0 (k := 1) (by decide) fX8_46 rfl dX8_addChildrenOf_27 ?_
          refine X_get (i := 6) hL.1 rfl (ci := 3) rfl in4 (k := 2) (by decide) fX8_50 rfl dX8_addChildrenOf_30 ?_
          refine X_iload dX8_addChildrenOf_33 (i := 4) rfl ?_
          refine X_iald (i := 9) hL.2.2.2.1 rfl rfl (by omega) (by decide) dX8_addChildrenOf_35 ?_
          refine X_dup2_11 dX8_addChildrenOf_36 rfl rfl ?_
          refine X_lald (i := 28) e1 rfl rfl (by omega) (by decide) dX8_addChildrenOf_37 ?_
          refine X_aload_n dX8_addChildrenOf_38 (i := 0) rfl rfl ?_
          refine X_get (i := 26) hQ.1 rfl (ci := 7) rfl in8 (k := 0) (by decide) fX8_9 rfl dX8_addChildrenOf_39 ?_
          refine X_iload_n dX8_addChildrenOf_42 (i := 2) rfl rfl ?_
          refine X_lald (i := 27) hQ.2.1 rfl rfl (by omega) (by decide) dX8_addChildrenOf_43 ?_
          refine X_aload_n dX8_addChildrenOf_44 (i := 1) rfl rfl ?_
          refine X_get (i := 1) hB rfl (ci := 0) rfl in0 (k := 1) (by decide) fX8_46 rfl dX8_addChildrenOf_45 ?_
          refine X_get (i := 6) hL.1 rfl (ci := 3) rfl in4 (k := 3) (by decide) fX8_56 rfl dX8_addChildrenOf_48 ?_
          refine X_iload dX8_addChildrenOf_51 (i := 4) rfl ?_
          refine X_iald (i := 10) hL.2.2.2.2.1 rfl rfl (by omega) (by decide) dX8_addChildrenOf_53 ?_
          refine X_i2l dX8_addChildrenOf_54 rfl ?_
          refine XJ.top (v' := .long (nL (qt L j))) (by rw [show nf (qt L) j = nI (qt L j) from rfl, nL_i2l (by omega)]) ?_
          refine X_lmul dX8_addChildrenOf_55 ?_
          refine X_ladd dX8_addChildrenOf_56 ?_
          refine XJ.top (v' := .long (nL (b (ch L j) + givN L pr s p (a p) (ch L j) l + a p * qt L j))) (by rw [show nLf a p = nL (a p) from rfl, nL_mul, ← nL_add]; rfl) ?_
          refine X_last (i := 28) e1 rfl rfl (by omega) (by decide) dX8_addChildrenOf_57 (fun hc_57 => ?_)
          refine X_iinc (i := 3) (v := nI (l + 1 + 1)) (lo' := [(3, _), (4, _), (0, _), (1, _), (2, _)]) dX8_addChildrenOf_58 rfl (nI_inc (l + 1)) (by decide) rfl ?_
          refine X_goto (tgt := 2) dX8_addChildrenOf_61 (by decide) ?_
          first
            | refine XJ.wd (w' := (setM w 28 (aL G.2.2.1 16 (nLf (fun x => b x + givN L pr s p (a p) x (l + 1)))))) (by rw [nLf_giv0 hx]) ?_
              exact XJ.lcs (lo' := [(0, .ref (w.1 26)), (1, .ref (w.1 1)), (2, .int (nI p)), (3, .int (nI (l + 1 + 1)))]) ⟨rfl, rfl, rfl, rfl, trivial⟩ (ih (l + 1) (by omega) (by omega))
            | refine XJ.wd (w' := (setM w 28 (aL G.2.2.1 16 (nLf (fun x => b x + givN L pr s p (a p) x (l + 1)))))) (by rw [← nLf_giv hx]; exact setM_setM) ?_
              exact XJ.lcs (lo' := [(0, .ref (w.1 26)), (1, .ref (w.1 1)), (2, .int (nI p)), (3, .int (nI (l + 1 + 1)))]) ⟨rfl, rfl, rfl, rfl, trivial⟩ (ih (l + 1) (by omega) (by omega))
  refine X_iconst (v := 1) dX8_addChildrenOf_0 (by decide) ?_
  refine X_istore_n (i := 3) (lo' := [(3, _), (0, _), (1, _), (2, _)]) dX8_addChildrenOf_1 rfl (by decide) rfl ?_
  refine XJ.wd (w' := (setM w 28 (aL G.2.2.1 16 (nLf (fun x => b x + givN L pr s p (a p) x 0))))) (setM_id hQ.2.2.2).symm ?_
  exact XJ.lcs (lo' := [(0, .ref (w.1 26)), (1, .ref (w.1 1)), (2, .int (nI p)), (3, .int (nI (0 + 1)))]) ⟨rfl, rfl, rfl, rfl, trivial⟩ (hloop 7 0 (by omega) (by omega))
set_option maxRecDepth 20000 in
theorem c_goDown {np : Nat} {P : PSt} {L : LSt} {pr : Nat → Nat} {s : Nat} (hB : XB w) (hP : XP G.2.2.1 w P) (hnp : P.1 = np) (hL : XL G.2.2.1 w L) (hM : cel w 19 (aI G.2.2.1 96 (hlN L pr s (ln L)))) (hI : LI np L) {a : Nat → Nat} {b : Nat → Int64} (hQ : XQ2 G.2.2.1 w (nLf a) b) (ha : ∀ p, a p < 2 ^ 63) : XC G mX8_goDown 3 0 0 [.ref (w.1 26), .ref (w.1 1)] w (fun r w' => r = .inl none ∧ w' = setM (setM w 28 (aL G.2.2.1 16 (nLf (fun x => stpN L pr s a x np)))) 27 (aL G.2.2.1 16 (nLf (fun x => stpN L pr s a x np)))) := by
  have h16 := hI.1
  have h40 := hI.2.1
  refine XC.of (lo0 := [(0, .ref (w.1 26)), (1, .ref (w.1 1))]) kmX8_goDown (Nat.le_of_ble_eq_true rfl) rfl ?_
  have hloop2 : ∀ (n : Nat) (p : Nat) (f : Nat → Int64), 16 - p < n → p ≤ 16 → (∀ q, q < p → f q = nLf (fun x => stpN L pr s a x np) q) → XJ G mX8_goDown 3 0 0 45 [(0, .ref (w.1 26)), (1, .ref (w.1 1)), (2, .int (nI p))] [] (setM (setM w 28 (aL G.2.2.1 16 (nLf (fun x => stpN L pr s a x np)))) 27 (aL G.2.2.1 16 f)) (fun r w' => r = .inl none ∧ w' = setM (setM w 28 (aL G.2.2.1 16 (nLf (fun x => stpN L pr s a x np)))) 27 (aL G.2.2.1 16 (nLf (fun x => stpN L pr s a x np)))) := by
    intro n
    induction n with
    | zero => intro p f hm hi hf; exact absurd hm (Nat.not_lt_zero _)
    | succ n ih =>
      intro p f hm hi hf
      have e27 : cel (setM (setM w 28 (aL G.2.2.1 16 (nLf (fun x => stpN L pr s a x np)))) 27 (aL G.2.2.1 16 f)) 27 (aL G.2.2.1 16 f) := ⟨hQ.2.1.1, rfl⟩
      have e28 : cel (setM (setM w 28 (aL G.2.2.1 16 (nLf (fun x => stpN L pr s a x np)))) 27 (aL G.2.2.1 16 f)) 28 (aL G.2.2.1 16 (nLf (fun x => stpN L pr s a x np))) := ⟨hQ.2.2.1, rfl⟩
      refine X_iload_n dX8_goDown_45 (i := 2) rfl rfl ?_
      refine X_bipush (v := 16) dX8_goDown_46 (by decide) ?_
      refine X_icmp_ge (tgt := 69) dX8_goDown_48 (by decide) (fun h1 => ?_) (fun h1 => ?_)
      · have h3 : p = 16 := by have := ge_nI (a := 16) (by decide) (by omega) h1; omega
        subst h3
        refine XJ.extL (i := 27) (n := 16) (g := (nLf (fun x => stpN L pr s a x np))) e27 (fun q hq => hf q hq) ?_
        rw [setM_setM]
        refine X_vreturn dX8_goDown_69 rfl ?_
        exact ⟨rfl, rfl⟩
      · have h3 : p < 16 := nge_nI (a := 16) (by decide) (by omega) h1
        refine X_aload_n dX8_goDown_51 (i := 0) rfl rfl ?_
        refine X_get (i := 26) hQ.1 rfl (ci := 7) rfl in8 (k := 0) (by decide) fX8_9 rfl dX8_goDown_52 ?_
        refine X_iload_n dX8_goDown_55 (i := 2) rfl rfl ?_
        refine X_aload_n dX8_goDown_56 (i := 0) rfl rfl ?_
        refine X_get (i := 26) hQ.1 rfl (ci := 7) rfl in8 (k := 1) (by decide) fX8_15 rfl dX8_goDown_57 ?_
        refine X_iload_n dX8_goDown_60 (i := 2) rfl rfl ?_
        refine X_lald (i := 28) e28 rfl rfl (by omega) (by decide) dX8_goDown_61 ?_
        refine X_last (i := 27) e27 rfl rfl (by omega) (by decide) dX8_goDown_62 (fun hc_62 => ?_)
        refine X_iinc (i := 2) (v := nI (p + 1)) (lo' := [(2, _), (0, _), (1, _)]) dX8_goDown_63 rfl (nI_inc p) (by decide) rfl ?_
        refine X_goto (tgt := 45) dX8_goDown_66 (by decide) ?_
        refine XJ.wd (w' := setM (setM w 28 (aL G.2.2.1 16 (nLf (fun x => stpN L pr s a x np)))) 27 (aL G.2.2.1 16 (va_up f p ((nLf (fun x => stpN L pr s a x np)) p)))) setM_setM ?_
        exact XJ.lcs (lo' := [(0, .ref (w.1 26)), (1, .ref (w.1 1)), (2, .int (nI (p + 1)))]) ⟨rfl, rfl, rfl, trivial⟩ (ih (p + 1) _ (by omega) (by omega) (fun q hq => by simp only [va_up]; split; rename_i h; rw [h]; exact hf q (by omega)))
  have hloop1 : ∀ (n : Nat) (p : Nat), np - p < n → p ≤ np → XJ G mX8_goDown 3 0 0 9 [(0, .ref (w.1 26)), (1, .ref (w.1 1)), (2, .int (nI p))] [] (setM w 28 (aL G.2.2.1 16 (nLf (fun x => stpN L pr s a x p)))) (fun r w' => r = .inl none ∧ w' = setM (setM w 28 (aL G.2.2.1 16 (nLf (fun x => stpN L pr s a x np)))) 27 (aL G.2.2.1 16 (nLf (fun x => stpN L pr s a x np)))) := by
    intro n
    induction n with
    | zero => intro p hm hi; exact absurd hm (Nat.not_lt_zero _)
    | succ n ih =>
      intro p hm hi
      have e28 : cel (setM w 28 (aL G.2.2.1 16 (nLf (fun x => stpN L pr s a x p)))) 28 (aL G.2.2.1 16 (nLf (fun x => stpN L pr s a x p))) := ⟨hQ.2.2.1, rfl⟩
      refine X_iload_n dX8_goDown_9 (i := 2) rfl rfl ?_
      refine X_aload_n dX8_goDown_10 (i := 1) rfl rfl ?_
      refine X_get (i := 1) hB rfl (ci := 0) rfl in0 (k := 0) (by decide) fX8_26 rfl dX8_goDown_11 ?_
      refine X_get (i := 2) hP.1 rfl (ci := 6) rfl in7 (k := 3) (by decide) fX8_32 rfl dX8_goDown_14 ?_
      refine X_icmp_ge (tgt := 43) dX8_goDown_17 (by decide) (fun h1 => ?_) (fun h1 => ?_)
      · have h3 : p = np := by rw [hnp] at h1; have := ge_nI (a := np) (by omega) (by omega) h1; omega
        subst h3
        refine X_iconst (v := 0) dX8_goDown_43 (by decide) ?_
        refine X_istore_n (i := 2) (lo' := [(2, _), (0, _), (1, _)]) dX8_goDown_44 rfl (by decide) rfl ?_
        refine XJ.wd (w' := setM (setM w 28 (aL G.2.2.1 16 (nLf (fun x => stpN L pr s a x p)))) 27 (aL G.2.2.1 16 (nLf a))) (setM_id (show (setM w 28 (aL G.2.2.1 16 (nLf (fun x => stpN L pr s a x p)))).2.2 27 = _ from hQ.2.1.2)).symm ?_
        exact XJ.lcs (lo' := [(0, .ref (w.1 26)), (1, .ref (w.1 1)), (2, .int (nI 0))]) ⟨rfl, rfl, rfl, trivial⟩ (hloop2 17 0 _ (by omega) (by omega) (fun q hq => absurd hq (by omega)))
      · have h3 : p < np := by rw [hnp] at h1; exact nge_nI (a := np) (by omega) (by omega) h1
        refine X_aload_n dX8_goDown_20 (i := 0) rfl rfl ?_
        refine X_get (i := 26) hQ.1 rfl (ci := 7) rfl in8 (k := 0) (by decide) fX8_9 rfl dX8_goDown_21 ?_
        refine X_iload_n dX8_goDown_24 (i := 2) rfl rfl ?_
        refine X_lald (i := 27) hQ.2.1 rfl rfl (by omega) (by decide) dX8_goDown_25 ?_
        refine X_lconst (v := 0) dX8_goDown_26 rfl ?_
        refine X_lcmp dX8_goDown_27 ?_
        refine X_if_le (tgt := 37) dX8_goDown_28 (by decide) (fun h2 => ?_) (fun h2 => ?_)
        · have h4 : a p = 0 := (nL_gt0 (ha p)).mp h2
          refine X_iinc (i := 2) (v := nI (p + 1)) (lo' := [(2, _), (0, _), (1, _)]) dX8_goDown_37 rfl (nI_inc p) (by decide) rfl ?_
          refine X_goto (tgt := 9) dX8_goDown_40 (by decide) ?_
          first
            | refine XJ.wd (w' := (setM w 28 (aL G.2.2.1 16 (nLf (fun x => stpN L pr s a x (p + 1)))))) setM_setM ?_
              exact XJ.lcs (lo' := [(0, .ref (w.1 26)), (1, .ref (w.1 1)), (2, .int (nI (p + 1)))]) ⟨rfl, rfl, rfl, trivial⟩ (ih (p + 1) (by omega) (by omega))
            | refine XJ.wd (w' := (setM w 28 (aL G.2.2.1 16 (nLf (fun x => stpN L pr s a x (p + 1)))))) (by simp only [stpN_s, h4, givN_0, Nat.add_zero]) ?_
              exact XJ.lcs (lo' := [(0, .ref (w.1 26)), (1, .ref (w.1 1)), (2, .int (nI (p + 1)))]) ⟨rfl, rfl, rfl, trivial⟩ (ih (p + 1) (by omega) (by omega))
        · refine X_aload_n dX8_goDown_31 (i := 0) rfl rfl ?_
          refine X_aload_n dX8_goDown_32 (i := 1) rfl rfl ?_
          refine X_iload_n dX8_goDown_33 (i := 2) rfl rfl ?_
          refine X_callV (gc2 := 0) (gs2 := 0) (c_addChildren (w := (setM w 28 (aL G.2.2.1 16 (nLf (fun x => stpN L pr s a x p))))) hB hL hM hI (a := a) (b := fun x => stpN L pr s a x p) ⟨hQ.1, hQ.2.1, e28⟩ p (by omega)) (i := 26) hQ.1 rfl rfl kmX8_addChildrenOf rfl lX8_38 iX8_addChildrenOf vX8_addChildrenOf rfl rfl (Nat.le_of_ble_eq_true rfl) (by decide) dX8_goDown_34 (by decide) (by decide) (fun E w1 hq => nomatch hq.1) (fun v w1 hq => ?_)
          have hv := hq.1
          obtain rfl := hq.2.symm
          cases hv
          refine X_iinc (i := 2) (v := nI (p + 1)) (lo' := [(2, _), (0, _), (1, _)]) dX8_goDown_37 rfl (nI_inc p) (by decide) rfl ?_
          refine X_goto (tgt := 9) dX8_goDown_40 (by decide) ?_
          first
            | refine XJ.wd (w' := (setM w 28 (aL G.2.2.1 16 (nLf (fun x => stpN L pr s a x (p + 1)))))) setM_setM ?_
              exact XJ.lcs (lo' := [(0, .ref (w.1 26)), (1, .ref (w.1 1)), (2, .int (nI (p + 1)))]) ⟨rfl, rfl, rfl, trivial⟩ (ih (p + 1) (by omega) (by omega))
            | refine XJ.wd (w' := (setM w 28 (aL G.2.2.1 16 (nLf (fun x => stpN L pr s a x (p + 1)))))) (by simp only [stpN_s, h4, givN_0, Nat.add_zero]) ?_
              exact XJ.lcs (lo' := [(0, .ref (w.1 26)), (1, .ref (w.1 1)), (2, .int (nI (p + 1)))]) ⟨rfl, rfl, rfl, trivial⟩ (ih (p + 1) (by omega) (by omega))
  refine X_aload_n dX8_goDown_0 (i := 0) rfl rfl ?_
  refine X_get (i := 26) hQ.1 rfl (ci := 7) rfl in8 (k := 1) (by decide) fX8_15 rfl dX8_goDown_1 ?_
  refine X_callS (gc2 := 0) (gs2 := 0) (c_clear28 hQ.2.2) kmX8_clear rfl lX8_18 sX8_clear rfl rfl (Nat.le_of_ble_eq_true rfl) (by decide) dX8_goDown_4 (by decide) (by decide) (fun E w1 hq => nomatch hq.1) (fun v w1 hq => ?_)
  have hv := hq.1
  obtain rfl := hq.2.symm
  cases hv
  refine X_iconst (v := 0) dX8_goDown_7 (by decide) ?_
  refine X_istore_n (i := 2) (lo' := [(2, _), (0, _), (1, _)]) dX8_goDown_8 rfl (by decide) rfl ?_
  exact XJ.lcs (lo' := [(0, .ref (w.1 26)), (1, .ref (w.1 1)), (2, .int (nI 0))]) ⟨rfl, rfl, rfl, trivial⟩ (hloop1 (np + 1) 0 (by omega) (by omega))
theorem set_2728 {a b c d : va_E} : setM (setM (setM (setM w 27 a) 28 b) 28 c) 27 d = setM (setM w 27 d) 28 c := by
  rw [setM_setM, setM_comm (i := 28) (k := 27) (by decide), setM_setM]
set_option maxRecDepth 20000 in
theorem c_count {np : Nat} {P : PSt} {L : LSt} {pr : Nat → Nat} {s : Nat} (hB : XB w) (hP : XP G.2.2.1 w P) (hnp : P.1 = np) (hL : XL G.2.2.1 w L) (hM : cel w 19 (aI G.2.2.1 96 (hlN L pr s (ln L)))) (hI : LI np L) (hN : NC5 L) {a b : Nat → Int64} (hQ : XQ2 G.2.2.1 w a b) (p c : Nat) (hp : p < np) (hc : c < 16) : XC G mX8_count 4 0 0 [.ref (w.1 26), .ref (w.1 1), .int (nI p), .int (nI c)] w (fun r w' => r = .inl (some (.long (nL (hasN L pr s 5 p c)))) ∧ ∃ a1 b1, w' = setM (setM w 27 (aL G.2.2.1 16 a1)) 28 (aL G.2.2.1 16 b1)) := by
  have h16 := hI.1
  have h40 := hI.2.1
  refine XC.of (lo0 := [(0, .ref (w.1 26)), (1, .ref (w.1 1)), (2, .int (nI p)), (3, .int (nI c))]) kmX8_count (Nat.le_of_ble_eq_true rfl) rfl ?_
  have hloop : ∀ (n : Nat) (i : Nat) (b1 : Nat → Int64), 4 - i < n → i ≤ 4 → XJ G mX8_count 4 0 0 25 [(0, .ref (w.1 26)), (1, .ref (w.1 1)), (2, .int (nI p)), (3, .int (nI c)), (4, .long (nL (wsum L pr s i p c))), (6, .int (nI i))] [] (setM (setM w 27 (aL G.2.2.1 16 (nLf (fun x => wlk L pr s i p x)))) 28 (aL G.2.2.1 16 b1)) (fun r w' => r = .inl (some (.long (nL (hasN L pr s 5 p c)))) ∧ ∃ a1 b1, w' = setM (setM w 27 (aL G.2.2.1 16 a1)) 28 (aL G.2.2.1 16 b1)) := by
    intro n
    induction n with
    | zero => intro i b1 hm hi; exact absurd hm (Nat.not_lt_zero _)
    | succ n ih =>
      intro i b1 hm hi
      refine X_iload dX8_count_25 (i := 6) rfl ?_
      refine X_iconst (v := 4) dX8_count_27 (by decide) ?_
      refine X_icmp_ge (tgt := 53) dX8_count_28 (by decide) (fun h1 => ?_) (fun h1 => ?_)
      · have h3 : i = 4 := by have := ge_nI (a := 4) (by decide) (by omega) h1; omega
        subst h3
        refine X_lload dX8_count_53 (i := 4) rfl ?_
        refine X_lreturn dX8_count_55 rfl ?_
        exact ⟨rL (by rw [has_wsum hN (hN p)]), _, _, rfl⟩
      · have h3 : i < 4 := nge_nI (a := 4) (by decide) (by omega) h1
        refine X_aload_n dX8_count_31 (i := 0) rfl rfl ?_
        refine X_aload_n dX8_count_32 (i := 1) rfl rfl ?_
        refine X_callV (gc2 := 0) (gs2 := 0) (c_goDown (w := (setM (setM w 27 (aL G.2.2.1 16 (nLf (fun x => wlk L pr s i p x)))) 28 (aL G.2.2.1 16 b1))) hB hP hnp hL hM hI (a := fun x => wlk L pr s i p x) (b := b1) ⟨hQ.1, ⟨hQ.2.1.1, rfl⟩, ⟨hQ.2.2.1, rfl⟩⟩ (fun x => Nat.lt_of_le_of_lt (wlk_le hI i p x) (Nat.lt_of_le_of_lt (Nat.pow_le_pow_right (by decide) (show i ≤ 4 by omega)) (by decide)))) (i := 26) hQ.1 rfl rfl kmX8_goDown rfl lX8_22 iX8_goDown vX8_goDown rfl rfl (Nat.le_of_ble_eq_true rfl) (by decide) dX8_count_33 (by decide) (by decide) (fun E w1 hq => nomatch hq.1) (fun v w1 hq => ?_)
        have hv := hq.1
        obtain rfl := hq.2.symm
        cases hv
        rw [set_2728, show (fun x => stpN L pr s (fun x => wlk L pr s i p x) x np) = fun x => wlk L pr s (i + 1) p x from funext (fun x => (wlk_snoc hI hp).symm)]
        have e27 : cel (setM (setM w 27 (aL G.2.2.1 16 (nLf (fun x => wlk L pr s (i + 1) p x)))) 28 (aL G.2.2.1 16 (nLf (fun x => wlk L pr s (i + 1) p x)))) 27 (aL G.2.2.1 16 (nLf (fun x => wlk L pr s (i + 1) p x))) := ⟨hQ.2.1.1, rfl⟩
        refine X_lload dX8_count_36 (i := 4) rfl ?_
        refine X_aload_n dX8_count_38 (i := 0) rfl rfl ?_
        refine X_get (i := 26) hQ.1 rfl (ci := 7) rfl in8 (k := 0) (by decide) fX8_9 rfl dX8_count_39 ?_
        refine X_iload_n dX8_count_42 (i := 3) rfl rfl ?_
        refine X_lald (i := 27) e27 rfl rfl (by omega) (by decide) dX8_count_43 ?_
        refine X_ladd dX8_count_44 ?_
        refine XJ.top (v' := .long (nL (wsum L pr s (i + 1) p c))) (by rw [show nLf (fun x => wlk L pr s (i + 1) p x) c = nL (wlk L pr s (i + 1) p c) from rfl, nL_add]; rfl) ?_
        refine X_lstore (i := 4) (lo' := [(4, _), (0, _), (1, _), (2, _), (3, _), (6, _)]) dX8_count_45 (by decide) rfl ?_
        refine X_iinc (i := 6) (v := nI (i + 1)) (lo' := [(6, _), (4, _), (0, _), (1, _), (2, _), (3, _)]) dX8_count_47 rfl (nI_inc i) (by decide) rfl ?_
        refine X_goto (tgt := 25) dX8_count_50 (by decide) ?_
        exact XJ.lcs (lo' := [(0, .ref (w.1 26)), (1, .ref (w.1 1)), (2, .int (nI p)), (3, .int (nI c)), (4, .long (nL (wsum L pr s (i + 1) p c))), (6, .int (nI (i + 1)))]) ⟨rfl, rfl, rfl, rfl, rfl, rfl, trivial⟩ (ih (i + 1) _ (by omega) (by omega))
  refine X_aload_n dX8_count_0 (i := 0) rfl rfl ?_
  refine X_get (i := 26) hQ.1 rfl (ci := 7) rfl in8 (k := 0) (by decide) fX8_9 rfl dX8_count_1 ?_
  refine X_callS (gc2 := 0) (gs2 := 0) (c_clear27 hQ.2.1) kmX8_clear rfl lX8_18 sX8_clear rfl rfl (Nat.le_of_ble_eq_true rfl) (by decide) dX8_count_4 (by decide) (by decide) (fun E w1 hq => nomatch hq.1) (fun v w1 hq => ?_)
  have hv := hq.1
  obtain rfl := hq.2.symm
  cases hv
  have e27 : cel (setM w 27 (aL G.2.2.1 16 (fun _ => 0))) 27 (aL G.2.2.1 16 (fun _ => 0)) := ⟨hQ.2.1.1, rfl⟩
  refine X_aload_n dX8_count_7 (i := 0) rfl rfl ?_
  refine X_get (i := 26) hQ.1 rfl (ci := 7) rfl in8 (k := 0) (by decide) fX8_9 rfl dX8_count_8 ?_
  refine X_iload_n dX8_count_11 (i := 2) rfl rfl ?_
  refine X_lconst (v := 1) dX8_count_12 rfl ?_
  refine X_last (i := 27) e27 rfl rfl (by omega) (by decide) dX8_count_13 (fun hc_13 => ?_)
  refine X_aload_n dX8_count_14 (i := 0) rfl rfl ?_
  refine X_get (i := 26) hQ.1 rfl (ci := 7) rfl in8 (k := 0) (by decide) fX8_9 rfl dX8_count_15 ?_
  refine X_iload_n dX8_count_18 (i := 3) rfl rfl ?_
  refine X_lald (i := 27) hc_13 rfl rfl (by omega) (by decide) dX8_count_19 ?_
  refine X_lstore (i := 4) (lo' := [(4, _), (0, _), (1, _), (2, _), (3, _)]) dX8_count_20 (by decide) rfl ?_
  refine X_iconst (v := 0) dX8_count_22 (by decide) ?_
  refine X_istore (i := 6) (lo' := [(6, _), (4, _), (0, _), (1, _), (2, _), (3, _)]) dX8_count_23 (by decide) rfl ?_
  refine XJ.wd (w' := (setM (setM w 27 (aL G.2.2.1 16 (nLf (fun x => wlk L pr s 0 p x)))) 28 (aL G.2.2.1 16 b))) (by rw [setM_setM, ← nLf_one (L := L) (pr := pr) (s := s)]; exact (setM_id (show (setM w 27 _).2.2 28 = _ from hQ.2.2.2)).symm) ?_
  exact XJ.lcs (lo' := [(0, .ref (w.1 26)), (1, .ref (w.1 1)), (2, .int (nI p)), (3, .int (nI c)), (4, .long (nL (wsum L pr s 0 p c))), (6, .int (nI 0))]) ⟨rfl, rfl, rfl, rfl, (show some (Value.long (va_up (fun _ => (0 : Int64)) p 1 c)) = _ by rw [nLf_one (L := L) (pr := pr) (s := s)]; rfl), rfl, trivial⟩ (hloop 5 0 _ (by omega) (by omega))
end QtyX
