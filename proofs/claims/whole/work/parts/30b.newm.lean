/-! REFERENCE: new lines (walks by gen/spec30.py) -/
section NewM
variable {G : Gx} {w : Wd} {t np nl no nm nw en : Nat}
set_option maxRecDepth 20000 in
theorem m_reaches_s (h9 : M0 w t np nl no nm nw en) {L : LSt} (hL : ML G.2.2.1 w L) (hnl : ln L = nl) (hI : LI np L) {f : Nat} (hf : f < 100) (p q : Nat) (hp : p < 16) (hq : q < 16) (hnc : ∀ i, i < nl → pa L i = p → NC nl (pa L) (ch L) f (ch L i)) (hrec : ∀ c, c < 16 → NC nl (pa L) (ch L) f c → XC G mX11_reaches (f + 2) 0 0 [.ref (w.1 39), .int (nI c), .int (nI q)] w (fun r w' => r = .inl (some (.int (bI (rchB nl (pa L) (ch L) f c q)))) ∧ w' = w)) : XC G mX11_reaches (f + 3) 0 0 [.ref (w.1 39), .int (nI p), .int (nI q)] w (fun r w' => r = .inl (some (.int (bI (rchB nl (pa L) (ch L) (f + 1) p q)))) ∧ w' = w) := by
  have h16 := hI.1
  have h40 := hI.2.1
  refine XC.of (lo0 := [(0, .ref (w.1 39)), (1, .int (nI p)), (2, .int (nI q))]) kmX11_reaches (Nat.le_of_ble_eq_true rfl) rfl ?_
  refine X_iload_n dX11_reaches_0 (i := 1) rfl rfl ?_
  refine X_iload_n dX11_reaches_1 (i := 2) rfl rfl ?_
  refine X_icmp_ne (tgt := 7) dX11_reaches_2 (by decide) (fun hc => ?_) (fun hc => ?_)
  · have hpq : ¬ p = q := fun h => hc (by rw [h])
    refine X_iconst (v := 0) dX11_reaches_7 (by decide) ?_
    refine X_istore_n (i := 3) (lo' := [(3, _), (0, _), (1, _), (2, _)]) dX11_reaches_8 rfl (by decide) rfl ?_
    have hloop : ∀ (n : Nat) (l : Nat), nl - l < n → l ≤ nl → (∀ j, j < l → (decide (pa L j = p) && rchB nl (pa L) (ch L) f (ch L j) q) = false) → XJ G mX11_reaches (f + 3) 0 0 9 [(0, .ref (w.1 39)), (1, .int (nI p)), (2, .int (nI q)), (3, .int (nI l))] [] w (fun r w' => r = .inl (some (.int (bI (rchB nl (pa L) (ch L) (f + 1) p q)))) ∧ w' = w) := by
      intro n
      induction n with
      | zero => intro l hm hl hn; exact absurd hm (Nat.not_lt_zero _)
      | succ n ih =>
        intro l hm hl hn
        refine X_iload_n dX11_reaches_9 (i := 3) rfl rfl ?_
        refine X_aload_n dX11_reaches_10 (i := 0) rfl rfl ?_
        refine X_get (i := 39) h9 rfl (ci := 10) rfl in11 (k := 2) (by decide) fX11_93 rfl dX11_reaches_11 ?_
        refine X_icmp_ge (tgt := 49) dX11_reaches_14 (by decide) (fun h1 => ?_) (fun h1 => ?_)
        · have h5 : l = nl := by have := ge_nI (a := nl) (by omega) (by omega) h1; omega
          refine X_iconst (v := 0) dX11_reaches_49 (by decide) ?_
          refine X_ireturn dX11_reaches_50 rfl rfl ?_
          exact ⟨rI (by rw [rchB, anyB_f (f := (fun i => decide (pa L i = p) && rchB nl (pa L) (ch L) f (ch L i) q)) (fun j hj => hn j (by omega)), decide_eq_false hpq]; rfl), rfl⟩
        · have h5 : l < nl := nge_nI (a := nl) (by omega) (by omega) h1
          have hb := hI.2.2 l (by omega)
          refine X_aload_n dX11_reaches_17 (i := 0) rfl rfl ?_
          refine X_get (i := 39) h9 rfl (ci := 10) rfl in11 (k := 10) (by decide) fX11_19 rfl dX11_reaches_18 ?_
          refine X_iload_n dX11_reaches_21 (i := 3) rfl rfl ?_
          refine X_iald (i := 43) hL.1 rfl rfl (by omega) (by decide) dX11_reaches_22 ?_
          refine X_iload_n dX11_reaches_23 (i := 1) rfl rfl ?_
          refine X_icmp_ne (tgt := 43) dX11_reaches_24 (by decide) (fun h2 => ?_) (fun h2 => ?_)
          · have h6 : ¬ pa L l = p := fun h => h2 (by show nI (pa L l) = nI p; rw [h])
            refine X_iinc (i := 3) (v := nI (l + 1)) (lo' := [(3, _), (0, _), (1, _), (2, _)]) dX11_reaches_43 rfl (nI_inc l) (by decide) rfl ?_
            refine X_goto (tgt := 9) dX11_reaches_46 (by decide) ?_
            first
              | exact XJ.lcs (lo' := [(0, .ref (w.1 39)), (1, .int (nI p)), (2, .int (nI q)), (3, .int (nI (l + 1)))]) ⟨rfl, rfl, rfl, rfl, trivial⟩ (ih (l + 1) (by omega) (by omega) (fun j hj => by rcases Nat.lt_or_ge j l with h | h; exact hn j h; rw [show j = l by omega, h8, Bool.and_false]))
              | exact XJ.lcs (lo' := [(0, .ref (w.1 39)), (1, .int (nI p)), (2, .int (nI q)), (3, .int (nI (l + 1)))]) ⟨rfl, rfl, rfl, rfl, trivial⟩ (ih (l + 1) (by omega) (by omega) (fun j hj => by rcases Nat.lt_or_ge j l with h | h; exact hn j h; rw [show j = l by omega, decide_eq_false h6, Bool.false_and]))
          · have h6 : pa L l = p := (nI_eq (by omega) (by omega)).mp h2
            refine X_aload_n dX11_reaches_27 (i := 0) rfl rfl ?_
            refine X_aload_n dX11_reaches_28 (i := 0) rfl rfl ?_
            refine X_get (i := 39) h9 rfl (ci := 10) rfl in11 (k := 12) (by decide) fX11_25 rfl dX11_reaches_29 ?_
            refine X_iload_n dX11_reaches_32 (i := 3) rfl rfl ?_
            refine X_iald (i := 45) hL.2.2.1 rfl rfl (by omega) (by decide) dX11_reaches_33 ?_
            refine X_iload_n dX11_reaches_34 (i := 2) rfl rfl ?_
            refine X_callV (gc2 := 0) (gs2 := 0) (hrec (ch L l) (by omega) (hnc l h5 h6)) (i := 39) h9 rfl rfl kmX11_reaches rfl lX11_115 iX11_reaches vX11_reaches rfl rfl (Nat.le_of_ble_eq_true rfl) (by omega) dX11_reaches_35 (by decide) (by decide) (fun E w1 hq => nomatch hq.1) (fun v w1 hq => ?_)
            have hv := hq.1
            obtain rfl := hq.2.symm
            cases hv
            refine X_if_eq (tgt := 43) dX11_reaches_38 (by decide) (fun h3 => ?_) (fun h3 => ?_)
            · have h8 := bI_eq h3
              refine X_iinc (i := 3) (v := nI (l + 1)) (lo' := [(3, _), (0, _), (1, _), (2, _)]) dX11_reaches_43 rfl (nI_inc l) (by decide) rfl ?_
              refine X_goto (tgt := 9) dX11_reaches_46 (by decide) ?_
              first
                | exact XJ.lcs (lo' := [(0, .ref (w.1 39)), (1, .int (nI p)), (2, .int (nI q)), (3, .int (nI (l + 1)))]) ⟨rfl, rfl, rfl, rfl, trivial⟩ (ih (l + 1) (by omega) (by omega) (fun j hj => by rcases Nat.lt_or_ge j l with h | h; exact hn j h; rw [show j = l by omega, h8, Bool.and_false]))
                | exact XJ.lcs (lo' := [(0, .ref (w.1 39)), (1, .int (nI p)), (2, .int (nI q)), (3, .int (nI (l + 1)))]) ⟨rfl, rfl, rfl, rfl, trivial⟩ (ih (l + 1) (by omega) (by omega) (fun j hj => by rcases Nat.lt_or_ge j l with h | h; exact hn j h; rw [show j = l by omega, decide_eq_false h6, Bool.false_and]))
            · have h8 := bI_ne h3
              refine X_iconst (v := 1) dX11_reaches_41 (by decide) ?_
              refine X_ireturn dX11_reaches_42 rfl rfl ?_
              exact ⟨rI (by rw [rchB, anyB_t (f := (fun i => decide (pa L i = p) && rchB nl (pa L) (ch L) f (ch L i) q)) h5 (by rw [h6, h8]; simp), Bool.or_true]; rfl), rfl⟩
    exact XJ.lcs (lo' := [(0, .ref (w.1 39)), (1, .int (nI p)), (2, .int (nI q)), (3, .int (nI 0))]) ⟨rfl, rfl, rfl, rfl, trivial⟩ (hloop (nl + 1) 0 (by omega) (by omega) (fun j hj => absurd hj (by omega)))
  · have hpq : p = q := (nI_eq (by omega) (by omega)).mp hc
    refine X_iconst (v := 1) dX11_reaches_5 (by decide) ?_
    refine X_ireturn dX11_reaches_6 rfl rfl ?_
    exact ⟨rI (by rw [rchB, decide_eq_true hpq]; rfl), rfl⟩
theorem m_reaches (h9 : M0 w t np nl no nm nw en) {L : LSt} (hL : ML G.2.2.1 w L) (hnl : ln L = nl) (hI : LI np L) : ∀ (f : Nat), f < 100 → ∀ (p q : Nat), p < 16 → q < 16 → NC nl (pa L) (ch L) f p → XC G mX11_reaches (f + 2) 0 0 [.ref (w.1 39), .int (nI p), .int (nI q)] w (fun r w' => r = .inl (some (.int (bI (rchB nl (pa L) (ch L) f p q)))) ∧ w' = w)
  | 0, _, _, _, _, _, h => h.elim
  | f + 1, hf, p, q, hp, hq, h => m_reaches_s h9 hL hnl hI (by omega) p q hp hq h (fun c hc hn => m_reaches h9 hL hnl hI f (by omega) c q hc hq hn)
set_option maxRecDepth 20000 in
theorem m_isDeep (h9 : M0 w t np nl no nm nw en) {L : LSt} (hL : ML G.2.2.1 w L) (hnl : ln L = nl) (hI : LI np L) (hN : NC5 L) (p c : Nat) (hp : p < 16) (hc : c < 16) : XC G mX11_isDeep 8 0 0 [.ref (w.1 39), .int (nI p), .int (nI c)] w (fun r w' => r = .inl (some (.int (bI (deepB L p c)))) ∧ w' = w) := by
  have h16 := hI.1
  have h40 := hI.2.1
  refine XC.of (lo0 := [(0, .ref (w.1 39)), (1, .int (nI p)), (2, .int (nI c))]) kmX11_isDeep (Nat.le_of_ble_eq_true rfl) rfl ?_
  refine X_aload_n dX11_isDeep_0 (i := 0) rfl rfl ?_
  refine X_iload_n dX11_isDeep_1 (i := 1) rfl rfl ?_
  refine X_callV (gc2 := 0) (gs2 := 0) (m_above h9 hL hnl hI 5 (by decide) p hp (by rw [← hnl]; exact NC_inv hN p)) (i := 39) h9 rfl rfl kmX11_above rfl lX11_112 iX11_above vX11_above rfl rfl (Nat.le_of_ble_eq_true rfl) (by decide) dX11_isDeep_2 (by decide) (by decide) (fun E w1 hq => nomatch hq.1) (fun v w1 hq => ?_)
  have hv := hq.1
  obtain rfl := hq.2.symm
  cases hv
  refine X_iconst (v := 1) dX11_isDeep_5 (by decide) ?_
  refine X_iadd dX11_isDeep_6 ?_
  refine XJ.top (v' := .int (nI (hgt nl (ch L) (pa L) 5 p + 1))) (by rw [← nI_1]) ?_
  refine X_aload_n dX11_isDeep_7 (i := 0) rfl rfl ?_
  refine X_iload_n dX11_isDeep_8 (i := 2) rfl rfl ?_
  refine X_callV (gc2 := 0) (gs2 := 0) (m_below h9 hL hnl hI 5 (by decide) c hc (by rw [← hnl]; exact hN c)) (i := 39) h9 rfl rfl kmX11_below rfl lX11_109 iX11_below vX11_below rfl rfl (Nat.le_of_ble_eq_true rfl) (by decide) dX11_isDeep_9 (by decide) (by decide) (fun E w1 hq => nomatch hq.1) (fun v w1 hq => ?_)
  have hv := hq.1
  obtain rfl := hq.2.symm
  cases hv
  refine X_iadd dX11_isDeep_12 ?_
  refine XJ.top (v' := .int (nI (hgt nl (ch L) (pa L) 5 p + 1 + hgt nl (pa L) (ch L) 5 c))) (by rw [nI_add]) ?_
  have a1 := hgt_le (n := nl) (a := ch L) (b := pa L) 5 p
  have a2 := hgt_le (n := nl) (a := pa L) (b := ch L) 5 c
  subst hnl
  refine X_iconst (v := 4) dX11_isDeep_13 (by decide) ?_
  refine X_icmp_le (tgt := 21) dX11_isDeep_14 (by decide) (fun h1 => ?_) (fun h1 => ?_)
  · have h3 : ¬ (4 < hgt (ln L) (ch L) (pa L) 5 p + 1 + hgt (ln L) (pa L) (ch L) 5 c) := by have := ge_nI (b := 4) (by omega) (by decide) h1; omega
    refine X_iconst (v := 0) dX11_isDeep_21 (by decide) ?_
    refine X_ireturn dX11_isDeep_22 rfl rfl ?_
    first
      | exact ⟨rI (by rw [deepB, decide_eq_true h3]; rfl), rfl⟩
      | exact ⟨rI (by rw [deepB, decide_eq_false h3]; rfl), rfl⟩
  · have h3 : 4 < hgt (ln L) (ch L) (pa L) 5 p + 1 + hgt (ln L) (pa L) (ch L) 5 c := nge_nI (b := 4) (by omega) (by decide) h1
    refine X_iconst (v := 1) dX11_isDeep_17 (by decide) ?_
    refine X_goto (tgt := 22) dX11_isDeep_18 (by decide) ?_
    refine X_ireturn dX11_isDeep_22 rfl rfl ?_
    first
      | exact ⟨rI (by rw [deepB, decide_eq_true h3]; rfl), rfl⟩
      | exact ⟨rI (by rw [deepB, decide_eq_false h3]; rfl), rfl⟩
set_option maxRecDepth 20000 in
theorem m_meets (h9 : M0 w t np nl no nm nw en) {L : LSt} (hL : ML G.2.2.1 w L) (hnl : ln L = nl) (hI : LI np L) (p k a b o c : Nat) (hp : p < 16) (hk : k ≤ 6) (ha : a ≤ 999) (hb9 : b ≤ 999) (ho : o ≤ 4) (hc : c < 16) : XC G mX11_meets 1 0 0 [.ref (w.1 39), .int (nI p), .int (nI k), .int (nI a), .int (nI b), .int (nI o - 1), .int (nI c)] w (fun r w' => r = .inl (some (.int (bI (anyB (colB L p k a b o c) nl)))) ∧ w' = w) := by
  have h16 := hI.1
  have h40 := hI.2.1
  refine XC.of (lo0 := [(0, .ref (w.1 39)), (1, .int (nI p)), (2, .int (nI k)), (3, .int (nI a)), (4, .int (nI b)), (5, .int (nI o - 1)), (6, .int (nI c))]) kmX11_meets (Nat.le_of_ble_eq_true rfl) rfl ?_
  have hloop : ∀ (n : Nat) (l : Nat), nl - l < n → l ≤ nl → (∀ j, j < l → colB L p k a b o c j = false) → XJ G mX11_meets 1 0 0 3 [(0, .ref (w.1 39)), (1, .int (nI p)), (2, .int (nI k)), (3, .int (nI a)), (4, .int (nI b)), (5, .int (nI o - 1)), (6, .int (nI c)), (7, .int (nI l))] [] w (fun r w' => r = .inl (some (.int (bI (anyB (colB L p k a b o c) nl)))) ∧ w' = w) := by
    intro n
    induction n with
    | zero => intro l hm hl hn; exact absurd hm (Nat.not_lt_zero _)
    | succ n ih =>
      intro l hm hl hn
      refine X_iload dX11_meets_3 (i := 7) rfl ?_
      refine X_aload_n dX11_meets_5 (i := 0) rfl rfl ?_
      refine X_get (i := 39) h9 rfl (ci := 10) rfl in11 (k := 2) (by decide) fX11_93 rfl dX11_meets_6 ?_
      refine X_icmp_ge (tgt := 116) dX11_meets_9 (by decide) (fun h1 => ?_) (fun h1 => ?_)
      · have g1 : l = nl := by have := ge_nI (a := nl) (by omega) (by omega) h1; omega
        refine X_iconst (v := 0) dX11_meets_116 (by decide) ?_
        refine X_ireturn dX11_meets_117 rfl rfl ?_
        exact ⟨rI (by rw [anyB_f (f := colB L p k a b o c) (fun j hj => hn j (by omega))]; rfl), rfl⟩
      · have g1 : l < nl := nge_nI (a := nl) (by omega) (by omega) h1
        have hb := hI.2.2 l (by omega)
        refine X_aload_n dX11_meets_12 (i := 0) rfl rfl ?_
        refine X_get (i := 39) h9 rfl (ci := 10) rfl in11 (k := 10) (by decide) fX11_19 rfl dX11_meets_13 ?_
        refine X_iload dX11_meets_16 (i := 7) rfl ?_
        refine X_iald (i := 43) hL.1 rfl rfl (by omega) (by decide) dX11_meets_18 ?_
        refine X_iload_n dX11_meets_19 (i := 1) rfl rfl ?_
        refine X_icmp_ne (tgt := 110) dX11_meets_20 (by decide) (fun h2 => ?_) (fun h2 => ?_)
        · have g2 : ¬ pa L l = p := fun h => h2 (by show nI (pa L l) = nI p; rw [h])
          refine X_iinc (i := 7) (v := nI (l + 1)) (lo' := [(7, _), (0, _), (1, _), (2, _), (3, _), (4, _), (5, _), (6, _)]) dX11_meets_110 rfl (nI_inc l) (by decide) rfl ?_
          refine X_goto (tgt := 3) dX11_meets_113 (by decide) ?_
          first
            | exact XJ.lcs (lo' := [(0, .ref (w.1 39)), (1, .int (nI p)), (2, .int (nI k)), (3, .int (nI a)), (4, .int (nI b)), (5, .int (nI o - 1)), (6, .int (nI c)), (7, .int (nI (l + 1)))]) ⟨rfl, rfl, rfl, rfl, rfl, rfl, rfl, rfl, trivial⟩ (ih (l + 1) (by omega) (by omega) (fun j hj => by rcases Nat.lt_or_ge j l with h | h; exact hn j h; rw [show j = l by omega, colB, decide_eq_false g2, Bool.false_and, Bool.false_and]))
            | exact XJ.lcs (lo' := [(0, .ref (w.1 39)), (1, .int (nI p)), (2, .int (nI k)), (3, .int (nI a)), (4, .int (nI b)), (5, .int (nI o - 1)), (6, .int (nI c)), (7, .int (nI (l + 1)))]) ⟨rfl, rfl, rfl, rfl, rfl, rfl, rfl, rfl, trivial⟩ (ih (l + 1) (by omega) (by omega) (fun j hj => by rcases Nat.lt_or_ge j l with h | h; exact hn j h; rw [show j = l by omega, colB, decide_eq_false g3, Bool.and_false, Bool.false_and]))
            | exact XJ.lcs (lo' := [(0, .ref (w.1 39)), (1, .int (nI p)), (2, .int (nI k)), (3, .int (nI a)), (4, .int (nI b)), (5, .int (nI o - 1)), (6, .int (nI c)), (7, .int (nI (l + 1)))]) ⟨rfl, rfl, rfl, rfl, rfl, rfl, rfl, rfl, trivial⟩ (ih (l + 1) (by omega) (by omega) (fun j hj => by rcases Nat.lt_or_ge j l with h | h; exact hn j h; rw [show j = l by omega, colB, decide_eq_false g4, Bool.false_and, Bool.false_and, Bool.and_false]))
            | exact XJ.lcs (lo' := [(0, .ref (w.1 39)), (1, .int (nI p)), (2, .int (nI k)), (3, .int (nI a)), (4, .int (nI b)), (5, .int (nI o - 1)), (6, .int (nI c)), (7, .int (nI (l + 1)))]) ⟨rfl, rfl, rfl, rfl, rfl, rfl, rfl, rfl, trivial⟩ (ih (l + 1) (by omega) (by omega) (fun j hj => by rcases Nat.lt_or_ge j l with h | h; exact hn j h; rw [show j = l by omega, colB, decide_eq_false g5, Bool.and_false, Bool.false_and, Bool.and_false]))
            | exact XJ.lcs (lo' := [(0, .ref (w.1 39)), (1, .int (nI p)), (2, .int (nI k)), (3, .int (nI a)), (4, .int (nI b)), (5, .int (nI o - 1)), (6, .int (nI c)), (7, .int (nI (l + 1)))]) ⟨rfl, rfl, rfl, rfl, rfl, rfl, rfl, rfl, trivial⟩ (ih (l + 1) (by omega) (by omega) (fun j hj => by rcases Nat.lt_or_ge j l with h | h; exact hn j h; rw [show j = l by omega, colB, decide_eq_true g8, decide_eq_true g7, decide_eq_true (show op L l ≠ 0 from g6)]; simp []))
        · have g2 : pa L l = p := (nI_eq (by omega) (by omega)).mp h2
          refine X_aload_n dX11_meets_23 (i := 0) rfl rfl ?_
          refine X_get (i := 39) h9 rfl (ci := 10) rfl in11 (k := 11) (by decide) fX11_22 rfl dX11_meets_24 ?_
          refine X_iload dX11_meets_27 (i := 7) rfl ?_
          refine X_iald (i := 44) hL.2.1 rfl rfl (by omega) (by decide) dX11_meets_29 ?_
          refine X_iload_n dX11_meets_30 (i := 2) rfl rfl ?_
          refine X_icmp_ne (tgt := 110) dX11_meets_31 (by decide) (fun h3 => ?_) (fun h3 => ?_)
          · have g3 : ¬ po L l = k := fun h => h3 (by show nI (po L l) = nI k; rw [h])
            refine X_iinc (i := 7) (v := nI (l + 1)) (lo' := [(7, _), (0, _), (1, _), (2, _), (3, _), (4, _), (5, _), (6, _)]) dX11_meets_110 rfl (nI_inc l) (by decide) rfl ?_
            refine X_goto (tgt := 3) dX11_meets_113 (by decide) ?_
            first
              | exact XJ.lcs (lo' := [(0, .ref (w.1 39)), (1, .int (nI p)), (2, .int (nI k)), (3, .int (nI a)), (4, .int (nI b)), (5, .int (nI o - 1)), (6, .int (nI c)), (7, .int (nI (l + 1)))]) ⟨rfl, rfl, rfl, rfl, rfl, rfl, rfl, rfl, trivial⟩ (ih (l + 1) (by omega) (by omega) (fun j hj => by rcases Nat.lt_or_ge j l with h | h; exact hn j h; rw [show j = l by omega, colB, decide_eq_false g2, Bool.false_and, Bool.false_and]))
              | exact XJ.lcs (lo' := [(0, .ref (w.1 39)), (1, .int (nI p)), (2, .int (nI k)), (3, .int (nI a)), (4, .int (nI b)), (5, .int (nI o - 1)), (6, .int (nI c)), (7, .int (nI (l + 1)))]) ⟨rfl, rfl, rfl, rfl, rfl, rfl, rfl, rfl, trivial⟩ (ih (l + 1) (by omega) (by omega) (fun j hj => by rcases Nat.lt_or_ge j l with h | h; exact hn j h; rw [show j = l by omega, colB, decide_eq_false g3, Bool.and_false, Bool.false_and]))
              | exact XJ.lcs (lo' := [(0, .ref (w.1 39)), (1, .int (nI p)), (2, .int (nI k)), (3, .int (nI a)), (4, .int (nI b)), (5, .int (nI o - 1)), (6, .int (nI c)), (7, .int (nI (l + 1)))]) ⟨rfl, rfl, rfl, rfl, rfl, rfl, rfl, rfl, trivial⟩ (ih (l + 1) (by omega) (by omega) (fun j hj => by rcases Nat.lt_or_ge j l with h | h; exact hn j h; rw [show j = l by omega, colB, decide_eq_false g4, Bool.false_and, Bool.false_and, Bool.and_false]))
              | exact XJ.lcs (lo' := [(0, .ref (w.1 39)), (1, .int (nI p)), (2, .int (nI k)), (3, .int (nI a)), (4, .int (nI b)), (5, .int (nI o - 1)), (6, .int (nI c)), (7, .int (nI (l + 1)))]) ⟨rfl, rfl, rfl, rfl, rfl, rfl, rfl, rfl, trivial⟩ (ih (l + 1) (by omega) (by omega) (fun j hj => by rcases Nat.lt_or_ge j l with h | h; exact hn j h; rw [show j = l by omega, colB, decide_eq_false g5, Bool.and_false, Bool.false_and, Bool.and_false]))
              | exact XJ.lcs (lo' := [(0, .ref (w.1 39)), (1, .int (nI p)), (2, .int (nI k)), (3, .int (nI a)), (4, .int (nI b)), (5, .int (nI o - 1)), (6, .int (nI c)), (7, .int (nI (l + 1)))]) ⟨rfl, rfl, rfl, rfl, rfl, rfl, rfl, rfl, trivial⟩ (ih (l + 1) (by omega) (by omega) (fun j hj => by rcases Nat.lt_or_ge j l with h | h; exact hn j h; rw [show j = l by omega, colB, decide_eq_true g8, decide_eq_true g7, decide_eq_true (show op L l ≠ 0 from g6)]; simp []))
          · have g3 : po L l = k := (nI_eq (by omega) (by omega)).mp h3
            refine X_aload_n dX11_meets_34 (i := 0) rfl rfl ?_
            refine X_get (i := 39) h9 rfl (ci := 10) rfl in11 (k := 14) (by decide) fX11_31 rfl dX11_meets_35 ?_
            refine X_iload dX11_meets_38 (i := 7) rfl ?_
            refine X_iald (i := 47) hL.2.2.2.2.1 rfl rfl (by omega) (by decide) dX11_meets_40 ?_
            refine X_iload dX11_meets_41 (i := 4) rfl ?_
            refine X_icmp_gt (tgt := 110) dX11_meets_43 (by decide) (fun h4 => ?_) (fun h4 => ?_)
            · have g4 : ¬ fi L l ≤ b := by have := lt_nI (by omega) (by omega) h4; omega
              refine X_iinc (i := 7) (v := nI (l + 1)) (lo' := [(7, _), (0, _), (1, _), (2, _), (3, _), (4, _), (5, _), (6, _)]) dX11_meets_110 rfl (nI_inc l) (by decide) rfl ?_
              refine X_goto (tgt := 3) dX11_meets_113 (by decide) ?_
              first
                | exact XJ.lcs (lo' := [(0, .ref (w.1 39)), (1, .int (nI p)), (2, .int (nI k)), (3, .int (nI a)), (4, .int (nI b)), (5, .int (nI o - 1)), (6, .int (nI c)), (7, .int (nI (l + 1)))]) ⟨rfl, rfl, rfl, rfl, rfl, rfl, rfl, rfl, trivial⟩ (ih (l + 1) (by omega) (by omega) (fun j hj => by rcases Nat.lt_or_ge j l with h | h; exact hn j h; rw [show j = l by omega, colB, decide_eq_false g2, Bool.false_and, Bool.false_and]))
                | exact XJ.lcs (lo' := [(0, .ref (w.1 39)), (1, .int (nI p)), (2, .int (nI k)), (3, .int (nI a)), (4, .int (nI b)), (5, .int (nI o - 1)), (6, .int (nI c)), (7, .int (nI (l + 1)))]) ⟨rfl, rfl, rfl, rfl, rfl, rfl, rfl, rfl, trivial⟩ (ih (l + 1) (by omega) (by omega) (fun j hj => by rcases Nat.lt_or_ge j l with h | h; exact hn j h; rw [show j = l by omega, colB, decide_eq_false g3, Bool.and_false, Bool.false_and]))
                | exact XJ.lcs (lo' := [(0, .ref (w.1 39)), (1, .int (nI p)), (2, .int (nI k)), (3, .int (nI a)), (4, .int (nI b)), (5, .int (nI o - 1)), (6, .int (nI c)), (7, .int (nI (l + 1)))]) ⟨rfl, rfl, rfl, rfl, rfl, rfl, rfl, rfl, trivial⟩ (ih (l + 1) (by omega) (by omega) (fun j hj => by rcases Nat.lt_or_ge j l with h | h; exact hn j h; rw [show j = l by omega, colB, decide_eq_false g4, Bool.false_and, Bool.false_and, Bool.and_false]))
                | exact XJ.lcs (lo' := [(0, .ref (w.1 39)), (1, .int (nI p)), (2, .int (nI k)), (3, .int (nI a)), (4, .int (nI b)), (5, .int (nI o - 1)), (6, .int (nI c)), (7, .int (nI (l + 1)))]) ⟨rfl, rfl, rfl, rfl, rfl, rfl, rfl, rfl, trivial⟩ (ih (l + 1) (by omega) (by omega) (fun j hj => by rcases Nat.lt_or_ge j l with h | h; exact hn j h; rw [show j = l by omega, colB, decide_eq_false g5, Bool.and_false, Bool.false_and, Bool.and_false]))
                | exact XJ.lcs (lo' := [(0, .ref (w.1 39)), (1, .int (nI p)), (2, .int (nI k)), (3, .int (nI a)), (4, .int (nI b)), (5, .int (nI o - 1)), (6, .int (nI c)), (7, .int (nI (l + 1)))]) ⟨rfl, rfl, rfl, rfl, rfl, rfl, rfl, rfl, trivial⟩ (ih (l + 1) (by omega) (by omega) (fun j hj => by rcases Nat.lt_or_ge j l with h | h; exact hn j h; rw [show j = l by omega, colB, decide_eq_true g8, decide_eq_true g7, decide_eq_true (show op L l ≠ 0 from g6)]; simp []))
            · have g4 : fi L l ≤ b := nlt_nI (by omega) (by omega) h4
              refine X_iload_n dX11_meets_46 (i := 3) rfl rfl ?_
              refine X_aload_n dX11_meets_47 (i := 0) rfl rfl ?_
              refine X_get (i := 39) h9 rfl (ci := 10) rfl in11 (k := 15) (by decide) fX11_34 rfl dX11_meets_48 ?_
              refine X_iload dX11_meets_51 (i := 7) rfl ?_
              refine X_iald (i := 48) hL.2.2.2.2.2.1 rfl rfl (by omega) (by decide) dX11_meets_53 ?_
              refine X_icmp_le (tgt := 60) dX11_meets_54 (by decide) (fun h5 => ?_) (fun h5 => ?_)
              · have g5 : a ≤ la L l := ge_nI (by omega) (by omega) h5
                refine X_aload_n dX11_meets_60 (i := 0) rfl rfl ?_
                refine X_get (i := 39) h9 rfl (ci := 10) rfl in11 (k := 17) (by decide) fX11_40 rfl dX11_meets_61 ?_
                refine X_iload dX11_meets_64 (i := 7) rfl ?_
                refine X_iald (i := 50) hL.2.2.2.2.2.2.2.1 rfl rfl (by omega) (by decide) dX11_meets_66 ?_
                refine X_iconst (v := -1) dX11_meets_67 (by decide) ?_
                refine X_icmp_eq (tgt := 100) dX11_meets_68 (by decide) (fun h6 => ?_) (fun h6 => ?_)
                · have g6 : op L l = 0 := (opm (by omega)).mp h6
                  refine X_iconst (v := 0) dX11_meets_100 (by decide) ?_
                  refine X_istore (i := 8) (lo' := [(8, _), (0, _), (1, _), (2, _), (3, _), (4, _), (5, _), (6, _), (7, _)]) dX11_meets_101 (by decide) rfl ?_
                  refine X_iload dX11_meets_103 (i := 8) rfl ?_
                  refine X_if_ne (tgt := 110) dX11_meets_105 (by decide) (fun h => absurd h (by decide)) (fun _ => ?_)
                  refine X_iconst (v := 1) dX11_meets_108 (by decide) ?_
                  refine X_ireturn dX11_meets_109 rfl rfl ?_
                  first
                    | exact ⟨rI (by rw [anyB_t (f := colB L p k a b o c) g1 (by rw [colB, decide_eq_true g2, decide_eq_true g3, decide_eq_true g4, decide_eq_true g5, decide_eq_false (show ¬ op L l ≠ 0 from fun h => h g6)]; rfl)]; rfl), rfl⟩
                    | exact ⟨rI (by rw [anyB_t (f := colB L p k a b o c) g1 (by rw [colB, decide_eq_true g2, decide_eq_true g3, decide_eq_true g4, decide_eq_true g5, decide_eq_false g7, Bool.false_and, Bool.and_false]; rfl)]; rfl), rfl⟩
                    | exact ⟨rI (by rw [anyB_t (f := colB L p k a b o c) g1 (by rw [colB, decide_eq_true g2, decide_eq_true g3, decide_eq_true g4, decide_eq_true g5, decide_eq_false g8, Bool.and_false, Bool.and_false]; rfl)]; rfl), rfl⟩
                · have g6 : ¬ op L l = 0 := fun h => h6 ((opm (by omega)).mpr h)
                  refine X_aload_n dX11_meets_71 (i := 0) rfl rfl ?_
                  refine X_get (i := 39) h9 rfl (ci := 10) rfl in11 (k := 17) (by decide) fX11_40 rfl dX11_meets_72 ?_
                  refine X_iload dX11_meets_75 (i := 7) rfl ?_
                  refine X_iald (i := 50) hL.2.2.2.2.2.2.2.1 rfl rfl (by omega) (by decide) dX11_meets_77 ?_
                  refine X_iload dX11_meets_78 (i := 5) rfl ?_
                  refine X_icmp_ne (tgt := 100) dX11_meets_80 (by decide) (fun h7 => ?_) (fun h7 => ?_)
                  · have g7 : ¬ op L l = o := fun h => h7 ((opm_eq (by omega) ho).mpr h)
                    refine X_iconst (v := 0) dX11_meets_100 (by decide) ?_
                    refine X_istore (i := 8) (lo' := [(8, _), (0, _), (1, _), (2, _), (3, _), (4, _), (5, _), (6, _), (7, _)]) dX11_meets_101 (by decide) rfl ?_
                    refine X_iload dX11_meets_103 (i := 8) rfl ?_
                    refine X_if_ne (tgt := 110) dX11_meets_105 (by decide) (fun h => absurd h (by decide)) (fun _ => ?_)
                    refine X_iconst (v := 1) dX11_meets_108 (by decide) ?_
                    refine X_ireturn dX11_meets_109 rfl rfl ?_
                    first
                      | exact ⟨rI (by rw [anyB_t (f := colB L p k a b o c) g1 (by rw [colB, decide_eq_true g2, decide_eq_true g3, decide_eq_true g4, decide_eq_true g5, decide_eq_false (show ¬ op L l ≠ 0 from fun h => h g6)]; rfl)]; rfl), rfl⟩
                      | exact ⟨rI (by rw [anyB_t (f := colB L p k a b o c) g1 (by rw [colB, decide_eq_true g2, decide_eq_true g3, decide_eq_true g4, decide_eq_true g5, decide_eq_false g7, Bool.false_and, Bool.and_false]; rfl)]; rfl), rfl⟩
                      | exact ⟨rI (by rw [anyB_t (f := colB L p k a b o c) g1 (by rw [colB, decide_eq_true g2, decide_eq_true g3, decide_eq_true g4, decide_eq_true g5, decide_eq_false g8, Bool.and_false, Bool.and_false]; rfl)]; rfl), rfl⟩
                  · have g7 : op L l = o := (opm_eq (by omega) ho).mp h7
                    refine X_aload_n dX11_meets_83 (i := 0) rfl rfl ?_
                    refine X_get (i := 39) h9 rfl (ci := 10) rfl in11 (k := 18) (by decide) fX11_43 rfl dX11_meets_84 ?_
                    refine X_iload dX11_meets_87 (i := 7) rfl ?_
                    refine X_iald (i := 51) hL.2.2.2.2.2.2.2.2 rfl rfl (by omega) (by decide) dX11_meets_89 ?_
                    refine X_iload dX11_meets_90 (i := 6) rfl ?_
                    refine X_iand dX11_meets_92 ?_
                    refine XJ.top (v' := .int (nI (cs L l &&& c))) (by rw [← nI_and]; rfl) ?_
                    refine X_if_ne (tgt := 100) dX11_meets_93 (by decide) (fun h8 => ?_) (fun h8 => ?_)
                    · have g8 : ¬ cs L l &&& c = 0 := fun h => h8 (by rw [h]; rfl)
                      refine X_iconst (v := 0) dX11_meets_100 (by decide) ?_
                      refine X_istore (i := 8) (lo' := [(8, _), (0, _), (1, _), (2, _), (3, _), (4, _), (5, _), (6, _), (7, _)]) dX11_meets_101 (by decide) rfl ?_
                      refine X_iload dX11_meets_103 (i := 8) rfl ?_
                      refine X_if_ne (tgt := 110) dX11_meets_105 (by decide) (fun h => absurd h (by decide)) (fun _ => ?_)
                      refine X_iconst (v := 1) dX11_meets_108 (by decide) ?_
                      refine X_ireturn dX11_meets_109 rfl rfl ?_
                      first
                        | exact ⟨rI (by rw [anyB_t (f := colB L p k a b o c) g1 (by rw [colB, decide_eq_true g2, decide_eq_true g3, decide_eq_true g4, decide_eq_true g5, decide_eq_false (show ¬ op L l ≠ 0 from fun h => h g6)]; rfl)]; rfl), rfl⟩
                        | exact ⟨rI (by rw [anyB_t (f := colB L p k a b o c) g1 (by rw [colB, decide_eq_true g2, decide_eq_true g3, decide_eq_true g4, decide_eq_true g5, decide_eq_false g7, Bool.false_and, Bool.and_false]; rfl)]; rfl), rfl⟩
                        | exact ⟨rI (by rw [anyB_t (f := colB L p k a b o c) g1 (by rw [colB, decide_eq_true g2, decide_eq_true g3, decide_eq_true g4, decide_eq_true g5, decide_eq_false g8, Bool.and_false, Bool.and_false]; rfl)]; rfl), rfl⟩
                    · have g8 : cs L l &&& c = 0 := (nI_eq (by have := @Nat.and_le_right (cs L l) c; omega) (by decide)).mp h8
                      refine X_iconst (v := 1) dX11_meets_96 (by decide) ?_
                      refine X_goto (tgt := 101) dX11_meets_97 (by decide) ?_
                      refine X_istore (i := 8) (lo' := [(8, _), (0, _), (1, _), (2, _), (3, _), (4, _), (5, _), (6, _), (7, _)]) dX11_meets_101 (by decide) rfl ?_
                      refine X_iload dX11_meets_103 (i := 8) rfl ?_
                      refine X_if_ne (tgt := 110) dX11_meets_105 (by decide) (fun _ => ?_) (fun h => absurd h (by decide))
                      refine X_iinc (i := 7) (v := nI (l + 1)) (lo' := [(7, _), (8, _), (0, _), (1, _), (2, _), (3, _), (4, _), (5, _), (6, _)]) dX11_meets_110 rfl (nI_inc l) (by decide) rfl ?_
                      refine X_goto (tgt := 3) dX11_meets_113 (by decide) ?_
                      first
                        | exact XJ.lcs (lo' := [(0, .ref (w.1 39)), (1, .int (nI p)), (2, .int (nI k)), (3, .int (nI a)), (4, .int (nI b)), (5, .int (nI o - 1)), (6, .int (nI c)), (7, .int (nI (l + 1)))]) ⟨rfl, rfl, rfl, rfl, rfl, rfl, rfl, rfl, trivial⟩ (ih (l + 1) (by omega) (by omega) (fun j hj => by rcases Nat.lt_or_ge j l with h | h; exact hn j h; rw [show j = l by omega, colB, decide_eq_false g2, Bool.false_and, Bool.false_and]))
                        | exact XJ.lcs (lo' := [(0, .ref (w.1 39)), (1, .int (nI p)), (2, .int (nI k)), (3, .int (nI a)), (4, .int (nI b)), (5, .int (nI o - 1)), (6, .int (nI c)), (7, .int (nI (l + 1)))]) ⟨rfl, rfl, rfl, rfl, rfl, rfl, rfl, rfl, trivial⟩ (ih (l + 1) (by omega) (by omega) (fun j hj => by rcases Nat.lt_or_ge j l with h | h; exact hn j h; rw [show j = l by omega, colB, decide_eq_false g3, Bool.and_false, Bool.false_and]))
                        | exact XJ.lcs (lo' := [(0, .ref (w.1 39)), (1, .int (nI p)), (2, .int (nI k)), (3, .int (nI a)), (4, .int (nI b)), (5, .int (nI o - 1)), (6, .int (nI c)), (7, .int (nI (l + 1)))]) ⟨rfl, rfl, rfl, rfl, rfl, rfl, rfl, rfl, trivial⟩ (ih (l + 1) (by omega) (by omega) (fun j hj => by rcases Nat.lt_or_ge j l with h | h; exact hn j h; rw [show j = l by omega, colB, decide_eq_false g4, Bool.false_and, Bool.false_and, Bool.and_false]))
                        | exact XJ.lcs (lo' := [(0, .ref (w.1 39)), (1, .int (nI p)), (2, .int (nI k)), (3, .int (nI a)), (4, .int (nI b)), (5, .int (nI o - 1)), (6, .int (nI c)), (7, .int (nI (l + 1)))]) ⟨rfl, rfl, rfl, rfl, rfl, rfl, rfl, rfl, trivial⟩ (ih (l + 1) (by omega) (by omega) (fun j hj => by rcases Nat.lt_or_ge j l with h | h; exact hn j h; rw [show j = l by omega, colB, decide_eq_false g5, Bool.and_false, Bool.false_and, Bool.and_false]))
                        | exact XJ.lcs (lo' := [(0, .ref (w.1 39)), (1, .int (nI p)), (2, .int (nI k)), (3, .int (nI a)), (4, .int (nI b)), (5, .int (nI o - 1)), (6, .int (nI c)), (7, .int (nI (l + 1)))]) ⟨rfl, rfl, rfl, rfl, rfl, rfl, rfl, rfl, trivial⟩ (ih (l + 1) (by omega) (by omega) (fun j hj => by rcases Nat.lt_or_ge j l with h | h; exact hn j h; rw [show j = l by omega, colB, decide_eq_true g8, decide_eq_true g7, decide_eq_true (show op L l ≠ 0 from g6)]; simp []))
              · have g5 : ¬ a ≤ la L l := by have := nge_nI (by omega) (by omega) h5; omega
                refine X_goto (tgt := 110) dX11_meets_57 (by decide) ?_
                refine X_iinc (i := 7) (v := nI (l + 1)) (lo' := [(7, _), (0, _), (1, _), (2, _), (3, _), (4, _), (5, _), (6, _)]) dX11_meets_110 rfl (nI_inc l) (by decide) rfl ?_
                refine X_goto (tgt := 3) dX11_meets_113 (by decide) ?_
                first
                  | exact XJ.lcs (lo' := [(0, .ref (w.1 39)), (1, .int (nI p)), (2, .int (nI k)), (3, .int (nI a)), (4, .int (nI b)), (5, .int (nI o - 1)), (6, .int (nI c)), (7, .int (nI (l + 1)))]) ⟨rfl, rfl, rfl, rfl, rfl, rfl, rfl, rfl, trivial⟩ (ih (l + 1) (by omega) (by omega) (fun j hj => by rcases Nat.lt_or_ge j l with h | h; exact hn j h; rw [show j = l by omega, colB, decide_eq_false g2, Bool.false_and, Bool.false_and]))
                  | exact XJ.lcs (lo' := [(0, .ref (w.1 39)), (1, .int (nI p)), (2, .int (nI k)), (3, .int (nI a)), (4, .int (nI b)), (5, .int (nI o - 1)), (6, .int (nI c)), (7, .int (nI (l + 1)))]) ⟨rfl, rfl, rfl, rfl, rfl, rfl, rfl, rfl, trivial⟩ (ih (l + 1) (by omega) (by omega) (fun j hj => by rcases Nat.lt_or_ge j l with h | h; exact hn j h; rw [show j = l by omega, colB, decide_eq_false g3, Bool.and_false, Bool.false_and]))
                  | exact XJ.lcs (lo' := [(0, .ref (w.1 39)), (1, .int (nI p)), (2, .int (nI k)), (3, .int (nI a)), (4, .int (nI b)), (5, .int (nI o - 1)), (6, .int (nI c)), (7, .int (nI (l + 1)))]) ⟨rfl, rfl, rfl, rfl, rfl, rfl, rfl, rfl, trivial⟩ (ih (l + 1) (by omega) (by omega) (fun j hj => by rcases Nat.lt_or_ge j l with h | h; exact hn j h; rw [show j = l by omega, colB, decide_eq_false g4, Bool.false_and, Bool.false_and, Bool.and_false]))
                  | exact XJ.lcs (lo' := [(0, .ref (w.1 39)), (1, .int (nI p)), (2, .int (nI k)), (3, .int (nI a)), (4, .int (nI b)), (5, .int (nI o - 1)), (6, .int (nI c)), (7, .int (nI (l + 1)))]) ⟨rfl, rfl, rfl, rfl, rfl, rfl, rfl, rfl, trivial⟩ (ih (l + 1) (by omega) (by omega) (fun j hj => by rcases Nat.lt_or_ge j l with h | h; exact hn j h; rw [show j = l by omega, colB, decide_eq_false g5, Bool.and_false, Bool.false_and, Bool.and_false]))
                  | exact XJ.lcs (lo' := [(0, .ref (w.1 39)), (1, .int (nI p)), (2, .int (nI k)), (3, .int (nI a)), (4, .int (nI b)), (5, .int (nI o - 1)), (6, .int (nI c)), (7, .int (nI (l + 1)))]) ⟨rfl, rfl, rfl, rfl, rfl, rfl, rfl, rfl, trivial⟩ (ih (l + 1) (by omega) (by omega) (fun j hj => by rcases Nat.lt_or_ge j l with h | h; exact hn j h; rw [show j = l by omega, colB, decide_eq_true g8, decide_eq_true g7, decide_eq_true (show op L l ≠ 0 from g6)]; simp []))
  refine X_iconst (v := 0) dX11_meets_0 (by decide) ?_
  refine X_istore (i := 7) (lo' := [(7, _), (0, _), (1, _), (2, _), (3, _), (4, _), (5, _), (6, _)]) dX11_meets_1 (by decide) rfl ?_
  exact XJ.lcs (lo' := [(0, .ref (w.1 39)), (1, .int (nI p)), (2, .int (nI k)), (3, .int (nI a)), (4, .int (nI b)), (5, .int (nI o - 1)), (6, .int (nI c)), (7, .int (nI 0))]) ⟨rfl, rfl, rfl, rfl, rfl, rfl, rfl, rfl, trivial⟩ (hloop (nl + 1) 0 (by omega) (by omega) (fun j hj => absurd hj (by omega)))
end NewM
