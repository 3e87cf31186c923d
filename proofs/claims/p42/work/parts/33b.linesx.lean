/-! LINES of the class (walks by gen/spec33.py) -/
section LinesX
variable {G : Gx} {w : Wd}
set_option maxRecDepth 20000 in
theorem c_checkNoCircle {mp cf np : Nat} {L : LSt} (h0 : X0 w mp cf) (hB : XB w) (hL : XL G.2.2.1 w L) (hS : XS G.2.2.1 w L) (hI : LI np L) (p c : Nat) (hp : p < 16) (hc : c < 16) : XC G mX10_checkNoCircle 6 1 6 [.ref (w.1 0), .int (nI p), .int (nI c)] w (fun r w' => r = rOK (!rchB (ln L) (pa L) (ch L) 5 c p) eUOE ∧ w' = w) := by
  have h16 := hI.1
  have h40 := hI.2.1
  refine XC.of (lo0 := [(0, .ref (w.1 0)), (1, .int (nI p)), (2, .int (nI c))]) kmX10_checkNoCircle (Nat.le_of_ble_eq_true rfl) rfl ?_
  refine X_aload_n dX10_checkNoCircle_0 (i := 0) rfl rfl ?_
  refine X_get (i := 0) h0 rfl (ci := 9) rfl in10 (k := 0) (by decide) fX10_10 rfl dX10_checkNoCircle_1 ?_
  refine X_iload_n dX10_checkNoCircle_4 (i := 1) rfl rfl ?_
  refine X_iload_n dX10_checkNoCircle_5 (i := 2) rfl rfl ?_
  refine X_callV (gc2 := 1) (gs2 := 6) (c_isWithin p c hp hc hB hS.1 (fun p _ => cset_lt hI p)) (i := 1) hB rfl rfl kmX0_isWithin rfl lX10_356 iX0_isWithin vX0_isWithin rfl rfl (Nat.le_of_ble_eq_true rfl) (by decide) dX10_checkNoCircle_6 (by decide) (by decide) (fun E w1 hq => nomatch hq.1) (fun v w1 hq => ?_)
  have hv := hq.1
  obtain rfl := hq.2.symm
  cases hv
  refine XJ.top (v' := .int (bI (rchB (ln L) (pa L) (ch L) 5 c p))) (by rw [rch_rchB (cset_RS hI)]) ?_
  refine X_if_eq (tgt := 23) dX10_checkNoCircle_9 (by decide) (fun h1 => ?_) (fun h1 => ?_)
  · refine X_vreturn dX10_checkNoCircle_23 rfl ?_
    exact ⟨rOK_t (by rw [bI_eq h1]; rfl), rfl⟩
  · refine X_throwSW (text := "the line would be a circle") thr_UnsupportedOperationException (by decide +kernel) rfl dX10_checkNoCircle_12 dX10_checkNoCircle_15 dX10_checkNoCircle_16 dX10_checkNoCircle_19 dX10_checkNoCircle_22 (Nat.le_of_ble_eq_true rfl) (by decide) (by decide) (by decide) ?_
    exact ⟨rOK_f (by rw [bI_ne h1]; rfl), rfl⟩
set_option maxRecDepth 20000 in
theorem c_checkRoom {mp cf np : Nat} {L : LSt} (h0 : X0 w mp cf) (hB : XB w) (hL : XL G.2.2.1 w L) (hS : XS G.2.2.1 w L) (hI : LI np L) (p c : Nat) (hp : p < 16) (hc : c < 16) : XC G mX10_checkRoomForLine 6 1 6 [.ref (w.1 0), .int (nI p), .int (nI c)] w (fun r w' => r = rOK (!(deepB L p c || decide (ln L = 40))) eISE ∧ w' = w) := by
  have h16 := hI.1
  have h40 := hI.2.1
  refine XC.of (lo0 := [(0, .ref (w.1 0)), (1, .int (nI p)), (2, .int (nI c))]) kmX10_checkRoomForLine (Nat.le_of_ble_eq_true rfl) rfl ?_
  refine X_aload_n dX10_checkRoomForLine_0 (i := 0) rfl rfl ?_
  refine X_get (i := 0) h0 rfl (ci := 9) rfl in10 (k := 0) (by decide) fX10_10 rfl dX10_checkRoomForLine_1 ?_
  refine X_iload_n dX10_checkRoomForLine_4 (i := 1) rfl rfl ?_
  refine X_callV (gc2 := 1) (gs2 := 6) (c_levelsAbove p hp hB hS.2 (fun p _ => pset_lt hI p)) (i := 1) hB rfl rfl kmX0_levelsAbove rfl lX10_365 iX0_levelsAbove vX0_levelsAbove rfl rfl (Nat.le_of_ble_eq_true rfl) (by decide) dX10_checkRoomForLine_5 (by decide) (by decide) (fun E w1 hq => nomatch hq.1) (fun v w1 hq => ?_)
  have hv := hq.1
  obtain rfl := hq.2.symm
  cases hv
  refine XJ.top (v' := .int (nI (hgt (ln L) (ch L) (pa L) 5 p))) (by rw [stp_hgt (pset_RS hI) hp]) ?_
  refine X_iconst (v := 1) dX10_checkRoomForLine_8 (by decide) ?_
  refine X_iadd dX10_checkRoomForLine_9 ?_
  refine XJ.top (v' := .int (nI (hgt (ln L) (ch L) (pa L) 5 p + 1))) (by rw [← nI_1]) ?_
  refine X_aload_n dX10_checkRoomForLine_10 (i := 0) rfl rfl ?_
  refine X_get (i := 0) h0 rfl (ci := 9) rfl in10 (k := 0) (by decide) fX10_10 rfl dX10_checkRoomForLine_11 ?_
  refine X_iload_n dX10_checkRoomForLine_14 (i := 2) rfl rfl ?_
  refine X_callV (gc2 := 1) (gs2 := 6) (c_levelsBelow c hc hB hS.1 (fun p _ => cset_lt hI p)) (i := 1) hB rfl rfl kmX0_levelsBelow rfl lX10_368 iX0_levelsBelow vX0_levelsBelow rfl rfl (Nat.le_of_ble_eq_true rfl) (by decide) dX10_checkRoomForLine_15 (by decide) (by decide) (fun E w1 hq => nomatch hq.1) (fun v w1 hq => ?_)
  have hv := hq.1
  obtain rfl := hq.2.symm
  cases hv
  refine XJ.top (v' := .int (nI (hgt (ln L) (pa L) (ch L) 5 c))) (by rw [stp_hgt (cset_RS hI) hc]) ?_
  refine X_iadd dX10_checkRoomForLine_18 ?_
  refine XJ.top (v' := .int (nI (hgt (ln L) (ch L) (pa L) 5 p + 1 + hgt (ln L) (pa L) (ch L) 5 c))) (by rw [nI_add]) ?_
  have a1 := hgt_le (n := ln L) (a := ch L) (b := pa L) 5 p
  have a2 := hgt_le (n := ln L) (a := pa L) (b := ch L) 5 c
  refine X_iconst (v := 4) dX10_checkRoomForLine_19 (by decide) ?_
  refine X_icmp_le (tgt := 34) dX10_checkRoomForLine_20 (by decide) (fun h1 => ?_) (fun h1 => ?_)
  · have h3 : deepB L p c = false := decide_eq_false (by have := ge_nI (b := 4) (by omega) (by decide) h1; omega)
    refine X_aload_n dX10_checkRoomForLine_34 (i := 0) rfl rfl ?_
    refine X_get (i := 0) h0 rfl (ci := 9) rfl in10 (k := 0) (by decide) fX10_10 rfl dX10_checkRoomForLine_35 ?_
    refine X_get (i := 1) hB rfl (ci := 0) rfl in0 (k := 1) (by decide) fX10_137 rfl dX10_checkRoomForLine_38 ?_
    refine X_get (i := 6) hL.1 rfl (ci := 3) rfl in4 (k := 9) (by decide) fX10_186 rfl dX10_checkRoomForLine_41 ?_
    refine X_bipush (v := 40) dX10_checkRoomForLine_44 (by decide) ?_
    refine X_icmp_lt (tgt := 60) dX10_checkRoomForLine_46 (by decide) (fun h2 => ?_) (fun h2 => ?_)
    · have h4 : ln L ≠ 40 := by have := lt_nI (b := 40) (by omega) (by decide) h2; omega
      refine X_vreturn dX10_checkRoomForLine_60 rfl ?_
      exact ⟨rOK_t (by rw [h3, decide_eq_false h4]; rfl), rfl⟩
    · have h4 : ln L = 40 := by have := nlt_nI (b := 40) (by omega) (by decide) h2; omega
      refine X_throwSW (text := "there are 40 lines") thr_IllegalStateException (by decide +kernel) rfl dX10_checkRoomForLine_49 dX10_checkRoomForLine_52 dX10_checkRoomForLine_53 dX10_checkRoomForLine_56 dX10_checkRoomForLine_59 (Nat.le_of_ble_eq_true rfl) (by decide) (by decide) (by decide) ?_
      first
        | exact ⟨rOK_f (by rw [h3, decide_eq_true h4]; rfl), rfl⟩
        | exact ⟨rOK_f (by rw [h3]; rfl), rfl⟩
  · have h3 : deepB L p c = true := decide_eq_true (nge_nI (b := 4) (by omega) (by decide) h1)
    refine X_throwSW (text := "the line would be too deep") thr_IllegalStateException (by decide +kernel) rfl dX10_checkRoomForLine_23 dX10_checkRoomForLine_26 dX10_checkRoomForLine_27 dX10_checkRoomForLine_30 dX10_checkRoomForLine_33 (Nat.le_of_ble_eq_true rfl) (by decide) (by decide) (by decide) ?_
    first
      | exact ⟨rOK_f (by rw [h3, decide_eq_true h4]; rfl), rfl⟩
      | exact ⟨rOK_f (by rw [h3]; rfl), rfl⟩
set_option maxRecDepth 20000 in
theorem c_checkUnique {mp cf np : Nat} {L : LSt} (h0 : X0 w mp cf) (hB : XB w) (hL : XL G.2.2.1 w L) (hS : XS G.2.2.1 w L) (hI : LI np L) (p k a b o s : Nat) (hp : p < 16) (hk : k ≤ 6) (ha : a ≤ 999) (hb9 : b ≤ 999) (ho : o ≤ 4) (hs : s < 16) (ho1 : 1 ≤ o → 1 ≤ s) : XC G mX10_checkUnique 6 1 6 [.ref (w.1 0), .int (nI p), .int (nI k), .int (nI a), .int (nI b), .int (nI (o - 1)), .int (nI (xcs o s))] w (fun r w' => r = rOK (!anyB (colB L p k a b o s) (ln L)) eISE ∧ w' = w) := by
  have h16 := hI.1
  have h40 := hI.2.1
  refine XC.of (lo0 := [(0, .ref (w.1 0)), (1, .int (nI p)), (2, .int (nI k)), (3, .int (nI a)), (4, .int (nI b)), (5, .int (nI (o - 1))), (6, .int (nI (xcs o s)))]) kmX10_checkUnique (Nat.le_of_ble_eq_true rfl) rfl ?_
  have hloop : ∀ (n : Nat) (l : Nat), ln L - l < n → l ≤ ln L → (∀ j, j < l → colB L p k a b o s j = false) → XJ G mX10_checkUnique 6 1 6 3 [(0, .ref (w.1 0)), (1, .int (nI p)), (2, .int (nI k)), (3, .int (nI a)), (4, .int (nI b)), (5, .int (nI (o - 1))), (6, .int (nI (xcs o s))), (7, .int (nI l))] [] w (fun r w' => r = rOK (!anyB (colB L p k a b o s) (ln L)) eISE ∧ w' = w) := by
    intro n
    induction n with
    | zero => intro l hm hl hn; exact absurd hm (Nat.not_lt_zero _)
    | succ n ih =>
      intro l hm hl hn
      refine X_iload dX10_checkUnique_3 (i := 7) rfl ?_
      refine X_aload_n dX10_checkUnique_5 (i := 0) rfl rfl ?_
      refine X_get (i := 0) h0 rfl (ci := 9) rfl in10 (k := 0) (by decide) fX10_10 rfl dX10_checkUnique_6 ?_
      refine X_get (i := 1) hB rfl (ci := 0) rfl in0 (k := 1) (by decide) fX10_137 rfl dX10_checkUnique_9 ?_
      refine X_get (i := 6) hL.1 rfl (ci := 3) rfl in4 (k := 9) (by decide) fX10_186 rfl dX10_checkUnique_12 ?_
      refine X_icmp_ge (tgt := 89) dX10_checkUnique_15 (by decide) (fun h1 => ?_) (fun h1 => ?_)
      · have g1 : l = ln L := by have := ge_nI (a := ln L) (by omega) (by omega) h1; omega
        refine X_vreturn dX10_checkUnique_89 rfl ?_
        exact ⟨rOK_t (by rw [anyB_f (f := colB L p k a b o s) (fun j hj => hn j (by omega))]; rfl), rfl⟩
      · have g1 : l < ln L := nge_nI (a := ln L) (by omega) (by omega) h1
        have hb := hI.2.2 l g1
        refine X_aload_n dX10_checkUnique_18 (i := 0) rfl rfl ?_
        refine X_get (i := 0) h0 rfl (ci := 9) rfl in10 (k := 0) (by decide) fX10_10 rfl dX10_checkUnique_19 ?_
        refine X_get (i := 1) hB rfl (ci := 0) rfl in0 (k := 1) (by decide) fX10_137 rfl dX10_checkUnique_22 ?_
        refine X_iload dX10_checkUnique_25 (i := 7) rfl ?_
        refine X_iload_n dX10_checkUnique_27 (i := 1) rfl rfl ?_
        refine X_iload_n dX10_checkUnique_28 (i := 2) rfl rfl ?_
        refine X_callV (gc2 := 1) (gs2 := 6) (c_isAt hL hI l g1 p k (by omega) (by omega)) (i := 6) hL.1 rfl rfl kmX4_isAt rfl lX10_375 iX4_isAt vX4_isAt rfl rfl (Nat.le_of_ble_eq_true rfl) (by decide) dX10_checkUnique_29 (by decide) (by decide) (fun E w1 hq => nomatch hq.1) (fun v w1 hq => ?_)
        have hv := hq.1
        obtain rfl := hq.2.symm
        cases hv
        refine X_if_eq (tgt := 83) dX10_checkUnique_32 (by decide) (fun h2 => ?_) (fun h2 => ?_)
        · have g2 := bI_eq h2
          refine X_iinc (i := 7) (v := nI (l + 1)) (lo' := [(7, _), (0, _), (1, _), (2, _), (3, _), (4, _), (5, _), (6, _)]) dX10_checkUnique_83 rfl (nI_inc l) (by decide) rfl ?_
          refine X_goto (tgt := 3) dX10_checkUnique_86 (by decide) ?_
          first
            | exact XJ.lcs (lo' := [(0, .ref (w.1 0)), (1, .int (nI p)), (2, .int (nI k)), (3, .int (nI a)), (4, .int (nI b)), (5, .int (nI (o - 1))), (6, .int (nI (xcs o s))), (7, .int (nI (l + 1)))]) ⟨rfl, rfl, rfl, rfl, rfl, rfl, rfl, rfl, trivial⟩ (ih (l + 1) (by omega) (by omega) (fun j hj => by rcases Nat.lt_or_ge j l with h | h; exact hn j h; rw [show j = l by omega, colB, g4, Bool.and_false, Bool.and_false]))
            | exact XJ.lcs (lo' := [(0, .ref (w.1 0)), (1, .int (nI p)), (2, .int (nI k)), (3, .int (nI a)), (4, .int (nI b)), (5, .int (nI (o - 1))), (6, .int (nI (xcs o s))), (7, .int (nI (l + 1)))]) ⟨rfl, rfl, rfl, rfl, rfl, rfl, rfl, rfl, trivial⟩ (ih (l + 1) (by omega) (by omega) (fun j hj => by rcases Nat.lt_or_ge j l with h | h; exact hn j h; rw [show j = l by omega, colB, g3, Bool.false_and, Bool.and_false]))
            | exact XJ.lcs (lo' := [(0, .ref (w.1 0)), (1, .int (nI p)), (2, .int (nI k)), (3, .int (nI a)), (4, .int (nI b)), (5, .int (nI (o - 1))), (6, .int (nI (xcs o s))), (7, .int (nI (l + 1)))]) ⟨rfl, rfl, rfl, rfl, rfl, rfl, rfl, rfl, trivial⟩ (ih (l + 1) (by omega) (by omega) (fun j hj => by rcases Nat.lt_or_ge j l with h | h; exact hn j h; rw [show j = l by omega, colB, g2, Bool.false_and]))
        · have g2 := bI_ne h2
          refine X_aload_n dX10_checkUnique_35 (i := 0) rfl rfl ?_
          refine X_get (i := 0) h0 rfl (ci := 9) rfl in10 (k := 0) (by decide) fX10_10 rfl dX10_checkUnique_36 ?_
          refine X_get (i := 1) hB rfl (ci := 0) rfl in0 (k := 1) (by decide) fX10_137 rfl dX10_checkUnique_39 ?_
          refine X_iload dX10_checkUnique_42 (i := 7) rfl ?_
          refine X_iload_n dX10_checkUnique_44 (i := 3) rfl rfl ?_
          refine X_iload dX10_checkUnique_45 (i := 4) rfl ?_
          refine X_callV (gc2 := 1) (gs2 := 6) (c_overlaps hL hI l g1 a b (by omega) (by omega)) (i := 6) hL.1 rfl rfl kmX4_overlaps rfl lX10_378 iX4_overlaps vX4_overlaps rfl rfl (Nat.le_of_ble_eq_true rfl) (by decide) dX10_checkUnique_47 (by decide) (by decide) (fun E w1 hq => nomatch hq.1) (fun v w1 hq => ?_)
          have hv := hq.1
          obtain rfl := hq.2.symm
          cases hv
          refine X_if_eq (tgt := 83) dX10_checkUnique_50 (by decide) (fun h3 => ?_) (fun h3 => ?_)
          · have g3 := bI_eq h3
            refine X_iinc (i := 7) (v := nI (l + 1)) (lo' := [(7, _), (0, _), (1, _), (2, _), (3, _), (4, _), (5, _), (6, _)]) dX10_checkUnique_83 rfl (nI_inc l) (by decide) rfl ?_
            refine X_goto (tgt := 3) dX10_checkUnique_86 (by decide) ?_
            first
              | exact XJ.lcs (lo' := [(0, .ref (w.1 0)), (1, .int (nI p)), (2, .int (nI k)), (3, .int (nI a)), (4, .int (nI b)), (5, .int (nI (o - 1))), (6, .int (nI (xcs o s))), (7, .int (nI (l + 1)))]) ⟨rfl, rfl, rfl, rfl, rfl, rfl, rfl, rfl, trivial⟩ (ih (l + 1) (by omega) (by omega) (fun j hj => by rcases Nat.lt_or_ge j l with h | h; exact hn j h; rw [show j = l by omega, colB, g4, Bool.and_false, Bool.and_false]))
              | exact XJ.lcs (lo' := [(0, .ref (w.1 0)), (1, .int (nI p)), (2, .int (nI k)), (3, .int (nI a)), (4, .int (nI b)), (5, .int (nI (o - 1))), (6, .int (nI (xcs o s))), (7, .int (nI (l + 1)))]) ⟨rfl, rfl, rfl, rfl, rfl, rfl, rfl, rfl, trivial⟩ (ih (l + 1) (by omega) (by omega) (fun j hj => by rcases Nat.lt_or_ge j l with h | h; exact hn j h; rw [show j = l by omega, colB, g3, Bool.false_and, Bool.and_false]))
              | exact XJ.lcs (lo' := [(0, .ref (w.1 0)), (1, .int (nI p)), (2, .int (nI k)), (3, .int (nI a)), (4, .int (nI b)), (5, .int (nI (o - 1))), (6, .int (nI (xcs o s))), (7, .int (nI (l + 1)))]) ⟨rfl, rfl, rfl, rfl, rfl, rfl, rfl, rfl, trivial⟩ (ih (l + 1) (by omega) (by omega) (fun j hj => by rcases Nat.lt_or_ge j l with h | h; exact hn j h; rw [show j = l by omega, colB, g2, Bool.false_and]))
          · have g3 := bI_ne h3
            refine X_aload_n dX10_checkUnique_53 (i := 0) rfl rfl ?_
            refine X_get (i := 0) h0 rfl (ci := 9) rfl in10 (k := 0) (by decide) fX10_10 rfl dX10_checkUnique_54 ?_
            refine X_get (i := 1) hB rfl (ci := 0) rfl in0 (k := 1) (by decide) fX10_137 rfl dX10_checkUnique_57 ?_
            refine X_iload dX10_checkUnique_60 (i := 7) rfl ?_
            refine X_iload dX10_checkUnique_62 (i := 5) rfl ?_
            refine X_iload dX10_checkUnique_64 (i := 6) rfl ?_
            refine X_callV (gc2 := 1) (gs2 := 6) (c_shares hL hI l g1 (o - 1) (xcs o s) (by omega) (xcs_lt hs)) (i := 6) hL.1 rfl rfl kmX4_sharesConfiguration rfl lX10_381 iX4_sharesConfiguration vX4_sharesConfiguration rfl rfl (Nat.le_of_ble_eq_true rfl) (by decide) dX10_checkUnique_66 (by decide) (by decide) (fun E w1 hq => nomatch hq.1) (fun v w1 hq => ?_)
            have hv := hq.1
            obtain rfl := hq.2.symm
            cases hv
            refine XJ.top (v' := .int (bI (!(decide (op L l ≠ 0) && (decide (op L l = o) && decide (cs L l &&& s = 0)))))) (by rw [col_x (by omega) ho (by omega) hs hb.2.2.2.2.2.2.2.2 ho1]) ?_
            refine X_if_eq (tgt := 83) dX10_checkUnique_69 (by decide) (fun h4 => ?_) (fun h4 => ?_)
            · have g4 := bI_eq h4
              refine X_iinc (i := 7) (v := nI (l + 1)) (lo' := [(7, _), (0, _), (1, _), (2, _), (3, _), (4, _), (5, _), (6, _)]) dX10_checkUnique_83 rfl (nI_inc l) (by decide) rfl ?_
              refine X_goto (tgt := 3) dX10_checkUnique_86 (by decide) ?_
              first
                | exact XJ.lcs (lo' := [(0, .ref (w.1 0)), (1, .int (nI p)), (2, .int (nI k)), (3, .int (nI a)), (4, .int (nI b)), (5, .int (nI (o - 1))), (6, .int (nI (xcs o s))), (7, .int (nI (l + 1)))]) ⟨rfl, rfl, rfl, rfl, rfl, rfl, rfl, rfl, trivial⟩ (ih (l + 1) (by omega) (by omega) (fun j hj => by rcases Nat.lt_or_ge j l with h | h; exact hn j h; rw [show j = l by omega, colB, g4, Bool.and_false, Bool.and_false]))
                | exact XJ.lcs (lo' := [(0, .ref (w.1 0)), (1, .int (nI p)), (2, .int (nI k)), (3, .int (nI a)), (4, .int (nI b)), (5, .int (nI (o - 1))), (6, .int (nI (xcs o s))), (7, .int (nI (l + 1)))]) ⟨rfl, rfl, rfl, rfl, rfl, rfl, rfl, rfl, trivial⟩ (ih (l + 1) (by omega) (by omega) (fun j hj => by rcases Nat.lt_or_ge j l with h | h; exact hn j h; rw [show j = l by omega, colB, g3, Bool.false_and, Bool.and_false]))
                | exact XJ.lcs (lo' := [(0, .ref (w.1 0)), (1, .int (nI p)), (2, .int (nI k)), (3, .int (nI a)), (4, .int (nI b)), (5, .int (nI (o - 1))), (6, .int (nI (xcs o s))), (7, .int (nI (l + 1)))]) ⟨rfl, rfl, rfl, rfl, rfl, rfl, rfl, rfl, trivial⟩ (ih (l + 1) (by omega) (by omega) (fun j hj => by rcases Nat.lt_or_ge j l with h | h; exact hn j h; rw [show j = l by omega, colB, g2, Bool.false_and]))
            · have g4 := bI_ne h4
              refine X_throwSW (text := "the line would collide with another line") thr_IllegalStateException (by decide +kernel) rfl dX10_checkUnique_72 dX10_checkUnique_75 dX10_checkUnique_76 dX10_checkUnique_79 dX10_checkUnique_82 (Nat.le_of_ble_eq_true rfl) (by decide) (by decide) (by decide) ?_
              exact ⟨rOK_f (by rw [anyB_t (f := colB L p k a b o s) g1 (by rw [colB, g2, g3, g4]; rfl)]; rfl), rfl⟩
  refine X_iconst (v := 0) dX10_checkUnique_0 (by decide) ?_
  refine X_istore (i := 7) (lo' := [(7, _), (0, _), (1, _), (2, _), (3, _), (4, _), (5, _), (6, _)]) dX10_checkUnique_1 (by decide) rfl ?_
  exact XJ.lcs (lo' := [(0, .ref (w.1 0)), (1, .int (nI p)), (2, .int (nI k)), (3, .int (nI a)), (4, .int (nI b)), (5, .int (nI (o - 1))), (6, .int (nI (xcs o s))), (7, .int (nI 0))]) ⟨rfl, rfl, rfl, rfl, rfl, rfl, rfl, rfl, trivial⟩ (hloop (ln L + 1) 0 (by omega) (by omega) (fun j hj => absurd hj (by omega)))
set_option maxRecDepth 20000 in
theorem c_setRange {x : Int32} {f g : Nat → Int32} (h6 : cel w 6 (oB 3 [.ref (w.1 7), .ref (w.1 8), .ref (w.1 9), .ref (w.1 10), .ref (w.1 11), .ref (w.1 12), .ref (w.1 13), .ref (w.1 14), .ref (w.1 15), .int x])) (h1 : cel w 12 (aI G.2.2.1 40 f)) (h2 : cel w 13 (aI G.2.2.1 40 g)) (j : Nat) (hj : j < 40) (a b : Int32) : XC G mX4_setRange 0 0 0 [.ref (w.1 6), .int (nI j), .int a, .int b] w (fun r w' => r = .inl none ∧ w' = setM (setM w 12 (aI G.2.2.1 40 (va_up f j a))) 13 (aI G.2.2.1 40 (va_up g j b))) := by
  refine XC.of (lo0 := [(0, .ref (w.1 6)), (1, .int (nI j)), (2, .int a), (3, .int b)]) kmX4_setRange (Nat.le_of_ble_eq_true rfl) rfl ?_
  refine X_aload_n dX4_setRange_0 (i := 0) rfl rfl ?_
  refine X_get (i := 6) h6 rfl (ci := 3) rfl in4 (k := 5) (by decide) fX4_27 rfl dX4_setRange_1 ?_
  refine X_iload_n dX4_setRange_4 (i := 1) rfl rfl ?_
  refine X_iload_n dX4_setRange_5 (i := 2) rfl rfl ?_
  refine X_iast (i := 12) h1 rfl rfl hj (by decide) dX4_setRange_6 (fun hc_6 => ?_)
  refine X_aload_n dX4_setRange_7 (i := 0) rfl rfl ?_
  refine X_get (i := 6) h6 rfl (ci := 3) rfl in4 (k := 6) (by decide) fX4_30 rfl dX4_setRange_8 ?_
  refine X_iload_n dX4_setRange_11 (i := 1) rfl rfl ?_
  refine X_iload_n dX4_setRange_12 (i := 3) rfl rfl ?_
  refine X_iast (i := 13) h2 rfl rfl hj (by decide) dX4_setRange_13 (fun hc_13 => ?_)
  refine X_vreturn dX4_setRange_14 rfl ?_
  exact ⟨rfl, rfl⟩
set_option maxRecDepth 20000 in
theorem c_setCondition {x : Int32} {f g : Nat → Int32} (h6 : cel w 6 (oB 3 [.ref (w.1 7), .ref (w.1 8), .ref (w.1 9), .ref (w.1 10), .ref (w.1 11), .ref (w.1 12), .ref (w.1 13), .ref (w.1 14), .ref (w.1 15), .int x])) (h1 : cel w 14 (aI G.2.2.1 40 f)) (h2 : cel w 15 (aI G.2.2.1 40 g)) (j : Nat) (hj : j < 40) (a b : Int32) : XC G mX4_setCondition 0 0 0 [.ref (w.1 6), .int (nI j), .int a, .int b] w (fun r w' => r = .inl none ∧ w' = setM (setM w 14 (aI G.2.2.1 40 (va_up f j a))) 15 (aI G.2.2.1 40 (va_up g j b))) := by
  refine XC.of (lo0 := [(0, .ref (w.1 6)), (1, .int (nI j)), (2, .int a), (3, .int b)]) kmX4_setCondition (Nat.le_of_ble_eq_true rfl) rfl ?_
  refine X_aload_n dX4_setCondition_0 (i := 0) rfl rfl ?_
  refine X_get (i := 6) h6 rfl (ci := 3) rfl in4 (k := 7) (by decide) fX4_33 rfl dX4_setCondition_1 ?_
  refine X_iload_n dX4_setCondition_4 (i := 1) rfl rfl ?_
  refine X_iload_n dX4_setCondition_5 (i := 2) rfl rfl ?_
  refine X_iast (i := 14) h1 rfl rfl hj (by decide) dX4_setCondition_6 (fun hc_6 => ?_)
  refine X_aload_n dX4_setCondition_7 (i := 0) rfl rfl ?_
  refine X_get (i := 6) h6 rfl (ci := 3) rfl in4 (k := 8) (by decide) fX4_36 rfl dX4_setCondition_8 ?_
  refine X_iload_n dX4_setCondition_11 (i := 1) rfl rfl ?_
  refine X_iload_n dX4_setCondition_12 (i := 3) rfl rfl ?_
  refine X_iast (i := 15) h2 rfl rfl hj (by decide) dX4_setCondition_13 (fun hc_13 => ?_)
  refine X_vreturn dX4_setCondition_14 rfl ?_
  exact ⟨rfl, rfl⟩
def xLad (K : Nat → ClassId) (w : Wd) (L' : LSt) : Wd := setM (setM (setM (setM (setM (setM (w) 7 (aI K 40 (nf (pa L')))) 8 (aI K 40 (nf (po L')))) 9 (aI K 40 (nf (ch L')))) 10 (aI K 40 (nf (qt L')))) 11 (aI K 40 (nf (sc L')))) 6 (oB 3 [.ref (w.1 7), .ref (w.1 8), .ref (w.1 9), .ref (w.1 10), .ref (w.1 11), .ref (w.1 12), .ref (w.1 13), .ref (w.1 14), .ref (w.1 15), .int (nI (ln L'))])
def xAdd (K : Nat → ClassId) (w : Wd) (L' : LSt) : Wd := xLad K (setM (setM w 16 (aI K 16 (nf (cset L')))) 17 (aI K 16 (nf (pset L')))) L'
def xNew (K : Nat → ClassId) (w : Wd) (L' : LSt) : Wd := setM (setM (setM (setM (xAdd K w L') 12 (aI K 40 (nf (fi L')))) 13 (aI K 40 (nf (la L')))) 14 (aI K 40 (fun j => nI (op L' j - 1)))) 15 (aI K 40 (fun j => nI (xcs (op L' j) (cs L' j))))
set_option maxRecDepth 20000 in
theorem c_LT_add {np : Nat} {L : LSt} (hL : XL G.2.2.1 w L) (hI : LI np L) (hlt : ln L < 40) (p k c q a b o s : Nat) : XC G mX4_add 0 0 0 [.ref (w.1 6), .int (nI p), .int (nI k), .int (nI c), .int (nI q)] w (fun r w' => r = .inl (some (.int (nI (ln L)))) ∧ w' = xLad G.2.2.1 w (newL L p k c q 0 a b o s)) := by
  refine XC.of (lo0 := [(0, .ref (w.1 6)), (1, .int (nI p)), (2, .int (nI k)), (3, .int (nI c)), (4, .int (nI q))]) kmX4_add (Nat.le_of_ble_eq_true rfl) rfl ?_
  refine X_aload_n dX4_add_0 (i := 0) rfl rfl ?_
  refine X_get (i := 6) hL.1 rfl (ci := 3) rfl in4 (k := 9) (by decide) fX4_39 rfl dX4_add_1 ?_
  refine X_istore (i := 5) (lo' := [(5, _), (0, _), (1, _), (2, _), (3, _), (4, _)]) dX4_add_4 (by decide) rfl ?_
  refine X_aload_n dX4_add_6 (i := 0) rfl rfl ?_
  refine X_get (i := 6) hL.1 rfl (ci := 3) rfl in4 (k := 0) (by decide) fX4_9 rfl dX4_add_7 ?_
  refine X_iload dX4_add_10 (i := 5) rfl ?_
  refine X_iload_n dX4_add_12 (i := 1) rfl rfl ?_
  refine X_iast (i := 7) hL.2.1 rfl rfl (by omega) (by decide) dX4_add_13 (fun hc_13 => ?_)
  refine X_aload_n dX4_add_14 (i := 0) rfl rfl ?_
  refine X_get (i := 6) hL.1 rfl (ci := 3) rfl in4 (k := 1) (by decide) fX4_15 rfl dX4_add_15 ?_
  refine X_iload dX4_add_18 (i := 5) rfl ?_
  refine X_iload_n dX4_add_20 (i := 2) rfl rfl ?_
  refine X_iast (i := 8) hL.2.2.1 rfl rfl (by omega) (by decide) dX4_add_21 (fun hc_21 => ?_)
  refine X_aload_n dX4_add_22 (i := 0) rfl rfl ?_
  refine X_get (i := 6) hL.1 rfl (ci := 3) rfl in4 (k := 2) (by decide) fX4_18 rfl dX4_add_23 ?_
  refine X_iload dX4_add_26 (i := 5) rfl ?_
  refine X_iload_n dX4_add_28 (i := 3) rfl rfl ?_
  refine X_iast (i := 9) hL.2.2.2.1 rfl rfl (by omega) (by decide) dX4_add_29 (fun hc_29 => ?_)
  refine X_aload_n dX4_add_30 (i := 0) rfl rfl ?_
  refine X_get (i := 6) hL.1 rfl (ci := 3) rfl in4 (k := 3) (by decide) fX4_21 rfl dX4_add_31 ?_
  refine X_iload dX4_add_34 (i := 5) rfl ?_
  refine X_iload dX4_add_36 (i := 4) rfl ?_
  refine X_iast (i := 10) hL.2.2.2.2.1 rfl rfl (by omega) (by decide) dX4_add_38 (fun hc_38 => ?_)
  refine X_aload_n dX4_add_39 (i := 0) rfl rfl ?_
  refine X_get (i := 6) hL.1 rfl (ci := 3) rfl in4 (k := 4) (by decide) fX4_24 rfl dX4_add_40 ?_
  refine X_iload dX4_add_43 (i := 5) rfl ?_
  refine X_iconst (v := 0) dX4_add_45 (by decide) ?_
  refine X_iast (i := 11) hL.2.2.2.2.2.1 rfl rfl (by omega) (by decide) dX4_add_46 (fun hc_46 => ?_)
  refine X_aload_n dX4_add_47 (i := 0) rfl rfl ?_
  refine X_iload dX4_add_48 (i := 5) rfl ?_
  refine X_iconst (v := 1) dX4_add_50 (by decide) ?_
  refine X_iadd dX4_add_51 ?_
  refine XJ.top (v' := .int (nI (ln L + 1))) (by rw [← nI_1]) ?_
  refine X_put tyX4 tyX4_ok nmX4 (i := 6) hL.1 rfl (ci := 3) rfl in4 (k := 9) (by decide) fX4_39 rfl rfl rfl (Nat.le_of_ble_eq_true rfl) dX4_add_52 (fun hc_52 => ?_)
  refine X_iload dX4_add_55 (i := 5) rfl ?_
  refine X_ireturn dX4_add_57 rfl rfl ?_
  refine ⟨rfl, ?_⟩
  simp only [xLad, newL, ln, pa, po, ch, qt, sc, ← nf_up]
  rfl
set_option maxRecDepth 20000 in
theorem c_Bill_add {np : Nat} {L : LSt} (hB : XB w) (hL : XL G.2.2.1 w L) (hS : XS G.2.2.1 w L) (hI : LI np L) (hlt : ln L < 40) (p k c q a b o s : Nat) (hp : p < 16) (hc : c < 16) : XC G mX0_add 1 0 0 [.ref (w.1 1), .int (nI p), .int (nI k), .int (nI c), .int (nI q)] w (fun r w' => r = .inl (some (.int (nI (ln L)))) ∧ w' = xAdd G.2.2.1 w (newL L p k c q 0 a b o s)) := by
  refine XC.of (lo0 := [(0, .ref (w.1 1)), (1, .int (nI p)), (2, .int (nI k)), (3, .int (nI c)), (4, .int (nI q))]) kmX0_add (Nat.le_of_ble_eq_true rfl) rfl ?_
  refine X_aload_n dX0_add_0 (i := 0) rfl rfl ?_
  refine X_get (i := 1) hB rfl (ci := 0) rfl in0 (k := 2) (by decide) fX0_25 rfl dX0_add_1 ?_
  refine X_iload_n dX0_add_4 (i := 1) rfl rfl ?_
  refine X_dup2_11 dX0_add_5 rfl rfl ?_
  refine X_iald (i := 16) hS.1 rfl rfl hp (by decide) dX0_add_6 ?_
  refine X_iconst (v := 1) dX0_add_7 (by decide) ?_
  refine X_iload_n dX0_add_8 (i := 3) rfl rfl ?_
  refine X_ishl dX0_add_9 ?_
  refine XJ.top (v' := .int (nI (2 ^ c))) (by rw [shl1 c (by omega)]) ?_
  refine X_ior dX0_add_10 ?_
  refine XJ.top (v' := .int (nI (cset L p ||| 2 ^ c))) (by rw [← nI_or]; rfl) ?_
  refine X_iast (i := 16) hS.1 rfl rfl hp (by decide) dX0_add_11 (fun hc_11 => ?_)
  refine X_aload_n dX0_add_12 (i := 0) rfl rfl ?_
  refine X_get (i := 1) hB rfl (ci := 0) rfl in0 (k := 3) (by decide) fX0_29 rfl dX0_add_13 ?_
  refine X_iload_n dX0_add_16 (i := 3) rfl rfl ?_
  refine X_dup2_11 dX0_add_17 rfl rfl ?_
  refine X_iald (i := 17) hS.2 rfl rfl hc (by decide) dX0_add_18 ?_
  refine X_iconst (v := 1) dX0_add_19 (by decide) ?_
  refine X_iload_n dX0_add_20 (i := 1) rfl rfl ?_
  refine X_ishl dX0_add_21 ?_
  refine XJ.top (v' := .int (nI (2 ^ p))) (by rw [shl1 p (by omega)]) ?_
  refine X_ior dX0_add_22 ?_
  refine XJ.top (v' := .int (nI (pset L c ||| 2 ^ p))) (by rw [← nI_or]; rfl) ?_
  refine X_iast (i := 17) hS.2 rfl rfl hc (by decide) dX0_add_23 (fun hc_23 => ?_)
  refine XJ.wd (w' := (setM (setM w 16 (aI G.2.2.1 16 (nf (cset (newL L p k c q 0 a b o s))))) 17 (aI G.2.2.1 16 (nf (pset (newL L p k c q 0 a b o s)))))) (by rw [cset_new, pset_new, ← nf_up, ← nf_up]) ?_
  refine X_aload_n dX0_add_24 (i := 0) rfl rfl ?_
  refine X_get (i := 1) hB rfl (ci := 0) rfl in0 (k := 1) (by decide) fX0_21 rfl dX0_add_25 ?_
  refine X_iload_n dX0_add_28 (i := 1) rfl rfl ?_
  refine X_iload_n dX0_add_29 (i := 2) rfl rfl ?_
  refine X_iload_n dX0_add_30 (i := 3) rfl rfl ?_
  refine X_iload dX0_add_31 (i := 4) rfl ?_
  refine X_callV (gc2 := 0) (gs2 := 0) (c_LT_add (w := (setM (setM w 16 (aI G.2.2.1 16 (nf (cset (newL L p k c q 0 a b o s))))) 17 (aI G.2.2.1 16 (nf (pset (newL L p k c q 0 a b o s)))))) hL hI hlt p k c q a b o s) (i := 6) hL.1 rfl rfl kmX4_add rfl lX0_38 iX4_add vX4_add rfl rfl (Nat.le_of_ble_eq_true rfl) (by decide) dX0_add_33 (by decide) (by decide) (fun E w1 hq => nomatch hq.1) (fun v w1 hq => ?_)
  have hv := hq.1
  obtain rfl := hq.2.symm
  cases hv
  refine X_ireturn dX0_add_36 rfl rfl ?_
  exact ⟨rfl, rfl⟩
end LinesX
