/-! CONSISTENT: the class checks itself (walks by gen/spec51.py) -/
section Cons
variable {G : Gx} {w : Wd}
theorem btw_y {x : Int32} {j b c : Nat} (hx : x = nI j) (hb : b ≤ j) (hc : j ≤ c) (hc2 : c < 2 ^ 31) : bI (btw x (nI b) (nI c)) ≠ 0 := by
  rw [hx, btw_of (by omega) (by omega) hc2, decide_eq_true hb, decide_eq_true hc]
  decide
/-- bounds of the parts -/
def PI (P : PSt) : Prop := P.1 ≤ 16 ∧ ∀ j, j < P.1 → isK (nI (P.2.1 j)) = true ∧ P.2.2.1 j ≤ 99999 ∧ P.2.2.2 j ≤ 99999
set_option maxRecDepth 20000 in
theorem c_PTsound {P : PSt} (hP : XP G.2.2.1 w P) (hPI : PI P) : XC G mX7_isSound 1 0 0 [.ref (w.1 2)] w (fun r w' => r = .inl (some (.int 1)) ∧ w' = w) := by
  have h16 := hPI.1
  refine XC.of (lo0 := [(0, .ref (w.1 2))]) kmX7_isSound (Nat.le_of_ble_eq_true rfl) rfl ?_
  have hloop : ∀ (n : Nat) (k : Nat), P.1 - k < n → k ≤ P.1 → XJ G mX7_isSound 1 0 0 17 [(0, .ref (w.1 2)), (1, .int (nI k))] [] w (fun r w' => r = .inl (some (.int 1)) ∧ w' = w) := by
    intro n
    induction n with
    | zero => intro k hm hk; exact absurd hm (Nat.not_lt_zero _)
    | succ n ih =>
      intro k hm hk
      refine X_iload_n dX7_isSound_17 (i := 1) rfl rfl ?_
      refine X_aload_n dX7_isSound_18 (i := 0) rfl rfl ?_
      refine X_get (i := 2) hP.1 rfl (ci := 6) rfl in7 (k := 3) (by decide) fX7_22 rfl dX7_isSound_19 ?_
      refine X_icmp_ge (tgt := 75) dX7_isSound_22 (by decide) (fun h1 => ?_) (fun h1 => ?_)
      · have h5 : k = P.1 := by have := ge_nI (a := P.1) (by omega) (by omega) h1; omega
        refine X_iconst (v := 1) dX7_isSound_75 (by decide) ?_
        refine X_ireturn dX7_isSound_76 rfl rfl ?_
        exact ⟨rfl, rfl⟩
      · have h5 : k < P.1 := nge_nI (a := P.1) (by omega) (by omega) h1
        have hb := hPI.2 k h5
        refine X_aload_n dX7_isSound_25 (i := 0) rfl rfl ?_
        refine X_get (i := 2) hP.1 rfl (ci := 6) rfl in7 (k := 0) (by decide) fX7_9 rfl dX7_isSound_26 ?_
        refine X_iload_n dX7_isSound_29 (i := 1) rfl rfl ?_
        refine X_cald (i := 3) hP.2.1 rfl rfl (by omega) (by decide) dX7_isSound_30 ?_
        refine X_callSN (gc2 := 0) (gs2 := 0) (c_isKind (nI (P.2.1 k))) kmX10_isKind rfl nX7_33 sX10_isKind rfl rfl (Nat.le_of_ble_eq_true rfl) (by decide) dX7_isSound_31 (by decide) (by decide) (fun E w1 hq => nomatch hq.1) (fun v w1 hq => ?_)
        have hv := hq.1
        obtain rfl := hq.2.symm
        cases hv
        refine X_if_eq (tgt := 67) dX7_isSound_34 (by decide) (fun h2 => ?_) (fun h2 => ?_)
        · exact absurd h2 (by rw [hb.1]; decide)
        · refine X_aload_n dX7_isSound_37 (i := 0) rfl rfl ?_
          refine X_get (i := 2) hP.1 rfl (ci := 6) rfl in7 (k := 1) (by decide) fX7_15 rfl dX7_isSound_38 ?_
          refine X_iload_n dX7_isSound_41 (i := 1) rfl rfl ?_
          refine X_iald (i := 4) hP.2.2.1 rfl rfl (by omega) (by decide) dX7_isSound_42 ?_
          refine X_iconst (v := 0) dX7_isSound_43 (by decide) ?_
          refine X_ldc dX7_isSound_44 kX7_37 ?_
          refine X_callSN (gc2 := 0) (gs2 := 0) (c_isBetween (nI (P.2.2.1 k)) 0 99999) kmX10_isBetween rfl nX7_29 sX10_isBetween rfl rfl (Nat.le_of_ble_eq_true rfl) (by decide) dX7_isSound_46 (by decide) (by decide) (fun E w1 hq => nomatch hq.1) (fun v w1 hq => ?_)
          have hv := hq.1
          obtain rfl := hq.2.symm
          cases hv
          refine X_if_eq (tgt := 67) dX7_isSound_49 (by decide) (fun h3 => ?_) (fun h3 => ?_)
          · exact absurd h3 (btw_y (j := P.2.2.1 k) (b := 0) (c := 99999) rfl (by omega) (by omega) (by decide))
          · refine X_aload_n dX7_isSound_52 (i := 0) rfl rfl ?_
            refine X_get (i := 2) hP.1 rfl (ci := 6) rfl in7 (k := 2) (by decide) fX7_19 rfl dX7_isSound_53 ?_
            refine X_iload_n dX7_isSound_56 (i := 1) rfl rfl ?_
            refine X_iald (i := 5) hP.2.2.2 rfl rfl (by omega) (by decide) dX7_isSound_57 ?_
            refine X_iconst (v := 0) dX7_isSound_58 (by decide) ?_
            refine X_ldc dX7_isSound_59 kX7_37 ?_
            refine X_callSN (gc2 := 0) (gs2 := 0) (c_isBetween (nI (P.2.2.2 k)) 0 99999) kmX10_isBetween rfl nX7_29 sX10_isBetween rfl rfl (Nat.le_of_ble_eq_true rfl) (by decide) dX7_isSound_61 (by decide) (by decide) (fun E w1 hq => nomatch hq.1) (fun v w1 hq => ?_)
            have hv := hq.1
            obtain rfl := hq.2.symm
            cases hv
            refine X_if_ne (tgt := 69) dX7_isSound_64 (by decide) (fun h4 => ?_) (fun h4 => ?_)
            · refine X_iinc (i := 1) (v := nI (k + 1)) (lo' := [(1, _), (0, _)]) dX7_isSound_69 rfl (nI_inc k) (by decide) rfl ?_
              refine X_goto (tgt := 17) dX7_isSound_72 (by decide) ?_
              exact XJ.lcs (lo' := [(0, .ref (w.1 2)), (1, .int (nI (k + 1)))]) ⟨rfl, rfl, trivial⟩ (ih (k + 1) (by omega) (by omega))
            · exact absurd h4 (btw_y (j := P.2.2.2 k) (b := 0) (c := 99999) rfl (by omega) (by omega) (by decide))
  refine X_aload_n dX7_isSound_0 (i := 0) rfl rfl ?_
  refine X_get (i := 2) hP.1 rfl (ci := 6) rfl in7 (k := 3) (by decide) fX7_22 rfl dX7_isSound_1 ?_
  refine X_iconst (v := 0) dX7_isSound_4 (by decide) ?_
  refine X_bipush (v := 16) dX7_isSound_5 (by decide) ?_
  refine X_callSN (gc2 := 0) (gs2 := 0) (c_isBetween (nI P.1) 0 16) kmX10_isBetween rfl nX7_29 sX10_isBetween rfl rfl (Nat.le_of_ble_eq_true rfl) (by decide) dX7_isSound_7 (by decide) (by decide) (fun E w1 hq => nomatch hq.1) (fun v w1 hq => ?_)
  have hv := hq.1
  obtain rfl := hq.2.symm
  cases hv
  refine X_if_ne (tgt := 15) dX7_isSound_10 (by decide) (fun h0 => ?_) (fun h0 => ?_)
  · refine X_iconst (v := 0) dX7_isSound_15 (by decide) ?_
    refine X_istore_n (i := 1) (lo' := [(1, _), (0, _)]) dX7_isSound_16 rfl (by decide) rfl ?_
    exact XJ.lcs (lo' := [(0, .ref (w.1 2)), (1, .int (nI 0))]) ⟨rfl, rfl, trivial⟩ (hloop (P.1 + 1) 0 (by omega) (by omega))
  · exact absurd h0 (btw_y (j := P.1) (b := 0) (c := 16) rfl (by omega) (by omega) (by decide))
set_option maxRecDepth 20000 in
theorem c_OBsound {np : Nat} {O : OSt} (h16 : np ≤ 16) (hO : XO G.2.2.1 w O) (hOI : OI np O) : XC G mX5_isSound 2 0 0 [.ref (w.1 20), .int (nI np)] w (fun r w' => r = .inl (some (.int 1)) ∧ w' = w) := by
  have h8 := hOI.1
  refine XC.of (lo0 := [(0, .ref (w.1 20)), (1, .int (nI np))]) kmX5_isSound (Nat.le_of_ble_eq_true rfl) rfl ?_
  have hloop : ∀ (n : Nat) (k : Nat), O.1 - k < n → k ≤ O.1 → XJ G mX5_isSound 2 0 0 17 [(0, .ref (w.1 20)), (1, .int (nI np)), (2, .int (nI k))] [] w (fun r w' => r = .inl (some (.int 1)) ∧ w' = w) := by
    intro n
    induction n with
    | zero => intro k hm hk; exact absurd hm (Nat.not_lt_zero _)
    | succ n ih =>
      intro k hm hk
      refine X_iload_n dX5_isSound_17 (i := 2) rfl rfl ?_
      refine X_aload_n dX5_isSound_18 (i := 0) rfl rfl ?_
      refine X_get (i := 20) hO.1 rfl (ci := 4) rfl in5 (k := 5) (by decide) fX5_28 rfl dX5_isSound_19 ?_
      refine X_icmp_ge (tgt := 93) dX5_isSound_22 (by decide) (fun h1 => ?_) (fun h1 => ?_)
      · have h6 : k = O.1 := by have := ge_nI (a := O.1) (by omega) (by omega) h1; omega
        refine X_iconst (v := 1) dX5_isSound_93 (by decide) ?_
        refine X_ireturn dX5_isSound_94 rfl rfl ?_
        exact ⟨rfl, rfl⟩
      · have h6 : k < O.1 := nge_nI (a := O.1) (by omega) (by omega) h1
        have hb := hOI.2.1 k h6
        have hcf : cfg (O.2.2.2.2.1 k) ≤ 255 := by have c0 := hb.2.2.2 0 (by decide); have c1 := hb.2.2.2 1 (by decide); have c2 := hb.2.2.2 2 (by decide); have c3 := hb.2.2.2 3 (by decide); unfold cfg; omega
        refine X_aload_n dX5_isSound_25 (i := 0) rfl rfl ?_
        refine X_get (i := 20) hO.1 rfl (ci := 4) rfl in5 (k := 0) (by decide) fX5_9 rfl dX5_isSound_26 ?_
        refine X_iload_n dX5_isSound_29 (i := 2) rfl rfl ?_
        refine X_iald (i := 21) hO.2.1 rfl rfl (by omega) (by decide) dX5_isSound_30 ?_
        refine X_iconst (v := 0) dX5_isSound_31 (by decide) ?_
        refine X_iload_n dX5_isSound_32 (i := 1) rfl rfl ?_
        refine X_iconst (v := 1) dX5_isSound_33 (by decide) ?_
        refine X_isub dX5_isSound_34 ?_
        refine XJ.top (v' := .int (nI (np - 1))) (by rw [show (1 : Int32) = nI 1 from rfl, pk_sub (by omega)]) ?_
        refine X_callSN (gc2 := 0) (gs2 := 0) (c_isBetween (nI (O.2.1 k)) 0 (nI (np - 1))) kmX10_isBetween rfl nX5_32 sX10_isBetween rfl rfl (Nat.le_of_ble_eq_true rfl) (by decide) dX5_isSound_35 (by decide) (by decide) (fun E w1 hq => nomatch hq.1) (fun v w1 hq => ?_)
        have hv := hq.1
        obtain rfl := hq.2.symm
        cases hv
        refine X_if_eq (tgt := 85) dX5_isSound_38 (by decide) (fun h2 => ?_) (fun h2 => ?_)
        · exact absurd h2 (btw_y (j := O.2.1 k) (b := 0) (c := np - 1) rfl (by omega) (by omega) (by omega))
        · refine X_aload_n dX5_isSound_41 (i := 0) rfl rfl ?_
          refine X_get (i := 20) hO.1 rfl (ci := 4) rfl in5 (k := 1) (by decide) fX5_15 rfl dX5_isSound_42 ?_
          refine X_iload_n dX5_isSound_45 (i := 2) rfl rfl ?_
          refine X_iald (i := 22) hO.2.2.1 rfl rfl (by omega) (by decide) dX5_isSound_46 ?_
          refine X_iconst (v := 1) dX5_isSound_47 (by decide) ?_
          refine X_sipush (v := 999) dX5_isSound_48 (by decide) ?_
          refine X_callSN (gc2 := 0) (gs2 := 0) (c_isBetween (nI (O.2.2.1 k)) 1 999) kmX10_isBetween rfl nX5_32 sX10_isBetween rfl rfl (Nat.le_of_ble_eq_true rfl) (by decide) dX5_isSound_51 (by decide) (by decide) (fun E w1 hq => nomatch hq.1) (fun v w1 hq => ?_)
          have hv := hq.1
          obtain rfl := hq.2.symm
          cases hv
          refine X_if_eq (tgt := 85) dX5_isSound_54 (by decide) (fun h3 => ?_) (fun h3 => ?_)
          · exact absurd h3 (btw_y (j := O.2.2.1 k) (b := 1) (c := 999) rfl (by omega) (by omega) (by decide))
          · refine X_aload_n dX5_isSound_57 (i := 0) rfl rfl ?_
            refine X_get (i := 20) hO.1 rfl (ci := 4) rfl in5 (k := 2) (by decide) fX5_18 rfl dX5_isSound_58 ?_
            refine X_iload_n dX5_isSound_61 (i := 2) rfl rfl ?_
            refine X_iald (i := 23) hO.2.2.2.1 rfl rfl (by omega) (by decide) dX5_isSound_62 ?_
            refine X_iconst (v := 1) dX5_isSound_63 (by decide) ?_
            refine X_sipush (v := 999) dX5_isSound_64 (by decide) ?_
            refine X_callSN (gc2 := 0) (gs2 := 0) (c_isBetween (nI (O.2.2.2.1 k)) 1 999) kmX10_isBetween rfl nX5_32 sX10_isBetween rfl rfl (Nat.le_of_ble_eq_true rfl) (by decide) dX5_isSound_67 (by decide) (by decide) (fun E w1 hq => nomatch hq.1) (fun v w1 hq => ?_)
            have hv := hq.1
            obtain rfl := hq.2.symm
            cases hv
            refine X_if_eq (tgt := 85) dX5_isSound_70 (by decide) (fun h4 => ?_) (fun h4 => ?_)
            · exact absurd h4 (btw_y (j := O.2.2.2.1 k) (b := 1) (c := 999) rfl (by omega) (by omega) (by decide))
            · refine X_aload_n dX5_isSound_73 (i := 0) rfl rfl ?_
              refine X_get (i := 20) hO.1 rfl (ci := 4) rfl in5 (k := 3) (by decide) fX5_21 rfl dX5_isSound_74 ?_
              refine X_iload_n dX5_isSound_77 (i := 2) rfl rfl ?_
              refine X_iald (i := 24) hO.2.2.2.2.1 rfl rfl (by omega) (by decide) dX5_isSound_78 ?_
              refine X_callSN (gc2 := 0) (gs2 := 0) (c_isConfiguration (nI (cfg (O.2.2.2.2.1 k)))) kmX10_isConfiguration rfl nX5_36 sX10_isConfiguration rfl rfl (Nat.le_of_ble_eq_true rfl) (by decide) dX5_isSound_79 (by decide) (by decide) (fun E w1 hq => nomatch hq.1) (fun v w1 hq => ?_)
              have hv := hq.1
              obtain rfl := hq.2.symm
              cases hv
              refine X_if_ne (tgt := 87) dX5_isSound_82 (by decide) (fun h5 => ?_) (fun h5 => ?_)
              · refine X_iinc (i := 2) (v := nI (k + 1)) (lo' := [(2, _), (0, _), (1, _)]) dX5_isSound_87 rfl (nI_inc k) (by decide) rfl ?_
                refine X_goto (tgt := 17) dX5_isSound_90 (by decide) ?_
                exact XJ.lcs (lo' := [(0, .ref (w.1 20)), (1, .int (nI np)), (2, .int (nI (k + 1)))]) ⟨rfl, rfl, rfl, trivial⟩ (ih (k + 1) (by omega) (by omega))
              · exact absurd h5 (btw_y (j := cfg (O.2.2.2.2.1 k)) (b := 0) (c := 255) rfl (by omega) (by omega) (by decide))
  refine X_aload_n dX5_isSound_0 (i := 0) rfl rfl ?_
  refine X_get (i := 20) hO.1 rfl (ci := 4) rfl in5 (k := 5) (by decide) fX5_28 rfl dX5_isSound_1 ?_
  refine X_iconst (v := 0) dX5_isSound_4 (by decide) ?_
  refine X_bipush (v := 8) dX5_isSound_5 (by decide) ?_
  refine X_callSN (gc2 := 0) (gs2 := 0) (c_isBetween (nI O.1) 0 8) kmX10_isBetween rfl nX5_32 sX10_isBetween rfl rfl (Nat.le_of_ble_eq_true rfl) (by decide) dX5_isSound_7 (by decide) (by decide) (fun E w1 hq => nomatch hq.1) (fun v w1 hq => ?_)
  have hv := hq.1
  obtain rfl := hq.2.symm
  cases hv
  refine X_if_ne (tgt := 15) dX5_isSound_10 (by decide) (fun h0 => ?_) (fun h0 => ?_)
  · refine X_iconst (v := 0) dX5_isSound_15 (by decide) ?_
    refine X_istore_n (i := 2) (lo' := [(2, _), (0, _), (1, _)]) dX5_isSound_16 rfl (by decide) rfl ?_
    exact XJ.lcs (lo' := [(0, .ref (w.1 20)), (1, .int (nI np)), (2, .int (nI 0))]) ⟨rfl, rfl, rfl, trivial⟩ (hloop (O.1 + 1) 0 (by omega) (by omega))
  · exact absurd h0 (btw_y (j := O.1) (b := 0) (c := 8) rfl (by omega) (by omega) (by decide))
set_option maxRecDepth 20000 in
theorem c_isShallow {np : Nat} {P : PSt} {L : LSt} (hB : XB w) (hP : XP G.2.2.1 w P) (h16 : P.1 ≤ 16) (hS : XS G.2.2.1 w L) (hI : LI np L) (hN : NC5 L) : XC G mX0_isShallow 4 0 0 [.ref (w.1 1)] w (fun r w' => r = .inl (some (.int 1)) ∧ w' = w) := by
  refine XC.of (lo0 := [(0, .ref (w.1 1))]) kmX0_isShallow (Nat.le_of_ble_eq_true rfl) rfl ?_
  have hloop : ∀ (n : Nat) (k : Nat), P.1 - k < n → k ≤ P.1 → XJ G mX0_isShallow 4 0 0 2 [(0, .ref (w.1 1)), (1, .int (nI k))] [] w (fun r w' => r = .inl (some (.int 1)) ∧ w' = w) := by
    intro n
    induction n with
    | zero => intro k hm hk; exact absurd hm (Nat.not_lt_zero _)
    | succ n ih =>
      intro k hm hk
      refine X_iload_n dX0_isShallow_2 (i := 1) rfl rfl ?_
      refine X_aload_n dX0_isShallow_3 (i := 0) rfl rfl ?_
      refine X_get (i := 1) hB rfl (ci := 0) rfl in0 (k := 0) (by decide) fX0_12 rfl dX0_isShallow_4 ?_
      refine X_get (i := 2) hP.1 rfl (ci := 6) rfl in7 (k := 3) (by decide) fX0_70 rfl dX0_isShallow_7 ?_
      refine X_icmp_ge (tgt := 30) dX0_isShallow_10 (by decide) (fun h1 => ?_) (fun h1 => ?_)
      · have h5 : k = P.1 := by have := ge_nI (a := P.1) (by omega) (by omega) h1; omega
        refine X_iconst (v := 1) dX0_isShallow_30 (by decide) ?_
        refine X_ireturn dX0_isShallow_31 rfl rfl ?_
        exact ⟨rfl, rfl⟩
      · have h5 : k < P.1 := nge_nI (a := P.1) (by omega) (by omega) h1
        have hh : hgt (ln L) (pa L) (ch L) 5 k ≤ 4 := by rcases Nat.lt_or_ge (hgt (ln L) (pa L) (ch L) 5 k) 5 with h | h; omega; (rcases hgt_iff.mp h with h2 | ⟨-, q, h2⟩; cases h2; exact (NC_iff.mp (hN k) q h2).elim)
        refine X_aload_n dX0_isShallow_13 (i := 0) rfl rfl ?_
        refine X_iload_n dX0_isShallow_14 (i := 1) rfl rfl ?_
        refine X_callV (gc2 := 0) (gs2 := 0) (c_levelsBelow k (by omega) hB hS.1 (fun p _ => cset_lt hI p)) (i := 1) hB rfl rfl kmX0_levelsBelow rfl lX0_71 iX0_levelsBelow vX0_levelsBelow rfl rfl (Nat.le_of_ble_eq_true rfl) (by decide) dX0_isShallow_15 (by decide) (by decide) (fun E w1 hq => nomatch hq.1) (fun v w1 hq => ?_)
        have hv := hq.1
        obtain rfl := hq.2.symm
        cases hv
        refine XJ.top (v' := .int (nI (hgt (ln L) (pa L) (ch L) 5 k))) (by rw [stp_hgt (cset_RS hI) (by omega)]) ?_
        refine X_iconst (v := 4) dX0_isShallow_18 (by decide) ?_
        refine X_icmp_le (tgt := 24) dX0_isShallow_19 (by decide) (fun h2 => ?_) (fun h2 => ?_)
        · refine X_iinc (i := 1) (v := nI (k + 1)) (lo' := [(1, _), (0, _)]) dX0_isShallow_24 rfl (nI_inc k) (by decide) rfl ?_
          refine X_goto (tgt := 2) dX0_isShallow_27 (by decide) ?_
          exact XJ.lcs (lo' := [(0, .ref (w.1 1)), (1, .int (nI (k + 1)))]) ⟨rfl, rfl, trivial⟩ (ih (k + 1) (by omega) (by omega))
        · exact absurd ((nI_leI (a := hgt (ln L) (pa L) (ch L) 5 k) (b := 4) (by omega) (by decide)).mpr hh) h2
  refine X_iconst (v := 0) dX0_isShallow_0 (by decide) ?_
  refine X_istore_n (i := 1) (lo' := [(1, _), (0, _)]) dX0_isShallow_1 rfl (by decide) rfl ?_
  exact XJ.lcs (lo' := [(0, .ref (w.1 1)), (1, .int (nI 0))]) ⟨rfl, rfl, trivial⟩ (hloop (P.1 + 1) 0 (by omega) (by omega))
end Cons
