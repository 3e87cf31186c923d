/-! CONSISTENT: the lines, the sets, all (walks by gen/spec52.py) -/
section Cons2
variable {G : Gx} {w : Wd}
theorem xcs_b {o c : Nat} (ho : o ≤ 4) (hc : c < 16) (h : 1 ≤ o → 1 ≤ c) : 1 ≤ xcs o c ∧ xcs o c ≤ 15 := by
  unfold xcs; split <;> omega
set_option maxRecDepth 20000 in
theorem c_LTline {np : Nat} {L : LSt} (hL : XL G.2.2.1 w L) (hI : LI np L) (k : Nat) (hk : k < ln L) : XC G mX4_isSoundLine 1 0 0 [.ref (w.1 6), .int (nI k), .int (nI np)] w (fun r w' => r = .inl (some (.int 1)) ∧ w' = w) := by
  have h16 := hI.1
  have h40 := hI.2.1
  have hb := hI.2.2 k hk
  have hx := xcs_b hb.2.2.2.2.2.2.1 hb.2.2.2.2.2.2.2.1 hb.2.2.2.2.2.2.2.2
  refine XC.of (lo0 := [(0, .ref (w.1 6)), (1, .int (nI k)), (2, .int (nI np))]) kmX4_isSoundLine (Nat.le_of_ble_eq_true rfl) rfl ?_
  refine X_aload_n dX4_isSoundLine_0 (i := 0) rfl rfl ?_
  refine X_get (i := 6) hL.1 rfl (ci := 3) rfl in4 (k := 0) (by decide) fX4_9 rfl dX4_isSoundLine_1 ?_
  refine X_iload_n dX4_isSoundLine_4 (i := 1) rfl rfl ?_
  refine X_iald (i := 7) hL.2.1 rfl rfl (by omega) (by decide) dX4_isSoundLine_5 ?_
  refine X_iconst (v := 0) dX4_isSoundLine_6 (by decide) ?_
  refine X_iload_n dX4_isSoundLine_7 (i := 2) rfl rfl ?_
  refine X_iconst (v := 1) dX4_isSoundLine_8 (by decide) ?_
  refine X_isub dX4_isSoundLine_9 ?_
  refine XJ.top (v' := .int (nI (np - 1))) (by rw [show (1 : Int32) = nI 1 from rfl, pk_sub (by omega)]) ?_
  refine X_callSN (gc2 := 0) (gs2 := 0) (c_isBetween (nI (pa L k)) (nI (0)) (nI (np - 1))) kmX10_isBetween rfl nX4_47 sX10_isBetween rfl rfl (Nat.le_of_ble_eq_true rfl) (by decide) dX4_isSoundLine_10 (by decide) (by decide) (fun E w1 hq => nomatch hq.1) (fun v w1 hq => ?_)
  have hv := hq.1
  obtain rfl := hq.2.symm
  cases hv
  refine X_if_eq (tgt := 147) dX4_isSoundLine_13 (by decide) (fun h0 => ?_) (fun h0 => ?_)
  · exact absurd h0 (btw_y (j := pa L k) (b := 0) (c := np - 1) rfl (by omega) (by omega) (by omega))
  · refine X_aload_n dX4_isSoundLine_16 (i := 0) rfl rfl ?_
    refine X_get (i := 6) hL.1 rfl (ci := 3) rfl in4 (k := 2) (by decide) fX4_18 rfl dX4_isSoundLine_17 ?_
    refine X_iload_n dX4_isSoundLine_20 (i := 1) rfl rfl ?_
    refine X_iald (i := 9) hL.2.2.2.1 rfl rfl (by omega) (by decide) dX4_isSoundLine_21 ?_
    refine X_iconst (v := 0) dX4_isSoundLine_22 (by decide) ?_
    refine X_iload_n dX4_isSoundLine_23 (i := 2) rfl rfl ?_
    refine X_iconst (v := 1) dX4_isSoundLine_24 (by decide) ?_
    refine X_isub dX4_isSoundLine_25 ?_
    refine XJ.top (v' := .int (nI (np - 1))) (by rw [show (1 : Int32) = nI 1 from rfl, pk_sub (by omega)]) ?_
    refine X_callSN (gc2 := 0) (gs2 := 0) (c_isBetween (nI (ch L k)) (nI (0)) (nI (np - 1))) kmX10_isBetween rfl nX4_47 sX10_isBetween rfl rfl (Nat.le_of_ble_eq_true rfl) (by decide) dX4_isSoundLine_26 (by decide) (by decide) (fun E w1 hq => nomatch hq.1) (fun v w1 hq => ?_)
    have hv := hq.1
    obtain rfl := hq.2.symm
    cases hv
    refine X_if_eq (tgt := 147) dX4_isSoundLine_29 (by decide) (fun h1 => ?_) (fun h1 => ?_)
    · exact absurd h1 (btw_y (j := ch L k) (b := 0) (c := np - 1) rfl (by omega) (by omega) (by omega))
    · refine X_aload_n dX4_isSoundLine_32 (i := 0) rfl rfl ?_
      refine X_get (i := 6) hL.1 rfl (ci := 3) rfl in4 (k := 1) (by decide) fX4_15 rfl dX4_isSoundLine_33 ?_
      refine X_iload_n dX4_isSoundLine_36 (i := 1) rfl rfl ?_
      refine X_iald (i := 8) hL.2.2.1 rfl rfl (by omega) (by decide) dX4_isSoundLine_37 ?_
      refine X_iconst (v := 1) dX4_isSoundLine_38 (by decide) ?_
      refine X_bipush (v := 6) dX4_isSoundLine_39 (by decide) ?_
      refine X_callSN (gc2 := 0) (gs2 := 0) (c_isBetween (nI (po L k)) (nI (1)) (nI (6))) kmX10_isBetween rfl nX4_47 sX10_isBetween rfl rfl (Nat.le_of_ble_eq_true rfl) (by decide) dX4_isSoundLine_41 (by decide) (by decide) (fun E w1 hq => nomatch hq.1) (fun v w1 hq => ?_)
      have hv := hq.1
      obtain rfl := hq.2.symm
      cases hv
      refine X_if_eq (tgt := 147) dX4_isSoundLine_44 (by decide) (fun h2 => ?_) (fun h2 => ?_)
      · exact absurd h2 (btw_y (j := po L k) (b := 1) (c := 6) rfl (by omega) (by omega) (by omega))
      · refine X_aload_n dX4_isSoundLine_47 (i := 0) rfl rfl ?_
        refine X_get (i := 6) hL.1 rfl (ci := 3) rfl in4 (k := 3) (by decide) fX4_21 rfl dX4_isSoundLine_48 ?_
        refine X_iload_n dX4_isSoundLine_51 (i := 1) rfl rfl ?_
        refine X_iald (i := 10) hL.2.2.2.2.1 rfl rfl (by omega) (by decide) dX4_isSoundLine_52 ?_
        refine X_iconst (v := 1) dX4_isSoundLine_53 (by decide) ?_
        refine X_bipush (v := 20) dX4_isSoundLine_54 (by decide) ?_
        refine X_callSN (gc2 := 0) (gs2 := 0) (c_isBetween (nI (qt L k)) (nI (1)) (nI (20))) kmX10_isBetween rfl nX4_47 sX10_isBetween rfl rfl (Nat.le_of_ble_eq_true rfl) (by decide) dX4_isSoundLine_56 (by decide) (by decide) (fun E w1 hq => nomatch hq.1) (fun v w1 hq => ?_)
        have hv := hq.1
        obtain rfl := hq.2.symm
        cases hv
        refine X_if_eq (tgt := 147) dX4_isSoundLine_59 (by decide) (fun h3 => ?_) (fun h3 => ?_)
        · exact absurd h3 (btw_y (j := qt L k) (b := 1) (c := 20) rfl (by omega) (by omega) (by omega))
        · refine X_aload_n dX4_isSoundLine_62 (i := 0) rfl rfl ?_
          refine X_get (i := 6) hL.1 rfl (ci := 3) rfl in4 (k := 4) (by decide) fX4_24 rfl dX4_isSoundLine_63 ?_
          refine X_iload_n dX4_isSoundLine_66 (i := 1) rfl rfl ?_
          refine X_iald (i := 11) hL.2.2.2.2.2.1 rfl rfl (by omega) (by decide) dX4_isSoundLine_67 ?_
          refine X_iconst (v := 0) dX4_isSoundLine_68 (by decide) ?_
          refine X_bipush (v := 50) dX4_isSoundLine_69 (by decide) ?_
          refine X_callSN (gc2 := 0) (gs2 := 0) (c_isBetween (nI (sc L k)) (nI (0)) (nI (50))) kmX10_isBetween rfl nX4_47 sX10_isBetween rfl rfl (Nat.le_of_ble_eq_true rfl) (by decide) dX4_isSoundLine_71 (by decide) (by decide) (fun E w1 hq => nomatch hq.1) (fun v w1 hq => ?_)
          have hv := hq.1
          obtain rfl := hq.2.symm
          cases hv
          refine X_if_eq (tgt := 147) dX4_isSoundLine_74 (by decide) (fun h4 => ?_) (fun h4 => ?_)
          · exact absurd h4 (btw_y (j := sc L k) (b := 0) (c := 50) rfl (by omega) (by omega) (by omega))
          · refine X_aload_n dX4_isSoundLine_77 (i := 0) rfl rfl ?_
            refine X_get (i := 6) hL.1 rfl (ci := 3) rfl in4 (k := 5) (by decide) fX4_27 rfl dX4_isSoundLine_78 ?_
            refine X_iload_n dX4_isSoundLine_81 (i := 1) rfl rfl ?_
            refine X_iald (i := 12) hL.2.2.2.2.2.2.1 rfl rfl (by omega) (by decide) dX4_isSoundLine_82 ?_
            refine X_iconst (v := 1) dX4_isSoundLine_83 (by decide) ?_
            refine X_sipush (v := 999) dX4_isSoundLine_84 (by decide) ?_
            refine X_callSN (gc2 := 0) (gs2 := 0) (c_isBetween (nI (fi L k)) (nI (1)) (nI (999))) kmX10_isBetween rfl nX4_47 sX10_isBetween rfl rfl (Nat.le_of_ble_eq_true rfl) (by decide) dX4_isSoundLine_87 (by decide) (by decide) (fun E w1 hq => nomatch hq.1) (fun v w1 hq => ?_)
            have hv := hq.1
            obtain rfl := hq.2.symm
            cases hv
            refine X_if_eq (tgt := 147) dX4_isSoundLine_90 (by decide) (fun h5 => ?_) (fun h5 => ?_)
            · exact absurd h5 (btw_y (j := fi L k) (b := 1) (c := 999) rfl (by omega) (by omega) (by omega))
            · refine X_aload_n dX4_isSoundLine_93 (i := 0) rfl rfl ?_
              refine X_get (i := 6) hL.1 rfl (ci := 3) rfl in4 (k := 6) (by decide) fX4_30 rfl dX4_isSoundLine_94 ?_
              refine X_iload_n dX4_isSoundLine_97 (i := 1) rfl rfl ?_
              refine X_iald (i := 13) hL.2.2.2.2.2.2.2.1 rfl rfl (by omega) (by decide) dX4_isSoundLine_98 ?_
              refine X_aload_n dX4_isSoundLine_99 (i := 0) rfl rfl ?_
              refine X_get (i := 6) hL.1 rfl (ci := 3) rfl in4 (k := 5) (by decide) fX4_27 rfl dX4_isSoundLine_100 ?_
              refine X_iload_n dX4_isSoundLine_103 (i := 1) rfl rfl ?_
              refine X_iald (i := 12) hL.2.2.2.2.2.2.1 rfl rfl (by omega) (by decide) dX4_isSoundLine_104 ?_
              refine X_sipush (v := 999) dX4_isSoundLine_105 (by decide) ?_
              refine X_callSN (gc2 := 0) (gs2 := 0) (c_isBetween (nI (la L k)) (nI (fi L k)) (nI (999))) kmX10_isBetween rfl nX4_47 sX10_isBetween rfl rfl (Nat.le_of_ble_eq_true rfl) (by decide) dX4_isSoundLine_108 (by decide) (by decide) (fun E w1 hq => nomatch hq.1) (fun v w1 hq => ?_)
              have hv := hq.1
              obtain rfl := hq.2.symm
              cases hv
              refine X_if_eq (tgt := 147) dX4_isSoundLine_111 (by decide) (fun h6 => ?_) (fun h6 => ?_)
              · exact absurd h6 (btw_y (j := la L k) (b := fi L k) (c := 999) rfl (by omega) (by omega) (by omega))
              · refine X_aload_n dX4_isSoundLine_114 (i := 0) rfl rfl ?_
                refine X_get (i := 6) hL.1 rfl (ci := 3) rfl in4 (k := 7) (by decide) fX4_33 rfl dX4_isSoundLine_115 ?_
                refine X_iload_n dX4_isSoundLine_118 (i := 1) rfl rfl ?_
                refine X_iald (i := 14) hL.2.2.2.2.2.2.2.2.1 rfl rfl (by omega) (by decide) dX4_isSoundLine_119 ?_
                refine X_iconst (v := 0) dX4_isSoundLine_120 (by decide) ?_
                refine X_iconst (v := 3) dX4_isSoundLine_121 (by decide) ?_
                refine X_callSN (gc2 := 0) (gs2 := 0) (c_isBetween (nI (op L k - 1)) (nI (0)) (nI (3))) kmX10_isBetween rfl nX4_47 sX10_isBetween rfl rfl (Nat.le_of_ble_eq_true rfl) (by decide) dX4_isSoundLine_122 (by decide) (by decide) (fun E w1 hq => nomatch hq.1) (fun v w1 hq => ?_)
                have hv := hq.1
                obtain rfl := hq.2.symm
                cases hv
                refine X_if_eq (tgt := 147) dX4_isSoundLine_125 (by decide) (fun h7 => ?_) (fun h7 => ?_)
                · exact absurd h7 (btw_y (j := op L k - 1) (b := 0) (c := 3) rfl (by omega) (by omega) (by omega))
                · refine X_aload_n dX4_isSoundLine_128 (i := 0) rfl rfl ?_
                  refine X_get (i := 6) hL.1 rfl (ci := 3) rfl in4 (k := 8) (by decide) fX4_36 rfl dX4_isSoundLine_129 ?_
                  refine X_iload_n dX4_isSoundLine_132 (i := 1) rfl rfl ?_
                  refine X_iald (i := 15) hL.2.2.2.2.2.2.2.2.2 rfl rfl (by omega) (by decide) dX4_isSoundLine_133 ?_
                  refine X_iconst (v := 1) dX4_isSoundLine_134 (by decide) ?_
                  refine X_bipush (v := 15) dX4_isSoundLine_135 (by decide) ?_
                  refine X_callSN (gc2 := 0) (gs2 := 0) (c_isBetween (nI (xcs (op L k) (cs L k))) (nI (1)) (nI (15))) kmX10_isBetween rfl nX4_47 sX10_isBetween rfl rfl (Nat.le_of_ble_eq_true rfl) (by decide) dX4_isSoundLine_137 (by decide) (by decide) (fun E w1 hq => nomatch hq.1) (fun v w1 hq => ?_)
                  have hv := hq.1
                  obtain rfl := hq.2.symm
                  cases hv
                  refine X_if_eq (tgt := 147) dX4_isSoundLine_140 (by decide) (fun h8 => ?_) (fun h8 => ?_)
                  · exact absurd h8 (btw_y (j := xcs (op L k) (cs L k)) (b := 1) (c := 15) rfl (by omega) (by omega) (by omega))
                  · refine X_iconst (v := 1) dX4_isSoundLine_143 (by decide) ?_
                    refine X_goto (tgt := 148) dX4_isSoundLine_144 (by decide) ?_
                    refine X_ireturn dX4_isSoundLine_148 rfl rfl ?_
                    exact ⟨rfl, rfl⟩
set_option maxRecDepth 20000 in
theorem c_LTsound {np : Nat} {L : LSt} (hL : XL G.2.2.1 w L) (hI : LI np L) : XC G mX4_isSound 2 0 0 [.ref (w.1 6), .int (nI np)] w (fun r w' => r = .inl (some (.int 1)) ∧ w' = w) := by
  have h16 := hI.1
  have h40 := hI.2.1
  refine XC.of (lo0 := [(0, .ref (w.1 6)), (1, .int (nI np))]) kmX4_isSound (Nat.le_of_ble_eq_true rfl) rfl ?_
  have hloop : ∀ (n : Nat) (k : Nat), ln L - k < n → k ≤ ln L → XJ G mX4_isSound 2 0 0 17 [(0, .ref (w.1 6)), (1, .int (nI np)), (2, .int (nI k))] [] w (fun r w' => r = .inl (some (.int 1)) ∧ w' = w) := by
    intro n
    induction n with
    | zero => intro k hm hk; exact absurd hm (Nat.not_lt_zero _)
    | succ n ih =>
      intro k hm hk
      refine X_iload_n dX4_isSound_17 (i := 2) rfl rfl ?_
      refine X_aload_n dX4_isSound_18 (i := 0) rfl rfl ?_
      refine X_get (i := 6) hL.1 rfl (ci := 3) rfl in4 (k := 9) (by decide) fX4_39 rfl dX4_isSound_19 ?_
      refine X_icmp_ge (tgt := 42) dX4_isSound_22 (by decide) (fun h1 => ?_) (fun h1 => ?_)
      · have h5 : k = ln L := by have := ge_nI (a := ln L) (by omega) (by omega) h1; omega
        refine X_iconst (v := 1) dX4_isSound_42 (by decide) ?_
        refine X_ireturn dX4_isSound_43 rfl rfl ?_
        exact ⟨rfl, rfl⟩
      · have h5 : k < ln L := nge_nI (a := ln L) (by omega) (by omega) h1
        refine X_aload_n dX4_isSound_25 (i := 0) rfl rfl ?_
        refine X_iload_n dX4_isSound_26 (i := 2) rfl rfl ?_
        refine X_iload_n dX4_isSound_27 (i := 1) rfl rfl ?_
        refine X_callV (gc2 := 0) (gs2 := 0) (c_LTline hL hI k h5) (i := 6) hL.1 rfl rfl kmX4_isSoundLine rfl lX4_52 iX4_isSoundLine vX4_isSoundLine rfl rfl (Nat.le_of_ble_eq_true rfl) (by decide) dX4_isSound_28 (by decide) (by decide) (fun E w1 hq => nomatch hq.1) (fun v w1 hq => ?_)
        have hv := hq.1
        obtain rfl := hq.2.symm
        cases hv
        refine X_if_ne (tgt := 36) dX4_isSound_31 (by decide) (fun h2 => ?_) (fun h2 => ?_)
        · refine X_iinc (i := 2) (v := nI (k + 1)) (lo' := [(2, _), (0, _), (1, _)]) dX4_isSound_36 rfl (nI_inc k) (by decide) rfl ?_
          refine X_goto (tgt := 17) dX4_isSound_39 (by decide) ?_
          exact XJ.lcs (lo' := [(0, .ref (w.1 6)), (1, .int (nI np)), (2, .int (nI (k + 1)))]) ⟨rfl, rfl, rfl, trivial⟩ (ih (k + 1) (by omega) (by omega))
        · exact absurd h2 (by decide)
  refine X_aload_n dX4_isSound_0 (i := 0) rfl rfl ?_
  refine X_get (i := 6) hL.1 rfl (ci := 3) rfl in4 (k := 9) (by decide) fX4_39 rfl dX4_isSound_1 ?_
  refine X_iconst (v := 0) dX4_isSound_4 (by decide) ?_
  refine X_bipush (v := 40) dX4_isSound_5 (by decide) ?_
  refine X_callSN (gc2 := 0) (gs2 := 0) (c_isBetween (nI (ln L)) 0 40) kmX10_isBetween rfl nX4_47 sX10_isBetween rfl rfl (Nat.le_of_ble_eq_true rfl) (by decide) dX4_isSound_7 (by decide) (by decide) (fun E w1 hq => nomatch hq.1) (fun v w1 hq => ?_)
  have hv := hq.1
  obtain rfl := hq.2.symm
  cases hv
  refine X_if_ne (tgt := 15) dX4_isSound_10 (by decide) (fun h0 => ?_) (fun h0 => ?_)
  · refine X_iconst (v := 0) dX4_isSound_15 (by decide) ?_
    refine X_istore_n (i := 2) (lo' := [(2, _), (0, _), (1, _)]) dX4_isSound_16 rfl (by decide) rfl ?_
    exact XJ.lcs (lo' := [(0, .ref (w.1 6)), (1, .int (nI np)), (2, .int (nI 0))]) ⟨rfl, rfl, rfl, trivial⟩ (hloop (ln L + 1) 0 (by omega) (by omega))
  · exact absurd h0 (btw_y (j := ln L) (b := 0) (c := 40) rfl (by omega) (by omega) (by decide))
end Cons2
