/-! CONSISTENT: the sets (walks by gen/spec54.py) -/
section Cons4
variable {G : Gx} {w : Wd}
set_option maxRecDepth 20000 in
theorem c_soundSets {np : Nat} {L : LSt} (hB : XB w) (hL : XL G.2.2.1 w L) (hS : XS G.2.2.1 w L) (hI : LI np L) : XC G mX0_hasSoundSets 2 0 0 [.ref (w.1 1)] w (fun r w' => r = .inl (some (.int 1)) ∧ w' = w) := by
  have h16 := hI.1
  have h40 := hI.2.1
  refine XC.of (lo0 := [(0, .ref (w.1 1))]) kmX0_hasSoundSets (Nat.le_of_ble_eq_true rfl) rfl ?_
  have hloop : ∀ (n : Nat) (k : Nat), 16 - k < n → k ≤ 16 → XJ G mX0_hasSoundSets 2 0 0 2 [(0, .ref (w.1 1)), (1, .int (nI k))] [] w (fun r w' => r = .inl (some (.int 1)) ∧ w' = w) := by
    intro n
    induction n with
    | zero => intro k hm hk; exact absurd hm (Nat.not_lt_zero _)
    | succ n ih =>
      intro k hm hk
      refine X_iload_n dX0_hasSoundSets_2 (i := 1) rfl rfl ?_
      refine X_bipush (v := 16) dX0_hasSoundSets_3 (by decide) ?_
      refine X_icmp_ge (tgt := 119) dX0_hasSoundSets_5 (by decide) (fun h1 => ?_) (fun h1 => ?_)
      · have h5k : k = 16 := by have := ge_nI (a := 16) (by omega) (by omega) h1; omega
        refine X_iconst (v := 1) dX0_hasSoundSets_119 (by decide) ?_
        refine X_ireturn dX0_hasSoundSets_120 rfl rfl ?_
        exact ⟨rfl, rfl⟩
      · have h5k : k < 16 := nge_nI (a := 16) (by omega) (by omega) h1
        refine X_iconst (v := 0) dX0_hasSoundSets_8 (by decide) ?_
        refine X_istore_n (i := 2) (lo' := [(2, _), (0, _), (1, _)]) dX0_hasSoundSets_9 rfl (by decide) rfl ?_
        refine X_iconst (v := 0) dX0_hasSoundSets_10 (by decide) ?_
        refine X_istore_n (i := 3) (lo' := [(3, _), (2, _), (0, _), (1, _)]) dX0_hasSoundSets_11 rfl (by decide) rfl ?_
        refine X_iconst (v := 0) dX0_hasSoundSets_12 (by decide) ?_
        refine X_istore (i := 4) (lo' := [(4, _), (3, _), (2, _), (0, _), (1, _)]) dX0_hasSoundSets_13 (by decide) rfl ?_
        have hin : ∀ (m : Nat) (j : Nat), ln L - j < m → j ≤ ln L → XJ G mX0_hasSoundSets 2 0 0 15 [(0, .ref (w.1 1)), (1, .int (nI k)), (2, .int (nI (orN (fun j => decide (pa L j = k)) (fun j => 2 ^ ch L j) j))), (3, .int (nI (orN (fun j => decide (ch L j = k)) (fun j => 2 ^ pa L j) j))), (4, .int (nI j))] [] w (fun r w' => r = .inl (some (.int 1)) ∧ w' = w) := by
          intro m
          induction m with
          | zero => intro j hm2 hj; exact absurd hm2 (Nat.not_lt_zero _)
          | succ m ih2 =>
            intro j hm2 hj
            refine X_iload dX0_hasSoundSets_15 (i := 4) rfl ?_
            refine X_aload_n dX0_hasSoundSets_17 (i := 0) rfl rfl ?_
            refine X_get (i := 1) hB rfl (ci := 0) rfl in0 (k := 1) (by decide) fX0_21 rfl dX0_hasSoundSets_18 ?_
            refine X_get (i := 6) hL.1 rfl (ci := 3) rfl in4 (k := 9) (by decide) fX0_42 rfl dX0_hasSoundSets_21 ?_
            refine X_icmp_ge (tgt := 91) dX0_hasSoundSets_24 (by decide) (fun h2 => ?_) (fun h2 => ?_)
            · have h7 : j = ln L := by have := ge_nI (a := ln L) (by omega) (by omega) h2; omega
              subst h7
              refine X_aload_n dX0_hasSoundSets_91 (i := 0) rfl rfl ?_
              refine X_get (i := 1) hB rfl (ci := 0) rfl in0 (k := 2) (by decide) fX0_25 rfl dX0_hasSoundSets_92 ?_
              refine X_iload_n dX0_hasSoundSets_95 (i := 1) rfl rfl ?_
              refine X_iald (i := 16) hS.1 rfl rfl (by omega) (by decide) dX0_hasSoundSets_96 ?_
              refine X_iload_n dX0_hasSoundSets_97 (i := 2) rfl rfl ?_
              refine X_icmp_ne (tgt := 111) dX0_hasSoundSets_98 (by decide) (fun h5 => ?_) (fun h5 => ?_)
              · exact absurd rfl h5
              · refine X_aload_n dX0_hasSoundSets_101 (i := 0) rfl rfl ?_
                refine X_get (i := 1) hB rfl (ci := 0) rfl in0 (k := 3) (by decide) fX0_29 rfl dX0_hasSoundSets_102 ?_
                refine X_iload_n dX0_hasSoundSets_105 (i := 1) rfl rfl ?_
                refine X_iald (i := 17) hS.2 rfl rfl (by omega) (by decide) dX0_hasSoundSets_106 ?_
                refine X_iload_n dX0_hasSoundSets_107 (i := 3) rfl rfl ?_
                refine X_icmp_eq (tgt := 113) dX0_hasSoundSets_108 (by decide) (fun h6 => ?_) (fun h6 => ?_)
                · refine X_iinc (i := 1) (v := nI (k + 1)) (lo' := [(1, _), (0, _), (2, _), (3, _), (4, _)]) dX0_hasSoundSets_113 rfl (nI_inc k) (by decide) rfl ?_
                  refine X_goto (tgt := 2) dX0_hasSoundSets_116 (by decide) ?_
                  exact XJ.lcs (lo' := [(0, .ref (w.1 1)), (1, .int (nI (k + 1)))]) ⟨rfl, rfl, trivial⟩ (ih (k + 1) (by omega) (by omega))
                · exact absurd rfl h6
            · have h7 : j < ln L := nge_nI (a := ln L) (by omega) (by omega) h2
              have hb := hI.2.2 j h7
              refine X_aload_n dX0_hasSoundSets_27 (i := 0) rfl rfl ?_
              refine X_get (i := 1) hB rfl (ci := 0) rfl in0 (k := 1) (by decide) fX0_21 rfl dX0_hasSoundSets_28 ?_
              refine X_get (i := 6) hL.1 rfl (ci := 3) rfl in4 (k := 0) (by decide) fX0_50 rfl dX0_hasSoundSets_31 ?_
              refine X_iload dX0_hasSoundSets_34 (i := 4) rfl ?_
              refine X_iald (i := 7) hL.2.1 rfl rfl (by omega) (by decide) dX0_hasSoundSets_36 ?_
              refine X_iload_n dX0_hasSoundSets_37 (i := 1) rfl rfl ?_
              refine X_icmp_ne (tgt := 56) dX0_hasSoundSets_38 (by decide) (fun h3 => ?_) (fun h3 => ?_)
              · have g1 : decide (pa L j = k) = false := decide_eq_false (fun h => h3 (by show nI (pa L j) = nI k; rw [h]))
                refine X_aload_n dX0_hasSoundSets_56 (i := 0) rfl rfl ?_
                refine X_get (i := 1) hB rfl (ci := 0) rfl in0 (k := 1) (by decide) fX0_21 rfl dX0_hasSoundSets_57 ?_
                refine X_get (i := 6) hL.1 rfl (ci := 3) rfl in4 (k := 2) (by decide) fX0_60 rfl dX0_hasSoundSets_60 ?_
                refine X_iload dX0_hasSoundSets_63 (i := 4) rfl ?_
                refine X_iald (i := 9) hL.2.2.2.1 rfl rfl (by omega) (by decide) dX0_hasSoundSets_65 ?_
                refine X_iload_n dX0_hasSoundSets_66 (i := 1) rfl rfl ?_
                refine X_icmp_ne (tgt := 85) dX0_hasSoundSets_67 (by decide) (fun h4 => ?_) (fun h4 => ?_)
                · have g2 : decide (ch L j = k) = false := decide_eq_false (fun h => h4 (by show nI (ch L j) = nI k; rw [h]))
                  refine X_iinc (i := 4) (v := nI (j + 1)) (lo' := [(4, _), (0, _), (1, _), (2, _), (3, _)]) dX0_hasSoundSets_85 rfl (nI_inc j) (by decide) rfl ?_
                  refine X_goto (tgt := 15) dX0_hasSoundSets_88 (by decide) ?_
                  first
                    | exact XJ.lcs (lo' := [(0, .ref (w.1 1)), (1, .int (nI k)), (2, .int (nI (orN (fun j => decide (pa L j = k)) (fun j => 2 ^ ch L j) (j + 1)))), (3, .int (nI (orN (fun j => decide (ch L j = k)) (fun j => 2 ^ pa L j) (j + 1)))), (4, .int (nI (j + 1)))]) ⟨rfl, rfl, (congrArg (fun x => some (Value.int (nI x))) (orN_t g1)), (congrArg (fun x => some (Value.int (nI x))) (orN_t g2)), rfl, trivial⟩ (ih2 (j + 1) (by omega) (by omega))
                    | exact XJ.lcs (lo' := [(0, .ref (w.1 1)), (1, .int (nI k)), (2, .int (nI (orN (fun j => decide (pa L j = k)) (fun j => 2 ^ ch L j) (j + 1)))), (3, .int (nI (orN (fun j => decide (ch L j = k)) (fun j => 2 ^ pa L j) (j + 1)))), (4, .int (nI (j + 1)))]) ⟨rfl, rfl, (congrArg (fun x => some (Value.int (nI x))) (orN_t g1)), (congrArg (fun x => some (Value.int (nI x))) (orN_f g2)), rfl, trivial⟩ (ih2 (j + 1) (by omega) (by omega))
                    | exact XJ.lcs (lo' := [(0, .ref (w.1 1)), (1, .int (nI k)), (2, .int (nI (orN (fun j => decide (pa L j = k)) (fun j => 2 ^ ch L j) (j + 1)))), (3, .int (nI (orN (fun j => decide (ch L j = k)) (fun j => 2 ^ pa L j) (j + 1)))), (4, .int (nI (j + 1)))]) ⟨rfl, rfl, (congrArg (fun x => some (Value.int (nI x))) (orN_f g1)), (congrArg (fun x => some (Value.int (nI x))) (orN_t g2)), rfl, trivial⟩ (ih2 (j + 1) (by omega) (by omega))
                    | exact XJ.lcs (lo' := [(0, .ref (w.1 1)), (1, .int (nI k)), (2, .int (nI (orN (fun j => decide (pa L j = k)) (fun j => 2 ^ ch L j) (j + 1)))), (3, .int (nI (orN (fun j => decide (ch L j = k)) (fun j => 2 ^ pa L j) (j + 1)))), (4, .int (nI (j + 1)))]) ⟨rfl, rfl, (congrArg (fun x => some (Value.int (nI x))) (orN_f g1)), (congrArg (fun x => some (Value.int (nI x))) (orN_f g2)), rfl, trivial⟩ (ih2 (j + 1) (by omega) (by omega))
                · have g2 : decide (ch L j = k) = true := decide_eq_true ((nI_eq (by omega) (by omega)).mp h4)
                  refine X_iload_n dX0_hasSoundSets_70 (i := 3) rfl rfl ?_
                  refine X_iconst (v := 1) dX0_hasSoundSets_71 (by decide) ?_
                  refine X_aload_n dX0_hasSoundSets_72 (i := 0) rfl rfl ?_
                  refine X_get (i := 1) hB rfl (ci := 0) rfl in0 (k := 1) (by decide) fX0_21 rfl dX0_hasSoundSets_73 ?_
                  refine X_get (i := 6) hL.1 rfl (ci := 3) rfl in4 (k := 0) (by decide) fX0_50 rfl dX0_hasSoundSets_76 ?_
                  refine X_iload dX0_hasSoundSets_79 (i := 4) rfl ?_
                  refine X_iald (i := 7) hL.2.1 rfl rfl (by omega) (by decide) dX0_hasSoundSets_81 ?_
                  refine X_ishl dX0_hasSoundSets_82 ?_
                  refine XJ.top (v' := .int (nI (2 ^ pa L j))) (by rw [show nf (pa L) j = nI (pa L j) from rfl, shl1 _ (by omega)]) ?_
                  refine X_ior dX0_hasSoundSets_83 ?_
                  refine XJ.top (v' := .int (nI (orN (fun j => decide (ch L j = k)) (fun j => 2 ^ pa L j) j ||| 2 ^ pa L j))) (by rw [← nI_or]) ?_
                  refine X_istore_n (i := 3) (lo' := [(3, _), (0, _), (1, _), (2, _), (4, _)]) dX0_hasSoundSets_84 rfl (by decide) rfl ?_
                  refine X_iinc (i := 4) (v := nI (j + 1)) (lo' := [(4, _), (3, _), (0, _), (1, _), (2, _)]) dX0_hasSoundSets_85 rfl (nI_inc j) (by decide) rfl ?_
                  refine X_goto (tgt := 15) dX0_hasSoundSets_88 (by decide) ?_
                  first
                    | exact XJ.lcs (lo' := [(0, .ref (w.1 1)), (1, .int (nI k)), (2, .int (nI (orN (fun j => decide (pa L j = k)) (fun j => 2 ^ ch L j) (j + 1)))), (3, .int (nI (orN (fun j => decide (ch L j = k)) (fun j => 2 ^ pa L j) (j + 1)))), (4, .int (nI (j + 1)))]) ⟨rfl, rfl, (congrArg (fun x => some (Value.int (nI x))) (orN_t g1)), (congrArg (fun x => some (Value.int (nI x))) (orN_t g2)), rfl, trivial⟩ (ih2 (j + 1) (by omega) (by omega))
                    | exact XJ.lcs (lo' := [(0, .ref (w.1 1)), (1, .int (nI k)), (2, .int (nI (orN (fun j => decide (pa L j = k)) (fun j => 2 ^ ch L j) (j + 1)))), (3, .int (nI (orN (fun j => decide (ch L j = k)) (fun j => 2 ^ pa L j) (j + 1)))), (4, .int (nI (j + 1)))]) ⟨rfl, rfl, (congrArg (fun x => some (Value.int (nI x))) (orN_t g1)), (congrArg (fun x => some (Value.int (nI x))) (orN_f g2)), rfl, trivial⟩ (ih2 (j + 1) (by omega) (by omega))
                    | exact XJ.lcs (lo' := [(0, .ref (w.1 1)), (1, .int (nI k)), (2, .int (nI (orN (fun j => decide (pa L j = k)) (fun j => 2 ^ ch L j) (j + 1)))), (3, .int (nI (orN (fun j => decide (ch L j = k)) (fun j => 2 ^ pa L j) (j + 1)))), (4, .int (nI (j + 1)))]) ⟨rfl, rfl, (congrArg (fun x => some (Value.int (nI x))) (orN_f g1)), (congrArg (fun x => some (Value.int (nI x))) (orN_t g2)), rfl, trivial⟩ (ih2 (j + 1) (by omega) (by omega))
                    | exact XJ.lcs (lo' := [(0, .ref (w.1 1)), (1, .int (nI k)), (2, .int (nI (orN (fun j => decide (pa L j = k)) (fun j => 2 ^ ch L j) (j + 1)))), (3, .int (nI (orN (fun j => decide (ch L j = k)) (fun j => 2 ^ pa L j) (j + 1)))), (4, .int (nI (j + 1)))]) ⟨rfl, rfl, (congrArg (fun x => some (Value.int (nI x))) (orN_f g1)), (congrArg (fun x => some (Value.int (nI x))) (orN_f g2)), rfl, trivial⟩ (ih2 (j + 1) (by omega) (by omega))
              · have g1 : decide (pa L j = k) = true := decide_eq_true ((nI_eq (by omega) (by omega)).mp h3)
                refine X_iload_n dX0_hasSoundSets_41 (i := 2) rfl rfl ?_
                refine X_iconst (v := 1) dX0_hasSoundSets_42 (by decide) ?_
                refine X_aload_n dX0_hasSoundSets_43 (i := 0) rfl rfl ?_
                refine X_get (i := 1) hB rfl (ci := 0) rfl in0 (k := 1) (by decide) fX0_21 rfl dX0_hasSoundSets_44 ?_
                refine X_get (i := 6) hL.1 rfl (ci := 3) rfl in4 (k := 2) (by decide) fX0_60 rfl dX0_hasSoundSets_47 ?_
                refine X_iload dX0_hasSoundSets_50 (i := 4) rfl ?_
                refine X_iald (i := 9) hL.2.2.2.1 rfl rfl (by omega) (by decide) dX0_hasSoundSets_52 ?_
                refine X_ishl dX0_hasSoundSets_53 ?_
                refine XJ.top (v' := .int (nI (2 ^ ch L j))) (by rw [show nf (ch L) j = nI (ch L j) from rfl, shl1 _ (by omega)]) ?_
                refine X_ior dX0_hasSoundSets_54 ?_
                refine XJ.top (v' := .int (nI (orN (fun j => decide (pa L j = k)) (fun j => 2 ^ ch L j) j ||| 2 ^ ch L j))) (by rw [← nI_or]) ?_
                refine X_istore_n (i := 2) (lo' := [(2, _), (0, _), (1, _), (3, _), (4, _)]) dX0_hasSoundSets_55 rfl (by decide) rfl ?_
                refine X_aload_n dX0_hasSoundSets_56 (i := 0) rfl rfl ?_
                refine X_get (i := 1) hB rfl (ci := 0) rfl in0 (k := 1) (by decide) fX0_21 rfl dX0_hasSoundSets_57 ?_
                refine X_get (i := 6) hL.1 rfl (ci := 3) rfl in4 (k := 2) (by decide) fX0_60 rfl dX0_hasSoundSets_60 ?_
                refine X_iload dX0_hasSoundSets_63 (i := 4) rfl ?_
                refine X_iald (i := 9) hL.2.2.2.1 rfl rfl (by omega) (by decide) dX0_hasSoundSets_65 ?_
                refine X_iload_n dX0_hasSoundSets_66 (i := 1) rfl rfl ?_
                refine X_icmp_ne (tgt := 85) dX0_hasSoundSets_67 (by decide) (fun h4 => ?_) (fun h4 => ?_)
                · have g2 : decide (ch L j = k) = false := decide_eq_false (fun h => h4 (by show nI (ch L j) = nI k; rw [h]))
                  refine X_iinc (i := 4) (v := nI (j + 1)) (lo' := [(4, _), (2, _), (0, _), (1, _), (3, _)]) dX0_hasSoundSets_85 rfl (nI_inc j) (by decide) rfl ?_
                  refine X_goto (tgt := 15) dX0_hasSoundSets_88 (by decide) ?_
                  first
                    | exact XJ.lcs (lo' := [(0, .ref (w.1 1)), (1, .int (nI k)), (2, .int (nI (orN (fun j => decide (pa L j = k)) (fun j => 2 ^ ch L j) (j + 1)))), (3, .int (nI (orN (fun j => decide (ch L j = k)) (fun j => 2 ^ pa L j) (j + 1)))), (4, .int (nI (j + 1)))]) ⟨rfl, rfl, (congrArg (fun x => some (Value.int (nI x))) (orN_t g1)), (congrArg (fun x => some (Value.int (nI x))) (orN_t g2)), rfl, trivial⟩ (ih2 (j + 1) (by omega) (by omega))
                    | exact XJ.lcs (lo' := [(0, .ref (w.1 1)), (1, .int (nI k)), (2, .int (nI (orN (fun j => decide (pa L j = k)) (fun j => 2 ^ ch L j) (j + 1)))), (3, .int (nI (orN (fun j => decide (ch L j = k)) (fun j => 2 ^ pa L j) (j + 1)))), (4, .int (nI (j + 1)))]) ⟨rfl, rfl, (congrArg (fun x => some (Value.int (nI x))) (orN_t g1)), (congrArg (fun x => some (Value.int (nI x))) (orN_f g2)), rfl, trivial⟩ (ih2 (j + 1) (by omega) (by omega))
                    | exact XJ.lcs (lo' := [(0, .ref (w.1 1)), (1, .int (nI k)), (2, .int (nI (orN (fun j => decide (pa L j = k)) (fun j => 2 ^ ch L j) (j + 1)))), (3, .int (nI (orN (fun j => decide (ch L j = k)) (fun j => 2 ^ pa L j) (j + 1)))), (4, .int (nI (j + 1)))]) ⟨rfl, rfl, (congrArg (fun x => some (Value.int (nI x))) (orN_f g1)), (congrArg (fun x => some (Value.int (nI x))) (orN_t g2)), rfl, trivial⟩ (ih2 (j + 1) (by omega) (by omega))
                    | exact XJ.lcs (lo' := [(0, .ref (w.1 1)), (1, .int (nI k)), (2, .int (nI (orN (fun j => decide (pa L j = k)) (fun j => 2 ^ ch L j) (j + 1)))), (3, .int (nI (orN (fun j => decide (ch L j = k)) (fun j => 2 ^ pa L j) (j + 1)))), (4, .int (nI (j + 1)))]) ⟨rfl, rfl, (congrArg (fun x => some (Value.int (nI x))) (orN_f g1)), (congrArg (fun x => some (Value.int (nI x))) (orN_f g2)), rfl, trivial⟩ (ih2 (j + 1) (by omega) (by omega))
                · have g2 : decide (ch L j = k) = true := decide_eq_true ((nI_eq (by omega) (by omega)).mp h4)
                  refine X_iload_n dX0_hasSoundSets_70 (i := 3) rfl rfl ?_
                  refine X_iconst (v := 1) dX0_hasSoundSets_71 (by decide) ?_
                  refine X_aload_n dX0_hasSoundSets_72 (i := 0) rfl rfl ?_
                  refine X_get (i := 1) hB rfl (ci := 0) rfl in0 (k := 1) (by decide) fX0_21 rfl dX0_hasSoundSets_73 ?_
                  refine X_get (i := 6) hL.1 rfl (ci := 3) rfl in4 (k := 0) (by decide) fX0_50 rfl dX0_hasSoundSets_76 ?_
                  refine X_iload dX0_hasSoundSets_79 (i := 4) rfl ?_
                  refine X_iald (i := 7) hL.2.1 rfl rfl (by omega) (by decide) dX0_hasSoundSets_81 ?_
                  refine X_ishl dX0_hasSoundSets_82 ?_
                  refine XJ.top (v' := .int (nI (2 ^ pa L j))) (by rw [show nf (pa L) j = nI (pa L j) from rfl, shl1 _ (by omega)]) ?_
                  refine X_ior dX0_hasSoundSets_83 ?_
                  refine XJ.top (v' := .int (nI (orN (fun j => decide (ch L j = k)) (fun j => 2 ^ pa L j) j ||| 2 ^ pa L j))) (by rw [← nI_or]) ?_
                  refine X_istore_n (i := 3) (lo' := [(3, _), (2, _), (0, _), (1, _), (4, _)]) dX0_hasSoundSets_84 rfl (by decide) rfl ?_
                  refine X_iinc (i := 4) (v := nI (j + 1)) (lo' := [(4, _), (3, _), (2, _), (0, _), (1, _)]) dX0_hasSoundSets_85 rfl (nI_inc j) (by decide) rfl ?_
                  refine X_goto (tgt := 15) dX0_hasSoundSets_88 (by decide) ?_
                  first
                    | exact XJ.lcs (lo' := [(0, .ref (w.1 1)), (1, .int (nI k)), (2, .int (nI (orN (fun j => decide (pa L j = k)) (fun j => 2 ^ ch L j) (j + 1)))), (3, .int (nI (orN (fun j => decide (ch L j = k)) (fun j => 2 ^ pa L j) (j + 1)))), (4, .int (nI (j + 1)))]) ⟨rfl, rfl, (congrArg (fun x => some (Value.int (nI x))) (orN_t g1)), (congrArg (fun x => some (Value.int (nI x))) (orN_t g2)), rfl, trivial⟩ (ih2 (j + 1) (by omega) (by omega))
                    | exact XJ.lcs (lo' := [(0, .ref (w.1 1)), (1, .int (nI k)), (2, .int (nI (orN (fun j => decide (pa L j = k)) (fun j => 2 ^ ch L j) (j + 1)))), (3, .int (nI (orN (fun j => decide (ch L j = k)) (fun j => 2 ^ pa L j) (j + 1)))), (4, .int (nI (j + 1)))]) ⟨rfl, rfl, (congrArg (fun x => some (Value.int (nI x))) (orN_t g1)), (congrArg (fun x => some (Value.int (nI x))) (orN_f g2)), rfl, trivial⟩ (ih2 (j + 1) (by omega) (by omega))
                    | exact XJ.lcs (lo' := [(0, .ref (w.1 1)), (1, .int (nI k)), (2, .int (nI (orN (fun j => decide (pa L j = k)) (fun j => 2 ^ ch L j) (j + 1)))), (3, .int (nI (orN (fun j => decide (ch L j = k)) (fun j => 2 ^ pa L j) (j + 1)))), (4, .int (nI (j + 1)))]) ⟨rfl, rfl, (congrArg (fun x => some (Value.int (nI x))) (orN_f g1)), (congrArg (fun x => some (Value.int (nI x))) (orN_t g2)), rfl, trivial⟩ (ih2 (j + 1) (by omega) (by omega))
                    | exact XJ.lcs (lo' := [(0, .ref (w.1 1)), (1, .int (nI k)), (2, .int (nI (orN (fun j => decide (pa L j = k)) (fun j => 2 ^ ch L j) (j + 1)))), (3, .int (nI (orN (fun j => decide (ch L j = k)) (fun j => 2 ^ pa L j) (j + 1)))), (4, .int (nI (j + 1)))]) ⟨rfl, rfl, (congrArg (fun x => some (Value.int (nI x))) (orN_f g1)), (congrArg (fun x => some (Value.int (nI x))) (orN_f g2)), rfl, trivial⟩ (ih2 (j + 1) (by omega) (by omega))
        exact XJ.lcs (lo' := [(0, .ref (w.1 1)), (1, .int (nI k)), (2, .int (nI (orN (fun j => decide (pa L j = k)) (fun j => 2 ^ ch L j) 0))), (3, .int (nI (orN (fun j => decide (ch L j = k)) (fun j => 2 ^ pa L j) 0))), (4, .int (nI 0))]) ⟨rfl, rfl, rfl, rfl, rfl, trivial⟩ (hin (ln L + 1) 0 (by omega) (by omega))
  refine X_iconst (v := 0) dX0_hasSoundSets_0 (by decide) ?_
  refine X_istore_n (i := 1) (lo' := [(1, _), (0, _)]) dX0_hasSoundSets_1 rfl (by decide) rfl ?_
  exact XJ.lcs (lo' := [(0, .ref (w.1 1)), (1, .int (nI 0))]) ⟨rfl, rfl, trivial⟩ (hloop 17 0 (by omega) (by omega))
set_option maxRecDepth 20000 in
theorem c_isConsistent {mp np : Nat} {P : PSt} {L : LSt} {O : OSt} {pr : Nat → Nat} (h0 : X0 w mp (cfg pr)) (hB : XB w) (hP : XP G.2.2.1 w P) (hL : XL G.2.2.1 w L) (hS : XS G.2.2.1 w L) (hO : XO G.2.2.1 w O) (hnp : P.1 = np) (hPI : PI P) (hI : LI np L) (hW : PW L) (hN : NC5 L) (hOI : OI np O) (hpr : ∀ i, i < 4 → pr i < 4) (hmp : mp ≤ np) : XC G mX10_isConsistent 7 0 0 [.ref (w.1 0)] w (fun r w' => r = .inl (some (.int 1)) ∧ w' = w) := by
  have h16 := hI.1
  refine XC.of (lo0 := [(0, .ref (w.1 0))]) kmX10_isConsistent (Nat.le_of_ble_eq_true rfl) rfl ?_
  refine X_aload_n dX10_isConsistent_0 (i := 0) rfl rfl ?_
  refine X_get (i := 0) h0 rfl (ci := 9) rfl in10 (k := 0) (by decide) fX10_10 rfl dX10_isConsistent_1 ?_
  refine X_get (i := 1) hB rfl (ci := 0) rfl in0 (k := 0) (by decide) fX10_80 rfl dX10_isConsistent_4 ?_
  refine X_callV (gc2 := 0) (gs2 := 0) (c_PTsound hP hPI) (i := 2) hP.1 rfl rfl kmX7_isSound rfl lX10_323 iX7_isSound vX7_isSound rfl rfl (Nat.le_of_ble_eq_true rfl) (by decide) dX10_isConsistent_7 (by decide) (by decide) (fun E w1 hq => nomatch hq.1) (fun v w1 hq => ?_)
  have hv := hq.1
  obtain rfl := hq.2.symm
  cases hv
  refine X_if_eq (tgt := 124) dX10_isConsistent_10 (by decide) (fun h1 => ?_) (fun h1 => ?_)
  · exact absurd h1 (by decide)
  · refine X_aload_n dX10_isConsistent_13 (i := 0) rfl rfl ?_
    refine X_get (i := 0) h0 rfl (ci := 9) rfl in10 (k := 0) (by decide) fX10_10 rfl dX10_isConsistent_14 ?_
    refine X_get (i := 1) hB rfl (ci := 0) rfl in0 (k := 1) (by decide) fX10_137 rfl dX10_isConsistent_17 ?_
    refine X_aload_n dX10_isConsistent_20 (i := 0) rfl rfl ?_
    refine X_get (i := 0) h0 rfl (ci := 9) rfl in10 (k := 0) (by decide) fX10_10 rfl dX10_isConsistent_21 ?_
    refine X_get (i := 1) hB rfl (ci := 0) rfl in0 (k := 0) (by decide) fX10_80 rfl dX10_isConsistent_24 ?_
    refine X_get (i := 2) hP.1 rfl (ci := 6) rfl in7 (k := 3) (by decide) fX10_84 rfl dX10_isConsistent_27 ?_
    refine XJ.top (v' := .int (nI np)) (by rw [hnp]) ?_
    refine X_callV (gc2 := 0) (gs2 := 0) (c_LTsound (np := np) hL hI) (i := 6) hL.1 rfl rfl kmX4_isSound rfl lX10_327 iX4_isSound vX4_isSound rfl rfl (Nat.le_of_ble_eq_true rfl) (by decide) dX10_isConsistent_30 (by decide) (by decide) (fun E w1 hq => nomatch hq.1) (fun v w1 hq => ?_)
    have hv := hq.1
    obtain rfl := hq.2.symm
    cases hv
    refine X_if_eq (tgt := 124) dX10_isConsistent_33 (by decide) (fun h2 => ?_) (fun h2 => ?_)
    · exact absurd h2 (by decide)
    · refine X_aload_n dX10_isConsistent_36 (i := 0) rfl rfl ?_
      refine X_get (i := 0) h0 rfl (ci := 9) rfl in10 (k := 0) (by decide) fX10_10 rfl dX10_isConsistent_37 ?_
      refine X_get (i := 1) hB rfl (ci := 0) rfl in0 (k := 1) (by decide) fX10_137 rfl dX10_isConsistent_40 ?_
      refine X_callV (gc2 := 0) (gs2 := 0) (c_isUnique hL hI hW) (i := 6) hL.1 rfl rfl kmX4_isUnique rfl lX10_330 iX4_isUnique vX4_isUnique rfl rfl (Nat.le_of_ble_eq_true rfl) (by decide) dX10_isConsistent_43 (by decide) (by decide) (fun E w1 hq => nomatch hq.1) (fun v w1 hq => ?_)
      have hv := hq.1
      obtain rfl := hq.2.symm
      cases hv
      refine X_if_eq (tgt := 124) dX10_isConsistent_46 (by decide) (fun h3 => ?_) (fun h3 => ?_)
      · exact absurd h3 (by decide)
      · refine X_aload_n dX10_isConsistent_49 (i := 0) rfl rfl ?_
        refine X_get (i := 0) h0 rfl (ci := 9) rfl in10 (k := 0) (by decide) fX10_10 rfl dX10_isConsistent_50 ?_
        refine X_callV (gc2 := 0) (gs2 := 0) (c_soundSets hB hL hS hI) (i := 1) hB rfl rfl kmX0_hasSoundSets rfl lX10_333 iX0_hasSoundSets vX0_hasSoundSets rfl rfl (Nat.le_of_ble_eq_true rfl) (by decide) dX10_isConsistent_53 (by decide) (by decide) (fun E w1 hq => nomatch hq.1) (fun v w1 hq => ?_)
        have hv := hq.1
        obtain rfl := hq.2.symm
        cases hv
        refine X_if_eq (tgt := 124) dX10_isConsistent_56 (by decide) (fun h4 => ?_) (fun h4 => ?_)
        · exact absurd h4 (by decide)
        · refine X_aload_n dX10_isConsistent_59 (i := 0) rfl rfl ?_
          refine X_get (i := 0) h0 rfl (ci := 9) rfl in10 (k := 0) (by decide) fX10_10 rfl dX10_isConsistent_60 ?_
          refine X_callV (gc2 := 0) (gs2 := 0) (c_isShallow hB hP (by omega) hS hI hN) (i := 1) hB rfl rfl kmX0_isShallow rfl lX10_336 iX0_isShallow vX0_isShallow rfl rfl (Nat.le_of_ble_eq_true rfl) (by decide) dX10_isConsistent_63 (by decide) (by decide) (fun E w1 hq => nomatch hq.1) (fun v w1 hq => ?_)
          have hv := hq.1
          obtain rfl := hq.2.symm
          cases hv
          refine X_if_eq (tgt := 124) dX10_isConsistent_66 (by decide) (fun h5 => ?_) (fun h5 => ?_)
          · exact absurd h5 (by decide)
          · refine X_aload_n dX10_isConsistent_69 (i := 0) rfl rfl ?_
            refine X_get (i := 0) h0 rfl (ci := 9) rfl in10 (k := 1) (by decide) fX10_19 rfl dX10_isConsistent_70 ?_
            refine X_aload_n dX10_isConsistent_73 (i := 0) rfl rfl ?_
            refine X_get (i := 0) h0 rfl (ci := 9) rfl in10 (k := 0) (by decide) fX10_10 rfl dX10_isConsistent_74 ?_
            refine X_get (i := 1) hB rfl (ci := 0) rfl in0 (k := 0) (by decide) fX10_80 rfl dX10_isConsistent_77 ?_
            refine X_get (i := 2) hP.1 rfl (ci := 6) rfl in7 (k := 3) (by decide) fX10_84 rfl dX10_isConsistent_80 ?_
            refine XJ.top (v' := .int (nI np)) (by rw [hnp]) ?_
            refine X_callV (gc2 := 0) (gs2 := 0) (c_OBsound (np := np) (by omega) hO hOI) (i := 20) hO.1 rfl rfl kmX5_isSound rfl lX10_339 iX5_isSound vX5_isSound rfl rfl (Nat.le_of_ble_eq_true rfl) (by decide) dX10_isConsistent_83 (by decide) (by decide) (fun E w1 hq => nomatch hq.1) (fun v w1 hq => ?_)
            have hv := hq.1
            obtain rfl := hq.2.symm
            cases hv
            refine X_if_eq (tgt := 124) dX10_isConsistent_86 (by decide) (fun h6 => ?_) (fun h6 => ?_)
            · exact absurd h6 (by decide)
            · refine X_aload_n dX10_isConsistent_89 (i := 0) rfl rfl ?_
              refine X_get (i := 0) h0 rfl (ci := 9) rfl in10 (k := 9) (by decide) fX10_66 rfl dX10_isConsistent_90 ?_
              refine X_callS (gc2 := 0) (gs2 := 0) (c_isConfiguration (nI (cfg pr))) kmX10_isConfiguration rfl lX10_340 sX10_isConfiguration rfl rfl (Nat.le_of_ble_eq_true rfl) (by decide) dX10_isConsistent_93 (by decide) (by decide) (fun E w1 hq => nomatch hq.1) (fun v w1 hq => ?_)
              have hv := hq.1
              obtain rfl := hq.2.symm
              cases hv
              refine X_if_eq (tgt := 124) dX10_isConsistent_96 (by decide) (fun h7 => ?_) (fun h7 => ?_)
              · exact absurd h7 (btw_y (j := cfg pr) (b := 0) (c := 255) rfl (by omega) (by have c0 := hpr 0 (by decide); have c1 := hpr 1 (by decide); have c2 := hpr 2 (by decide); have c3 := hpr 3 (by decide); unfold cfg; omega) (by decide))
              · refine X_aload_n dX10_isConsistent_99 (i := 0) rfl rfl ?_
                refine X_get (i := 0) h0 rfl (ci := 9) rfl in10 (k := 8) (by decide) fX10_62 rfl dX10_isConsistent_100 ?_
                refine X_iconst (v := 0) dX10_isConsistent_103 (by decide) ?_
                refine X_aload_n dX10_isConsistent_104 (i := 0) rfl rfl ?_
                refine X_get (i := 0) h0 rfl (ci := 9) rfl in10 (k := 0) (by decide) fX10_10 rfl dX10_isConsistent_105 ?_
                refine X_get (i := 1) hB rfl (ci := 0) rfl in0 (k := 0) (by decide) fX10_80 rfl dX10_isConsistent_108 ?_
                refine X_get (i := 2) hP.1 rfl (ci := 6) rfl in7 (k := 3) (by decide) fX10_84 rfl dX10_isConsistent_111 ?_
                refine XJ.top (v' := .int (nI np)) (by rw [hnp]) ?_
                refine X_callS (gc2 := 0) (gs2 := 0) (c_isBetween (nI mp) 0 (nI np)) kmX10_isBetween rfl lX10_177 sX10_isBetween rfl rfl (Nat.le_of_ble_eq_true rfl) (by decide) dX10_isConsistent_114 (by decide) (by decide) (fun E w1 hq => nomatch hq.1) (fun v w1 hq => ?_)
                have hv := hq.1
                obtain rfl := hq.2.symm
                cases hv
                refine X_if_eq (tgt := 124) dX10_isConsistent_117 (by decide) (fun h8 => ?_) (fun h8 => ?_)
                · exact absurd h8 (btw_y (j := mp) (b := 0) (c := np) rfl (by omega) (by omega) (by omega))
                · refine X_iconst (v := 1) dX10_isConsistent_120 (by decide) ?_
                  refine X_goto (tgt := 125) dX10_isConsistent_121 (by decide) ?_
                  refine X_ireturn dX10_isConsistent_125 rfl rfl ?_
                  exact ⟨rfl, rfl⟩
end Cons4
