/-! SELECT; the reference: held lines (walks by gen/spec28.py) -/
section Sel
variable {G : Gx} {w : Wd}
def selW (K : Nat → ClassId) (w : Wd) (L : LSt) (pr : Nat → Nat) (s : Nat) : Wd := setM (setM w 19 (aI K 96 (hlN L pr s (ln L)))) 18 (aI K 16 (nf (hcN L pr s (ln L))))
theorem set_1918 {a a' b : va_E} : setM (setM (setM w 19 a) 18 b) 19 a' = setM (setM w 19 a') 18 b := by
  rw [setM_comm (i := 18) (k := 19) (by decide), setM_setM]
theorem hlN_t {L : LSt} {pr : Nat → Nat} {s j : Nat} (h : hld L pr s j = true) : va_up (hlN L pr s j) (plc (pa L j) (po L j)) (nI j) = hlN L pr s (j + 1) := by
  funext q
  simp only [va_up, hlN, lst, h, Bool.true_and]
  by_cases hq : q = plc (pa L j) (po L j)
  · rw [if_pos hq, decide_eq_true hq.symm]; rfl
  · rw [if_neg hq, decide_eq_false (fun h2 => hq h2.symm)]; rfl
theorem hlN_f {L : LSt} {pr : Nat → Nat} {s j : Nat} (h : hld L pr s j = false) : hlN L pr s j = hlN L pr s (j + 1) := by
  funext q
  simp only [hlN, lst, h, Bool.false_and, cond_false]
theorem hcN_t {L : LSt} {pr : Nat → Nat} {s j : Nat} (h : hld L pr s j = true) : va_up (nf (hcN L pr s j)) (pa L j) (nI (hcN L pr s j (pa L j) ||| 2 ^ ch L j)) = nf (hcN L pr s (j + 1)) := by
  rw [nf_up]
  congr 1
  funext p
  simp only [va_up, hcN, orN, h, Bool.true_and]
  by_cases hq : p = pa L j
  · rw [if_pos hq, decide_eq_true hq.symm, hq]; rfl
  · rw [if_neg hq, decide_eq_false (fun h2 => hq h2.symm)]; rfl
theorem hcN_f {L : LSt} {pr : Nat → Nat} {s j : Nat} (h : hld L pr s j = false) : hcN L pr s j = hcN L pr s (j + 1) := by
  funext p
  simp only [hcN, orN, h, Bool.false_and, cond_false]
set_option maxRecDepth 20000 in
theorem c_select {np : Nat} {L : LSt} {hc hl : Nat → Int32} (hB : XB w) (hL : XL G.2.2.1 w L) (hS : XSel G.2.2.1 w hc hl) (hI : LI np L) {pr : Nat → Nat} (hpr : ∀ i, i < 4 → pr i < 4) (s : Nat) (hs : s < 2 ^ 31) : XC G mX0_select 3 0 0 [.ref (w.1 1), .int (nI s), .int (nI (cfg pr))] w (fun r w' => r = .inl none ∧ w' = selW G.2.2.1 w L pr s) := by
  refine XC.of (lo0 := [(0, .ref (w.1 1)), (1, .int (nI s)), (2, .int (nI (cfg pr)))]) kmX0_select (Nat.le_of_ble_eq_true rfl) rfl ?_
  have hloop3 : ∀ (n : Nat) (j : Nat), ln L - j < n → j ≤ ln L → XJ G mX0_select 3 0 0 47 [(0, .ref (w.1 1)), (1, .int (nI s)), (2, .int (nI (cfg pr))), (3, .int (nI j))] [] (setM (setM w 19 (aI G.2.2.1 96 (hlN L pr s j))) 18 (aI G.2.2.1 16 (nf (hcN L pr s j)))) (fun r w' => r = .inl none ∧ w' = selW G.2.2.1 w L pr s) := by
    intro n
    induction n with
    | zero => intro j hm hj; exact absurd hm (Nat.not_lt_zero _)
    | succ n ih =>
      intro j hm hj
      have e19 : cel (setM (setM w 19 (aI G.2.2.1 96 (hlN L pr s j))) 18 (aI G.2.2.1 16 (nf (hcN L pr s j)))) 19 (aI G.2.2.1 96 (hlN L pr s j)) := ⟨hS.2.1, rfl⟩
      have e18 : cel (setM (setM w 19 (aI G.2.2.1 96 (hlN L pr s j))) 18 (aI G.2.2.1 16 (nf (hcN L pr s j)))) 18 (aI G.2.2.1 16 (nf (hcN L pr s j))) := ⟨hS.1.1, rfl⟩
      have h40 := hI.2.1
      have h16 := hI.1
      refine X_iload_n dX0_select_47 (i := 3) rfl rfl ?_
      refine X_aload_n dX0_select_48 (i := 0) rfl rfl ?_
      refine X_get (i := 1) hB rfl (ci := 0) rfl in0 (k := 1) (by decide) fX0_21 rfl dX0_select_49 ?_
      refine X_get (i := 6) hL.1 rfl (ci := 3) rfl in4 (k := 9) (by decide) fX0_42 rfl dX0_select_52 ?_
      refine X_icmp_ge (tgt := 129) dX0_select_55 (by decide) (fun h1 => ?_) (fun h1 => ?_)
      · have h4 : j = ln L := by have := ge_nI (a := ln L) (by omega) (by omega) h1; omega
        subst h4
        refine X_vreturn dX0_select_129 rfl ?_
        exact ⟨rfl, rfl⟩
      · have hj2 : j < ln L := nge_nI (a := ln L) (by omega) (by omega) h1
        refine X_aload_n dX0_select_58 (i := 0) rfl rfl ?_
        refine X_get (i := 1) hB rfl (ci := 0) rfl in0 (k := 1) (by decide) fX0_21 rfl dX0_select_59 ?_
        refine X_iload_n dX0_select_62 (i := 3) rfl rfl ?_
        refine X_iload_n dX0_select_63 (i := 1) rfl rfl ?_
        refine X_iload_n dX0_select_64 (i := 2) rfl rfl ?_
        refine X_callV (gc2 := 0) (gs2 := 0) (c_isHolding (w := (setM (setM w 19 (aI G.2.2.1 96 (hlN L pr s j))) 18 (aI G.2.2.1 16 (nf (hcN L pr s j))))) hL hI j hj2 hpr s hs) (i := 6) hL.1 rfl rfl kmX4_isHolding rfl lX0_46 iX4_isHolding vX4_isHolding rfl rfl (Nat.le_of_ble_eq_true rfl) (by decide) dX0_select_65 (by decide) (by decide) (fun E w1 hq => nomatch hq.1) (fun v w1 hq => ?_)
        have hv := hq.1
        obtain rfl := hq.2.symm
        cases hv
        refine X_if_eq (tgt := 123) dX0_select_68 (by decide) (fun h2 => ?_) (fun h2 => ?_)
        · have h3 := bI_eq h2
          refine X_iinc (i := 3) (v := nI (j + 1)) (lo' := [(3, _), (0, _), (1, _), (2, _)]) dX0_select_123 rfl (nI_inc j) (by decide) rfl ?_
          refine X_goto (tgt := 47) dX0_select_126 (by decide) ?_
          first
            | refine XJ.wd (w' := (setM (setM w 19 (aI G.2.2.1 96 (hlN L pr s (j + 1)))) 18 (aI G.2.2.1 16 (nf (hcN L pr s (j + 1)))))) (by rw [hlN_f h3, hcN_f h3]) ?_
              exact XJ.lcs (lo' := [(0, .ref (w.1 1)), (1, .int (nI s)), (2, .int (nI (cfg pr))), (3, .int (nI (j + 1)))]) ⟨rfl, rfl, rfl, rfl, trivial⟩ (ih (j + 1) (by omega) (by omega))
            | refine XJ.wd (w' := (setM (setM w 19 (aI G.2.2.1 96 (hlN L pr s (j + 1)))) 18 (aI G.2.2.1 16 (nf (hcN L pr s (j + 1)))))) (by rw [← hlN_t h3, ← hcN_t h3]; exact (congrArg (fun x => setM x 18 _) set_1918).trans setM_setM) ?_
              exact XJ.lcs (lo' := [(0, .ref (w.1 1)), (1, .int (nI s)), (2, .int (nI (cfg pr))), (3, .int (nI (j + 1)))]) ⟨rfl, rfl, rfl, rfl, trivial⟩ (ih (j + 1) (by omega) (by omega))
        · have h3 := bI_ne h2
          have hb := hI.2.2 j hj2
          refine X_aload_n dX0_select_71 (i := 0) rfl rfl ?_
          refine X_get (i := 1) hB rfl (ci := 0) rfl in0 (k := 1) (by decide) fX0_21 rfl dX0_select_72 ?_
          refine X_get (i := 6) hL.1 rfl (ci := 3) rfl in4 (k := 0) (by decide) fX0_50 rfl dX0_select_75 ?_
          refine X_iload_n dX0_select_78 (i := 3) rfl rfl ?_
          refine X_iald (i := 7) hL.2.1 rfl rfl (by omega) (by decide) dX0_select_79 ?_
          refine X_istore (i := 4) (lo' := [(4, _), (0, _), (1, _), (2, _), (3, _)]) dX0_select_80 (by decide) rfl ?_
          refine X_aload_n dX0_select_82 (i := 0) rfl rfl ?_
          refine X_get (i := 1) hB rfl (ci := 0) rfl in0 (k := 5) (by decide) fX0_35 rfl dX0_select_83 ?_
          refine X_iload dX0_select_86 (i := 4) rfl ?_
          refine X_aload_n dX0_select_88 (i := 0) rfl rfl ?_
          refine X_get (i := 1) hB rfl (ci := 0) rfl in0 (k := 1) (by decide) fX0_21 rfl dX0_select_89 ?_
          refine X_get (i := 6) hL.1 rfl (ci := 3) rfl in4 (k := 1) (by decide) fX0_53 rfl dX0_select_92 ?_
          refine X_iload_n dX0_select_95 (i := 3) rfl rfl ?_
          refine X_iald (i := 8) hL.2.2.1 rfl rfl (by omega) (by decide) dX0_select_96 ?_
          refine X_callS (gc2 := 0) (gs2 := 0) (c_placeOf (w := (setM (setM w 19 (aI G.2.2.1 96 (hlN L pr s j))) 18 (aI G.2.2.1 16 (nf (hcN L pr s j))))) (pa L j) (po L j) hb.2.1.1) kmX0_placeOf rfl lX0_56 sX0_placeOf rfl rfl (Nat.le_of_ble_eq_true rfl) (by decide) dX0_select_97 (by decide) (by decide) (fun E w1 hq => nomatch hq.1) (fun v w1 hq => ?_)
          have hv := hq.1
          obtain rfl := hq.2.symm
          cases hv
          refine X_iload_n dX0_select_100 (i := 3) rfl rfl ?_
          refine X_iast (i := 19) e19 rfl rfl (by have := hb.2.1; unfold plc; omega) (by decide) dX0_select_101 (fun hc_101 => ?_)
          refine X_aload_n dX0_select_102 (i := 0) rfl rfl ?_
          refine X_get (i := 1) hB rfl (ci := 0) rfl in0 (k := 4) (by decide) fX0_32 rfl dX0_select_103 ?_
          refine X_iload dX0_select_106 (i := 4) rfl ?_
          refine X_dup2_11 dX0_select_108 rfl rfl ?_
          refine X_iald (i := 18) e18 rfl rfl (by omega) (by decide) dX0_select_109 ?_
          refine X_iconst (v := 1) dX0_select_110 (by decide) ?_
          refine X_aload_n dX0_select_111 (i := 0) rfl rfl ?_
          refine X_get (i := 1) hB rfl (ci := 0) rfl in0 (k := 1) (by decide) fX0_21 rfl dX0_select_112 ?_
          refine X_get (i := 6) hL.1 rfl (ci := 3) rfl in4 (k := 2) (by decide) fX0_60 rfl dX0_select_115 ?_
          refine X_iload_n dX0_select_118 (i := 3) rfl rfl ?_
          refine X_iald (i := 9) hL.2.2.2.1 rfl rfl (by omega) (by decide) dX0_select_119 ?_
          refine X_ishl dX0_select_120 ?_
          refine XJ.top (v' := .int (nI (2 ^ ch L j))) (by rw [show nf (ch L) j = nI (ch L j) from rfl, shl1 _ (by omega)]) ?_
          refine X_ior dX0_select_121 ?_
          refine XJ.top (v' := .int (nI (hcN L pr s j (pa L j) ||| 2 ^ ch L j))) (by rw [← nI_or]; rfl) ?_
          refine X_iast (i := 18) e18 rfl rfl (by omega) (by decide) dX0_select_122 (fun hc_122 => ?_)
          refine X_iinc (i := 3) (v := nI (j + 1)) (lo' := [(3, _), (4, _), (0, _), (1, _), (2, _)]) dX0_select_123 rfl (nI_inc j) (by decide) rfl ?_
          refine X_goto (tgt := 47) dX0_select_126 (by decide) ?_
          first
            | refine XJ.wd (w' := (setM (setM w 19 (aI G.2.2.1 96 (hlN L pr s (j + 1)))) 18 (aI G.2.2.1 16 (nf (hcN L pr s (j + 1)))))) (by rw [hlN_f h3, hcN_f h3]) ?_
              exact XJ.lcs (lo' := [(0, .ref (w.1 1)), (1, .int (nI s)), (2, .int (nI (cfg pr))), (3, .int (nI (j + 1)))]) ⟨rfl, rfl, rfl, rfl, trivial⟩ (ih (j + 1) (by omega) (by omega))
            | refine XJ.wd (w' := (setM (setM w 19 (aI G.2.2.1 96 (hlN L pr s (j + 1)))) 18 (aI G.2.2.1 16 (nf (hcN L pr s (j + 1)))))) (by rw [← hlN_t h3, ← hcN_t h3]; exact (congrArg (fun x => setM x 18 _) set_1918).trans setM_setM) ?_
              exact XJ.lcs (lo' := [(0, .ref (w.1 1)), (1, .int (nI s)), (2, .int (nI (cfg pr))), (3, .int (nI (j + 1)))]) ⟨rfl, rfl, rfl, rfl, trivial⟩ (ih (j + 1) (by omega) (by omega))
  have hloop2 : ∀ (n : Nat) (i : Nat) (f : Nat → Int32), 16 - i < n → i ≤ 16 → (∀ q, q < i → f q = 0) → XJ G mX0_select 3 0 0 26 [(0, .ref (w.1 1)), (1, .int (nI s)), (2, .int (nI (cfg pr))), (3, .int (nI i))] [] (setM (setM w 19 (aI G.2.2.1 96 (fun _ => -1))) 18 (aI G.2.2.1 16 f)) (fun r w' => r = .inl none ∧ w' = selW G.2.2.1 w L pr s) := by
    intro n
    induction n with
    | zero => intro i f hm hi hf; exact absurd hm (Nat.not_lt_zero _)
    | succ n ih =>
      intro i f hm hi hf
      have e19 : cel (setM (setM w 19 (aI G.2.2.1 96 (fun _ => -1))) 18 (aI G.2.2.1 16 f)) 19 (aI G.2.2.1 96 (fun _ => -1)) := ⟨hS.2.1, rfl⟩
      have e18 : cel (setM (setM w 19 (aI G.2.2.1 96 (fun _ => -1))) 18 (aI G.2.2.1 16 f)) 18 (aI G.2.2.1 16 f) := ⟨hS.1.1, rfl⟩
      refine X_iload_n dX0_select_26 (i := 3) rfl rfl ?_
      refine X_bipush (v := 16) dX0_select_27 (by decide) ?_
      refine X_icmp_ge (tgt := 45) dX0_select_29 (by decide) (fun h1 => ?_) (fun h1 => ?_)
      · have h3 : i = 16 := by have := ge_nI (a := 16) (by decide) (by omega) h1; omega
        subst h3
        refine XJ.extI (i := 18) (n := 16) (g := nf (hcN L pr s 0)) e18 (fun q hq => hf q hq) ?_
        rw [setM_setM]
        refine X_iconst (v := 0) dX0_select_45 (by decide) ?_
        refine X_istore_n (i := 3) (lo' := [(3, _), (0, _), (1, _), (2, _)]) dX0_select_46 rfl (by decide) rfl ?_
        exact XJ.lcs (lo' := [(0, .ref (w.1 1)), (1, .int (nI s)), (2, .int (nI (cfg pr))), (3, .int (nI 0))]) ⟨rfl, rfl, rfl, rfl, trivial⟩ (hloop3 (ln L + 1) 0 (by omega) (by omega))
      · have h3 : i < 16 := nge_nI (a := 16) (by decide) (by omega) h1
        refine X_aload_n dX0_select_32 (i := 0) rfl rfl ?_
        refine X_get (i := 1) hB rfl (ci := 0) rfl in0 (k := 4) (by decide) fX0_32 rfl dX0_select_33 ?_
        refine X_iload_n dX0_select_36 (i := 3) rfl rfl ?_
        refine X_iconst (v := 0) dX0_select_37 (by decide) ?_
        refine X_iast (i := 18) e18 rfl rfl (by omega) (by decide) dX0_select_38 (fun hc_38 => ?_)
        refine X_iinc (i := 3) (v := nI (i + 1)) (lo' := [(3, _), (0, _), (1, _), (2, _)]) dX0_select_39 rfl (nI_inc i) (by decide) rfl ?_
        refine X_goto (tgt := 26) dX0_select_42 (by decide) ?_
        refine XJ.wd (w' := setM (setM w 19 (aI G.2.2.1 96 (fun _ => -1))) 18 (aI G.2.2.1 16 (va_up f i 0))) setM_setM ?_
        exact XJ.lcs (lo' := [(0, .ref (w.1 1)), (1, .int (nI s)), (2, .int (nI (cfg pr))), (3, .int (nI (i + 1)))]) ⟨rfl, rfl, rfl, rfl, trivial⟩ (ih (i + 1) _ (by omega) (by omega) (fun q hq => by simp only [va_up]; split; rfl; exact hf q (by omega)))
  have hloop1 : ∀ (n : Nat) (i : Nat) (f : Nat → Int32), 96 - i < n → i ≤ 96 → (∀ q, q < i → f q = -1) → XJ G mX0_select 3 0 0 2 [(0, .ref (w.1 1)), (1, .int (nI s)), (2, .int (nI (cfg pr))), (3, .int (nI i))] [] (setM w 19 (aI G.2.2.1 96 f)) (fun r w' => r = .inl none ∧ w' = selW G.2.2.1 w L pr s) := by
    intro n
    induction n with
    | zero => intro i f hm hi hf; exact absurd hm (Nat.not_lt_zero _)
    | succ n ih =>
      intro i f hm hi hf
      have e19 : cel (setM w 19 (aI G.2.2.1 96 f)) 19 (aI G.2.2.1 96 f) := ⟨hS.2.1, rfl⟩
      refine X_iload_n dX0_select_2 (i := 3) rfl rfl ?_
      refine X_aload_n dX0_select_3 (i := 0) rfl rfl ?_
      refine X_get (i := 1) hB rfl (ci := 0) rfl in0 (k := 5) (by decide) fX0_35 rfl dX0_select_4 ?_
      refine X_alen (n := 0) (i := 19) (t := 0) (v := 96) e19 rfl rfl rfl dX0_select_7 ?_
      refine X_icmp_ge (tgt := 24) dX0_select_8 (by decide) (fun h1 => ?_) (fun h1 => ?_)
      · have h3 : i = 96 := by have := ge_nI (a := 96) (by decide) (by omega) h1; omega
        subst h3
        refine XJ.extI (i := 19) (n := 96) (g := fun _ => -1) e19 (fun q hq => hf q hq) ?_
        rw [setM_setM]
        refine X_iconst (v := 0) dX0_select_24 (by decide) ?_
        refine X_istore_n (i := 3) (lo' := [(3, _), (0, _), (1, _), (2, _)]) dX0_select_25 rfl (by decide) rfl ?_
        refine XJ.wd (w' := setM (setM w 19 (aI G.2.2.1 96 (fun _ => -1))) 18 (aI G.2.2.1 16 hc)) (setM_id (show (setM w 19 (aI G.2.2.1 96 (fun _ => -1))).2.2 18 = _ from hS.1.2)).symm ?_
        exact XJ.lcs (lo' := [(0, .ref (w.1 1)), (1, .int (nI s)), (2, .int (nI (cfg pr))), (3, .int (nI 0))]) ⟨rfl, rfl, rfl, rfl, trivial⟩ (hloop2 17 0 hc (by omega) (by omega) (fun q hq => absurd hq (by omega)))
      · have h3 : i < 96 := nge_nI (a := 96) (by decide) (by omega) h1
        refine X_aload_n dX0_select_11 (i := 0) rfl rfl ?_
        refine X_get (i := 1) hB rfl (ci := 0) rfl in0 (k := 5) (by decide) fX0_35 rfl dX0_select_12 ?_
        refine X_iload_n dX0_select_15 (i := 3) rfl rfl ?_
        refine X_iconst (v := -1) dX0_select_16 (by decide) ?_
        refine X_iast (i := 19) e19 rfl rfl (by omega) (by decide) dX0_select_17 (fun hc_17 => ?_)
        refine X_iinc (i := 3) (v := nI (i + 1)) (lo' := [(3, _), (0, _), (1, _), (2, _)]) dX0_select_18 rfl (nI_inc i) (by decide) rfl ?_
        refine X_goto (tgt := 2) dX0_select_21 (by decide) ?_
        refine XJ.wd (w' := setM w 19 (aI G.2.2.1 96 (va_up f i (-1)))) setM_setM ?_
        exact XJ.lcs (lo' := [(0, .ref (w.1 1)), (1, .int (nI s)), (2, .int (nI (cfg pr))), (3, .int (nI (i + 1)))]) ⟨rfl, rfl, rfl, rfl, trivial⟩ (ih (i + 1) _ (by omega) (by omega) (fun q hq => by simp only [va_up]; split; rfl; exact hf q (by omega)))
  refine X_iconst (v := 0) dX0_select_0 (by decide) ?_
  refine X_istore_n (i := 3) (lo' := [(3, _), (0, _), (1, _), (2, _)]) dX0_select_1 rfl (by decide) rfl ?_
  refine XJ.wd (w' := setM w 19 (aI G.2.2.1 96 hl)) (setM_id hS.2.2).symm ?_
  exact XJ.lcs (lo' := [(0, .ref (w.1 1)), (1, .int (nI s)), (2, .int (nI (cfg pr))), (3, .int (nI 0))]) ⟨rfl, rfl, rfl, rfl, trivial⟩ (hloop1 97 0 hl (by omega) (by omega) (fun q hq => absurd hq (by omega)))
end Sel
