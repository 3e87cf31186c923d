/-! NEED of the reference (walks by gen/spec49.py) -/
section NeedM
variable {G : Gx} {w : Wd} {t np nl no nm nw en : Nat}
theorem s5352 {a b c d : va_E} : setM (setM (setM (setM w 53 a) 52 b) 53 c) 52 d = setM (setM w 53 c) 52 d := by
  rw [setM_comm (i := 52) (k := 53) (by decide), setM_setM, setM_setM]
theorem s53 {a b c : va_E} : setM (setM (setM w 53 a) 52 b) 53 c = setM (setM w 53 c) 52 b := by
  rw [setM_comm (i := 52) (k := 53) (by decide), setM_setM]
set_option maxRecDepth 20000 in
theorem m_takes (h9 : M0 w t np nl no nm nw en) {O : OSt} (hO : MO G.2.2.1 w O) {pr : Nat → Nat} {kf : Nat → Int32} (hC : MC G.2.2.1 w pr) (hK : cel w 53 (aI G.2.2.1 4 kf)) (k : Nat) (hk : k < 8) : XC G mX11_takes 0 0 0 [.ref (w.1 39), .int (nI k)] w (fun r w' => r = .inl none ∧ w' = setM (setM w 53 (aI G.2.2.1 4 (nf pr))) 52 (aI G.2.2.1 4 (nf (O.2.2.2.2.1 k)))) := by
  refine XC.of (lo0 := [(0, .ref (w.1 39)), (1, .int (nI k))]) kmX11_takes (Nat.le_of_ble_eq_true rfl) rfl ?_
  have hloop : ∀ (n : Nat) (i : Nat) (A B : Nat → Int32), 4 - i < n → i ≤ 4 → (∀ q, q < i → A q = nf pr q) → (∀ q, q < i → B q = nf (O.2.2.2.2.1 k) q) → (∀ q, i ≤ q → B q = nf pr q) → XJ G mX11_takes 0 0 0 2 [(0, .ref (w.1 39)), (1, .int (nI k)), (2, .int (nI i))] [] (setM (setM w 53 (aI G.2.2.1 4 A)) 52 (aI G.2.2.1 4 B)) (fun r w' => r = .inl none ∧ w' = setM (setM w 53 (aI G.2.2.1 4 (nf pr))) 52 (aI G.2.2.1 4 (nf (O.2.2.2.2.1 k)))) := by
    intro n
    induction n with
    | zero => intro i A B hm hi hA hB hB2; exact absurd hm (Nat.not_lt_zero _)
    | succ n ih =>
      intro i A B hm hi hA hB hB2
      have e53 : cel (setM (setM w 53 (aI G.2.2.1 4 A)) 52 (aI G.2.2.1 4 B)) 53 (aI G.2.2.1 4 A) := ⟨hK.1, rfl⟩
      have e52 : cel (setM (setM w 53 (aI G.2.2.1 4 A)) 52 (aI G.2.2.1 4 B)) 52 (aI G.2.2.1 4 B) := ⟨hC.1, rfl⟩
      refine X_iload_n dX11_takes_2 (i := 2) rfl rfl ?_
      refine X_iconst (v := 4) dX11_takes_3 (by decide) ?_
      refine X_icmp_ge (tgt := 41) dX11_takes_4 (by decide) (fun h1 => ?_) (fun h1 => ?_)
      · have h3 : i = 4 := by have := ge_nI (a := 4) (by decide) (by omega) h1; omega
        subst h3
        refine XJ.extI (i := 53) (n := 4) (g := nf pr) e53 (fun q hq => hA q hq) ?_
        rw [s53]
        refine XJ.extI (i := 52) (n := 4) (f := B) (g := nf (O.2.2.2.2.1 k)) ⟨hC.1, rfl⟩ (fun q hq => hB q hq) ?_
        rw [setM_setM]
        refine X_vreturn dX11_takes_41 rfl ?_
        exact ⟨rfl, rfl⟩
      · have h3 : i < 4 := nge_nI (a := 4) (by decide) (by omega) h1
        refine X_aload_n dX11_takes_7 (i := 0) rfl rfl ?_
        refine X_get (i := 39) h9 rfl (ci := 10) rfl in11 (k := 20) (by decide) fX11_49 rfl dX11_takes_8 ?_
        refine X_iload_n dX11_takes_11 (i := 2) rfl rfl ?_
        refine X_aload_n dX11_takes_12 (i := 0) rfl rfl ?_
        refine X_get (i := 39) h9 rfl (ci := 10) rfl in11 (k := 19) (by decide) fX11_46 rfl dX11_takes_13 ?_
        refine X_iload_n dX11_takes_16 (i := 2) rfl rfl ?_
        refine X_iald (i := 52) e52 rfl rfl h3 (by decide) dX11_takes_17 ?_
        refine X_iast (i := 53) e53 rfl rfl h3 (by decide) dX11_takes_18 (fun hc_18 => ?_)
        refine X_aload_n dX11_takes_19 (i := 0) rfl rfl ?_
        refine X_get (i := 39) h9 rfl (ci := 10) rfl in11 (k := 19) (by decide) fX11_46 rfl dX11_takes_20 ?_
        refine X_iload_n dX11_takes_23 (i := 2) rfl rfl ?_
        refine X_aload_n dX11_takes_24 (i := 0) rfl rfl ?_
        refine X_get (i := 39) h9 rfl (ci := 10) rfl in11 (k := 24) (by decide) fX11_61 rfl dX11_takes_25 ?_
        refine X_iconst (v := 4) dX11_takes_28 (by decide) ?_
        refine X_iload_n dX11_takes_29 (i := 1) rfl rfl ?_
        refine X_imul dX11_takes_30 ?_
        refine XJ.top (v' := .int (nI (4 * k))) (by rw [show (4 : Int32) = nI 4 from rfl, nI_mulx]) ?_
        refine X_iload_n dX11_takes_31 (i := 2) rfl rfl ?_
        refine X_iadd dX11_takes_32 ?_
        refine XJ.top (v' := .int (nI (4 * k + i))) (by rw [nI_add]) ?_
        refine X_iald (i := 57) hO.2.2.2.1 rfl rfl (by omega) (by decide) dX11_takes_33 ?_
        refine XJ.top (v' := .int (nI (O.2.2.2.2.1 k i))) (by rw [show (4 * k + i) / 4 = k by omega, show (4 * k + i) % 4 = i by omega]) ?_
        refine X_iast (i := 52) e52 rfl rfl h3 (by decide) dX11_takes_34 (fun hc_34 => ?_)
        refine X_iinc (i := 2) (v := nI (i + 1)) (lo' := [(2, _), (0, _), (1, _)]) dX11_takes_35 rfl (nI_inc i) (by decide) rfl ?_
        refine X_goto (tgt := 2) dX11_takes_38 (by decide) ?_
        rw [s5352]
        exact XJ.lcs (lo' := [(0, .ref (w.1 39)), (1, .int (nI k)), (2, .int (nI (i + 1)))]) ⟨rfl, rfl, rfl, trivial⟩ (ih (i + 1) _ _ (by omega) (by omega) (fun q hq => by by_cases h : q = i; (subst h; rw [up_eq]; exact hB2 q (Nat.le_refl _)); (rw [up_ne h]; exact hA q (by omega))) (fun q hq => by by_cases h : q = i; (subst h; rw [up_eq]; rfl); (rw [up_ne h]; exact hB q (by omega))) (fun q hq => by rw [up_ne (by omega)]; exact hB2 q (by omega)))
  refine X_iconst (v := 0) dX11_takes_0 (by decide) ?_
  refine X_istore_n (i := 2) (lo' := [(2, _), (0, _), (1, _)]) dX11_takes_1 rfl (by decide) rfl ?_
  refine XJ.wd (w' := setM (setM w 53 (aI G.2.2.1 4 kf)) 52 (aI G.2.2.1 4 (nf pr))) (by rw [setM_id hK.2, setM_id hC.2]) ?_
  exact XJ.lcs (lo' := [(0, .ref (w.1 39)), (1, .int (nI k)), (2, .int (nI 0))]) ⟨rfl, rfl, rfl, trivial⟩ (hloop 5 0 kf (nf pr) (by omega) (by omega) (fun q hq => absurd hq (by omega)) (fun q hq => absurd hq (by omega)) (fun _ _ => rfl))
set_option maxRecDepth 20000 in
theorem m_gives (h9 : M0 w t np nl no nm nw en) {pf kf : Nat → Int32} (hC : cel w 52 (aI G.2.2.1 4 pf)) (hK : cel w 53 (aI G.2.2.1 4 kf)) : XC G mX11_gives 0 0 0 [.ref (w.1 39)] w (fun r w' => r = .inl none ∧ w' = setM w 52 (aI G.2.2.1 4 kf)) := by
  refine XC.of (lo0 := [(0, .ref (w.1 39))]) kmX11_gives (Nat.le_of_ble_eq_true rfl) rfl ?_
  have hloop : ∀ (n : Nat) (i : Nat) (B : Nat → Int32), 4 - i < n → i ≤ 4 → (∀ q, q < i → B q = kf q) → XJ G mX11_gives 0 0 0 2 [(0, .ref (w.1 39)), (1, .int (nI i))] [] (setM w 52 (aI G.2.2.1 4 B)) (fun r w' => r = .inl none ∧ w' = setM w 52 (aI G.2.2.1 4 kf)) := by
    intro n
    induction n with
    | zero => intro i B hm hi hB; exact absurd hm (Nat.not_lt_zero _)
    | succ n ih =>
      intro i B hm hi hB
      have e52 : cel (setM w 52 (aI G.2.2.1 4 B)) 52 (aI G.2.2.1 4 B) := ⟨hC.1, rfl⟩
      refine X_iload_n dX11_gives_2 (i := 1) rfl rfl ?_
      refine X_iconst (v := 4) dX11_gives_3 (by decide) ?_
      refine X_icmp_ge (tgt := 25) dX11_gives_4 (by decide) (fun h1 => ?_) (fun h1 => ?_)
      · have h3 : i = 4 := by have := ge_nI (a := 4) (by decide) (by omega) h1; omega
        subst h3
        refine XJ.extI (i := 52) (n := 4) (g := kf) e52 (fun q hq => hB q hq) ?_
        rw [setM_setM]
        refine X_vreturn dX11_gives_25 rfl ?_
        exact ⟨rfl, rfl⟩
      · have h3 : i < 4 := nge_nI (a := 4) (by decide) (by omega) h1
        refine X_aload_n dX11_gives_7 (i := 0) rfl rfl ?_
        refine X_get (i := 39) h9 rfl (ci := 10) rfl in11 (k := 19) (by decide) fX11_46 rfl dX11_gives_8 ?_
        refine X_iload_n dX11_gives_11 (i := 1) rfl rfl ?_
        refine X_aload_n dX11_gives_12 (i := 0) rfl rfl ?_
        refine X_get (i := 39) h9 rfl (ci := 10) rfl in11 (k := 20) (by decide) fX11_49 rfl dX11_gives_13 ?_
        refine X_iload_n dX11_gives_16 (i := 1) rfl rfl ?_
        refine X_iald (i := 53) hK rfl rfl h3 (by decide) dX11_gives_17 ?_
        refine X_iast (i := 52) e52 rfl rfl h3 (by decide) dX11_gives_18 (fun hc_18 => ?_)
        refine X_iinc (i := 1) (v := nI (i + 1)) (lo' := [(1, _), (0, _)]) dX11_gives_19 rfl (nI_inc i) (by decide) rfl ?_
        refine X_goto (tgt := 2) dX11_gives_22 (by decide) ?_
        refine XJ.wd (w' := setM w 52 (aI G.2.2.1 4 (va_up B i (kf i)))) setM_setM ?_
        exact XJ.lcs (lo' := [(0, .ref (w.1 39)), (1, .int (nI (i + 1)))]) ⟨rfl, rfl, trivial⟩ (ih (i + 1) _ (by omega) (by omega) (fun q hq => by by_cases h : q = i; (subst h; rw [up_eq]); (rw [up_ne h]; exact hB q (by omega))))
  refine X_iconst (v := 0) dX11_gives_0 (by decide) ?_
  refine X_istore_n (i := 1) (lo' := [(1, _), (0, _)]) dX11_gives_1 rfl (by decide) rfl ?_
  refine XJ.wd (w' := setM w 52 (aI G.2.2.1 4 pf)) (by rw [setM_id hC.2]) ?_
  exact XJ.lcs (lo' := [(0, .ref (w.1 39)), (1, .int (nI 0))]) ⟨rfl, rfl, trivial⟩ (hloop 5 0 pf (by omega) (by omega) (fun q hq => absurd hq (by omega)))
/-- what the orders need of c -/
def needN (L : LSt) (O : OSt) (c : Nat) : Nat → Nat
  | 0 => 0
  | k + 1 => needN L O c k + (bif O.2.2.2.2.2 k then 0 else O.2.2.2.1 k * hasN L (O.2.2.2.2.1 k) (O.2.2.1 k) 5 (O.2.1 k) c)
set_option maxRecDepth 20000 in
theorem m_need (h9 : M0 w t np nl no nm nw en) {pr : Nat → Nat} {L : LSt} (hL : ML G.2.2.1 w L) (hnl : ln L = nl) (hI : LI np L) (hC : MC G.2.2.1 w pr) (hW : PW L) (hN : NC5 L) {O : OSt} (hO : MO G.2.2.1 w O) (hno : O.1 = no) (hOI : OI np O) {kf : Nat → Int32} (hK : cel w 53 (aI G.2.2.1 4 kf)) (c : Int32) : XC G mX11_need 8 0 0 [.ref (w.1 39), .int c] w (fun r w' => ∃ v : Int64, r = .inl (some (.long v)) ∧ (cdP c np = 0 → v = nL (needN L O (idx c) no)) ∧ (cdP c np = 0 → ∃ kf, w' = (setM (setM (setM w 39 (m39 w 0 np nl no nm nw en)) 53 (aI G.2.2.1 4 kf)) 52 (aI G.2.2.1 4 (nf pr)))) ∧ (cdP c np ≠ 0 → w' = setM w 39 (m39 w (cdP c np) np nl no nm nw en))) := by
  have h16 := hI.1
  have h8 := hOI.1
  refine XC.of (lo0 := [(0, .ref (w.1 39)), (1, .int c)]) kmX11_need (Nat.le_of_ble_eq_true rfl) rfl ?_
  refine X_aload_n dX11_need_0 (i := 0) rfl rfl ?_
  refine X_iload_n dX11_need_1 (i := 1) rfl rfl ?_
  refine X_callV (gc2 := 0) (gs2 := 0) (m_isPart h9 h16 c) (i := 39) h9 rfl rfl kmX11_isPart rfl lX11_96 iX11_isPart vX11_isPart rfl rfl (Nat.le_of_ble_eq_true rfl) (by decide) dX11_need_2 (by decide) (by decide) (fun E w1 hq => nomatch hq.1) (fun v w1 hq => ?_)
  have hv := hq.1
  obtain rfl := hq.2.symm
  cases hv
  refine X_if_ne (tgt := 15) dX11_need_5 (by decide) (fun h1 => ?_) (fun h1 => ?_)
  · have hcd := cdP_0 (bI_ne h1)
    obtain ⟨c, hc, rfl⟩ := inP_of (by omega) (bI_ne h1)
    have gc : idx (nI c) = c := idx_nI (by omega)
    refine X_aload_n dX11_need_15 (i := 0) rfl rfl ?_
    refine X_iconst (v := 0) dX11_need_16 (by decide) ?_
    refine X_put tyX11 tyX11_ok nmX11 (i := 39) h9 rfl (ci := 10) rfl in11 (k := 0) (by decide) fX11_82 rfl rfl rfl (Nat.le_of_ble_eq_true rfl) dX11_need_17 (fun hc_17 => ?_)
    refine X_lconst (v := 0) dX11_need_20 rfl ?_
    refine X_lstore_n (i := 2) (lo' := [(2, _), (0, _), (1, _)]) dX11_need_21 rfl (by decide) rfl ?_
    refine X_iconst (v := 0) dX11_need_22 (by decide) ?_
    refine X_istore (i := 4) (lo' := [(4, _), (2, _), (0, _), (1, _)]) dX11_need_23 (by decide) rfl ?_
    have hloop : ∀ (n : Nat) (k : Nat) (kf : Nat → Int32), no - k < n → k ≤ no → XJ G mX11_need 8 0 0 25 [(0, .ref (w.1 39)), (1, .int (nI c)), (2, .long (nL (needN L O c k))), (4, .int (nI k))] [] (setM (setM (setM w 39 (m39 w 0 np nl no nm nw en)) 53 (aI G.2.2.1 4 kf)) 52 (aI G.2.2.1 4 (nf pr))) (fun r w' => ∃ v : Int64, r = .inl (some (.long v)) ∧ (cdP (nI c) np = 0 → v = nL (needN L O (idx (nI c)) no)) ∧ (cdP (nI c) np = 0 → ∃ kf, w' = (setM (setM (setM w 39 (m39 w 0 np nl no nm nw en)) 53 (aI G.2.2.1 4 kf)) 52 (aI G.2.2.1 4 (nf pr)))) ∧ (cdP (nI c) np ≠ 0 → w' = setM w 39 (m39 w (cdP (nI c) np) np nl no nm nw en))) := by
      intro n
      induction n with
      | zero => intro k kf hm hk; exact absurd hm (Nat.not_lt_zero _)
      | succ n ih =>
        intro k kf hm hk
        have k39 : M0 (setM (setM (setM w 39 (m39 w 0 np nl no nm nw en)) 53 (aI G.2.2.1 4 kf)) 52 (aI G.2.2.1 4 (nf pr))) 0 np nl no nm nw en := ⟨h9.1, rfl⟩
        refine X_iload dX11_need_25 (i := 4) rfl ?_
        refine X_aload_n dX11_need_27 (i := 0) rfl rfl ?_
        refine X_get (i := 39) k39 rfl (ci := 10) rfl in11 (k := 3) (by decide) fX11_213 rfl dX11_need_28 ?_
        refine X_icmp_ge (tgt := 95) dX11_need_31 (by decide) (fun h2 => ?_) (fun h2 => ?_)
        · have h5 : k = no := by have := ge_nI (a := no) (by omega) (by omega) h2; omega
          subst h5
          refine X_lload_n dX11_need_95 (i := 2) rfl rfl ?_
          refine X_lreturn dX11_need_96 rfl ?_
          exact ⟨_, rfl, fun _ => by rw [gc], fun _ => ⟨kf, rfl⟩, fun h => absurd hcd h⟩
        · have h5 : k < no := nge_nI (a := no) (by omega) (by omega) h2
          have ho := hOI.2.1 k (by omega)
          have t39 : M0 (setM (setM (setM w 39 (m39 w 0 np nl no nm nw en)) 53 (aI G.2.2.1 4 (nf pr))) 52 (aI G.2.2.1 4 (nf (O.2.2.2.2.1 k)))) 0 np nl no nm nw en := ⟨h9.1, rfl⟩
          have t52 : MC G.2.2.1 (setM (setM (setM w 39 (m39 w 0 np nl no nm nw en)) 53 (aI G.2.2.1 4 (nf pr))) 52 (aI G.2.2.1 4 (nf (O.2.2.2.2.1 k)))) (O.2.2.2.2.1 k) := ⟨hC.1, rfl⟩
          have t53 : cel (setM (setM (setM w 39 (m39 w 0 np nl no nm nw en)) 53 (aI G.2.2.1 4 (nf pr))) 52 (aI G.2.2.1 4 (nf (O.2.2.2.2.1 k)))) 53 (aI G.2.2.1 4 (nf pr)) := ⟨hK.1, rfl⟩
          refine X_aload_n dX11_need_34 (i := 0) rfl rfl ?_
          refine X_iload dX11_need_35 (i := 4) rfl ?_
          refine X_callV (gc2 := 0) (gs2 := 0) (m_takes (w := (setM (setM (setM w 39 (m39 w 0 np nl no nm nw en)) 53 (aI G.2.2.1 4 kf)) 52 (aI G.2.2.1 4 (nf pr)))) k39 hO (pr := pr) (kf := kf) ⟨hC.1, rfl⟩ ⟨hK.1, rfl⟩ k (by omega)) (i := 39) k39 rfl rfl kmX11_takes rfl lX11_216 iX11_takes vX11_takes rfl rfl (Nat.le_of_ble_eq_true rfl) (by decide) dX11_need_37 (by decide) (by decide) (fun E w1 hq => nomatch hq.1) (fun v w1 hq => ?_)
          have hv := hq.1
          obtain rfl := hq.2.symm
          cases hv
          rw [s5352]
          refine X_lload_n dX11_need_40 (i := 2) rfl rfl ?_
          refine X_aload_n dX11_need_41 (i := 0) rfl rfl ?_
          refine X_get (i := 39) t39 rfl (ci := 10) rfl in11 (k := 25) (by decide) fX11_64 rfl dX11_need_42 ?_
          refine X_iload dX11_need_45 (i := 4) rfl ?_
          refine X_zald (i := 58) hO.2.2.2.2 rfl rfl (by omega) (by decide) dX11_need_47 ?_
          refine X_if_eq (tgt := 55) dX11_need_48 (by decide) (fun h3 => ?_) (fun h3 => ?_)
          · have h6 := bI_eq h3
            refine X_aload_n dX11_need_55 (i := 0) rfl rfl ?_
            refine X_get (i := 39) t39 rfl (ci := 10) rfl in11 (k := 23) (by decide) fX11_58 rfl dX11_need_56 ?_
            refine X_iload dX11_need_59 (i := 4) rfl ?_
            refine X_iald (i := 56) hO.2.2.1 rfl rfl (by omega) (by decide) dX11_need_61 ?_
            refine X_i2l dX11_need_62 rfl ?_
            refine XJ.top (v' := .long (nL (O.2.2.2.1 k))) (by rw [show nf O.2.2.2.1 k = nI (O.2.2.2.1 k) from rfl, nL_i2l (by omega)]) ?_
            refine X_aload_n dX11_need_63 (i := 0) rfl rfl ?_
            refine X_aload_n dX11_need_64 (i := 0) rfl rfl ?_
            refine X_get (i := 39) t39 rfl (ci := 10) rfl in11 (k := 21) (by decide) fX11_52 rfl dX11_need_65 ?_
            refine X_iload dX11_need_68 (i := 4) rfl ?_
            refine X_iald (i := 54) hO.1 rfl rfl (by omega) (by decide) dX11_need_70 ?_
            refine X_iload_n dX11_need_71 (i := 1) rfl rfl ?_
            refine X_aload_n dX11_need_72 (i := 0) rfl rfl ?_
            refine X_get (i := 39) t39 rfl (ci := 10) rfl in11 (k := 22) (by decide) fX11_55 rfl dX11_need_73 ?_
            refine X_iload dX11_need_76 (i := 4) rfl ?_
            refine X_iald (i := 55) hO.2.1 rfl rfl (by omega) (by decide) dX11_need_78 ?_
            refine X_callV (gc2 := 0) (gs2 := 0) (m_has (w := (setM (setM (setM w 39 (m39 w 0 np nl no nm nw en)) 53 (aI G.2.2.1 4 (nf pr))) 52 (aI G.2.2.1 4 (nf (O.2.2.2.2.1 k))))) t39 hL hnl hI t52 hW ho.2.2.2 (O.2.2.1 k) c (by omega) (by omega) 5 (by decide) (O.2.1 k) (by omega) (hnl ▸ hN _)) (i := 39) t39 rfl rfl kmX11_has rfl lX11_171 iX11_has vX11_has rfl rfl (Nat.le_of_ble_eq_true rfl) (by decide) dX11_need_79 (by decide) (by decide) (fun E w1 hq => nomatch hq.1) (fun v w1 hq => ?_)
            have hv := hq.1
            obtain rfl := hq.2.symm
            cases hv
            refine X_lmul dX11_need_82 ?_
            refine XJ.top (v' := _) (congrArg Value.long (nL_mul _ _)) ?_
            refine X_ladd dX11_need_83 ?_
            refine XJ.top (v' := .long (nL (needN L O c (k + 1)))) (by first | (rw [nL_add, needN, h6]; rfl) | (rw [show (0 : Int64) = nL 0 from rfl, nL_add, needN, h6]; rfl)) ?_
            refine X_lstore_n (i := 2) (lo' := [(2, _), (0, _), (1, _), (4, _)]) dX11_need_84 rfl (by decide) rfl ?_
            refine X_aload_n dX11_need_85 (i := 0) rfl rfl ?_
            refine X_callV (gc2 := 0) (gs2 := 0) (m_gives (w := (setM (setM (setM w 39 (m39 w 0 np nl no nm nw en)) 53 (aI G.2.2.1 4 (nf pr))) 52 (aI G.2.2.1 4 (nf (O.2.2.2.2.1 k))))) t39 (pf := nf (O.2.2.2.2.1 k)) (kf := nf pr) t52 t53) (i := 39) t39 rfl rfl kmX11_gives rfl lX11_220 iX11_gives vX11_gives rfl rfl (Nat.le_of_ble_eq_true rfl) (by decide) dX11_need_86 (by decide) (by decide) (fun E w1 hq => nomatch hq.1) (fun v w1 hq => ?_)
            have hv := hq.1
            obtain rfl := hq.2.symm
            cases hv
            rw [setM_setM]
            refine X_iinc (i := 4) (v := nI (k + 1)) (lo' := [(4, _), (2, _), (0, _), (1, _)]) dX11_need_89 rfl (nI_inc k) (by decide) rfl ?_
            refine X_goto (tgt := 25) dX11_need_92 (by decide) ?_
            exact XJ.lcs (lo' := [(0, .ref (w.1 39)), (1, .int (nI c)), (2, .long (nL (needN L O c (k + 1)))), (4, .int (nI (k + 1)))]) ⟨rfl, rfl, rfl, rfl, trivial⟩ (ih (k + 1) (nf pr) (by omega) (by omega))
          · have h6 := bI_ne h3
            refine X_lconst (v := 0) dX11_need_51 rfl ?_
            refine X_goto (tgt := 83) dX11_need_52 (by decide) ?_
            refine X_ladd dX11_need_83 ?_
            refine XJ.top (v' := .long (nL (needN L O c (k + 1)))) (by first | (rw [nL_add, needN, h6]; rfl) | (rw [show (0 : Int64) = nL 0 from rfl, nL_add, needN, h6]; rfl)) ?_
            refine X_lstore_n (i := 2) (lo' := [(2, _), (0, _), (1, _), (4, _)]) dX11_need_84 rfl (by decide) rfl ?_
            refine X_aload_n dX11_need_85 (i := 0) rfl rfl ?_
            refine X_callV (gc2 := 0) (gs2 := 0) (m_gives (w := (setM (setM (setM w 39 (m39 w 0 np nl no nm nw en)) 53 (aI G.2.2.1 4 (nf pr))) 52 (aI G.2.2.1 4 (nf (O.2.2.2.2.1 k))))) t39 (pf := nf (O.2.2.2.2.1 k)) (kf := nf pr) t52 t53) (i := 39) t39 rfl rfl kmX11_gives rfl lX11_220 iX11_gives vX11_gives rfl rfl (Nat.le_of_ble_eq_true rfl) (by decide) dX11_need_86 (by decide) (by decide) (fun E w1 hq => nomatch hq.1) (fun v w1 hq => ?_)
            have hv := hq.1
            obtain rfl := hq.2.symm
            cases hv
            rw [setM_setM]
            refine X_iinc (i := 4) (v := nI (k + 1)) (lo' := [(4, _), (2, _), (0, _), (1, _)]) dX11_need_89 rfl (nI_inc k) (by decide) rfl ?_
            refine X_goto (tgt := 25) dX11_need_92 (by decide) ?_
            exact XJ.lcs (lo' := [(0, .ref (w.1 39)), (1, .int (nI c)), (2, .long (nL (needN L O c (k + 1)))), (4, .int (nI (k + 1)))]) ⟨rfl, rfl, rfl, rfl, trivial⟩ (ih (k + 1) (nf pr) (by omega) (by omega))
    refine XJ.wd (w' := setM (setM (setM w 39 (m39 w 0 np nl no nm nw en)) 53 (aI G.2.2.1 4 kf)) 52 (aI G.2.2.1 4 (nf pr))) (by rw [setM_id (show (setM w 39 (m39 w 0 np nl no nm nw en)).2.2 53 = _ from hK.2), setM_id (show (setM w 39 (m39 w 0 np nl no nm nw en)).2.2 52 = _ from hC.2)]; rfl) ?_
    exact XJ.lcs (lo' := [(0, .ref (w.1 39)), (1, .int (nI c)), (2, .long (nL (needN L O c 0))), (4, .int (nI 0))]) ⟨rfl, rfl, rfl, rfl, trivial⟩ (hloop (no + 1) 0 kf (by omega) (by omega))
  · have hcd : cdP c np = 1 := cdP_1 (bI_eq h1)
    refine X_aload_n dX11_need_8 (i := 0) rfl rfl ?_
    refine X_iconst (v := 1) dX11_need_9 (by decide) ?_
    refine X_callV (gc2 := 0) (gs2 := 0) (m_fails h9 1) (i := 39) h9 rfl rfl kmX11_fails rfl lX11_105 iX11_fails vX11_fails rfl rfl (Nat.le_of_ble_eq_true rfl) (by decide) dX11_need_10 (by decide) (by decide) (fun E w1 hq => nomatch hq.1) (fun v w1 hq => ?_)
    have hv := hq.1
    obtain rfl := hq.2.symm
    cases hv
    refine X_i2l dX11_need_13 rfl ?_
    refine X_lreturn dX11_need_14 rfl ?_
    exact ⟨_, rfl, fun h => absurd h (by rw [hcd]; decide), fun h => absurd h (by rw [hcd]; decide), fun _ => by rw [hcd]⟩
end NeedM
