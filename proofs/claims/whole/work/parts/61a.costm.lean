/-! COSTS and weights of the reference (walks by gen/spec61.py) -/
section CostM
variable {G : Gx} {w : Wd} {t np nl no nm nw en : Nat}
set_option maxRecDepth 20000 in
theorem m_more (h9 : M0 w t np nl no nm nw en) {pr : Nat → Nat} {L : LSt} {P : PSt} (hL : ML G.2.2.1 w L) (hP : MP G.2.2.1 w P) (hnl : ln L = nl) (hI : LI np L) (hC : MC G.2.2.1 w pr) (hW : PW L) (hpr : ∀ i, i < 4 → pr i < 4) (hPP : ∀ p, p < np → P.2.2.1 p ≤ 99999) (s : Nat) {f : Nat} (hf : f ≤ 5) (j : Nat) (hj : j < ln L) (hprice : ∀ q, q = ch L j → XC G mX11_price (2 * f + 2) 0 0 [.ref (w.1 39), .int (nI q), .int (nI s)] w (fun r w' => r = .inl (some (.float (priF P L pr s f q))) ∧ w' = w)) : XC G mX11_more (2 * f + 3) 0 0 [.ref (w.1 39), .int (nI j), .int (nI s)] w (fun r w' => r = .inl (some (.float (mrF L (priF P L pr s f) j))) ∧ w' = w) := by
  have h16 := hI.1
  have h40 := hI.2.1
  have hb := hI.2.2 j hj
  refine XC.of (lo0 := [(0, .ref (w.1 39)), (1, .int (nI j)), (2, .int (nI s))]) kmX11_more (Nat.le_of_ble_eq_true rfl) rfl ?_
  refine X_aload_n dX11_more_0 (i := 0) rfl rfl ?_
  refine X_get (i := 39) h9 rfl (ci := 10) rfl in11 (k := 13) (by decide) fX11_28 rfl dX11_more_1 ?_
  refine X_iload_n dX11_more_4 (i := 1) rfl rfl ?_
  refine X_iald (i := 46) hL.2.2.2.1 rfl rfl (by omega) (by decide) dX11_more_5 ?_
  refine X_i2f dX11_more_6 ?_
  refine X_bipush (v := 100) dX11_more_7 (by decide) ?_
  refine X_aload_n dX11_more_9 (i := 0) rfl rfl ?_
  refine X_get (i := 39) h9 rfl (ci := 10) rfl in11 (k := 16) (by decide) fX11_37 rfl dX11_more_10 ?_
  refine X_iload_n dX11_more_13 (i := 1) rfl rfl ?_
  refine X_iald (i := 49) hL.2.2.2.2.2.2.1 rfl rfl (by omega) (by decide) dX11_more_14 ?_
  refine X_iadd dX11_more_15 ?_
  refine XJ.top (v' := .int (nI (100 + sc L j))) (by rw [show (100 : Int32) = nI 100 from rfl, show nf (sc L) j = nI (sc L j) from rfl, nI_add]) ?_
  refine X_i2f dX11_more_16 ?_
  refine X_fmul dX11_more_17 (z_nn (facM_z hb.2.2.2.1.2 hb.2.2.2.2.1) (by omega)) ?_
  refine X_ldcf dX11_more_18 kX11_181 ?_
  refine X_fdiv dX11_more_20 (z_nn (facF_z hb.2.2.2.1.1 hb.2.2.2.1.2 hb.2.2.2.2.1) (by omega)) ?_
  refine X_aload_n dX11_more_21 (i := 0) rfl rfl ?_
  refine X_aload_n dX11_more_22 (i := 0) rfl rfl ?_
  refine X_get (i := 39) h9 rfl (ci := 10) rfl in11 (k := 12) (by decide) fX11_25 rfl dX11_more_23 ?_
  refine X_iload_n dX11_more_26 (i := 1) rfl rfl ?_
  refine X_iald (i := 45) hL.2.2.1 rfl rfl (by omega) (by decide) dX11_more_27 ?_
  refine X_iload_n dX11_more_28 (i := 2) rfl rfl ?_
  refine X_callV (gc2 := 0) (gs2 := 0) (hprice (ch L j) rfl) (i := 39) h9 rfl rfl kmX11_price rfl lX11_182 iX11_price vX11_price rfl rfl (Nat.le_of_ble_eq_true rfl) (by omega) dX11_more_29 (by decide) (by decide) (fun E w1 hq => nomatch hq.1) (fun v w1 hq => ?_)
  have hv := hq.1
  obtain rfl := hq.2.symm
  cases hv
  refine X_fmul dX11_more_32 (z_nn (mulF_z hb.2.2.2.1.1 hb.2.2.2.1.2 hb.2.2.2.2.1 (priF_z (pr := pr) (s := s) hI hPP f _ hf hb.2.2.1) (by omega) (by omega)) (by omega)) ?_
  refine X_freturn dX11_more_33 rfl ?_
  exact ⟨rfl, rfl⟩
set_option maxRecDepth 20000 in
theorem m_price_s (h9 : M0 w t np nl no nm nw en) {pr : Nat → Nat} {L : LSt} {P : PSt} (hL : ML G.2.2.1 w L) (hP : MP G.2.2.1 w P) (hnl : ln L = nl) (hI : LI np L) (hC : MC G.2.2.1 w pr) (hW : PW L) (hpr : ∀ i, i < 4 → pr i < 4) (hPP : ∀ p, p < np → P.2.2.1 p ≤ 99999) (s : Nat) (hs : s < 2 ^ 31) {f : Nat} (hf : f < 5) (p : Nat) (hp : p < np) (hnc : ∀ i, i < nl → pa L i = p → NC nl (pa L) (ch L) f (ch L i)) (hrec : ∀ q, q < np → NC nl (pa L) (ch L) f q → XC G mX11_price (2 * f + 2) 0 0 [.ref (w.1 39), .int (nI q), .int (nI s)] w (fun r w' => r = .inl (some (.float (priF P L pr s f q))) ∧ w' = w)) : XC G mX11_price (2 * (f + 1) + 2) 0 0 [.ref (w.1 39), .int (nI p), .int (nI s)] w (fun r w' => r = .inl (some (.float (priF P L pr s (f + 1) p))) ∧ w' = w) := by
  have h16 := hI.1
  have h40 := hI.2.1
  refine XC.of (lo0 := [(0, .ref (w.1 39)), (1, .int (nI p)), (2, .int (nI s))]) kmX11_price (Nat.le_of_ble_eq_true rfl) rfl ?_
  have hloop : ∀ (n : Nat) (l : Nat), 6 - l < n → l ≤ 6 → XJ G mX11_price (2 * (f + 1) + 2) 0 0 14 [(0, .ref (w.1 39)), (1, .int (nI p)), (2, .int (nI s)), (3, .float (sF L pr s p (mrF L (priF P L pr s f)) (ownF P p) l)), (4, .int (nI (l + 1)))] [] w (fun r w' => r = .inl (some (.float (priF P L pr s (f + 1) p))) ∧ w' = w) := by
    intro n
    induction n with
    | zero => intro l hm hl; exact absurd hm (Nat.not_lt_zero _)
    | succ n ih =>
      intro l hm hl
      refine X_iload dX11_price_14 (i := 4) rfl ?_
      refine X_bipush (v := 6) dX11_price_16 (by decide) ?_
      refine X_icmp_gt (tgt := 53) dX11_price_18 (by decide) (fun h1 => ?_) (fun h1 => ?_)
      · have h5 : l = 6 := by have := lt_nI (a := 6) (by decide) (by omega) h1; omega
        subst h5
        refine X_fload_n dX11_price_53 (i := 3) rfl rfl ?_
        refine X_freturn dX11_price_54 rfl ?_
        exact ⟨rfl, rfl⟩
      · have h5 : l < 6 := by have := nlt_nI (a := 6) (by decide) (by omega) h1; omega
        refine X_aload_n dX11_price_21 (i := 0) rfl rfl ?_
        refine X_iload_n dX11_price_22 (i := 1) rfl rfl ?_
        refine X_iload dX11_price_23 (i := 4) rfl ?_
        refine X_iload_n dX11_price_25 (i := 2) rfl rfl ?_
        refine X_callV (gc2 := 0) (gs2 := 0) (m_at h9 hL hnl hI hC hW hpr p (l + 1) s (by omega) (by omega) hs) (i := 39) h9 rfl rfl kmX11_at rfl lX11_139 iX11_at vX11_at rfl rfl (Nat.le_of_ble_eq_true rfl) (by omega) dX11_price_26 (by decide) (by decide) (fun E w1 hq => nomatch hq.1) (fun v w1 hq => ?_)
        have hv := hq.1
        obtain rfl := hq.2.symm
        cases hv
        refine X_istore (i := 5) (lo' := [(5, _), (0, _), (1, _), (2, _), (3, _), (4, _)]) dX11_price_29 (by decide) rfl ?_
        refine X_iload dX11_price_31 (i := 5) rfl ?_
        refine X_iconst (v := -1) dX11_price_33 (by decide) ?_
        refine X_icmp_eq (tgt := 47) dX11_price_34 (by decide) (fun h2 => ?_) (fun h2 => ?_)
        · have hx := oI_none (n := ln L) (fun j h => (lnAt_some (L := L) (pr := pr) (s := s) (p := p) (k := l + 1) h).1) (by omega) h2
          refine X_iinc (i := 4) (v := nI (l + 1 + 1)) (lo' := [(4, _), (5, _), (0, _), (1, _), (2, _), (3, _)]) dX11_price_47 rfl (nI_inc (l + 1)) (by decide) rfl ?_
          refine X_goto (tgt := 14) dX11_price_50 (by decide) ?_
          first
            | exact XJ.lcs (lo' := [(0, .ref (w.1 39)), (1, .int (nI p)), (2, .int (nI s)), (3, .float (sF L pr s p (mrF L (priF P L pr s f)) (ownF P p) (l + 1))), (4, .int (nI (l + 1 + 1)))]) ⟨rfl, rfl, rfl, (by rw [sF, hx]; rfl), rfl, trivial⟩ (ih (l + 1) (by omega) (by omega))
        · obtain ⟨j, hx⟩ := oI_some (n := ln L) (fun j h => (lnAt_some (L := L) (pr := pr) (s := s) (p := p) (k := l + 1) h).1) (by omega) h2
          have hj := lnAt_some hx
          have hb := hI.2.2 j hj.1
          have hjn := hj.1
          rw [show oI (lnAt L pr s p (l + 1)) = nI j by rw [hx]; rfl]
          refine X_fload_n dX11_price_37 (i := 3) rfl rfl ?_
          refine X_aload_n dX11_price_38 (i := 0) rfl rfl ?_
          refine X_iload dX11_price_39 (i := 5) rfl ?_
          refine X_iload_n dX11_price_41 (i := 2) rfl rfl ?_
          refine X_callV (gc2 := 0) (gs2 := 0) (m_more h9 hL hP hnl hI hC hW hpr hPP s (by omega) j hjn (fun q hq => hq ▸ hrec _ hb.2.2.1 (hnc j (by omega) hj.2.2.1))) (i := 39) h9 rfl rfl kmX11_more rfl lX11_186 iX11_more vX11_more rfl rfl (Nat.le_of_ble_eq_true rfl) (by omega) dX11_price_42 (by decide) (by decide) (fun E w1 hq => nomatch hq.1) (fun v w1 hq => ?_)
          have hv := hq.1
          obtain rfl := hq.2.symm
          cases hv
          refine X_fadd dX11_price_45 (sF_nn (g := priF P L pr s f) hI (hPP p hp) (fun j h1 _ _ => priF_z hI hPP f _ (by omega) (hI.2.2 j h1).2.2.1) (by omega) (by omega) hx) ?_
          refine X_fstore_n (i := 3) (lo' := [(3, _), (5, _), (0, _), (1, _), (2, _), (4, _)]) dX11_price_46 rfl (by decide) rfl ?_
          refine X_iinc (i := 4) (v := nI (l + 1 + 1)) (lo' := [(4, _), (3, _), (5, _), (0, _), (1, _), (2, _)]) dX11_price_47 rfl (nI_inc (l + 1)) (by decide) rfl ?_
          refine X_goto (tgt := 14) dX11_price_50 (by decide) ?_
          first
            | exact XJ.lcs (lo' := [(0, .ref (w.1 39)), (1, .int (nI p)), (2, .int (nI s)), (3, .float (sF L pr s p (mrF L (priF P L pr s f)) (ownF P p) (l + 1))), (4, .int (nI (l + 1 + 1)))]) ⟨rfl, rfl, rfl, (by rw [sF, hx]; rfl), rfl, trivial⟩ (ih (l + 1) (by omega) (by omega))
  refine X_aload_n dX11_price_0 (i := 0) rfl rfl ?_
  refine X_get (i := 39) h9 rfl (ci := 10) rfl in11 (k := 8) (by decide) fX11_13 rfl dX11_price_1 ?_
  refine X_iload_n dX11_price_4 (i := 1) rfl rfl ?_
  refine X_iald (i := 41) hP.2.1 rfl rfl (by omega) (by decide) dX11_price_5 ?_
  refine X_i2f dX11_price_6 ?_
  refine X_ldcf dX11_price_7 kX11_181 ?_
  refine X_fdiv dX11_price_9 (z_nn (ownF_z (hPP p hp)) (by omega)) ?_
  refine X_fstore_n (i := 3) (lo' := [(3, _), (0, _), (1, _), (2, _)]) dX11_price_10 rfl (by decide) rfl ?_
  refine X_iconst (v := 1) dX11_price_11 (by decide) ?_
  refine X_istore (i := 4) (lo' := [(4, _), (3, _), (0, _), (1, _), (2, _)]) dX11_price_12 (by decide) rfl ?_
  exact XJ.lcs (lo' := [(0, .ref (w.1 39)), (1, .int (nI p)), (2, .int (nI s)), (3, .float (sF L pr s p (mrF L (priF P L pr s f)) (ownF P p) 0)), (4, .int (nI (0 + 1)))]) ⟨rfl, rfl, rfl, rfl, rfl, trivial⟩ (hloop 7 0 (by omega) (by omega))
theorem m_price (h9 : M0 w t np nl no nm nw en) {pr : Nat → Nat} {L : LSt} {P : PSt} (hL : ML G.2.2.1 w L) (hP : MP G.2.2.1 w P) (hnl : ln L = nl) (hI : LI np L) (hC : MC G.2.2.1 w pr) (hW : PW L) (hpr : ∀ i, i < 4 → pr i < 4) (hPP : ∀ p, p < np → P.2.2.1 p ≤ 99999) (s : Nat) (hs : s < 2 ^ 31) : ∀ (f : Nat), f ≤ 5 → ∀ (p : Nat), p < np → NC nl (pa L) (ch L) f p → XC G mX11_price (2 * f + 2) 0 0 [.ref (w.1 39), .int (nI p), .int (nI s)] w (fun r w' => r = .inl (some (.float (priF P L pr s f p))) ∧ w' = w)
  | 0, _, _, _, h => h.elim
  | f + 1, hf, p, hp, h => m_price_s h9 hL hP hnl hI hC hW hpr hPP s hs (by omega) p hp h (fun q hq hn => m_price h9 hL hP hnl hI hC hW hpr hPP s hs f (by omega) q hq hn)
set_option maxRecDepth 20000 in
theorem m_mass_s (h9 : M0 w t np nl no nm nw en) {pr : Nat → Nat} {L : LSt} {P : PSt} (hL : ML G.2.2.1 w L) (hP : MP G.2.2.1 w P) (hnl : ln L = nl) (hI : LI np L) (hC : MC G.2.2.1 w pr) (hW : PW L) (hpr : ∀ i, i < 4 → pr i < 4) (hPP : ∀ p, p < np → P.2.2.2 p ≤ 99999) (s : Nat) (hs : s < 2 ^ 31) {f : Nat} (hf : f < 5) (p : Nat) (hp : p < np) (hnc : ∀ i, i < nl → pa L i = p → NC nl (pa L) (ch L) f (ch L i)) (hrec : ∀ q, q < np → NC nl (pa L) (ch L) f q → XC G mX11_mass (f + 2) 0 0 [.ref (w.1 39), .int (nI q), .int (nI s)] w (fun r w' => r = .inl (some (.double (masF P L pr s f q))) ∧ w' = w)) : XC G mX11_mass (f + 3) 0 0 [.ref (w.1 39), .int (nI p), .int (nI s)] w (fun r w' => r = .inl (some (.double (masF P L pr s (f + 1) p))) ∧ w' = w) := by
  have h16 := hI.1
  have h40 := hI.2.1
  refine XC.of (lo0 := [(0, .ref (w.1 39)), (1, .int (nI p)), (2, .int (nI s))]) kmX11_mass (Nat.le_of_ble_eq_true rfl) rfl ?_
  have hloop : ∀ (n : Nat) (l : Nat), 6 - l < n → l ≤ 6 → XJ G mX11_mass (f + 3) 0 0 15 [(0, .ref (w.1 39)), (1, .int (nI p)), (2, .int (nI s)), (3, .double (sW L pr s p (mrW L (masF P L pr s f)) (ownW P p) l)), (5, .int (nI (l + 1)))] [] w (fun r w' => r = .inl (some (.double (masF P L pr s (f + 1) p))) ∧ w' = w) := by
    intro n
    induction n with
    | zero => intro l hm hl; exact absurd hm (Nat.not_lt_zero _)
    | succ n ih =>
      intro l hm hl
      refine X_iload dX11_mass_15 (i := 5) rfl ?_
      refine X_bipush (v := 6) dX11_mass_17 (by decide) ?_
      refine X_icmp_gt (tgt := 68) dX11_mass_19 (by decide) (fun h1 => ?_) (fun h1 => ?_)
      · have h5 : l = 6 := by have := lt_nI (a := 6) (by decide) (by omega) h1; omega
        subst h5
        refine X_dload_n dX11_mass_68 (i := 3) rfl rfl ?_
        refine X_dreturn dX11_mass_69 rfl ?_
        exact ⟨rfl, rfl⟩
      · have h5 : l < 6 := by have := nlt_nI (a := 6) (by decide) (by omega) h1; omega
        refine X_aload_n dX11_mass_22 (i := 0) rfl rfl ?_
        refine X_iload_n dX11_mass_23 (i := 1) rfl rfl ?_
        refine X_iload dX11_mass_24 (i := 5) rfl ?_
        refine X_iload_n dX11_mass_26 (i := 2) rfl rfl ?_
        refine X_callV (gc2 := 0) (gs2 := 0) (m_at h9 hL hnl hI hC hW hpr p (l + 1) s (by omega) (by omega) hs) (i := 39) h9 rfl rfl kmX11_at rfl lX11_139 iX11_at vX11_at rfl rfl (Nat.le_of_ble_eq_true rfl) (by omega) dX11_mass_27 (by decide) (by decide) (fun E w1 hq => nomatch hq.1) (fun v w1 hq => ?_)
        have hv := hq.1
        obtain rfl := hq.2.symm
        cases hv
        refine X_istore (i := 6) (lo' := [(6, _), (0, _), (1, _), (2, _), (3, _), (5, _)]) dX11_mass_30 (by decide) rfl ?_
        refine X_iload dX11_mass_32 (i := 6) rfl ?_
        refine X_iconst (v := -1) dX11_mass_34 (by decide) ?_
        refine X_icmp_eq (tgt := 62) dX11_mass_35 (by decide) (fun h2 => ?_) (fun h2 => ?_)
        · have hx := oI_none (n := ln L) (fun j h => (lnAt_some (L := L) (pr := pr) (s := s) (p := p) (k := l + 1) h).1) (by omega) h2
          refine X_iinc (i := 5) (v := nI (l + 1 + 1)) (lo' := [(5, _), (6, _), (0, _), (1, _), (2, _), (3, _)]) dX11_mass_62 rfl (nI_inc (l + 1)) (by decide) rfl ?_
          refine X_goto (tgt := 15) dX11_mass_65 (by decide) ?_
          first
            | exact XJ.lcs (lo' := [(0, .ref (w.1 39)), (1, .int (nI p)), (2, .int (nI s)), (3, .double (sW L pr s p (mrW L (masF P L pr s f)) (ownW P p) (l + 1))), (5, .int (nI (l + 1 + 1)))]) ⟨rfl, rfl, rfl, (by rw [sW, hx]; rfl), rfl, trivial⟩ (ih (l + 1) (by omega) (by omega))
        · obtain ⟨j, hx⟩ := oI_some (n := ln L) (fun j h => (lnAt_some (L := L) (pr := pr) (s := s) (p := p) (k := l + 1) h).1) (by omega) h2
          have hj := lnAt_some hx
          have hb := hI.2.2 j hj.1
          have hjn := hj.1
          rw [show oI (lnAt L pr s p (l + 1)) = nI j by rw [hx]; rfl]
          refine X_dload_n dX11_mass_38 (i := 3) rfl rfl ?_
          refine X_aload_n dX11_mass_39 (i := 0) rfl rfl ?_
          refine X_get (i := 39) h9 rfl (ci := 10) rfl in11 (k := 13) (by decide) fX11_28 rfl dX11_mass_40 ?_
          refine X_iload dX11_mass_43 (i := 6) rfl ?_
          refine X_iald (i := 46) hL.2.2.2.1 rfl rfl (by omega) (by decide) dX11_mass_45 ?_
          refine X_i2d dX11_mass_46 ?_
          refine X_aload_n dX11_mass_47 (i := 0) rfl rfl ?_
          refine X_aload_n dX11_mass_48 (i := 0) rfl rfl ?_
          refine X_get (i := 39) h9 rfl (ci := 10) rfl in11 (k := 12) (by decide) fX11_25 rfl dX11_mass_49 ?_
          refine X_iload dX11_mass_52 (i := 6) rfl ?_
          refine X_iald (i := 45) hL.2.2.1 rfl rfl (by omega) (by decide) dX11_mass_54 ?_
          refine X_iload_n dX11_mass_55 (i := 2) rfl rfl ?_
          refine X_callV (gc2 := 0) (gs2 := 0) (hrec (ch L j) hb.2.2.1 (hnc j (by omega) hj.2.2.1)) (i := 39) h9 rfl rfl kmX11_mass rfl lX11_200 iX11_mass vX11_mass rfl rfl (Nat.le_of_ble_eq_true rfl) (by omega) dX11_mass_56 (by decide) (by decide) (fun E w1 hq => nomatch hq.1) (fun v w1 hq => ?_)
          have hv := hq.1
          obtain rfl := hq.2.symm
          cases hv
          refine X_dmul dX11_mass_59 (mrW_nn hI hjn (masF_z (pr := pr) (s := s) hI hPP f _ (by omega) hb.2.2.1) (by omega) (by omega)) ?_
          refine X_dadd dX11_mass_60 (sW_nn (g := masF P L pr s f) hI (hPP p hp) (fun j h1 _ _ => masF_z hI hPP f _ (by omega) (hI.2.2 j h1).2.2.1) (by omega) (by omega) hx) ?_
          refine X_dstore_n (i := 3) (lo' := [(3, _), (6, _), (0, _), (1, _), (2, _), (5, _)]) dX11_mass_61 rfl (by decide) rfl ?_
          refine X_iinc (i := 5) (v := nI (l + 1 + 1)) (lo' := [(5, _), (3, _), (6, _), (0, _), (1, _), (2, _)]) dX11_mass_62 rfl (nI_inc (l + 1)) (by decide) rfl ?_
          refine X_goto (tgt := 15) dX11_mass_65 (by decide) ?_
          first
            | exact XJ.lcs (lo' := [(0, .ref (w.1 39)), (1, .int (nI p)), (2, .int (nI s)), (3, .double (sW L pr s p (mrW L (masF P L pr s f)) (ownW P p) (l + 1))), (5, .int (nI (l + 1 + 1)))]) ⟨rfl, rfl, rfl, (by rw [sW, hx]; rfl), rfl, trivial⟩ (ih (l + 1) (by omega) (by omega))
  refine X_aload_n dX11_mass_0 (i := 0) rfl rfl ?_
  refine X_get (i := 39) h9 rfl (ci := 10) rfl in11 (k := 9) (by decide) fX11_16 rfl dX11_mass_1 ?_
  refine X_iload_n dX11_mass_4 (i := 1) rfl rfl ?_
  refine X_iald (i := 42) hP.2.2 rfl rfl (by omega) (by decide) dX11_mass_5 ?_
  refine X_i2d dX11_mass_6 ?_
  refine X_ldc2d dX11_mass_7 kX11_198 ?_
  refine X_ddiv dX11_mass_10 (z_nnd (ownW_z (hPP p hp)) (by omega)) ?_
  refine X_dstore_n (i := 3) (lo' := [(3, _), (0, _), (1, _), (2, _)]) dX11_mass_11 rfl (by decide) rfl ?_
  refine X_iconst (v := 1) dX11_mass_12 (by decide) ?_
  refine X_istore (i := 5) (lo' := [(5, _), (3, _), (0, _), (1, _), (2, _)]) dX11_mass_13 (by decide) rfl ?_
  exact XJ.lcs (lo' := [(0, .ref (w.1 39)), (1, .int (nI p)), (2, .int (nI s)), (3, .double (sW L pr s p (mrW L (masF P L pr s f)) (ownW P p) 0)), (5, .int (nI (0 + 1)))]) ⟨rfl, rfl, rfl, rfl, rfl, trivial⟩ (hloop 7 0 (by omega) (by omega))
theorem m_mass (h9 : M0 w t np nl no nm nw en) {pr : Nat → Nat} {L : LSt} {P : PSt} (hL : ML G.2.2.1 w L) (hP : MP G.2.2.1 w P) (hnl : ln L = nl) (hI : LI np L) (hC : MC G.2.2.1 w pr) (hW : PW L) (hpr : ∀ i, i < 4 → pr i < 4) (hPP : ∀ p, p < np → P.2.2.2 p ≤ 99999) (s : Nat) (hs : s < 2 ^ 31) : ∀ (f : Nat), f ≤ 5 → ∀ (p : Nat), p < np → NC nl (pa L) (ch L) f p → XC G mX11_mass (f + 2) 0 0 [.ref (w.1 39), .int (nI p), .int (nI s)] w (fun r w' => r = .inl (some (.double (masF P L pr s f p))) ∧ w' = w)
  | 0, _, _, _, h => h.elim
  | f + 1, hf, p, hp, h => m_mass_s h9 hL hP hnl hI hC hW hpr hPP s hs (by omega) p hp h (fun q hq hn => m_mass h9 hL hP hnl hI hC hW hpr hPP s hs f (by omega) q hq hn)
theorem fcmp_self {x : UInt32} (h : vf_n32 x) : FP.fcmp x x = some .eq := ft_cmp_self (ft_nn_dec ft_gd32 (ft_nn32.mp h))
theorem dcmp_selfv {x : UInt64} (h : vf_n64 x) : FP.dcmp x x = some .eq := ft_dcmp_self h
set_option maxRecDepth 20000 in
theorem j_fnan (x : UInt32) (hx : vf_n32 x) : XC G mJxf58ca_isNaN_12338 0 0 0 [.float x] w (fun r w' => r = .inl (some (.int 0)) ∧ w' = w) := by
  refine XC.of (lo0 := [(0, .float x)]) kmJxf58ca_isNaN_12338 (Nat.le_of_ble_eq_true rfl) rfl ?_
  refine X_fload_n dJxf58ca_isNaN_12338_0 (i := 0) rfl rfl ?_
  refine X_fload_n dJxf58ca_isNaN_12338_1 (i := 0) rfl rfl ?_
  refine X_fcmp dJxf58ca_isNaN_12338_2 ?_
  refine X_if_eq (tgt := 10) dJxf58ca_isNaN_12338_3 (by decide) (fun h1 => ?_) (fun h1 => ?_)
  · refine X_iconst (v := 0) dJxf58ca_isNaN_12338_10 (by decide) ?_
    refine X_ireturn dJxf58ca_isNaN_12338_11 rfl rfl ?_
    exact ⟨rfl, rfl⟩
  · exact absurd (by rw [fcmp_self hx]; rfl) h1
set_option maxRecDepth 20000 in
theorem j_fbits (x : UInt32) (hx : vf_n32 x) : XC G mJxf58ca_floatToIntBits_5c35a 1 0 0 [.float x] w (fun r w' => r = .inl (some (.int x.toInt32)) ∧ w' = w) := by
  refine XC.of (lo0 := [(0, .float x)]) kmJxf58ca_floatToIntBits_5c35a (Nat.le_of_ble_eq_true rfl) rfl ?_
  refine X_fload_n dJxf58ca_floatToIntBits_5c35a_0 (i := 0) rfl rfl ?_
  refine X_callS (gc2 := 0) (gs2 := 0) (j_fnan x hx) kmJxf58ca_isNaN_12338 rfl lJxf58ca_59 sJxf58ca_isNaN_12338 rfl rfl (Nat.le_of_ble_eq_true rfl) (by decide) dJxf58ca_floatToIntBits_5c35a_1 (by decide) (by decide) (fun E w1 hq => nomatch hq.1) (fun v w1 hq => ?_)
  have hv := hq.1
  obtain rfl := hq.2.symm
  cases hv
  refine X_if_ne (tgt := 12) dJxf58ca_floatToIntBits_5c35a_4 (by decide) (fun h1 => ?_) (fun h1 => ?_)
  · exact absurd rfl h1
  · refine X_fload_n dJxf58ca_floatToIntBits_5c35a_7 (i := 0) rfl rfl ?_
    refine X_f2ib lJxf58ca_74 natjavalangFloat_floatToRawIntBitsFI sjavalangFloat_floatToRawIntBitsFI kmJxf58ca_floatToIntBits_5c35a.2.1 (Nat.le_of_ble_eq_true rfl) (by decide) dJxf58ca_floatToIntBits_5c35a_8 ?_
    refine X_ireturn dJxf58ca_floatToIntBits_5c35a_11 rfl rfl ?_
    exact ⟨rfl, rfl⟩
set_option maxRecDepth 20000 in
theorem j_dnan (x : UInt64) (hx : vf_n64 x) : XC G mJxe99ae_isNaN_b9ae7 0 0 0 [.double x] w (fun r w' => r = .inl (some (.int 0)) ∧ w' = w) := by
  refine XC.of (lo0 := [(0, .double x)]) kmJxe99ae_isNaN_b9ae7 (Nat.le_of_ble_eq_true rfl) rfl ?_
  refine X_dload_n dJxe99ae_isNaN_b9ae7_0 (i := 0) rfl rfl ?_
  refine X_dload_n dJxe99ae_isNaN_b9ae7_1 (i := 0) rfl rfl ?_
  refine X_dcmp dJxe99ae_isNaN_b9ae7_2 ?_
  refine X_if_eq (tgt := 10) dJxe99ae_isNaN_b9ae7_3 (by decide) (fun h1 => ?_) (fun h1 => ?_)
  · refine X_iconst (v := 0) dJxe99ae_isNaN_b9ae7_10 (by decide) ?_
    refine X_ireturn dJxe99ae_isNaN_b9ae7_11 rfl rfl ?_
    exact ⟨rfl, rfl⟩
  · exact absurd (by rw [dcmp_selfv hx]; rfl) h1
set_option maxRecDepth 20000 in
theorem j_dbits (x : UInt64) (hx : vf_n64 x) : XC G mJxe99ae_doubleToLongBits_ccdee 1 0 0 [.double x] w (fun r w' => r = .inl (some (.long x.toInt64)) ∧ w' = w) := by
  refine XC.of (lo0 := [(0, .double x)]) kmJxe99ae_doubleToLongBits_ccdee (Nat.le_of_ble_eq_true rfl) rfl ?_
  refine X_dload_n dJxe99ae_doubleToLongBits_ccdee_0 (i := 0) rfl rfl ?_
  refine X_callS (gc2 := 0) (gs2 := 0) (j_dnan x hx) kmJxe99ae_isNaN_b9ae7 rfl lJxe99ae_122 sJxe99ae_isNaN_b9ae7 rfl rfl (Nat.le_of_ble_eq_true rfl) (by decide) dJxe99ae_doubleToLongBits_ccdee_1 (by decide) (by decide) (fun E w1 hq => nomatch hq.1) (fun v w1 hq => ?_)
  have hv := hq.1
  obtain rfl := hq.2.symm
  cases hv
  refine X_if_ne (tgt := 12) dJxe99ae_doubleToLongBits_ccdee_4 (by decide) (fun h1 => ?_) (fun h1 => ?_)
  · exact absurd rfl h1
  · refine X_dload_n dJxe99ae_doubleToLongBits_ccdee_7 (i := 0) rfl rfl ?_
    refine X_d2lb lJxe99ae_134 natjavalangDouble_doubleToRawLongBitsDJ sjavalangDouble_doubleToRawLongBitsDJ kmJxe99ae_doubleToLongBits_ccdee.2.1 (Nat.le_of_ble_eq_true rfl) (by decide) dJxe99ae_doubleToLongBits_ccdee_8 ?_
    refine X_lreturn dJxe99ae_doubleToLongBits_ccdee_11 rfl ?_
    exact ⟨rfl, rfl⟩
end CostM
