/-! REFERENCE: quantities (walks by gen/spec36.py) -/
section QtyM
variable {G : Gx} {w : Wd} {t np nl no nm nw en : Nat}
set_option maxRecDepth 20000 in
theorem m_has_s (h9 : M0 w t np nl no nm nw en) {pr : Nat → Nat} {L : LSt} (hL : ML G.2.2.1 w L) (hnl : ln L = nl) (hI : LI np L) (hC : MC G.2.2.1 w pr) (hW : PW L) (hpr : ∀ i, i < 4 → pr i < 4) (s c : Nat) (hs : s < 2 ^ 31) (hc : c < 16) {f : Nat} (hf : f < 100) (p : Nat) (hp : p < 16) (hnc : ∀ i, i < nl → pa L i = p → NC nl (pa L) (ch L) f (ch L i)) (hrec : ∀ q, q < 16 → NC nl (pa L) (ch L) f q → XC G mX11_has (f + 2) 0 0 [.ref (w.1 39), .int (nI q), .int (nI c), .int (nI s)] w (fun r w' => r = .inl (some (.long (nL (hasN L pr s f q c)))) ∧ w' = w)) : XC G mX11_has (f + 3) 0 0 [.ref (w.1 39), .int (nI p), .int (nI c), .int (nI s)] w (fun r w' => r = .inl (some (.long (nL (hasN L pr s (f + 1) p c)))) ∧ w' = w) := by
  have h16 := hI.1
  have h40 := hI.2.1
  refine XC.of (lo0 := [(0, .ref (w.1 39)), (1, .int (nI p)), (2, .int (nI c)), (3, .int (nI s))]) kmX11_has (Nat.le_of_ble_eq_true rfl) rfl ?_
  have hloop : ∀ (n : Nat) (l : Nat), 6 - l < n → l ≤ 6 → ¬ p = c → XJ G mX11_has (f + 3) 0 0 13 [(0, .ref (w.1 39)), (1, .int (nI p)), (2, .int (nI c)), (3, .int (nI s)), (4, .long (nL (sK (fun k => oN (fun l => qt L l * hasN L pr s f (ch L l) c) (lnAt L pr s p k)) l))), (6, .int (nI (l + 1)))] [] w (fun r w' => r = .inl (some (.long (nL (hasN L pr s (f + 1) p c)))) ∧ w' = w) := by
    intro n
    induction n with
    | zero => intro l hm hl hpc; exact absurd hm (Nat.not_lt_zero _)
    | succ n ih =>
      intro l hm hl hpc
      refine X_iload dX11_has_13 (i := 6) rfl ?_
      refine X_bipush (v := 6) dX11_has_15 (by decide) ?_
      refine X_icmp_gt (tgt := 69) dX11_has_17 (by decide) (fun h1 => ?_) (fun h1 => ?_)
      · have h5 : l = 6 := by have := lt_nI (a := 6) (by decide) (by omega) h1; omega
        subst h5
        refine X_lload dX11_has_69 (i := 4) rfl ?_
        refine X_lreturn dX11_has_71 rfl ?_
        exact ⟨rL (by rw [hasN, if_neg hpc]; rfl), rfl⟩
      · have h5 : l < 6 := by have := nlt_nI (a := 6) (by decide) (by omega) h1; omega
        refine X_aload_n dX11_has_20 (i := 0) rfl rfl ?_
        refine X_iload_n dX11_has_21 (i := 1) rfl rfl ?_
        refine X_iload dX11_has_22 (i := 6) rfl ?_
        refine X_iload_n dX11_has_24 (i := 3) rfl rfl ?_
        refine X_callV (gc2 := 0) (gs2 := 0) (m_at h9 hL hnl hI hC hW hpr p (l + 1) s (by omega) (by omega) hs) (i := 39) h9 rfl rfl kmX11_at rfl lX11_139 iX11_at vX11_at rfl rfl (Nat.le_of_ble_eq_true rfl) (by omega) dX11_has_25 (by decide) (by decide) (fun E w1 hq => nomatch hq.1) (fun v w1 hq => ?_)
        have hv := hq.1
        obtain rfl := hq.2.symm
        cases hv
        refine X_istore (i := 7) (lo' := [(7, _), (0, _), (1, _), (2, _), (3, _), (4, _), (6, _)]) dX11_has_28 (by decide) rfl ?_
        refine X_iload dX11_has_30 (i := 7) rfl ?_
        refine X_iconst (v := -1) dX11_has_32 (by decide) ?_
        refine X_icmp_eq (tgt := 63) dX11_has_33 (by decide) (fun h2 => ?_) (fun h2 => ?_)
        · have hx := oI_none (n := ln L) (fun j h => (lnAt_some (L := L) (pr := pr) (s := s) (p := p) (k := l + 1) h).1) (by omega) h2
          refine X_iinc (i := 6) (v := nI (l + 1 + 1)) (lo' := [(6, _), (7, _), (0, _), (1, _), (2, _), (3, _), (4, _)]) dX11_has_63 rfl (nI_inc (l + 1)) (by decide) rfl ?_
          refine X_goto (tgt := 13) dX11_has_66 (by decide) ?_
          first
            | exact XJ.lcs (lo' := [(0, .ref (w.1 39)), (1, .int (nI p)), (2, .int (nI c)), (3, .int (nI s)), (4, .long (nL (sK (fun k => oN (fun l => qt L l * hasN L pr s f (ch L l) c) (lnAt L pr s p k)) (l + 1)))), (6, .int (nI (l + 1 + 1)))]) ⟨rfl, rfl, rfl, rfl, rfl, rfl, trivial⟩ (ih (l + 1) (by omega) (by omega) hpc)
            | exact XJ.lcs (lo' := [(0, .ref (w.1 39)), (1, .int (nI p)), (2, .int (nI c)), (3, .int (nI s)), (4, .long (nL (sK (fun k => oN (fun l => qt L l * hasN L pr s f (ch L l) c) (lnAt L pr s p k)) (l + 1)))), (6, .int (nI (l + 1 + 1)))]) ⟨rfl, rfl, rfl, rfl, (by rw [sK, hx]; rfl), rfl, trivial⟩ (ih (l + 1) (by omega) (by omega) hpc)
        · obtain ⟨j, hx⟩ := oI_some (n := ln L) (fun j h => (lnAt_some (L := L) (pr := pr) (s := s) (p := p) (k := l + 1) h).1) (by omega) h2
          have hj := lnAt_some hx
          have hb := hI.2.2 j hj.1
          have hjn := hj.1
          rw [show oI (lnAt L pr s p (l + 1)) = nI j by rw [hx]; rfl]
          refine X_lload dX11_has_36 (i := 4) rfl ?_
          refine X_aload_n dX11_has_38 (i := 0) rfl rfl ?_
          refine X_get (i := 39) h9 rfl (ci := 10) rfl in11 (k := 13) (by decide) fX11_28 rfl dX11_has_39 ?_
          refine X_iload dX11_has_42 (i := 7) rfl ?_
          refine X_iald (i := 46) hL.2.2.2.1 rfl rfl (by omega) (by decide) dX11_has_44 ?_
          refine X_i2l dX11_has_45 rfl ?_
          refine XJ.top (v' := .long (nL (qt L j))) (by rw [show nf (qt L) j = nI (qt L j) from rfl, nL_i2l (by omega)]) ?_
          refine X_aload_n dX11_has_46 (i := 0) rfl rfl ?_
          refine X_aload_n dX11_has_47 (i := 0) rfl rfl ?_
          refine X_get (i := 39) h9 rfl (ci := 10) rfl in11 (k := 12) (by decide) fX11_25 rfl dX11_has_48 ?_
          refine X_iload dX11_has_51 (i := 7) rfl ?_
          refine X_iald (i := 45) hL.2.2.1 rfl rfl (by omega) (by decide) dX11_has_53 ?_
          refine X_iload_n dX11_has_54 (i := 2) rfl rfl ?_
          refine X_iload_n dX11_has_55 (i := 3) rfl rfl ?_
          refine X_callV (gc2 := 0) (gs2 := 0) (hrec (ch L j) (by omega) (hnc j (by omega) hj.2.2.1)) (i := 39) h9 rfl rfl kmX11_has rfl lX11_171 iX11_has vX11_has rfl rfl (Nat.le_of_ble_eq_true rfl) (by omega) dX11_has_56 (by decide) (by decide) (fun E w1 hq => nomatch hq.1) (fun v w1 hq => ?_)
          have hv := hq.1
          obtain rfl := hq.2.symm
          cases hv
          refine X_lmul dX11_has_59 ?_
          refine X_ladd dX11_has_60 ?_
          refine XJ.top (v' := .long (nL (sK (fun k => oN (fun l => qt L l * hasN L pr s f (ch L l) c) (lnAt L pr s p k)) (l + 1)))) (by rw [nL_mul, nL_add, sK, hx]; rfl) ?_
          refine X_lstore (i := 4) (lo' := [(4, _), (7, _), (0, _), (1, _), (2, _), (3, _), (6, _)]) dX11_has_61 (by decide) rfl ?_
          refine X_iinc (i := 6) (v := nI (l + 1 + 1)) (lo' := [(6, _), (4, _), (7, _), (0, _), (1, _), (2, _), (3, _)]) dX11_has_63 rfl (nI_inc (l + 1)) (by decide) rfl ?_
          refine X_goto (tgt := 13) dX11_has_66 (by decide) ?_
          first
            | exact XJ.lcs (lo' := [(0, .ref (w.1 39)), (1, .int (nI p)), (2, .int (nI c)), (3, .int (nI s)), (4, .long (nL (sK (fun k => oN (fun l => qt L l * hasN L pr s f (ch L l) c) (lnAt L pr s p k)) (l + 1)))), (6, .int (nI (l + 1 + 1)))]) ⟨rfl, rfl, rfl, rfl, rfl, rfl, trivial⟩ (ih (l + 1) (by omega) (by omega) hpc)
            | exact XJ.lcs (lo' := [(0, .ref (w.1 39)), (1, .int (nI p)), (2, .int (nI c)), (3, .int (nI s)), (4, .long (nL (sK (fun k => oN (fun l => qt L l * hasN L pr s f (ch L l) c) (lnAt L pr s p k)) (l + 1)))), (6, .int (nI (l + 1 + 1)))]) ⟨rfl, rfl, rfl, rfl, (by rw [sK, hx]; rfl), rfl, trivial⟩ (ih (l + 1) (by omega) (by omega) hpc)
  refine X_iload_n dX11_has_0 (i := 1) rfl rfl ?_
  refine X_iload_n dX11_has_1 (i := 2) rfl rfl ?_
  refine X_icmp_ne (tgt := 7) dX11_has_2 (by decide) (fun h0 => ?_) (fun h0 => ?_)
  · have hpc : ¬ p = c := fun h => h0 (by rw [h])
    refine X_lconst (v := 0) dX11_has_7 rfl ?_
    refine X_lstore (i := 4) (lo' := [(4, _), (0, _), (1, _), (2, _), (3, _)]) dX11_has_8 (by decide) rfl ?_
    refine X_iconst (v := 1) dX11_has_10 (by decide) ?_
    refine X_istore (i := 6) (lo' := [(6, _), (4, _), (0, _), (1, _), (2, _), (3, _)]) dX11_has_11 (by decide) rfl ?_
    exact XJ.lcs (lo' := [(0, .ref (w.1 39)), (1, .int (nI p)), (2, .int (nI c)), (3, .int (nI s)), (4, .long (nL (sK (fun k => oN (fun l => qt L l * hasN L pr s f (ch L l) c) (lnAt L pr s p k)) 0))), (6, .int (nI (0 + 1)))]) ⟨rfl, rfl, rfl, rfl, rfl, rfl, trivial⟩ (hloop 7 0 (by omega) (by omega) hpc)
  · have hpc : p = c := (nI_eq (by omega) (by omega)).mp h0
    refine X_lconst (v := 1) dX11_has_5 rfl ?_
    refine X_lreturn dX11_has_6 rfl ?_
    exact ⟨rL (by rw [hasN, if_pos hpc]; rfl), rfl⟩
theorem m_has (h9 : M0 w t np nl no nm nw en) {pr : Nat → Nat} {L : LSt} (hL : ML G.2.2.1 w L) (hnl : ln L = nl) (hI : LI np L) (hC : MC G.2.2.1 w pr) (hW : PW L) (hpr : ∀ i, i < 4 → pr i < 4) (s c : Nat) (hs : s < 2 ^ 31) (hc : c < 16) : ∀ (f : Nat), f < 100 → ∀ (p : Nat), p < 16 → NC nl (pa L) (ch L) f p → XC G mX11_has (f + 2) 0 0 [.ref (w.1 39), .int (nI p), .int (nI c), .int (nI s)] w (fun r w' => r = .inl (some (.long (nL (hasN L pr s f p c)))) ∧ w' = w)
  | 0, _, _, _, h => h.elim
  | f + 1, hf, p, hp, h => m_has_s h9 hL hnl hI hC hW hpr s c hs hc (by omega) p hp h (fun q hq hn => m_has h9 hL hnl hI hC hW hpr s c hs hc f (by omega) q hq hn)
/-- the levels that hold below p -/
def dptN (L : LSt) (pr : Nat → Nat) (s : Nat) : Nat → Nat → Nat
  | 0, _ => 0
  | f + 1, p => mxN (fun k => oN (fun l => 1 + dptN L pr s f (ch L l)) (lnAt L pr s p (k + 1))) 6
theorem dptN_le {L : LSt} {pr : Nat → Nat} {s : Nat} : ∀ (f p : Nat), dptN L pr s f p ≤ f
  | 0, _ => Nat.le_refl 0
  | f + 1, p => mxN_le (fun i _ => by
      show oN _ (lnAt L pr s p (i + 1)) ≤ f + 1
      cases lnAt L pr s p (i + 1) with
      | none => exact Nat.zero_le _
      | some j => have := dptN_le (L := L) (pr := pr) (s := s) f (ch L j); show 1 + _ ≤ _; omega)
set_option maxRecDepth 20000 in
theorem m_depth_s (h9 : M0 w t np nl no nm nw en) {pr : Nat → Nat} {L : LSt} (hL : ML G.2.2.1 w L) (hnl : ln L = nl) (hI : LI np L) (hC : MC G.2.2.1 w pr) (hW : PW L) (hpr : ∀ i, i < 4 → pr i < 4) (s : Nat) (hs : s < 2 ^ 31) {f : Nat} (hf : f < 100) (p : Nat) (hp : p < 16) (hnc : ∀ i, i < nl → pa L i = p → NC nl (pa L) (ch L) f (ch L i)) (hrec : ∀ q, q < 16 → NC nl (pa L) (ch L) f q → XC G mX11_depth (f + 2) 0 0 [.ref (w.1 39), .int (nI q), .int (nI s)] w (fun r w' => r = .inl (some (.int (nI (dptN L pr s f q)))) ∧ w' = w)) : XC G mX11_depth (f + 3) 0 0 [.ref (w.1 39), .int (nI p), .int (nI s)] w (fun r w' => r = .inl (some (.int (nI (dptN L pr s (f + 1) p)))) ∧ w' = w) := by
  have h16 := hI.1
  have h40 := hI.2.1
  refine XC.of (lo0 := [(0, .ref (w.1 39)), (1, .int (nI p)), (2, .int (nI s))]) kmX11_depth (Nat.le_of_ble_eq_true rfl) rfl ?_
  have hloop : ∀ (n : Nat) (l : Nat), 6 - l < n → l ≤ 6 → XJ G mX11_depth (f + 3) 0 0 5 [(0, .ref (w.1 39)), (1, .int (nI p)), (2, .int (nI s)), (3, .int (nI (mxN (fun k => oN (fun l => 1 + dptN L pr s f (ch L l)) (lnAt L pr s p (k + 1))) l))), (4, .int (nI (l + 1)))] [] w (fun r w' => r = .inl (some (.int (nI (dptN L pr s (f + 1) p)))) ∧ w' = w) := by
    intro n
    induction n with
    | zero => intro l hm hl; exact absurd hm (Nat.not_lt_zero _)
    | succ n ih =>
      intro l hm hl
      refine X_iload dX11_depth_5 (i := 4) rfl ?_
      refine X_bipush (v := 6) dX11_depth_7 (by decide) ?_
      refine X_icmp_gt (tgt := 67) dX11_depth_9 (by decide) (fun h1 => ?_) (fun h1 => ?_)
      · have h5 : l = 6 := by have := lt_nI (a := 6) (by decide) (by omega) h1; omega
        subst h5
        refine X_iload_n dX11_depth_67 (i := 3) rfl rfl ?_
        refine X_ireturn dX11_depth_68 rfl rfl ?_
        exact ⟨rfl, rfl⟩
      · have h5 : l < 6 := by have := nlt_nI (a := 6) (by decide) (by omega) h1; omega
        refine X_aload_n dX11_depth_12 (i := 0) rfl rfl ?_
        refine X_iload_n dX11_depth_13 (i := 1) rfl rfl ?_
        refine X_iload dX11_depth_14 (i := 4) rfl ?_
        refine X_iload_n dX11_depth_16 (i := 2) rfl rfl ?_
        refine X_callV (gc2 := 0) (gs2 := 0) (m_at h9 hL hnl hI hC hW hpr p (l + 1) s (by omega) (by omega) hs) (i := 39) h9 rfl rfl kmX11_at rfl lX11_139 iX11_at vX11_at rfl rfl (Nat.le_of_ble_eq_true rfl) (by omega) dX11_depth_17 (by decide) (by decide) (fun E w1 hq => nomatch hq.1) (fun v w1 hq => ?_)
        have hv := hq.1
        obtain rfl := hq.2.symm
        cases hv
        refine X_istore (i := 5) (lo' := [(5, _), (0, _), (1, _), (2, _), (3, _), (4, _)]) dX11_depth_20 (by decide) rfl ?_
        refine X_iload dX11_depth_22 (i := 5) rfl ?_
        refine X_iconst (v := -1) dX11_depth_24 (by decide) ?_
        refine X_icmp_ne (tgt := 32) dX11_depth_25 (by decide) (fun h2 => ?_) (fun h2 => ?_)
        · obtain ⟨j, hx⟩ := oI_some (n := ln L) (fun j h => (lnAt_some (L := L) (pr := pr) (s := s) (p := p) (k := l + 1) h).1) (by omega) h2
          have hj := lnAt_some hx
          have hb := hI.2.2 j hj.1
          have hjn := hj.1
          rw [show oI (lnAt L pr s p (l + 1)) = nI j by rw [hx]; rfl]
          have h7 : (fun k => oN (fun l => 1 + dptN L pr s f (ch L l)) (lnAt L pr s p (k + 1))) l = 1 + dptN L pr s f (ch L j) := by show oN _ (lnAt L pr s p (l + 1)) = _; rw [hx]; rfl
          have h9b := dptN_le (L := L) (pr := pr) (s := s) f (ch L j)
          refine X_iconst (v := 1) dX11_depth_32 (by decide) ?_
          refine X_aload_n dX11_depth_33 (i := 0) rfl rfl ?_
          refine X_aload_n dX11_depth_34 (i := 0) rfl rfl ?_
          refine X_get (i := 39) h9 rfl (ci := 10) rfl in11 (k := 12) (by decide) fX11_25 rfl dX11_depth_35 ?_
          refine X_iload dX11_depth_38 (i := 5) rfl ?_
          refine X_iald (i := 45) hL.2.2.1 rfl rfl (by omega) (by decide) dX11_depth_40 ?_
          refine X_iload_n dX11_depth_41 (i := 2) rfl rfl ?_
          refine X_callV (gc2 := 0) (gs2 := 0) (hrec (ch L j) (by omega) (hnc j (by omega) hj.2.2.1)) (i := 39) h9 rfl rfl kmX11_depth rfl lX11_177 iX11_depth vX11_depth rfl rfl (Nat.le_of_ble_eq_true rfl) (by omega) dX11_depth_42 (by decide) (by decide) (fun E w1 hq => nomatch hq.1) (fun v w1 hq => ?_)
          have hv := hq.1
          obtain rfl := hq.2.symm
          cases hv
          refine X_iadd dX11_depth_45 ?_
          refine XJ.top (v' := .int (nI (1 + dptN L pr s f (ch L j)))) (by rw [show (1 : Int32) = nI 1 from rfl, nI_add]) ?_
          have h8 : mxN (fun k => oN (fun l => 1 + dptN L pr s f (ch L l)) (lnAt L pr s p (k + 1))) l ≤ f + 1 := mxN_le (fun i hi => by have h99 := dptN_le (L := L) (pr := pr) (s := s) (f + 1) p; show oN _ (lnAt L pr s p (i + 1)) ≤ f + 1; cases lnAt L pr s p (i + 1) with | none => exact Nat.zero_le _ | some j => (have := dptN_le (L := L) (pr := pr) (s := s) f (ch L j); show 1 + _ ≤ _; omega))
          refine X_istore (i := 6) (lo' := [(6, _), (5, _), (0, _), (1, _), (2, _), (3, _), (4, _)]) dX11_depth_46 (by decide) rfl ?_
          refine X_iload dX11_depth_48 (i := 6) rfl ?_
          refine X_iload_n dX11_depth_50 (i := 3) rfl rfl ?_
          refine X_icmp_le (tgt := 59) dX11_depth_51 (by decide) (fun h3 => ?_) (fun h3 => ?_)
          · have h10 : ¬ mxN (fun k => oN (fun l => 1 + dptN L pr s f (ch L l)) (lnAt L pr s p (k + 1))) l < (fun k => oN (fun l => 1 + dptN L pr s f (ch L l)) (lnAt L pr s p (k + 1))) l := by rw [h7]; first | (have := ge_nI (a := 0) (by omega) (by omega) h3; omega) | (have := ge_nI (by omega) (by omega) h3; omega)
            refine X_iload_n dX11_depth_59 (i := 3) rfl rfl ?_
            refine X_istore_n (i := 3) (lo' := [(3, _), (6, _), (5, _), (0, _), (1, _), (2, _), (4, _)]) dX11_depth_60 rfl (by decide) rfl ?_
            refine X_iinc (i := 4) (v := nI (l + 1 + 1)) (lo' := [(4, _), (3, _), (6, _), (5, _), (0, _), (1, _), (2, _)]) dX11_depth_61 rfl (nI_inc (l + 1)) (by decide) rfl ?_
            refine X_goto (tgt := 5) dX11_depth_64 (by decide) ?_
            first
              | exact XJ.lcs (lo' := [(0, .ref (w.1 39)), (1, .int (nI p)), (2, .int (nI s)), (3, .int (nI (mxN (fun k => oN (fun l => 1 + dptN L pr s f (ch L l)) (lnAt L pr s p (k + 1))) (l + 1)))), (4, .int (nI (l + 1 + 1)))]) ⟨rfl, rfl, rfl, (congrArg (fun x => some (Value.int (nI x))) (h7.symm.trans (mxN_t h10))), rfl, trivial⟩ (ih (l + 1) (by omega) (by omega))
              | exact XJ.lcs (lo' := [(0, .ref (w.1 39)), (1, .int (nI p)), (2, .int (nI s)), (3, .int (nI (mxN (fun k => oN (fun l => 1 + dptN L pr s f (ch L l)) (lnAt L pr s p (k + 1))) (l + 1)))), (4, .int (nI (l + 1 + 1)))]) ⟨rfl, rfl, rfl, (congrArg (fun x => some (Value.int (nI x))) (mxN_f h10)), rfl, trivial⟩ (ih (l + 1) (by omega) (by omega))
          · have h10 : mxN (fun k => oN (fun l => 1 + dptN L pr s f (ch L l)) (lnAt L pr s p (k + 1))) l < (fun k => oN (fun l => 1 + dptN L pr s f (ch L l)) (lnAt L pr s p (k + 1))) l := by rw [h7]; first | (have := nge_nI (a := 0) (by omega) (by omega) h3; omega) | (have := nge_nI (by omega) (by omega) h3; omega)
            refine X_iload dX11_depth_54 (i := 6) rfl ?_
            refine X_goto (tgt := 60) dX11_depth_56 (by decide) ?_
            refine X_istore_n (i := 3) (lo' := [(3, _), (6, _), (5, _), (0, _), (1, _), (2, _), (4, _)]) dX11_depth_60 rfl (by decide) rfl ?_
            refine X_iinc (i := 4) (v := nI (l + 1 + 1)) (lo' := [(4, _), (3, _), (6, _), (5, _), (0, _), (1, _), (2, _)]) dX11_depth_61 rfl (nI_inc (l + 1)) (by decide) rfl ?_
            refine X_goto (tgt := 5) dX11_depth_64 (by decide) ?_
            first
              | exact XJ.lcs (lo' := [(0, .ref (w.1 39)), (1, .int (nI p)), (2, .int (nI s)), (3, .int (nI (mxN (fun k => oN (fun l => 1 + dptN L pr s f (ch L l)) (lnAt L pr s p (k + 1))) (l + 1)))), (4, .int (nI (l + 1 + 1)))]) ⟨rfl, rfl, rfl, (congrArg (fun x => some (Value.int (nI x))) (h7.symm.trans (mxN_t h10))), rfl, trivial⟩ (ih (l + 1) (by omega) (by omega))
              | exact XJ.lcs (lo' := [(0, .ref (w.1 39)), (1, .int (nI p)), (2, .int (nI s)), (3, .int (nI (mxN (fun k => oN (fun l => 1 + dptN L pr s f (ch L l)) (lnAt L pr s p (k + 1))) (l + 1)))), (4, .int (nI (l + 1 + 1)))]) ⟨rfl, rfl, rfl, (congrArg (fun x => some (Value.int (nI x))) (mxN_f h10)), rfl, trivial⟩ (ih (l + 1) (by omega) (by omega))
        · have hx := oI_none (n := ln L) (fun j h => (lnAt_some (L := L) (pr := pr) (s := s) (p := p) (k := l + 1) h).1) (by omega) h2
          have h7 : (fun k => oN (fun l => 1 + dptN L pr s f (ch L l)) (lnAt L pr s p (k + 1))) l = 0 := by show oN _ (lnAt L pr s p (l + 1)) = 0; rw [hx]; rfl
          refine X_iconst (v := 0) dX11_depth_28 (by decide) ?_
          refine X_goto (tgt := 46) dX11_depth_29 (by decide) ?_
          have h8 : mxN (fun k => oN (fun l => 1 + dptN L pr s f (ch L l)) (lnAt L pr s p (k + 1))) l ≤ f + 1 := mxN_le (fun i hi => by have h99 := dptN_le (L := L) (pr := pr) (s := s) (f + 1) p; show oN _ (lnAt L pr s p (i + 1)) ≤ f + 1; cases lnAt L pr s p (i + 1) with | none => exact Nat.zero_le _ | some j => (have := dptN_le (L := L) (pr := pr) (s := s) f (ch L j); show 1 + _ ≤ _; omega))
          refine X_istore (i := 6) (lo' := [(6, _), (5, _), (0, _), (1, _), (2, _), (3, _), (4, _)]) dX11_depth_46 (by decide) rfl ?_
          refine X_iload dX11_depth_48 (i := 6) rfl ?_
          refine X_iload_n dX11_depth_50 (i := 3) rfl rfl ?_
          refine X_icmp_le (tgt := 59) dX11_depth_51 (by decide) (fun h3 => ?_) (fun h3 => ?_)
          · have h10 : ¬ mxN (fun k => oN (fun l => 1 + dptN L pr s f (ch L l)) (lnAt L pr s p (k + 1))) l < (fun k => oN (fun l => 1 + dptN L pr s f (ch L l)) (lnAt L pr s p (k + 1))) l := by rw [h7]; first | (have := ge_nI (a := 0) (by omega) (by omega) h3; omega) | (have := ge_nI (by omega) (by omega) h3; omega)
            refine X_iload_n dX11_depth_59 (i := 3) rfl rfl ?_
            refine X_istore_n (i := 3) (lo' := [(3, _), (6, _), (5, _), (0, _), (1, _), (2, _), (4, _)]) dX11_depth_60 rfl (by decide) rfl ?_
            refine X_iinc (i := 4) (v := nI (l + 1 + 1)) (lo' := [(4, _), (3, _), (6, _), (5, _), (0, _), (1, _), (2, _)]) dX11_depth_61 rfl (nI_inc (l + 1)) (by decide) rfl ?_
            refine X_goto (tgt := 5) dX11_depth_64 (by decide) ?_
            first
              | exact XJ.lcs (lo' := [(0, .ref (w.1 39)), (1, .int (nI p)), (2, .int (nI s)), (3, .int (nI (mxN (fun k => oN (fun l => 1 + dptN L pr s f (ch L l)) (lnAt L pr s p (k + 1))) (l + 1)))), (4, .int (nI (l + 1 + 1)))]) ⟨rfl, rfl, rfl, (congrArg (fun x => some (Value.int (nI x))) (h7.symm.trans (mxN_t h10))), rfl, trivial⟩ (ih (l + 1) (by omega) (by omega))
              | exact XJ.lcs (lo' := [(0, .ref (w.1 39)), (1, .int (nI p)), (2, .int (nI s)), (3, .int (nI (mxN (fun k => oN (fun l => 1 + dptN L pr s f (ch L l)) (lnAt L pr s p (k + 1))) (l + 1)))), (4, .int (nI (l + 1 + 1)))]) ⟨rfl, rfl, rfl, (congrArg (fun x => some (Value.int (nI x))) (mxN_f h10)), rfl, trivial⟩ (ih (l + 1) (by omega) (by omega))
          · have h10 : mxN (fun k => oN (fun l => 1 + dptN L pr s f (ch L l)) (lnAt L pr s p (k + 1))) l < (fun k => oN (fun l => 1 + dptN L pr s f (ch L l)) (lnAt L pr s p (k + 1))) l := by rw [h7]; first | (have := nge_nI (a := 0) (by omega) (by omega) h3; omega) | (have := nge_nI (by omega) (by omega) h3; omega)
            refine X_iload dX11_depth_54 (i := 6) rfl ?_
            refine X_goto (tgt := 60) dX11_depth_56 (by decide) ?_
            refine X_istore_n (i := 3) (lo' := [(3, _), (6, _), (5, _), (0, _), (1, _), (2, _), (4, _)]) dX11_depth_60 rfl (by decide) rfl ?_
            refine X_iinc (i := 4) (v := nI (l + 1 + 1)) (lo' := [(4, _), (3, _), (6, _), (5, _), (0, _), (1, _), (2, _)]) dX11_depth_61 rfl (nI_inc (l + 1)) (by decide) rfl ?_
            refine X_goto (tgt := 5) dX11_depth_64 (by decide) ?_
            first
              | exact XJ.lcs (lo' := [(0, .ref (w.1 39)), (1, .int (nI p)), (2, .int (nI s)), (3, .int (nI (mxN (fun k => oN (fun l => 1 + dptN L pr s f (ch L l)) (lnAt L pr s p (k + 1))) (l + 1)))), (4, .int (nI (l + 1 + 1)))]) ⟨rfl, rfl, rfl, (congrArg (fun x => some (Value.int (nI x))) (h7.symm.trans (mxN_t h10))), rfl, trivial⟩ (ih (l + 1) (by omega) (by omega))
              | exact XJ.lcs (lo' := [(0, .ref (w.1 39)), (1, .int (nI p)), (2, .int (nI s)), (3, .int (nI (mxN (fun k => oN (fun l => 1 + dptN L pr s f (ch L l)) (lnAt L pr s p (k + 1))) (l + 1)))), (4, .int (nI (l + 1 + 1)))]) ⟨rfl, rfl, rfl, (congrArg (fun x => some (Value.int (nI x))) (mxN_f h10)), rfl, trivial⟩ (ih (l + 1) (by omega) (by omega))
  refine X_iconst (v := 0) dX11_depth_0 (by decide) ?_
  refine X_istore_n (i := 3) (lo' := [(3, _), (0, _), (1, _), (2, _)]) dX11_depth_1 rfl (by decide) rfl ?_
  refine X_iconst (v := 1) dX11_depth_2 (by decide) ?_
  refine X_istore (i := 4) (lo' := [(4, _), (3, _), (0, _), (1, _), (2, _)]) dX11_depth_3 (by decide) rfl ?_
  exact XJ.lcs (lo' := [(0, .ref (w.1 39)), (1, .int (nI p)), (2, .int (nI s)), (3, .int (nI (mxN (fun k => oN (fun l => 1 + dptN L pr s f (ch L l)) (lnAt L pr s p (k + 1))) 0))), (4, .int (nI (0 + 1)))]) ⟨rfl, rfl, rfl, rfl, rfl, trivial⟩ (hloop 7 0 (by omega) (by omega))
theorem m_depth (h9 : M0 w t np nl no nm nw en) {pr : Nat → Nat} {L : LSt} (hL : ML G.2.2.1 w L) (hnl : ln L = nl) (hI : LI np L) (hC : MC G.2.2.1 w pr) (hW : PW L) (hpr : ∀ i, i < 4 → pr i < 4) (s : Nat) (hs : s < 2 ^ 31) : ∀ (f : Nat), f < 100 → ∀ (p : Nat), p < 16 → NC nl (pa L) (ch L) f p → XC G mX11_depth (f + 2) 0 0 [.ref (w.1 39), .int (nI p), .int (nI s)] w (fun r w' => r = .inl (some (.int (nI (dptN L pr s f p)))) ∧ w' = w)
  | 0, _, _, _, h => h.elim
  | f + 1, hf, p, hp, h => m_depth_s h9 hL hnl hI hC hW hpr s hs (by omega) p hp h (fun q hq hn => m_depth h9 hL hnl hI hC hW hpr s hs f (by omega) q hq hn)
def cdQ (a b s : Int32) (np : Nat) : Nat := bif inP a np && inP b np then (bif btw s 1 999 then 0 else 2) else 1
theorem cdQ_1 {a b s : Int32} {np : Nat} (h : (inP a np && inP b np) = false) : cdQ a b s np = 1 := by rw [cdQ, h]; rfl
theorem cdQ_2 {a b s : Int32} {np : Nat} (h1 : inP a np = true) (h2 : inP b np = true) (h : btw s 1 999 = false) : cdQ a b s np = 2 := by rw [cdQ, h1, h2, h]; rfl
theorem cdQ_0 {a b s : Int32} {np : Nat} (h1 : inP a np = true) (h2 : inP b np = true) (h : btw s 1 999 = true) : cdQ a b s np = 0 := by rw [cdQ, h1, h2, h]; rfl
/-- how many of 0 .. n-1 -/
def cntB (f : Nat → Bool) : Nat → Nat
  | 0 => 0
  | n + 1 => cntB f n + (bif f n then 1 else 0)
theorem cntB_le (f : Nat → Bool) : ∀ n, cntB f n ≤ n
  | 0 => Nat.le_refl 0
  | n + 1 => by have := cntB_le f n; rw [cntB]; cases f n <;> simp <;> omega
set_option maxRecDepth 20000 in
theorem m_quantity (h9 : M0 w t np nl no nm nw en) {pr : Nat → Nat} {L : LSt} (hL : ML G.2.2.1 w L) (hnl : ln L = nl) (hI : LI np L) (hC : MC G.2.2.1 w pr) (hW : PW L) (hpr : ∀ i, i < 4 → pr i < 4) (hN : NC5 L) (a b s : Int32) : XC G mX11_quantity 8 0 0 [.ref (w.1 39), .int a, .int b, .int s] w (fun r w' => ∃ v : Int64, r = .inl (some (.long v)) ∧ (cdQ a b s np = 0 → v = nL (hasN L pr (idx s) 5 (idx a) (idx b))) ∧ w' = setM w 39 (m39 w (cdQ a b s np) np nl no nm nw en)) := by
  have h16 := hI.1
  have h40 := hI.2.1
  refine XC.of (lo0 := [(0, .ref (w.1 39)), (1, .int a), (2, .int b), (3, .int s)]) kmX11_quantity (Nat.le_of_ble_eq_true rfl) rfl ?_
  refine X_aload_n dX11_quantity_0 (i := 0) rfl rfl ?_
  refine X_iload_n dX11_quantity_1 (i := 1) rfl rfl ?_
  refine X_callV (gc2 := 0) (gs2 := 0) (m_isPart h9 (by omega) a) (i := 39) h9 rfl rfl kmX11_isPart rfl lX11_96 iX11_isPart vX11_isPart rfl rfl (Nat.le_of_ble_eq_true rfl) (by decide) dX11_quantity_2 (by decide) (by decide) (fun E w1 hq => nomatch hq.1) (fun v w1 hq => ?_)
  have hv := hq.1
  obtain rfl := hq.2.symm
  cases hv
  refine X_if_eq (tgt := 16) dX11_quantity_5 (by decide) (fun h1 => ?_) (fun h1 => ?_)
  · have hcd : cdQ a b s np = 1 := cdQ_1 (by rw [bI_eq h1]; rfl)
    refine X_aload_n dX11_quantity_16 (i := 0) rfl rfl ?_
    refine X_iconst (v := 1) dX11_quantity_17 (by decide) ?_
    refine X_callV (gc2 := 0) (gs2 := 0) (m_fails h9 1) (i := 39) h9 rfl rfl kmX11_fails rfl lX11_105 iX11_fails vX11_fails rfl rfl (Nat.le_of_ble_eq_true rfl) (by decide) dX11_quantity_18 (by decide) (by decide) (fun E w1 hq => nomatch hq.1) (fun v w1 hq => ?_)
    have hv := hq.1
    obtain rfl := hq.2.symm
    cases hv
    refine X_i2l dX11_quantity_21 rfl ?_
    refine X_lreturn dX11_quantity_22 rfl ?_
    exact ⟨_, rfl, fun h => absurd h (by rw [hcd]; decide), by rw [hcd]⟩
  · refine X_aload_n dX11_quantity_8 (i := 0) rfl rfl ?_
    refine X_iload_n dX11_quantity_9 (i := 2) rfl rfl ?_
    refine X_callV (gc2 := 0) (gs2 := 0) (m_isPart h9 (by omega) b) (i := 39) h9 rfl rfl kmX11_isPart rfl lX11_96 iX11_isPart vX11_isPart rfl rfl (Nat.le_of_ble_eq_true rfl) (by decide) dX11_quantity_10 (by decide) (by decide) (fun E w1 hq => nomatch hq.1) (fun v w1 hq => ?_)
    have hv := hq.1
    obtain rfl := hq.2.symm
    cases hv
    refine X_if_ne (tgt := 23) dX11_quantity_13 (by decide) (fun h2 => ?_) (fun h2 => ?_)
    · refine X_iload_n dX11_quantity_23 (i := 3) rfl rfl ?_
      refine X_iconst (v := 1) dX11_quantity_24 (by decide) ?_
      refine X_sipush (v := 999) dX11_quantity_25 (by decide) ?_
      refine X_callS (gc2 := 0) (gs2 := 0) (m_in s 1 999) kmX11_in rfl lX11_89 sX11_in rfl rfl (Nat.le_of_ble_eq_true rfl) (by decide) dX11_quantity_28 (by decide) (by decide) (fun E w1 hq => nomatch hq.1) (fun v w1 hq => ?_)
      have hv := hq.1
      obtain rfl := hq.2.symm
      cases hv
      refine X_if_ne (tgt := 41) dX11_quantity_31 (by decide) (fun h3 => ?_) (fun h3 => ?_)
      · have hcd := cdQ_0 (bI_ne h1) (bI_ne h2) (bI_ne h3)
        obtain ⟨a, ha, rfl⟩ := inP_of (by omega) (bI_ne h1)
        obtain ⟨b, hb, rfl⟩ := inP_of (by omega) (bI_ne h2)
        obtain ⟨s, hs1, hs2, rfl⟩ := btw_n (lo := 1) (hi := 999) (by decide) (by decide) (bI_ne h3)
        refine X_aload_n dX11_quantity_41 (i := 0) rfl rfl ?_
        refine X_iconst (v := 0) dX11_quantity_42 (by decide) ?_
        refine X_put tyX11 tyX11_ok nmX11 (i := 39) h9 rfl (ci := 10) rfl in11 (k := 0) (by decide) fX11_82 rfl rfl rfl (Nat.le_of_ble_eq_true rfl) dX11_quantity_43 (fun hc_43 => ?_)
        refine X_aload_n dX11_quantity_46 (i := 0) rfl rfl ?_
        refine X_iload_n dX11_quantity_47 (i := 1) rfl rfl ?_
        refine X_iload_n dX11_quantity_48 (i := 2) rfl rfl ?_
        refine X_iload_n dX11_quantity_49 (i := 3) rfl rfl ?_
        refine X_callV (gc2 := 0) (gs2 := 0) (m_has (t := 0) (w := (setM w 39 (m39 w 0 np nl no nm nw en))) ⟨h9.1, rfl⟩ hL hnl hI hC hW hpr s b (by omega) (by omega) 5 (by decide) a (by omega) (hnl ▸ hN a)) (i := 39) hc_43 rfl rfl kmX11_has rfl lX11_171 iX11_has vX11_has rfl rfl (Nat.le_of_ble_eq_true rfl) (by decide) dX11_quantity_50 (by decide) (by decide) (fun E w1 hq => nomatch hq.1) (fun v w1 hq => ?_)
        have hv := hq.1
        obtain rfl := hq.2.symm
        cases hv
        refine X_lreturn dX11_quantity_53 rfl ?_
        exact ⟨_, rfl, fun _ => by rw [idx_nI (by omega), idx_nI (by omega), idx_nI (by omega)], by rw [hcd]⟩
      · have hcd : cdQ a b s np = 2 := cdQ_2 (bI_ne h1) (bI_ne h2) (bI_eq h3)
        refine X_aload_n dX11_quantity_34 (i := 0) rfl rfl ?_
        refine X_iconst (v := 2) dX11_quantity_35 (by decide) ?_
        refine X_callV (gc2 := 0) (gs2 := 0) (m_fails h9 2) (i := 39) h9 rfl rfl kmX11_fails rfl lX11_105 iX11_fails vX11_fails rfl rfl (Nat.le_of_ble_eq_true rfl) (by decide) dX11_quantity_36 (by decide) (by decide) (fun E w1 hq => nomatch hq.1) (fun v w1 hq => ?_)
        have hv := hq.1
        obtain rfl := hq.2.symm
        cases hv
        refine X_i2l dX11_quantity_39 rfl ?_
        refine X_lreturn dX11_quantity_40 rfl ?_
        exact ⟨_, rfl, fun h => absurd h (by rw [hcd]; decide), by rw [hcd]⟩
    · have hcd : cdQ a b s np = 1 := cdQ_1 (by rw [bI_eq h2, Bool.and_false])
      refine X_aload_n dX11_quantity_16 (i := 0) rfl rfl ?_
      refine X_iconst (v := 1) dX11_quantity_17 (by decide) ?_
      refine X_callV (gc2 := 0) (gs2 := 0) (m_fails h9 1) (i := 39) h9 rfl rfl kmX11_fails rfl lX11_105 iX11_fails vX11_fails rfl rfl (Nat.le_of_ble_eq_true rfl) (by decide) dX11_quantity_18 (by decide) (by decide) (fun E w1 hq => nomatch hq.1) (fun v w1 hq => ?_)
      have hv := hq.1
      obtain rfl := hq.2.symm
      cases hv
      refine X_i2l dX11_quantity_21 rfl ?_
      refine X_lreturn dX11_quantity_22 rfl ?_
      exact ⟨_, rfl, fun h => absurd h (by rw [hcd]; decide), by rw [hcd]⟩
set_option maxRecDepth 20000 in
theorem m_quantityW (h9 : M0 w t np nl no nm nw en) {pr : Nat → Nat} {L : LSt} (hL : ML G.2.2.1 w L) (hnl : ln L = nl) (hI : LI np L) (hC : MC G.2.2.1 w pr) (hW : PW L) (hpr : ∀ i, i < 4 → pr i < 4) (hN : NC5 L) (a b s : Int32) : XC G mX11_quantityByWalking 9 0 0 [.ref (w.1 39), .int a, .int b, .int s] w (fun r w' => ∃ v : Int64, r = .inl (some (.long v)) ∧ (cdQ a b s np = 0 → v = nL (hasN L pr (idx s) 5 (idx a) (idx b))) ∧ w' = setM w 39 (m39 w (cdQ a b s np) np nl no nm nw en)) := by
  have h16 := hI.1
  have h40 := hI.2.1
  refine XC.of (lo0 := [(0, .ref (w.1 39)), (1, .int a), (2, .int b), (3, .int s)]) kmX11_quantityByWalking (Nat.le_of_ble_eq_true rfl) rfl ?_
  refine X_aload_n dX11_quantityByWalking_0 (i := 0) rfl rfl ?_
  refine X_iload_n dX11_quantityByWalking_1 (i := 1) rfl rfl ?_
  refine X_iload_n dX11_quantityByWalking_2 (i := 2) rfl rfl ?_
  refine X_iload_n dX11_quantityByWalking_3 (i := 3) rfl rfl ?_
  refine X_callV (gc2 := 0) (gs2 := 0) (m_quantity h9 hL hnl hI hC hW hpr hN a b s) (i := 39) h9 rfl rfl kmX11_quantity rfl lX11_175 iX11_quantity vX11_quantity rfl rfl (Nat.le_of_ble_eq_true rfl) (by decide) dX11_quantityByWalking_4 (by decide) (by decide) (fun E w1 hq => by obtain ⟨_, h, _⟩ := hq; nomatch h) (fun v w1 hq => ?_)
  obtain ⟨v1, hv, hv2, hv3⟩ := hq
  cases hv
  subst hv3
  refine X_lreturn dX11_quantityByWalking_7 rfl ?_
  exact ⟨_, rfl, hv2, rfl⟩
set_option maxRecDepth 20000 in
theorem m_levels (h9 : M0 w t np nl no nm nw en) {pr : Nat → Nat} {L : LSt} (hL : ML G.2.2.1 w L) (hnl : ln L = nl) (hI : LI np L) (hC : MC G.2.2.1 w pr) (hW : PW L) (hpr : ∀ i, i < 4 → pr i < 4) (hN : NC5 L) (a s : Int32) : XC G mX11_levels 8 0 0 [.ref (w.1 39), .int a, .int s] w (fun r w' => ∃ v : Int32, r = .inl (some (.int v)) ∧ (cdA a s np = 0 → v = nI (dptN L pr (idx s) 5 (idx a))) ∧ w' = setM w 39 (m39 w (cdA a s np) np nl no nm nw en)) := by
  have h16 := hI.1
  have h40 := hI.2.1
  refine XC.of (lo0 := [(0, .ref (w.1 39)), (1, .int a), (2, .int s)]) kmX11_levels (Nat.le_of_ble_eq_true rfl) rfl ?_
  refine X_aload_n dX11_levels_0 (i := 0) rfl rfl ?_
  refine X_iload_n dX11_levels_1 (i := 1) rfl rfl ?_
  refine X_iload_n dX11_levels_2 (i := 2) rfl rfl ?_
  refine X_callV (gc2 := 0) (gs2 := 0) (m_isAsked h9 (by omega) a s) (i := 39) h9 rfl rfl kmX11_isAsked rfl lX11_150 iX11_isAsked vX11_isAsked rfl rfl (Nat.le_of_ble_eq_true rfl) (by decide) dX11_levels_3 (by decide) (by decide) (fun E w1 hq => nomatch hq.1) (fun v w1 hq => ?_)
  have hv := hq.1
  obtain rfl := hq.2.symm
  cases hv
  have k9 : cel (setM w 39 (m39 w (cdA a s np) np nl no nm nw en)) 39 (m39 w (cdA a s np) np nl no nm nw en) := ⟨h9.1, rfl⟩
  refine X_if_eq (tgt := 18) dX11_levels_6 (by decide) (fun h1 => ?_) (fun h1 => ?_)
  · have hcd : ¬ cdA a s np = 0 := of_decide_eq_false (bI_eq h1)
    refine X_iconst (v := 0) dX11_levels_18 (by decide) ?_
    refine X_ireturn dX11_levels_19 rfl rfl ?_
    first
      | exact ⟨_, rfl, fun _ => by rw [idx_nI (by omega), idx_nI (by omega)], rfl⟩
      | exact ⟨_, rfl, fun h => absurd h hcd, rfl⟩
  · have hcd : cdA a s np = 0 := of_decide_eq_true (bI_ne h1)
    obtain ⟨ha, hs⟩ := cdA_inv hcd
    obtain ⟨a, ha, rfl⟩ := inP_of (by omega) ha
    obtain ⟨s, hs1, hs2, rfl⟩ := btw_n (lo := 1) (hi := 999) (by decide) (by decide) hs
    refine X_aload_n dX11_levels_9 (i := 0) rfl rfl ?_
    refine X_iload_n dX11_levels_10 (i := 1) rfl rfl ?_
    refine X_iload_n dX11_levels_11 (i := 2) rfl rfl ?_
    refine X_callV (gc2 := 0) (gs2 := 0) (m_depth (t := cdA (nI a) (nI s) np) (w := setM w 39 (m39 w (cdA (nI a) (nI s) np) np nl no nm nw en)) ⟨h9.1, rfl⟩ hL hnl hI hC hW hpr s (by omega) 5 (by decide) a (by omega) (hnl ▸ hN a)) (i := 39) k9 rfl rfl kmX11_depth rfl lX11_177 iX11_depth vX11_depth rfl rfl (Nat.le_of_ble_eq_true rfl) (by decide) dX11_levels_12 (by decide) (by decide) (fun E w1 hq => nomatch hq.1) (fun v w1 hq => ?_)
    have hv := hq.1
    obtain rfl := hq.2.symm
    cases hv
    refine X_goto (tgt := 19) dX11_levels_15 (by decide) ?_
    refine X_ireturn dX11_levels_19 rfl rfl ?_
    first
      | exact ⟨_, rfl, fun _ => by rw [idx_nI (by omega), idx_nI (by omega)], rfl⟩
      | exact ⟨_, rfl, fun h => absurd h hcd, rfl⟩
set_option maxRecDepth 20000 in
theorem m_whereUsed (h9 : M0 w t np nl no nm nw en) {pr : Nat → Nat} {L : LSt} (hL : ML G.2.2.1 w L) (hnl : ln L = nl) (hI : LI np L) (hC : MC G.2.2.1 w pr) (hW : PW L) (hpr : ∀ i, i < 4 → pr i < 4) (hN : NC5 L) (c s : Int32) : XC G mX11_whereUsed 8 0 0 [.ref (w.1 39), .int c, .int s] w (fun r w' => ∃ v : Int32, r = .inl (some (.int v)) ∧ (cdA c s np = 0 → v = nI (cntB (fun p => decide (p ≠ idx c) && decide (hasN L pr (idx s) 5 p (idx c) ≠ 0)) np)) ∧ w' = setM w 39 (m39 w (cdA c s np) np nl no nm nw en)) := by
  have h16 := hI.1
  have h40 := hI.2.1
  refine XC.of (lo0 := [(0, .ref (w.1 39)), (1, .int c), (2, .int s)]) kmX11_whereUsed (Nat.le_of_ble_eq_true rfl) rfl ?_
  refine X_aload_n dX11_whereUsed_0 (i := 0) rfl rfl ?_
  refine X_iload_n dX11_whereUsed_1 (i := 1) rfl rfl ?_
  refine X_iload_n dX11_whereUsed_2 (i := 2) rfl rfl ?_
  refine X_callV (gc2 := 0) (gs2 := 0) (m_isAsked h9 (by omega) c s) (i := 39) h9 rfl rfl kmX11_isAsked rfl lX11_150 iX11_isAsked vX11_isAsked rfl rfl (Nat.le_of_ble_eq_true rfl) (by decide) dX11_whereUsed_3 (by decide) (by decide) (fun E w1 hq => nomatch hq.1) (fun v w1 hq => ?_)
  have hv := hq.1
  obtain rfl := hq.2.symm
  cases hv
  refine X_if_ne (tgt := 11) dX11_whereUsed_6 (by decide) (fun h1 => ?_) (fun h1 => ?_)
  · have hcd : cdA c s np = 0 := of_decide_eq_true (bI_ne h1)
    obtain ⟨hc1, hs1⟩ := cdA_inv hcd
    obtain ⟨c, hc, rfl⟩ := inP_of (by omega) hc1
    obtain ⟨s, hs1, hs2, rfl⟩ := btw_n (lo := 1) (hi := 999) (by decide) (by decide) hs1
    rw [idx_nI (show c < 2 ^ 31 by omega), idx_nI (show s < 2 ^ 31 by omega)]
    refine X_iconst (v := 0) dX11_whereUsed_11 (by decide) ?_
    refine X_istore_n (i := 3) (lo' := [(3, _), (0, _), (1, _), (2, _)]) dX11_whereUsed_12 rfl (by decide) rfl ?_
    refine X_iconst (v := 0) dX11_whereUsed_13 (by decide) ?_
    refine X_istore (i := 4) (lo' := [(4, _), (3, _), (0, _), (1, _), (2, _)]) dX11_whereUsed_14 (by decide) rfl ?_
    have hloop : ∀ (n : Nat) (l : Nat), np - l < n → l ≤ np → XJ G mX11_whereUsed 8 0 0 16 [(0, .ref (w.1 39)), (1, .int (nI c)), (2, .int (nI s)), (3, .int (nI (cntB (fun p => decide (p ≠ c) && decide (hasN L pr s 5 p c ≠ 0)) l))), (4, .int (nI l))] [] (setM w 39 (m39 w (cdA (nI c) (nI s) np) np nl no nm nw en)) (fun r w' => ∃ v : Int32, r = .inl (some (.int v)) ∧ (cdA (nI c) (nI s) np = 0 → v = nI (cntB (fun p => decide (p ≠ c) && decide (hasN L pr s 5 p c ≠ 0)) np)) ∧ w' = (setM w 39 (m39 w (cdA (nI c) (nI s) np) np nl no nm nw en))) := by
      intro n
      induction n with
      | zero => intro l hm hl; exact absurd hm (Nat.not_lt_zero _)
      | succ n ih =>
        intro l hm hl
        have hA9 : cel (setM w 39 (m39 w (cdA (nI c) (nI s) np) np nl no nm nw en)) 39 (m39 w (cdA (nI c) (nI s) np) np nl no nm nw en) := ⟨h9.1, rfl⟩
        refine X_iload dX11_whereUsed_16 (i := 4) rfl ?_
        refine X_aload_n dX11_whereUsed_18 (i := 0) rfl rfl ?_
        refine X_get (i := 39) hA9 rfl (ci := 10) rfl in11 (k := 1) (by decide) fX11_86 rfl dX11_whereUsed_19 ?_
        refine X_icmp_ge (tgt := 58) dX11_whereUsed_22 (by decide) (fun h2 => ?_) (fun h2 => ?_)
        · have h5 : l = np := by have := ge_nI (a := np) (by omega) (by omega) h2; omega
          refine X_iload_n dX11_whereUsed_58 (i := 3) rfl rfl ?_
          refine X_ireturn dX11_whereUsed_59 rfl rfl ?_
          exact ⟨_, rfl, fun _ => by rw [h5], rfl⟩
        · have h5 : l < np := nge_nI (a := np) (by omega) (by omega) h2
          refine X_iload_n dX11_whereUsed_25 (i := 3) rfl rfl ?_
          refine X_iload dX11_whereUsed_26 (i := 4) rfl ?_
          refine X_iload_n dX11_whereUsed_28 (i := 1) rfl rfl ?_
          refine X_icmp_eq (tgt := 49) dX11_whereUsed_29 (by decide) (fun h3 => ?_) (fun h3 => ?_)
          · have h6 : l = c := (nI_eq (by omega) (by omega)).mp h3
            have h8 : (fun p => decide (p ≠ c) && decide (hasN L pr s 5 p c ≠ 0)) l = false := by show (decide (l ≠ c) && _) = false; rw [decide_eq_false (fun h => h h6)]; rfl
            refine X_iconst (v := 0) dX11_whereUsed_49 (by decide) ?_
            refine X_iadd dX11_whereUsed_50 ?_
            refine X_istore_n (i := 3) (lo' := [(3, _), (0, _), (1, _), (2, _), (4, _)]) dX11_whereUsed_51 rfl (by decide) rfl ?_
            refine X_iinc (i := 4) (v := nI (l + 1)) (lo' := [(4, _), (3, _), (0, _), (1, _), (2, _)]) dX11_whereUsed_52 rfl (nI_inc l) (by decide) rfl ?_
            refine X_goto (tgt := 16) dX11_whereUsed_55 (by decide) ?_
            first
              | exact XJ.lcs (lo' := [(0, .ref (w.1 39)), (1, .int (nI c)), (2, .int (nI s)), (3, .int (nI (cntB (fun p => decide (p ≠ c) && decide (hasN L pr s 5 p c ≠ 0)) (l + 1)))), (4, .int (nI (l + 1)))]) ⟨rfl, rfl, rfl, (congrArg (fun x => some (Value.int x)) (show nI (cntB (fun p => decide (p ≠ c) && decide (hasN L pr s 5 p c ≠ 0)) l) + 1 = nI (cntB (fun p => decide (p ≠ c) && decide (hasN L pr s 5 p c ≠ 0)) l + (bif (fun p => decide (p ≠ c) && decide (hasN L pr s 5 p c ≠ 0)) l then 1 else 0)) by rw [h8]; rw [← nI_add]; rfl)), rfl, trivial⟩ (ih (l + 1) (by omega) (by omega))
              | exact XJ.lcs (lo' := [(0, .ref (w.1 39)), (1, .int (nI c)), (2, .int (nI s)), (3, .int (nI (cntB (fun p => decide (p ≠ c) && decide (hasN L pr s 5 p c ≠ 0)) (l + 1)))), (4, .int (nI (l + 1)))]) ⟨rfl, rfl, rfl, (congrArg (fun x => some (Value.int x)) (show nI (cntB (fun p => decide (p ≠ c) && decide (hasN L pr s 5 p c ≠ 0)) l) + 0 = nI (cntB (fun p => decide (p ≠ c) && decide (hasN L pr s 5 p c ≠ 0)) l + (bif (fun p => decide (p ≠ c) && decide (hasN L pr s 5 p c ≠ 0)) l then 1 else 0)) by rw [h8]; exact Int32.add_zero _)), rfl, trivial⟩ (ih (l + 1) (by omega) (by omega))
          · have h6 : ¬ l = c := fun h => h3 (by rw [h])
            refine X_aload_n dX11_whereUsed_32 (i := 0) rfl rfl ?_
            refine X_iload dX11_whereUsed_33 (i := 4) rfl ?_
            refine X_iload_n dX11_whereUsed_35 (i := 1) rfl rfl ?_
            refine X_iload_n dX11_whereUsed_36 (i := 2) rfl rfl ?_
            refine X_callV (gc2 := 0) (gs2 := 0) (m_has (t := cdA (nI c) (nI s) np) (w := (setM w 39 (m39 w (cdA (nI c) (nI s) np) np nl no nm nw en))) ⟨h9.1, rfl⟩ hL hnl hI hC hW hpr s c (by omega) (by omega) 5 (by decide) l (by omega) (hnl ▸ hN l)) (i := 39) hA9 rfl rfl kmX11_has rfl lX11_171 iX11_has vX11_has rfl rfl (Nat.le_of_ble_eq_true rfl) (by decide) dX11_whereUsed_37 (by decide) (by decide) (fun E w1 hq => nomatch hq.1) (fun v w1 hq => ?_)
            have hv := hq.1
            obtain rfl := hq.2.symm
            cases hv
            refine X_lconst (v := 0) dX11_whereUsed_40 rfl ?_
            refine X_lcmp dX11_whereUsed_41 ?_
            refine X_if_le (tgt := 49) dX11_whereUsed_42 (by decide) (fun h4 => ?_) (fun h4 => ?_)
            · have h7 := (nL_gt0 (Nat.lt_of_le_of_lt (hasN_le hI 5 l c) (by decide))).mp h4
              have h8 : (fun p => decide (p ≠ c) && decide (hasN L pr s 5 p c ≠ 0)) l = false := by show (_ && decide (_ ≠ 0)) = false; rw [h7, Bool.and_comm]; rfl
              refine X_iconst (v := 0) dX11_whereUsed_49 (by decide) ?_
              refine X_iadd dX11_whereUsed_50 ?_
              refine X_istore_n (i := 3) (lo' := [(3, _), (0, _), (1, _), (2, _), (4, _)]) dX11_whereUsed_51 rfl (by decide) rfl ?_
              refine X_iinc (i := 4) (v := nI (l + 1)) (lo' := [(4, _), (3, _), (0, _), (1, _), (2, _)]) dX11_whereUsed_52 rfl (nI_inc l) (by decide) rfl ?_
              refine X_goto (tgt := 16) dX11_whereUsed_55 (by decide) ?_
              first
                | exact XJ.lcs (lo' := [(0, .ref (w.1 39)), (1, .int (nI c)), (2, .int (nI s)), (3, .int (nI (cntB (fun p => decide (p ≠ c) && decide (hasN L pr s 5 p c ≠ 0)) (l + 1)))), (4, .int (nI (l + 1)))]) ⟨rfl, rfl, rfl, (congrArg (fun x => some (Value.int x)) (show nI (cntB (fun p => decide (p ≠ c) && decide (hasN L pr s 5 p c ≠ 0)) l) + 1 = nI (cntB (fun p => decide (p ≠ c) && decide (hasN L pr s 5 p c ≠ 0)) l + (bif (fun p => decide (p ≠ c) && decide (hasN L pr s 5 p c ≠ 0)) l then 1 else 0)) by rw [h8]; rw [← nI_add]; rfl)), rfl, trivial⟩ (ih (l + 1) (by omega) (by omega))
                | exact XJ.lcs (lo' := [(0, .ref (w.1 39)), (1, .int (nI c)), (2, .int (nI s)), (3, .int (nI (cntB (fun p => decide (p ≠ c) && decide (hasN L pr s 5 p c ≠ 0)) (l + 1)))), (4, .int (nI (l + 1)))]) ⟨rfl, rfl, rfl, (congrArg (fun x => some (Value.int x)) (show nI (cntB (fun p => decide (p ≠ c) && decide (hasN L pr s 5 p c ≠ 0)) l) + 0 = nI (cntB (fun p => decide (p ≠ c) && decide (hasN L pr s 5 p c ≠ 0)) l + (bif (fun p => decide (p ≠ c) && decide (hasN L pr s 5 p c ≠ 0)) l then 1 else 0)) by rw [h8]; exact Int32.add_zero _)), rfl, trivial⟩ (ih (l + 1) (by omega) (by omega))
            · have h7 : hasN L pr s 5 l c ≠ 0 := fun h => h4 ((nL_gt0 (Nat.lt_of_le_of_lt (hasN_le hI 5 l c) (by decide))).mpr h)
              have h8 : (fun p => decide (p ≠ c) && decide (hasN L pr s 5 p c ≠ 0)) l = true := by show (decide (l ≠ c) && decide (_ ≠ 0)) = true; rw [decide_eq_true h6, decide_eq_true h7]; rfl
              refine X_iconst (v := 1) dX11_whereUsed_45 (by decide) ?_
              refine X_goto (tgt := 50) dX11_whereUsed_46 (by decide) ?_
              refine X_iadd dX11_whereUsed_50 ?_
              refine X_istore_n (i := 3) (lo' := [(3, _), (0, _), (1, _), (2, _), (4, _)]) dX11_whereUsed_51 rfl (by decide) rfl ?_
              refine X_iinc (i := 4) (v := nI (l + 1)) (lo' := [(4, _), (3, _), (0, _), (1, _), (2, _)]) dX11_whereUsed_52 rfl (nI_inc l) (by decide) rfl ?_
              refine X_goto (tgt := 16) dX11_whereUsed_55 (by decide) ?_
              first
                | exact XJ.lcs (lo' := [(0, .ref (w.1 39)), (1, .int (nI c)), (2, .int (nI s)), (3, .int (nI (cntB (fun p => decide (p ≠ c) && decide (hasN L pr s 5 p c ≠ 0)) (l + 1)))), (4, .int (nI (l + 1)))]) ⟨rfl, rfl, rfl, (congrArg (fun x => some (Value.int x)) (show nI (cntB (fun p => decide (p ≠ c) && decide (hasN L pr s 5 p c ≠ 0)) l) + 1 = nI (cntB (fun p => decide (p ≠ c) && decide (hasN L pr s 5 p c ≠ 0)) l + (bif (fun p => decide (p ≠ c) && decide (hasN L pr s 5 p c ≠ 0)) l then 1 else 0)) by rw [h8]; rw [← nI_add]; rfl)), rfl, trivial⟩ (ih (l + 1) (by omega) (by omega))
                | exact XJ.lcs (lo' := [(0, .ref (w.1 39)), (1, .int (nI c)), (2, .int (nI s)), (3, .int (nI (cntB (fun p => decide (p ≠ c) && decide (hasN L pr s 5 p c ≠ 0)) (l + 1)))), (4, .int (nI (l + 1)))]) ⟨rfl, rfl, rfl, (congrArg (fun x => some (Value.int x)) (show nI (cntB (fun p => decide (p ≠ c) && decide (hasN L pr s 5 p c ≠ 0)) l) + 0 = nI (cntB (fun p => decide (p ≠ c) && decide (hasN L pr s 5 p c ≠ 0)) l + (bif (fun p => decide (p ≠ c) && decide (hasN L pr s 5 p c ≠ 0)) l then 1 else 0)) by rw [h8]; exact Int32.add_zero _)), rfl, trivial⟩ (ih (l + 1) (by omega) (by omega))
    exact XJ.lcs (lo' := [(0, .ref (w.1 39)), (1, .int (nI c)), (2, .int (nI s)), (3, .int (nI (cntB (fun p => decide (p ≠ c) && decide (hasN L pr s 5 p c ≠ 0)) 0))), (4, .int (nI 0))]) ⟨rfl, rfl, rfl, rfl, rfl, trivial⟩ (hloop (np + 1) 0 (by omega) (by omega))
  · have hcd : ¬ cdA c s np = 0 := of_decide_eq_false (bI_eq h1)
    refine X_iconst (v := 0) dX11_whereUsed_9 (by decide) ?_
    refine X_ireturn dX11_whereUsed_10 rfl rfl ?_
    exact ⟨_, rfl, fun h => absurd h hcd, rfl⟩
end QtyM
