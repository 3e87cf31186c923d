/-! REFERENCE: lists (walks by gen/spec39.py) -/
section ListM
variable {G : Gx} {w : Wd} {t np nl no nm nw en : Nat}
def lsW (K : Nat → ClassId) (w : Wd) (t np nl no nm nw en : Nat) (a : Nat → Int32) (b : Nat → Int64) : Wd := setM (setM (setM w 39 (m39 w t np nl no nm nw en)) 61 (aI K 1500 a)) 62 (aL K 1500 b)
theorem lsW_id {K : Nat → ClassId} {a : Nat → Int32} {b : Nat → Int64} (h9 : M0 w t np nl no nm nw en) (h1 : cel w 61 (aI K 1500 a)) (h2 : cel w 62 (aL K 1500 b)) : w = lsW K w t np nl no nm nw en a b := by
  rw [lsW, setM_id h9.2, setM_id h1.2, setM_id h2.2]
theorem lsW_lsW {K : Nat → ClassId} {a a' : Nat → Int32} {b b' : Nat → Int64} {t' nw' en' : Nat} : lsW K (lsW K w t np nl no nm nw en a b) t' np nl no nm nw' en' a' b' = lsW K w t' np nl no nm nw' en' a' b' := by
  show setM (setM (setM (setM (setM (setM w 39 _) 61 _) 62 _) 39 (m39 w t' np nl no nm nw' en')) 61 _) 62 _ = _
  rw [setM_comm (i := 62) (k := 39) (by decide), setM_comm (i := 61) (k := 39) (by decide), setM_setM, setM_comm (i := 62) (k := 61) (by decide), setM_setM, setM_setM]
  rfl
theorem lsW_one {K : Nat → ClassId} {a a' : Nat → Int32} {b b' : Nat → Int64} {en' : Nat} : setM (setM (setM (lsW K w t np nl no nm nw en a b) 61 (aI K 1500 a')) 62 (aL K 1500 b')) 39 (m39 w t np nl no nm nw en') = lsW K w t np nl no nm nw en' a' b' := by
  show setM (setM (setM (setM (setM (setM w 39 _) 61 _) 62 _) 61 _) 62 _) 39 _ = _
  rw [setM_comm (i := 62) (k := 61) (by decide), setM_setM, setM_setM, setM_comm (i := 62) (k := 39) (by decide), setM_comm (i := 61) (k := 39) (by decide), setM_setM]
  rfl
set_option maxRecDepth 20000 in
theorem m_lists_s {P : PSt} {L : LSt} {pr : Nat → Nat} {f : Nat} (hf : f < 100) (hnl : ln L = nl) (hI : LI np L) (hW : PW L) (hpr : ∀ i, i < 4 → pr i < 4) (hk16 : ∀ j, P.2.1 j < 65536) (s : Nat) (hs : s < 2 ^ 31) (hrec : ∀ (w2 : Wd) (en2 : Nat) (ep2 : Nat → Int32) (eq2 : Nat → Int64), M0 w2 t np nl no nm nw en2 → ML G.2.2.1 w2 L → MC G.2.2.1 w2 pr → MP G.2.2.1 w2 P → cel w2 61 (aI G.2.2.1 1500 ep2) → cel w2 62 (aL G.2.2.1 1500 eq2) → ∀ (q m2 : Nat), q < 16 → NC nl (pa L) (ch L) f q → en2 + (listN P.2.1 L pr s f q m2).length ≤ 1500 → XC G mX11_lists (f + 2) 0 0 [.ref (w2.1 39), .int (nI q), .int (nI s), .long (nL m2)] w2 (fun r w' => r = .inl none ∧ w' = lsW G.2.2.1 w2 t np nl no nm nw (en2 + (listN P.2.1 L pr s f q m2).length) (wr vPt ep2 en2 (listN P.2.1 L pr s f q m2)) (wr vQt eq2 en2 (listN P.2.1 L pr s f q m2)))) (w : Wd) (en : Nat) (ep : Nat → Int32) (eq : Nat → Int64) (h9 : M0 w t np nl no nm nw en) (hL : ML G.2.2.1 w L) (hC : MC G.2.2.1 w pr) (hP : MP G.2.2.1 w P) (e61 : cel w 61 (aI G.2.2.1 1500 ep)) (e62 : cel w 62 (aL G.2.2.1 1500 eq)) (p m : Nat) (hp : p < 16) (hnc : ∀ i, i < nl → pa L i = p → NC nl (pa L) (ch L) f (ch L i)) (hlen : en + (lK (fun k => oL (fun l => if P.2.1 (ch L l) = 112 then listN P.2.1 L pr s f (ch L l) (m * qt L l) else [(ch L l, m * qt L l)]) (lnAt L pr s p k)) 6).length ≤ 1500) : XC G mX11_lists (f + 3) 0 0 [.ref (w.1 39), .int (nI p), .int (nI s), .long (nL m)] w (fun r w' => r = .inl none ∧ w' = lsW G.2.2.1 w t np nl no nm nw (en + (listN P.2.1 L pr s (f + 1) p m).length) (wr vPt ep en (listN P.2.1 L pr s (f + 1) p m)) (wr vQt eq en (listN P.2.1 L pr s (f + 1) p m))) := by
  have h16 := hI.1
  have h40 := hI.2.1
  refine XC.of (lo0 := [(0, .ref (w.1 39)), (1, .int (nI p)), (2, .int (nI s)), (3, .long (nL m))]) kmX11_lists (Nat.le_of_ble_eq_true rfl) rfl ?_
  have hloop : ∀ (n : Nat) (l : Nat), 6 - l < n → l ≤ 6 → XJ G mX11_lists (f + 3) 0 0 3 [(0, .ref (w.1 39)), (1, .int (nI p)), (2, .int (nI s)), (3, .long (nL m)), (5, .int (nI (l + 1)))] [] (lsW G.2.2.1 w t np nl no nm nw (en + (lK (fun k => oL (fun l => if P.2.1 (ch L l) = 112 then listN P.2.1 L pr s f (ch L l) (m * qt L l) else [(ch L l, m * qt L l)]) (lnAt L pr s p k)) l).length) (wr vPt ep en (lK (fun k => oL (fun l => if P.2.1 (ch L l) = 112 then listN P.2.1 L pr s f (ch L l) (m * qt L l) else [(ch L l, m * qt L l)]) (lnAt L pr s p k)) l)) (wr vQt eq en (lK (fun k => oL (fun l => if P.2.1 (ch L l) = 112 then listN P.2.1 L pr s f (ch L l) (m * qt L l) else [(ch L l, m * qt L l)]) (lnAt L pr s p k)) l))) (fun r w' => r = .inl none ∧ w' = lsW G.2.2.1 w t np nl no nm nw (en + (listN P.2.1 L pr s (f + 1) p m).length) (wr vPt ep en (listN P.2.1 L pr s (f + 1) p m)) (wr vQt eq en (listN P.2.1 L pr s (f + 1) p m))) := by
    intro n
    induction n with
    | zero => intro l hm hl; exact absurd hm (Nat.not_lt_zero _)
    | succ n ih =>
      intro l hm hl
      have f9 : M0 (lsW G.2.2.1 w t np nl no nm nw (en + (lK (fun k => oL (fun l => if P.2.1 (ch L l) = 112 then listN P.2.1 L pr s f (ch L l) (m * qt L l) else [(ch L l, m * qt L l)]) (lnAt L pr s p k)) l).length) (wr vPt ep en (lK (fun k => oL (fun l => if P.2.1 (ch L l) = 112 then listN P.2.1 L pr s f (ch L l) (m * qt L l) else [(ch L l, m * qt L l)]) (lnAt L pr s p k)) l)) (wr vQt eq en (lK (fun k => oL (fun l => if P.2.1 (ch L l) = 112 then listN P.2.1 L pr s f (ch L l) (m * qt L l) else [(ch L l, m * qt L l)]) (lnAt L pr s p k)) l))) t np nl no nm nw (en + (lK (fun k => oL (fun l => if P.2.1 (ch L l) = 112 then listN P.2.1 L pr s f (ch L l) (m * qt L l) else [(ch L l, m * qt L l)]) (lnAt L pr s p k)) l).length) := ⟨h9.1, rfl⟩
      have f61 : cel (lsW G.2.2.1 w t np nl no nm nw (en + (lK (fun k => oL (fun l => if P.2.1 (ch L l) = 112 then listN P.2.1 L pr s f (ch L l) (m * qt L l) else [(ch L l, m * qt L l)]) (lnAt L pr s p k)) l).length) (wr vPt ep en (lK (fun k => oL (fun l => if P.2.1 (ch L l) = 112 then listN P.2.1 L pr s f (ch L l) (m * qt L l) else [(ch L l, m * qt L l)]) (lnAt L pr s p k)) l)) (wr vQt eq en (lK (fun k => oL (fun l => if P.2.1 (ch L l) = 112 then listN P.2.1 L pr s f (ch L l) (m * qt L l) else [(ch L l, m * qt L l)]) (lnAt L pr s p k)) l))) 61 (aI G.2.2.1 1500 (wr vPt ep en (lK (fun k => oL (fun l => if P.2.1 (ch L l) = 112 then listN P.2.1 L pr s f (ch L l) (m * qt L l) else [(ch L l, m * qt L l)]) (lnAt L pr s p k)) l))) := ⟨e61.1, rfl⟩
      have f62 : cel (lsW G.2.2.1 w t np nl no nm nw (en + (lK (fun k => oL (fun l => if P.2.1 (ch L l) = 112 then listN P.2.1 L pr s f (ch L l) (m * qt L l) else [(ch L l, m * qt L l)]) (lnAt L pr s p k)) l).length) (wr vPt ep en (lK (fun k => oL (fun l => if P.2.1 (ch L l) = 112 then listN P.2.1 L pr s f (ch L l) (m * qt L l) else [(ch L l, m * qt L l)]) (lnAt L pr s p k)) l)) (wr vQt eq en (lK (fun k => oL (fun l => if P.2.1 (ch L l) = 112 then listN P.2.1 L pr s f (ch L l) (m * qt L l) else [(ch L l, m * qt L l)]) (lnAt L pr s p k)) l))) 62 (aL G.2.2.1 1500 (wr vQt eq en (lK (fun k => oL (fun l => if P.2.1 (ch L l) = 112 then listN P.2.1 L pr s f (ch L l) (m * qt L l) else [(ch L l, m * qt L l)]) (lnAt L pr s p k)) l))) := ⟨e62.1, rfl⟩
      refine X_iload dX11_lists_3 (i := 5) rfl ?_
      refine X_bipush (v := 6) dX11_lists_5 (by decide) ?_
      refine X_icmp_gt (tgt := 122) dX11_lists_7 (by decide) (fun h1 => ?_) (fun h1 => ?_)
      · have h5 : l = 6 := by have := lt_nI (a := 6) (by decide) (by omega) h1; omega
        subst h5
        refine X_vreturn dX11_lists_122 rfl ?_
        exact ⟨rfl, rfl⟩
      · have h5 : l < 6 := by have := nlt_nI (a := 6) (by decide) (by omega) h1; omega
        have h9m := lK_mono (g := (fun k => oL (fun l => if P.2.1 (ch L l) = 112 then listN P.2.1 L pr s f (ch L l) (m * qt L l) else [(ch L l, m * qt L l)]) (lnAt L pr s p k))) (k := l + 1) (n := 6) (by omega)
        refine X_aload_n dX11_lists_10 (i := 0) rfl rfl ?_
        refine X_iload_n dX11_lists_11 (i := 1) rfl rfl ?_
        refine X_iload dX11_lists_12 (i := 5) rfl ?_
        refine X_iload_n dX11_lists_14 (i := 2) rfl rfl ?_
        refine X_callV (gc2 := 0) (gs2 := 0) (m_at (w := (lsW G.2.2.1 w t np nl no nm nw (en + (lK (fun k => oL (fun l => if P.2.1 (ch L l) = 112 then listN P.2.1 L pr s f (ch L l) (m * qt L l) else [(ch L l, m * qt L l)]) (lnAt L pr s p k)) l).length) (wr vPt ep en (lK (fun k => oL (fun l => if P.2.1 (ch L l) = 112 then listN P.2.1 L pr s f (ch L l) (m * qt L l) else [(ch L l, m * qt L l)]) (lnAt L pr s p k)) l)) (wr vQt eq en (lK (fun k => oL (fun l => if P.2.1 (ch L l) = 112 then listN P.2.1 L pr s f (ch L l) (m * qt L l) else [(ch L l, m * qt L l)]) (lnAt L pr s p k)) l)))) f9 hL hnl hI hC hW hpr p (l + 1) s (by omega) (by omega) hs) (i := 39) f9 rfl rfl kmX11_at rfl lX11_139 iX11_at vX11_at rfl rfl (Nat.le_of_ble_eq_true rfl) (by omega) dX11_lists_15 (by decide) (by decide) (fun E w1 hq => nomatch hq.1) (fun v w1 hq => ?_)
        have hv := hq.1
        obtain rfl := hq.2.symm
        cases hv
        refine X_istore (i := 6) (lo' := [(6, _), (0, _), (1, _), (2, _), (3, _), (5, _)]) dX11_lists_18 (by decide) rfl ?_
        refine X_iload dX11_lists_20 (i := 6) rfl ?_
        refine X_iconst (v := -1) dX11_lists_22 (by decide) ?_
        refine X_icmp_ne (tgt := 29) dX11_lists_23 (by decide) (fun h2 => ?_) (fun h2 => ?_)
        · obtain ⟨j, hx⟩ := oI_some (n := ln L) (fun j h => (lnAt_some (L := L) (pr := pr) (s := s) (p := p) (k := l + 1) h).1) (by omega) h2
          have hj := lnAt_some hx
          have hb := hI.2.2 j hj.1
          have hjn := hj.1
          rw [show oI (lnAt L pr s p (l + 1)) = nI j by rw [hx]; rfl]
          refine X_aload_n dX11_lists_29 (i := 0) rfl rfl ?_
          refine X_get (i := 39) f9 rfl (ci := 10) rfl in11 (k := 7) (by decide) fX11_7 rfl dX11_lists_30 ?_
          refine X_aload_n dX11_lists_33 (i := 0) rfl rfl ?_
          refine X_get (i := 39) f9 rfl (ci := 10) rfl in11 (k := 12) (by decide) fX11_25 rfl dX11_lists_34 ?_
          refine X_iload dX11_lists_37 (i := 6) rfl ?_
          refine X_iald (i := 45) hL.2.2.1 rfl rfl (by omega) (by decide) dX11_lists_39 ?_
          refine X_iald (i := 40) hP.1 rfl rfl (by omega) (by decide) dX11_lists_40 ?_
          refine X_bipush (v := 112) dX11_lists_41 (by decide) ?_
          refine X_icmp_ne (tgt := 71) dX11_lists_43 (by decide) (fun h3 => ?_) (fun h3 => ?_)
          · have h7 : ¬ P.2.1 (ch L j) = 112 := fun h => h3 (by rw [show nf P.2.1 (ch L j) = nI (P.2.1 (ch L j)) from rfl, h]; rfl)
            have hg : lK (fun k => oL (fun l => if P.2.1 (ch L l) = 112 then listN P.2.1 L pr s f (ch L l) (m * qt L l) else [(ch L l, m * qt L l)]) (lnAt L pr s p k)) (l + 1) = lK (fun k => oL (fun l => if P.2.1 (ch L l) = 112 then listN P.2.1 L pr s f (ch L l) (m * qt L l) else [(ch L l, m * qt L l)]) (lnAt L pr s p k)) l ++ [(ch L j, m * qt L j)] := by rw [lK, hx]; exact congrArg _ (if_neg h7)
            have hgl : (lK (fun k => oL (fun l => if P.2.1 (ch L l) = 112 then listN P.2.1 L pr s f (ch L l) (m * qt L l) else [(ch L l, m * qt L l)]) (lnAt L pr s p k)) (l + 1)).length = (lK (fun k => oL (fun l => if P.2.1 (ch L l) = 112 then listN P.2.1 L pr s f (ch L l) (m * qt L l) else [(ch L l, m * qt L l)]) (lnAt L pr s p k)) l).length + 1 := by rw [hg, List.length_append]; rfl
            refine X_aload_n dX11_lists_71 (i := 0) rfl rfl ?_
            refine X_get (i := 39) f9 rfl (ci := 10) rfl in11 (k := 28) (by decide) fX11_75 rfl dX11_lists_72 ?_
            refine X_aload_n dX11_lists_75 (i := 0) rfl rfl ?_
            refine X_get (i := 39) f9 rfl (ci := 10) rfl in11 (k := 6) (by decide) fX11_147 rfl dX11_lists_76 ?_
            refine X_aload_n dX11_lists_79 (i := 0) rfl rfl ?_
            refine X_get (i := 39) f9 rfl (ci := 10) rfl in11 (k := 12) (by decide) fX11_25 rfl dX11_lists_80 ?_
            refine X_iload dX11_lists_83 (i := 6) rfl ?_
            refine X_iald (i := 45) hL.2.2.1 rfl rfl (by omega) (by decide) dX11_lists_85 ?_
            refine X_iast (i := 61) f61 rfl rfl (by omega) (by decide) dX11_lists_86 (fun hc_86 => ?_)
            refine X_aload_n dX11_lists_87 (i := 0) rfl rfl ?_
            refine X_get (i := 39) f9 rfl (ci := 10) rfl in11 (k := 29) (by decide) fX11_78 rfl dX11_lists_88 ?_
            refine X_aload_n dX11_lists_91 (i := 0) rfl rfl ?_
            refine X_get (i := 39) f9 rfl (ci := 10) rfl in11 (k := 6) (by decide) fX11_147 rfl dX11_lists_92 ?_
            refine X_lload_n dX11_lists_95 (i := 3) rfl rfl ?_
            refine X_aload_n dX11_lists_96 (i := 0) rfl rfl ?_
            refine X_get (i := 39) f9 rfl (ci := 10) rfl in11 (k := 13) (by decide) fX11_28 rfl dX11_lists_97 ?_
            refine X_iload dX11_lists_100 (i := 6) rfl ?_
            refine X_iald (i := 46) hL.2.2.2.1 rfl rfl (by omega) (by decide) dX11_lists_102 ?_
            refine X_i2l dX11_lists_103 rfl ?_
            refine XJ.top (v' := .long (nL (qt L j))) (by rw [show nf (qt L) j = nI (qt L j) from rfl, nL_i2l (by omega)]) ?_
            refine X_lmul dX11_lists_104 ?_
            refine XJ.top (v' := .long (nL (m * qt L j))) (by rw [nL_mul]) ?_
            refine X_last (i := 62) f62 rfl rfl (by omega) (by decide) dX11_lists_105 (fun hc_105 => ?_)
            refine X_aload_n dX11_lists_106 (i := 0) rfl rfl ?_
            refine X_dup dX11_lists_107 rfl ?_
            refine X_get (i := 39) f9 rfl (ci := 10) rfl in11 (k := 6) (by decide) fX11_147 rfl dX11_lists_108 ?_
            refine X_iconst (v := 1) dX11_lists_111 (by decide) ?_
            refine X_iadd dX11_lists_112 ?_
            refine XJ.top (v' := .int (nI (en + (lK (fun k => oL (fun l => if P.2.1 (ch L l) = 112 then listN P.2.1 L pr s f (ch L l) (m * qt L l) else [(ch L l, m * qt L l)]) (lnAt L pr s p k)) l).length + 1))) (by rw [← nI_1]) ?_
            refine X_put tyX11 tyX11_ok nmX11 (i := 39) f9 rfl (ci := 10) rfl in11 (k := 6) (by decide) fX11_147 rfl rfl rfl (Nat.le_of_ble_eq_true rfl) dX11_lists_113 (fun hc_113 => ?_)
            refine X_iinc (i := 5) (v := nI (l + 1 + 1)) (lo' := [(5, _), (6, _), (0, _), (1, _), (2, _), (3, _)]) dX11_lists_116 rfl (nI_inc (l + 1)) (by decide) rfl ?_
            refine X_goto (tgt := 3) dX11_lists_119 (by decide) ?_
            first
              | refine XJ.wd (w' := (lsW G.2.2.1 w t np nl no nm nw (en + (lK (fun k => oL (fun l => if P.2.1 (ch L l) = 112 then listN P.2.1 L pr s f (ch L l) (m * qt L l) else [(ch L l, m * qt L l)]) (lnAt L pr s p k)) (l + 1)).length) (wr vPt ep en (lK (fun k => oL (fun l => if P.2.1 (ch L l) = 112 then listN P.2.1 L pr s f (ch L l) (m * qt L l) else [(ch L l, m * qt L l)]) (lnAt L pr s p k)) (l + 1))) (wr vQt eq en (lK (fun k => oL (fun l => if P.2.1 (ch L l) = 112 then listN P.2.1 L pr s f (ch L l) (m * qt L l) else [(ch L l, m * qt L l)]) (lnAt L pr s p k)) (l + 1))))) (congrArg (fun z => lsW G.2.2.1 w t np nl no nm nw (en + z.length) (wr vPt ep en z) (wr vQt eq en z)) hg.symm) ?_
                exact XJ.lcs (lo' := [(0, .ref (w.1 39)), (1, .int (nI p)), (2, .int (nI s)), (3, .long (nL m)), (5, .int (nI (l + 1 + 1)))]) ⟨rfl, rfl, rfl, rfl, rfl, trivial⟩ (ih (l + 1) (by omega) (by omega))
              | refine XJ.wd (w' := (lsW G.2.2.1 w t np nl no nm nw (en + (lK (fun k => oL (fun l => if P.2.1 (ch L l) = 112 then listN P.2.1 L pr s f (ch L l) (m * qt L l) else [(ch L l, m * qt L l)]) (lnAt L pr s p k)) (l + 1)).length) (wr vPt ep en (lK (fun k => oL (fun l => if P.2.1 (ch L l) = 112 then listN P.2.1 L pr s f (ch L l) (m * qt L l) else [(ch L l, m * qt L l)]) (lnAt L pr s p k)) (l + 1))) (wr vQt eq en (lK (fun k => oL (fun l => if P.2.1 (ch L l) = 112 then listN P.2.1 L pr s f (ch L l) (m * qt L l) else [(ch L l, m * qt L l)]) (lnAt L pr s p k)) (l + 1))))) (by rw [hg, wr_app, wr_app, List.length_append]; exact lsW_one) ?_
                exact XJ.lcs (lo' := [(0, .ref (w.1 39)), (1, .int (nI p)), (2, .int (nI s)), (3, .long (nL m)), (5, .int (nI (l + 1 + 1)))]) ⟨rfl, rfl, rfl, rfl, rfl, trivial⟩ (ih (l + 1) (by omega) (by omega))
              | refine XJ.wd (w' := (lsW G.2.2.1 w t np nl no nm nw (en + (lK (fun k => oL (fun l => if P.2.1 (ch L l) = 112 then listN P.2.1 L pr s f (ch L l) (m * qt L l) else [(ch L l, m * qt L l)]) (lnAt L pr s p k)) (l + 1)).length) (wr vPt ep en (lK (fun k => oL (fun l => if P.2.1 (ch L l) = 112 then listN P.2.1 L pr s f (ch L l) (m * qt L l) else [(ch L l, m * qt L l)]) (lnAt L pr s p k)) (l + 1))) (wr vQt eq en (lK (fun k => oL (fun l => if P.2.1 (ch L l) = 112 then listN P.2.1 L pr s f (ch L l) (m * qt L l) else [(ch L l, m * qt L l)]) (lnAt L pr s p k)) (l + 1))))) (by rw [lsW_lsW, hg, wr_app, wr_app, List.length_append, Nat.add_assoc]) ?_
                exact XJ.lcs (lo' := [(0, .ref (w.1 39)), (1, .int (nI p)), (2, .int (nI s)), (3, .long (nL m)), (5, .int (nI (l + 1 + 1)))]) ⟨rfl, rfl, rfl, rfl, rfl, trivial⟩ (ih (l + 1) (by omega) (by omega))
          · have h7 : P.2.1 (ch L j) = 112 := (nI_eq (by have := hk16 (ch L j); omega) (by decide)).mp h3
            have hg : lK (fun k => oL (fun l => if P.2.1 (ch L l) = 112 then listN P.2.1 L pr s f (ch L l) (m * qt L l) else [(ch L l, m * qt L l)]) (lnAt L pr s p k)) (l + 1) = lK (fun k => oL (fun l => if P.2.1 (ch L l) = 112 then listN P.2.1 L pr s f (ch L l) (m * qt L l) else [(ch L l, m * qt L l)]) (lnAt L pr s p k)) l ++ listN P.2.1 L pr s f (ch L j) (m * qt L j) := by rw [lK, hx]; exact congrArg _ (if_pos h7)
            refine X_aload_n dX11_lists_46 (i := 0) rfl rfl ?_
            refine X_aload_n dX11_lists_47 (i := 0) rfl rfl ?_
            refine X_get (i := 39) f9 rfl (ci := 10) rfl in11 (k := 12) (by decide) fX11_25 rfl dX11_lists_48 ?_
            refine X_iload dX11_lists_51 (i := 6) rfl ?_
            refine X_iald (i := 45) hL.2.2.1 rfl rfl (by omega) (by decide) dX11_lists_53 ?_
            refine X_iload_n dX11_lists_54 (i := 2) rfl rfl ?_
            refine X_lload_n dX11_lists_55 (i := 3) rfl rfl ?_
            refine X_aload_n dX11_lists_56 (i := 0) rfl rfl ?_
            refine X_get (i := 39) f9 rfl (ci := 10) rfl in11 (k := 13) (by decide) fX11_28 rfl dX11_lists_57 ?_
            refine X_iload dX11_lists_60 (i := 6) rfl ?_
            refine X_iald (i := 46) hL.2.2.2.1 rfl rfl (by omega) (by decide) dX11_lists_62 ?_
            refine X_i2l dX11_lists_63 rfl ?_
            refine XJ.top (v' := .long (nL (qt L j))) (by rw [show nf (qt L) j = nI (qt L j) from rfl, nL_i2l (by omega)]) ?_
            refine X_lmul dX11_lists_64 ?_
            refine XJ.top (v' := .long (nL (m * qt L j))) (by rw [nL_mul]) ?_
            refine X_callV (gc2 := 0) (gs2 := 0) (hrec (lsW G.2.2.1 w t np nl no nm nw (en + (lK (fun k => oL (fun l => if P.2.1 (ch L l) = 112 then listN P.2.1 L pr s f (ch L l) (m * qt L l) else [(ch L l, m * qt L l)]) (lnAt L pr s p k)) l).length) (wr vPt ep en (lK (fun k => oL (fun l => if P.2.1 (ch L l) = 112 then listN P.2.1 L pr s f (ch L l) (m * qt L l) else [(ch L l, m * qt L l)]) (lnAt L pr s p k)) l)) (wr vQt eq en (lK (fun k => oL (fun l => if P.2.1 (ch L l) = 112 then listN P.2.1 L pr s f (ch L l) (m * qt L l) else [(ch L l, m * qt L l)]) (lnAt L pr s p k)) l))) _ _ _ f9 hL hC hP f61 f62 (ch L j) (m * qt L j) (by omega) (hnc j (by omega) hj.2.2.1) (by rw [Nat.add_assoc]; have h10 := congrArg List.length hg; rw [List.length_append] at h10; omega)) (i := 39) f9 rfl rfl kmX11_lists rfl lX11_143 iX11_lists vX11_lists rfl rfl (Nat.le_of_ble_eq_true rfl) (by omega) dX11_lists_65 (by decide) (by decide) (fun E w1 hq => nomatch hq.1) (fun v w1 hq => ?_)
            have hv := hq.1
            obtain rfl := hq.2.symm
            cases hv
            refine X_goto (tgt := 116) dX11_lists_68 (by decide) ?_
            refine X_iinc (i := 5) (v := nI (l + 1 + 1)) (lo' := [(5, _), (6, _), (0, _), (1, _), (2, _), (3, _)]) dX11_lists_116 rfl (nI_inc (l + 1)) (by decide) rfl ?_
            refine X_goto (tgt := 3) dX11_lists_119 (by decide) ?_
            first
              | refine XJ.wd (w' := (lsW G.2.2.1 w t np nl no nm nw (en + (lK (fun k => oL (fun l => if P.2.1 (ch L l) = 112 then listN P.2.1 L pr s f (ch L l) (m * qt L l) else [(ch L l, m * qt L l)]) (lnAt L pr s p k)) (l + 1)).length) (wr vPt ep en (lK (fun k => oL (fun l => if P.2.1 (ch L l) = 112 then listN P.2.1 L pr s f (ch L l) (m * qt L l) else [(ch L l, m * qt L l)]) (lnAt L pr s p k)) (l + 1))) (wr vQt eq en (lK (fun k => oL (fun l => if P.2.1 (ch L l) = 112 then listN P.2.1 L pr s f (ch L l) (m * qt L l) else [(ch L l, m * qt L l)]) (lnAt L pr s p k)) (l + 1))))) (congrArg (fun z => lsW G.2.2.1 w t np nl no nm nw (en + z.length) (wr vPt ep en z) (wr vQt eq en z)) hg.symm) ?_
                exact XJ.lcs (lo' := [(0, .ref (w.1 39)), (1, .int (nI p)), (2, .int (nI s)), (3, .long (nL m)), (5, .int (nI (l + 1 + 1)))]) ⟨rfl, rfl, rfl, rfl, rfl, trivial⟩ (ih (l + 1) (by omega) (by omega))
              | refine XJ.wd (w' := (lsW G.2.2.1 w t np nl no nm nw (en + (lK (fun k => oL (fun l => if P.2.1 (ch L l) = 112 then listN P.2.1 L pr s f (ch L l) (m * qt L l) else [(ch L l, m * qt L l)]) (lnAt L pr s p k)) (l + 1)).length) (wr vPt ep en (lK (fun k => oL (fun l => if P.2.1 (ch L l) = 112 then listN P.2.1 L pr s f (ch L l) (m * qt L l) else [(ch L l, m * qt L l)]) (lnAt L pr s p k)) (l + 1))) (wr vQt eq en (lK (fun k => oL (fun l => if P.2.1 (ch L l) = 112 then listN P.2.1 L pr s f (ch L l) (m * qt L l) else [(ch L l, m * qt L l)]) (lnAt L pr s p k)) (l + 1))))) (by rw [hg, wr_app, wr_app, List.length_append]; exact lsW_one) ?_
                exact XJ.lcs (lo' := [(0, .ref (w.1 39)), (1, .int (nI p)), (2, .int (nI s)), (3, .long (nL m)), (5, .int (nI (l + 1 + 1)))]) ⟨rfl, rfl, rfl, rfl, rfl, trivial⟩ (ih (l + 1) (by omega) (by omega))
              | refine XJ.wd (w' := (lsW G.2.2.1 w t np nl no nm nw (en + (lK (fun k => oL (fun l => if P.2.1 (ch L l) = 112 then listN P.2.1 L pr s f (ch L l) (m * qt L l) else [(ch L l, m * qt L l)]) (lnAt L pr s p k)) (l + 1)).length) (wr vPt ep en (lK (fun k => oL (fun l => if P.2.1 (ch L l) = 112 then listN P.2.1 L pr s f (ch L l) (m * qt L l) else [(ch L l, m * qt L l)]) (lnAt L pr s p k)) (l + 1))) (wr vQt eq en (lK (fun k => oL (fun l => if P.2.1 (ch L l) = 112 then listN P.2.1 L pr s f (ch L l) (m * qt L l) else [(ch L l, m * qt L l)]) (lnAt L pr s p k)) (l + 1))))) (by rw [lsW_lsW, hg, wr_app, wr_app, List.length_append, Nat.add_assoc]) ?_
                exact XJ.lcs (lo' := [(0, .ref (w.1 39)), (1, .int (nI p)), (2, .int (nI s)), (3, .long (nL m)), (5, .int (nI (l + 1 + 1)))]) ⟨rfl, rfl, rfl, rfl, rfl, trivial⟩ (ih (l + 1) (by omega) (by omega))
        · have hx := oI_none (n := ln L) (fun j h => (lnAt_some (L := L) (pr := pr) (s := s) (p := p) (k := l + 1) h).1) (by omega) h2
          have hg : lK (fun k => oL (fun l => if P.2.1 (ch L l) = 112 then listN P.2.1 L pr s f (ch L l) (m * qt L l) else [(ch L l, m * qt L l)]) (lnAt L pr s p k)) (l + 1) = lK (fun k => oL (fun l => if P.2.1 (ch L l) = 112 then listN P.2.1 L pr s f (ch L l) (m * qt L l) else [(ch L l, m * qt L l)]) (lnAt L pr s p k)) l := by rw [lK, hx]; exact List.append_nil _
          refine X_goto (tgt := 116) dX11_lists_26 (by decide) ?_
          refine X_iinc (i := 5) (v := nI (l + 1 + 1)) (lo' := [(5, _), (6, _), (0, _), (1, _), (2, _), (3, _)]) dX11_lists_116 rfl (nI_inc (l + 1)) (by decide) rfl ?_
          refine X_goto (tgt := 3) dX11_lists_119 (by decide) ?_
          first
            | refine XJ.wd (w' := (lsW G.2.2.1 w t np nl no nm nw (en + (lK (fun k => oL (fun l => if P.2.1 (ch L l) = 112 then listN P.2.1 L pr s f (ch L l) (m * qt L l) else [(ch L l, m * qt L l)]) (lnAt L pr s p k)) (l + 1)).length) (wr vPt ep en (lK (fun k => oL (fun l => if P.2.1 (ch L l) = 112 then listN P.2.1 L pr s f (ch L l) (m * qt L l) else [(ch L l, m * qt L l)]) (lnAt L pr s p k)) (l + 1))) (wr vQt eq en (lK (fun k => oL (fun l => if P.2.1 (ch L l) = 112 then listN P.2.1 L pr s f (ch L l) (m * qt L l) else [(ch L l, m * qt L l)]) (lnAt L pr s p k)) (l + 1))))) (congrArg (fun z => lsW G.2.2.1 w t np nl no nm nw (en + z.length) (wr vPt ep en z) (wr vQt eq en z)) hg.symm) ?_
              exact XJ.lcs (lo' := [(0, .ref (w.1 39)), (1, .int (nI p)), (2, .int (nI s)), (3, .long (nL m)), (5, .int (nI (l + 1 + 1)))]) ⟨rfl, rfl, rfl, rfl, rfl, trivial⟩ (ih (l + 1) (by omega) (by omega))
            | refine XJ.wd (w' := (lsW G.2.2.1 w t np nl no nm nw (en + (lK (fun k => oL (fun l => if P.2.1 (ch L l) = 112 then listN P.2.1 L pr s f (ch L l) (m * qt L l) else [(ch L l, m * qt L l)]) (lnAt L pr s p k)) (l + 1)).length) (wr vPt ep en (lK (fun k => oL (fun l => if P.2.1 (ch L l) = 112 then listN P.2.1 L pr s f (ch L l) (m * qt L l) else [(ch L l, m * qt L l)]) (lnAt L pr s p k)) (l + 1))) (wr vQt eq en (lK (fun k => oL (fun l => if P.2.1 (ch L l) = 112 then listN P.2.1 L pr s f (ch L l) (m * qt L l) else [(ch L l, m * qt L l)]) (lnAt L pr s p k)) (l + 1))))) (by rw [hg, wr_app, wr_app, List.length_append]; exact lsW_one) ?_
              exact XJ.lcs (lo' := [(0, .ref (w.1 39)), (1, .int (nI p)), (2, .int (nI s)), (3, .long (nL m)), (5, .int (nI (l + 1 + 1)))]) ⟨rfl, rfl, rfl, rfl, rfl, trivial⟩ (ih (l + 1) (by omega) (by omega))
            | refine XJ.wd (w' := (lsW G.2.2.1 w t np nl no nm nw (en + (lK (fun k => oL (fun l => if P.2.1 (ch L l) = 112 then listN P.2.1 L pr s f (ch L l) (m * qt L l) else [(ch L l, m * qt L l)]) (lnAt L pr s p k)) (l + 1)).length) (wr vPt ep en (lK (fun k => oL (fun l => if P.2.1 (ch L l) = 112 then listN P.2.1 L pr s f (ch L l) (m * qt L l) else [(ch L l, m * qt L l)]) (lnAt L pr s p k)) (l + 1))) (wr vQt eq en (lK (fun k => oL (fun l => if P.2.1 (ch L l) = 112 then listN P.2.1 L pr s f (ch L l) (m * qt L l) else [(ch L l, m * qt L l)]) (lnAt L pr s p k)) (l + 1))))) (by rw [lsW_lsW, hg, wr_app, wr_app, List.length_append, Nat.add_assoc]) ?_
              exact XJ.lcs (lo' := [(0, .ref (w.1 39)), (1, .int (nI p)), (2, .int (nI s)), (3, .long (nL m)), (5, .int (nI (l + 1 + 1)))]) ⟨rfl, rfl, rfl, rfl, rfl, trivial⟩ (ih (l + 1) (by omega) (by omega))
  refine X_iconst (v := 1) dX11_lists_0 (by decide) ?_
  refine X_istore (i := 5) (lo' := [(5, _), (0, _), (1, _), (2, _), (3, _)]) dX11_lists_1 (by decide) rfl ?_
  refine XJ.wd (w' := (lsW G.2.2.1 w t np nl no nm nw (en + (lK (fun k => oL (fun l => if P.2.1 (ch L l) = 112 then listN P.2.1 L pr s f (ch L l) (m * qt L l) else [(ch L l, m * qt L l)]) (lnAt L pr s p k)) 0).length) (wr vPt ep en (lK (fun k => oL (fun l => if P.2.1 (ch L l) = 112 then listN P.2.1 L pr s f (ch L l) (m * qt L l) else [(ch L l, m * qt L l)]) (lnAt L pr s p k)) 0)) (wr vQt eq en (lK (fun k => oL (fun l => if P.2.1 (ch L l) = 112 then listN P.2.1 L pr s f (ch L l) (m * qt L l) else [(ch L l, m * qt L l)]) (lnAt L pr s p k)) 0)))) (lsW_id h9 e61 e62) ?_
  exact XJ.lcs (lo' := [(0, .ref (w.1 39)), (1, .int (nI p)), (2, .int (nI s)), (3, .long (nL m)), (5, .int (nI (0 + 1)))]) ⟨rfl, rfl, rfl, rfl, rfl, trivial⟩ (hloop 7 0 (by omega) (by omega))
theorem m_lists {P : PSt} {L : LSt} {pr : Nat → Nat} (hnl : ln L = nl) (hI : LI np L) (hW : PW L) (hpr : ∀ i, i < 4 → pr i < 4) (hk16 : ∀ j, P.2.1 j < 65536) (s : Nat) (hs : s < 2 ^ 31) : ∀ (f : Nat), f < 100 → ∀ (w2 : Wd) (en2 : Nat) (ep2 : Nat → Int32) (eq2 : Nat → Int64), M0 w2 t np nl no nm nw en2 → ML G.2.2.1 w2 L → MC G.2.2.1 w2 pr → MP G.2.2.1 w2 P → cel w2 61 (aI G.2.2.1 1500 ep2) → cel w2 62 (aL G.2.2.1 1500 eq2) → ∀ (q m2 : Nat), q < 16 → NC nl (pa L) (ch L) f q → en2 + (listN P.2.1 L pr s f q m2).length ≤ 1500 → XC G mX11_lists (f + 2) 0 0 [.ref (w2.1 39), .int (nI q), .int (nI s), .long (nL m2)] w2 (fun r w' => r = .inl none ∧ w' = lsW G.2.2.1 w2 t np nl no nm nw (en2 + (listN P.2.1 L pr s f q m2).length) (wr vPt ep2 en2 (listN P.2.1 L pr s f q m2)) (wr vQt eq2 en2 (listN P.2.1 L pr s f q m2)))
  | 0, _, _, _, _, _, _, _, _, _, _, _, _, _, _, h, _ => h.elim
  | f + 1, hf, w, en, ep, eq, h9, hL, hC, hP, e61, e62, p, m, hp, h, hlen => m_lists_s (by omega) hnl hI hW hpr hk16 s hs (m_lists hnl hI hW hpr hk16 s hs f (by omega)) w en ep eq h9 hL hC hP e61 e62 p m hp h hlen
end ListM
