/-! THE LAW: areRight (walks by gen/spec83.py) -/
section RightQ
variable {G : Gx} {w : Wd} {Q : XRes → Wd → Prop}
set_option maxRecDepth 20000 in
theorem r_held {P : PSt} {L : LSt} {pr : Nat → Nat} {O : OSt} {mp : Nat} {mk : Nat → UInt32} {a0 a1 a2 a3 a4 s : Nat} {f1 f2 f3 f4 : Nat → Int32} (hIP : IP P L pr O mp mk []) (h6 : P.1 = 6) (hs1 : 1 ≤ s) (hs2 : s ≤ 999) (hk : KD P) (hag : AG L f1 f2 f3 f4) {a5 gA gB : Nat} (hn : ∀ w2, ST 0 G.2.2.1 w2 P L pr O mp mk → LR 44 G.2.2.1 w2 a0 a1 a2 a3 a4 f1 f2 f3 f4 → cel w2 43 (aI G.2.2.1 42 (fun k => nI (hdC L pr s (ln L) k))) → w2.1 43 = a5 → XJ G mL_areRight 21 gA gB 50 [(0, .ref a0), (1, .int (nI s)), (2, .int (nI (ln L))), (3, .ref a1), (4, .ref a2), (5, .ref a3), (6, .ref a4), (7, .int 1), (8, .ref a5)] [] w2 Q) : ∀ (n : Nat) (l : Nat) (w1 : Wd), ln L - l < n → l ≤ ln L → ST 0 G.2.2.1 w1 P L pr O mp mk → LR 44 G.2.2.1 w1 a0 a1 a2 a3 a4 f1 f2 f3 f4 → cel w1 43 (aI G.2.2.1 42 (fun k => nI (hdC L pr s l k))) → w1.1 43 = a5 → XJ G mL_areRight 21 (2 * n + gA) (12 * n + gB) 12 [(0, .ref a0), (1, .int (nI s)), (2, .int (nI (ln L))), (3, .ref a1), (4, .ref a2), (5, .ref a3), (6, .ref a4), (7, .int 1), (8, .ref a5), (9, .int (nI l))] [] w1 (Q) := by
  intro n
  induction n with
  | zero => intro l w1 hm hl hS hR hH hx; exact absurd hm (Nat.not_lt_zero _)
  | succ n ih =>
    intro l w1 hm hl hS hR hH hx
    refine X_iload dL_areRight_12 (i := 9) rfl ?_
    refine X_iload_n dL_areRight_14 (i := 2) rfl rfl ?_
    refine X_icmp_ge (tgt := 50) dL_areRight_15 (by decide) (fun h15 => ?_) (fun h15 => ?_)
    · have h40 := hIP.2.2.1.1.2.1
      have el : l = ln L := ge6 (by omega) hl h15
      subst el
      exact XJ.less (by omega) (by omega) (XJ.lcs (lo' := [(0, .ref a0), (1, .int (nI s)), (2, .int (nI (ln L))), (3, .ref a1), (4, .ref a2), (5, .ref a3), (6, .ref a4), (7, .int 1), (8, .ref a5)]) ⟨rfl, rfl, rfl, rfl, rfl, rfl, rfl, rfl, rfl, trivial⟩ (hn _ hS hR hH hx))
    · have h40 := hIP.2.2.1.1.2.1
      have ll : l < ln L := lt6 (by omega) hl h15
      have hb := hIP.2.2.1.1.2.2 l ll
      have h40 := hIP.2.2.1.1.2.1
      have hg := hag l ll
      have h42 : 7 * pa L l + po L l < 42 := by have := hb.1; have := hb.2.1; omega
      refine X_aload dL_areRight_18 (i := 8) rfl ?_
      refine X_bipush (v := 7) dL_areRight_20 (by decide) ?_
      refine X_aload_n dL_areRight_22 (i := 3) rfl rfl ?_
      refine X_iload dL_areRight_23 (i := 9) rfl ?_
      refine X_iald (i := 39) hR.m1 hR.e1 rfl (by omega) (by decide) dL_areRight_25 ?_
      refine XJ.top (v' := .int (nI (pa L l))) (by rw [hg.1]) ?_
      refine X_imul dL_areRight_26 ?_
      refine XJ.top (v' := .int (nI (7 * pa L l))) (by rw [← pk_mul]; rfl) ?_
      refine X_aload dL_areRight_27 (i := 4) rfl ?_
      refine X_iload dL_areRight_29 (i := 9) rfl ?_
      refine X_iald (i := 40) hR.m2 hR.e2 rfl (by omega) (by decide) dL_areRight_31 ?_
      refine XJ.top (v' := .int (nI (po L l))) (by rw [hg.2.1]) ?_
      refine X_iadd dL_areRight_32 ?_
      refine XJ.top (v' := .int (nI (7 * pa L l + po L l))) (by rw [nI_add]) ?_
      refine X_dup2_11 dL_areRight_33 rfl rfl ?_
      refine X_iald (i := 43) hH hx rfl (by omega) (by decide) dL_areRight_34 ?_
      refine X_aload_n dL_areRight_35 (i := 0) rfl rfl ?_
      refine X_iload dL_areRight_36 (i := 9) rfl ?_
      refine X_iload_n dL_areRight_38 (i := 1) rfl rfl ?_
      refine X_callSW (gc2 := (2 * n + gA)) (gs2 := (12 * n + gB)) (q_holds hR.e0 hS hIP ll hs1 hs2) kmL_holds rfl lL_176 sL_holds rfl rfl (Nat.le_of_ble_eq_true rfl) (by decide) dL_areRight_39 (by omega) (by omega) (fun E w1 hq => nomatch hq.1) (fun v w1 hq => ?_)
      have hvv := hq.1
      have hS := hq.2.1
      have hR := hR.fx hq.2.2
      cases hvv
      have hH := cel_fx hH hq.2.2 (by decide)
      have hx := (hq.2.2.2.2 43 (by decide)).1.trans hx
      refine X_iadd dL_areRight_42 ?_
      refine X_iast (i := 43) hH hx rfl (by omega) (by decide) dL_areRight_43 (fun hc_43 => ?_)
      refine X_iinc (i := 9) (v := nI (l + 1)) (lo' := [(9, _), (0, _), (1, _), (2, _), (3, _), (4, _), (5, _), (6, _), (7, _), (8, _)]) dL_areRight_44 rfl (nI_inc l) (by decide) rfl ?_
      refine X_goto (tgt := 12) dL_areRight_47 (by decide) ?_
      refine XJ.wd (congrArg (setM _ 43) (congrArg (aI _ 42) hdC_up)) ?_
      exact XJ.less (by omega) (by omega) (XJ.lcs (lo' := [(0, .ref a0), (1, .int (nI s)), (2, .int (nI (ln L))), (3, .ref a1), (4, .ref a2), (5, .ref a3), (6, .ref a4), (7, .int 1), (8, .ref a5), (9, .int (nI (l + 1)))]) ⟨rfl, rfl, rfl, rfl, rfl, rfl, rfl, rfl, rfl, rfl, trivial⟩ (ih (l + 1) _ (by omega) (by omega) (hS.s43 hR.1) hR.s43 (cel.set hH) hx))
set_option maxRecDepth 20000 in
theorem r_one {P : PSt} {L : LSt} {pr : Nat → Nat} {O : OSt} {mp : Nat} {mk : Nat → UInt32} {a0 a1 a2 a3 a4 s : Nat} {f1 f2 f3 f4 : Nat → Int32} (hIP : IP P L pr O mp mk []) (h6 : P.1 = 6) (hs1 : 1 ≤ s) (hs2 : s ≤ 999) (hk : KD P) (hag : AG L f1 f2 f3 f4) {a5 gA gB : Nat} (hn : ∀ w2, ST 0 G.2.2.1 w2 P L pr O mp mk → LR 44 G.2.2.1 w2 a0 a1 a2 a3 a4 f1 f2 f3 f4 → XJ G mL_areRight 21 gA gB 85 [(0, .ref a0), (1, .int (nI s)), (2, .int (nI (ln L))), (3, .ref a1), (4, .ref a2), (5, .ref a3), (6, .ref a4), (7, .int 1), (8, .ref a5)] [] w2 Q) : ∀ (n : Nat) (k : Nat) (w1 : Wd), 42 - k < n → k ≤ 42 → ST 0 G.2.2.1 w1 P L pr O mp mk → LR 44 G.2.2.1 w1 a0 a1 a2 a3 a4 f1 f2 f3 f4 → cel w1 43 (aI G.2.2.1 42 (fun k => nI (hdC L pr s (ln L) k))) → w1.1 43 = a5 → XJ G mL_areRight 21 gA gB 53 [(0, .ref a0), (1, .int (nI s)), (2, .int (nI (ln L))), (3, .ref a1), (4, .ref a2), (5, .ref a3), (6, .ref a4), (7, .int 1), (8, .ref a5), (9, .int (nI k))] [] w1 (Q) := by
  intro n
  induction n with
  | zero => intro k w1 hm hk2 hS hR hH hx; exact absurd hm (Nat.not_lt_zero _)
  | succ n ih =>
    intro k w1 hm hk2 hS hR hH hx
    refine X_iload dL_areRight_53 (i := 9) rfl ?_
    refine X_bipush (v := 42) dL_areRight_55 (by decide) ?_
    refine X_icmp_ge (tgt := 85) dL_areRight_57 (by decide) (fun h57 => ?_) (fun h57 => ?_)
    · have ek : k = 42 := ge6 (by decide) hk2 h57
      subst ek
      exact XJ.less (by omega) (by omega) (XJ.lcs (lo' := [(0, .ref a0), (1, .int (nI s)), (2, .int (nI (ln L))), (3, .ref a1), (4, .ref a2), (5, .ref a3), (6, .ref a4), (7, .int 1), (8, .ref a5)]) ⟨rfl, rfl, rfl, rfl, rfl, rfl, rfl, rfl, rfl, trivial⟩ (hn _ hS hR))
    · have k42 : k < 42 := lt6 (by decide) hk2 h57
      have h1 : hdC L pr s (ln L) k ≤ 1 := hdC_1 hIP.2.2.1.1 hIP.2.2.1.2.1
      refine X_iload dL_areRight_60 (i := 7) rfl ?_
      refine X_aload dL_areRight_62 (i := 8) rfl ?_
      refine X_iload dL_areRight_64 (i := 9) rfl ?_
      refine X_iald (i := 43) hH hx rfl (by omega) (by decide) dL_areRight_66 ?_
      refine X_iconst (v := 1) dL_areRight_67 (by decide) ?_
      refine X_icmp_gt (tgt := 75) dL_areRight_68 (by decide) (fun h68 => ?_) (fun h68 => ?_)
      · exact absurd ((nI_ltI (a := 1) (by decide) (by omega)).mp h68) (by omega)
      · refine X_iconst (v := 1) dL_areRight_71 (by decide) ?_
        refine X_goto (tgt := 76) dL_areRight_72 (by decide) ?_
        refine X_iand dL_areRight_76 ?_
        refine XJ.top (v' := .int 1) (by decide) ?_
        refine X_istore (i := 7) (lo' := [(7, _), (0, _), (1, _), (2, _), (3, _), (4, _), (5, _), (6, _), (8, _), (9, _)]) dL_areRight_77 (by decide) rfl ?_
        refine X_iinc (i := 9) (v := nI (k + 1)) (lo' := [(9, _), (7, _), (0, _), (1, _), (2, _), (3, _), (4, _), (5, _), (6, _), (8, _)]) dL_areRight_79 rfl (nI_inc k) (by decide) rfl ?_
        refine X_goto (tgt := 53) dL_areRight_82 (by decide) ?_
        exact XJ.less (by omega) (by omega) (XJ.lcs (lo' := [(0, .ref a0), (1, .int (nI s)), (2, .int (nI (ln L))), (3, .ref a1), (4, .ref a2), (5, .ref a3), (6, .ref a4), (7, .int 1), (8, .ref a5), (9, .int (nI (k + 1)))]) ⟨rfl, rfl, rfl, rfl, rfl, rfl, rfl, rfl, rfl, rfl, trivial⟩ (ih (k + 1) _ (by omega) (by omega) hS hR hH hx))
set_option maxRecDepth 20000 in
theorem r_ln {P : PSt} {L : LSt} {pr : Nat → Nat} {O : OSt} {mp : Nat} {mk : Nat → UInt32} {a0 a1 a2 a3 a4 s : Nat} {f1 f2 f3 f4 : Nat → Int32} (hIP : IP P L pr O mp mk []) (h6 : P.1 = 6) (hs1 : 1 ≤ s) (hs2 : s ≤ 999) (hk : KD P) (hag : AG L f1 f2 f3 f4) {p gA gB : Nat} (p6 : p < 6) (hn : ∀ w2, ST 0 G.2.2.1 w2 P L pr O mp mk → LR 44 G.2.2.1 w2 a0 a1 a2 a3 a4 f1 f2 f3 f4 → XJ G mL_areRight 21 gA gB 227 [(0, .ref a0), (1, .int (nI s)), (2, .int (nI (ln L))), (3, .ref a1), (4, .ref a2), (5, .ref a3), (6, .ref a4), (7, .int 1), (9, .int (nI p)), (10, .int (nI (dirN L pr s p (ln L)))), (11, .int (bI (plB P.2.1 L pr s p (ln L))))] [] w2 Q) : ∀ (n : Nat) (l : Nat) (w1 : Wd), ln L - l < n → l ≤ ln L → ST 0 G.2.2.1 w1 P L pr O mp mk → LR 44 G.2.2.1 w1 a0 a1 a2 a3 a4 f1 f2 f3 f4 → XJ G mL_areRight 21 (9 * n + gA) (54 * n + gB) 109 [(0, .ref a0), (1, .int (nI s)), (2, .int (nI (ln L))), (3, .ref a1), (4, .ref a2), (5, .ref a3), (6, .ref a4), (7, .int 1), (9, .int (nI p)), (10, .int (nI (dirN L pr s p l))), (11, .int (bI (plB P.2.1 L pr s p l))), (12, .int (nI l))] [] w1 (Q) := by
  intro n
  induction n with
  | zero => intro l w1 hm hl hS hR; exact absurd hm (Nat.not_lt_zero _)
  | succ n ih =>
    intro l w1 hm hl hS hR
    refine X_iload dL_areRight_109 (i := 12) rfl ?_
    refine X_iload_n dL_areRight_111 (i := 2) rfl rfl ?_
    refine X_icmp_ge (tgt := 227) dL_areRight_112 (by decide) (fun h112 => ?_) (fun h112 => ?_)
    · have h40 := hIP.2.2.1.1.2.1
      have el : l = ln L := ge6 (by omega) hl h112
      subst el
      exact XJ.less (by omega) (by omega) (XJ.lcs (lo' := [(0, .ref a0), (1, .int (nI s)), (2, .int (nI (ln L))), (3, .ref a1), (4, .ref a2), (5, .ref a3), (6, .ref a4), (7, .int 1), (9, .int (nI p)), (10, .int (nI (dirN L pr s p (ln L)))), (11, .int (bI (plB P.2.1 L pr s p (ln L))))]) ⟨rfl, rfl, rfl, rfl, rfl, rfl, rfl, rfl, rfl, rfl, rfl, trivial⟩ (hn _ hS hR))
    · have h40 := hIP.2.2.1.1.2.1
      have ll : l < ln L := lt6 (by omega) hl h112
      have hb := hIP.2.2.1.1.2.2 l ll
      have h40 := hIP.2.2.1.1.2.1
      have hg := hag l ll
      refine X_aload_n dL_areRight_115 (i := 3) rfl rfl ?_
      refine X_iload dL_areRight_116 (i := 12) rfl ?_
      refine X_iald (i := 39) hR.m1 hR.e1 rfl (by omega) (by decide) dL_areRight_118 ?_
      refine XJ.top (v' := .int (nI (pa L l))) (by rw [hg.1]) ?_
      refine X_iload dL_areRight_119 (i := 9) rfl ?_
      refine X_icmp_ne (tgt := 139) dL_areRight_121 (by decide) (fun h121 => ?_) (fun h121 => ?_)
      · have ho : ownB L pr s p l = false := own_0 (fun e => h121 (by rw [e]))
        have hd := dir_0 ho
        have hpl := pl_0 (kd := P.2.1) ho
        refine X_iconst (v := 0) dL_areRight_139 (by decide) ?_
        refine X_istore (i := 13) (lo' := [(13, _), (0, _), (1, _), (2, _), (3, _), (4, _), (5, _), (6, _), (7, _), (9, _), (10, _), (11, _), (12, _)]) dL_areRight_140 (by decide) rfl ?_
        refine X_iload dL_areRight_142 (i := 10) rfl ?_
        refine X_iload dL_areRight_144 (i := 13) rfl ?_
        refine X_if_eq (tgt := 153) dL_areRight_146 (by decide) (fun _ => ?_) (fun h => absurd h (by decide))
        refine X_iconst (v := 0) dL_areRight_153 (by decide) ?_
        refine X_iadd dL_areRight_154 ?_
        refine XJ.top (v' := .int (nI (dirN L pr s p (l + 1)))) (by rw [hd, ← nI_add]; rfl) ?_
        refine X_istore (i := 10) (lo' := [(10, _), (13, _), (0, _), (1, _), (2, _), (3, _), (4, _), (5, _), (6, _), (7, _), (9, _), (11, _), (12, _)]) dL_areRight_155 (by decide) rfl ?_
        refine X_iload dL_areRight_157 (i := 11) rfl ?_
        refine X_iload dL_areRight_159 (i := 13) rfl ?_
        refine X_if_eq (tgt := 178) dL_areRight_161 (by decide) (fun _ => ?_) (fun h => absurd h (by decide))
        refine X_iconst (v := 1) dL_areRight_178 (by decide) ?_
        refine X_goto (tgt := 183) dL_areRight_179 (by decide) ?_
        refine X_iand dL_areRight_183 ?_
        refine XJ.top (v' := .int (bI (plB P.2.1 L pr s p (l + 1)))) (by rw [hpl]; first | rw [bI_1] | rw [bI_0]) ?_
        refine X_istore (i := 11) (lo' := [(11, _), (10, _), (13, _), (0, _), (1, _), (2, _), (3, _), (4, _), (5, _), (6, _), (7, _), (9, _), (12, _)]) dL_areRight_184 (by decide) rfl ?_
        refine X_iload dL_areRight_186 (i := 7) rfl ?_
        refine X_iload dL_areRight_188 (i := 13) rfl ?_
        refine X_if_eq (tgt := 213) dL_areRight_190 (by decide) (fun _ => ?_) (fun h => absurd h (by decide))
        refine X_iconst (v := 1) dL_areRight_213 (by decide) ?_
        refine X_goto (tgt := 218) dL_areRight_214 (by decide) ?_
        refine X_iand dL_areRight_218 ?_
        refine XJ.top (v' := .int 1) (by decide) ?_
        refine X_istore (i := 7) (lo' := [(7, _), (11, _), (10, _), (13, _), (0, _), (1, _), (2, _), (3, _), (4, _), (5, _), (6, _), (9, _), (12, _)]) dL_areRight_219 (by decide) rfl ?_
        refine X_iinc (i := 12) (v := nI (l + 1)) (lo' := [(12, _), (7, _), (11, _), (10, _), (13, _), (0, _), (1, _), (2, _), (3, _), (4, _), (5, _), (6, _), (9, _)]) dL_areRight_221 rfl (nI_inc l) (by decide) rfl ?_
        refine X_goto (tgt := 109) dL_areRight_224 (by decide) ?_
        exact XJ.less (by omega) (by omega) (XJ.lcs (lo' := [(0, .ref a0), (1, .int (nI s)), (2, .int (nI (ln L))), (3, .ref a1), (4, .ref a2), (5, .ref a3), (6, .ref a4), (7, .int 1), (9, .int (nI p)), (10, .int (nI (dirN L pr s p (l + 1)))), (11, .int (bI (plB P.2.1 L pr s p (l + 1)))), (12, .int (nI (l + 1)))]) ⟨rfl, rfl, rfl, rfl, rfl, rfl, rfl, rfl, rfl, rfl, rfl, rfl, trivial⟩ (ih (l + 1) _ (by omega) (by omega) hS hR))
      · have ep : pa L l = p := (nI_eq (by have := hb.1; omega) (by omega)).mp h121
        refine X_aload_n dL_areRight_124 (i := 0) rfl rfl ?_
        refine X_iload dL_areRight_125 (i := 12) rfl ?_
        refine X_iload_n dL_areRight_127 (i := 1) rfl rfl ?_
        refine X_callSW (gc2 := (9 * n + 7 + gA)) (gs2 := (54 * n + 42 + gB)) (q_holds hR.e0 hS hIP ll hs1 hs2) kmL_holds rfl lL_176 sL_holds rfl rfl (Nat.le_of_ble_eq_true rfl) (by decide) dL_areRight_128 (by omega) (by omega) (fun E w1 hq => nomatch hq.1) (fun v w1 hq => ?_)
        have hvv := hq.1
        have hS := hq.2.1
        have hR := hR.fx hq.2.2
        cases hvv
        refine X_iconst (v := 1) dL_areRight_131 (by decide) ?_
        refine X_icmp_ne (tgt := 139) dL_areRight_132 (by decide) (fun h132 => ?_) (fun h132 => ?_)
        · have ho : ownB L pr s p l = false := own_h (bI_ne1 h132)
          have hd := dir_0 ho
          have hpl := pl_0 (kd := P.2.1) ho
          refine X_iconst (v := 0) dL_areRight_139 (by decide) ?_
          refine X_istore (i := 13) (lo' := [(13, _), (0, _), (1, _), (2, _), (3, _), (4, _), (5, _), (6, _), (7, _), (9, _), (10, _), (11, _), (12, _)]) dL_areRight_140 (by decide) rfl ?_
          refine X_iload dL_areRight_142 (i := 10) rfl ?_
          refine X_iload dL_areRight_144 (i := 13) rfl ?_
          refine X_if_eq (tgt := 153) dL_areRight_146 (by decide) (fun _ => ?_) (fun h => absurd h (by decide))
          refine X_iconst (v := 0) dL_areRight_153 (by decide) ?_
          refine X_iadd dL_areRight_154 ?_
          refine XJ.top (v' := .int (nI (dirN L pr s p (l + 1)))) (by rw [hd, ← nI_add]; rfl) ?_
          refine X_istore (i := 10) (lo' := [(10, _), (13, _), (0, _), (1, _), (2, _), (3, _), (4, _), (5, _), (6, _), (7, _), (9, _), (11, _), (12, _)]) dL_areRight_155 (by decide) rfl ?_
          refine X_iload dL_areRight_157 (i := 11) rfl ?_
          refine X_iload dL_areRight_159 (i := 13) rfl ?_
          refine X_if_eq (tgt := 178) dL_areRight_161 (by decide) (fun _ => ?_) (fun h => absurd h (by decide))
          refine X_iconst (v := 1) dL_areRight_178 (by decide) ?_
          refine X_goto (tgt := 183) dL_areRight_179 (by decide) ?_
          refine X_iand dL_areRight_183 ?_
          refine XJ.top (v' := .int (bI (plB P.2.1 L pr s p (l + 1)))) (by rw [hpl]; first | rw [bI_1] | rw [bI_0]) ?_
          refine X_istore (i := 11) (lo' := [(11, _), (10, _), (13, _), (0, _), (1, _), (2, _), (3, _), (4, _), (5, _), (6, _), (7, _), (9, _), (12, _)]) dL_areRight_184 (by decide) rfl ?_
          refine X_iload dL_areRight_186 (i := 7) rfl ?_
          refine X_iload dL_areRight_188 (i := 13) rfl ?_
          refine X_if_eq (tgt := 213) dL_areRight_190 (by decide) (fun _ => ?_) (fun h => absurd h (by decide))
          refine X_iconst (v := 1) dL_areRight_213 (by decide) ?_
          refine X_goto (tgt := 218) dL_areRight_214 (by decide) ?_
          refine X_iand dL_areRight_218 ?_
          refine XJ.top (v' := .int 1) (by decide) ?_
          refine X_istore (i := 7) (lo' := [(7, _), (11, _), (10, _), (13, _), (0, _), (1, _), (2, _), (3, _), (4, _), (5, _), (6, _), (9, _), (12, _)]) dL_areRight_219 (by decide) rfl ?_
          refine X_iinc (i := 12) (v := nI (l + 1)) (lo' := [(12, _), (7, _), (11, _), (10, _), (13, _), (0, _), (1, _), (2, _), (3, _), (4, _), (5, _), (6, _), (9, _)]) dL_areRight_221 rfl (nI_inc l) (by decide) rfl ?_
          refine X_goto (tgt := 109) dL_areRight_224 (by decide) ?_
          exact XJ.less (by omega) (by omega) (XJ.lcs (lo' := [(0, .ref a0), (1, .int (nI s)), (2, .int (nI (ln L))), (3, .ref a1), (4, .ref a2), (5, .ref a3), (6, .ref a4), (7, .int 1), (9, .int (nI p)), (10, .int (nI (dirN L pr s p (l + 1)))), (11, .int (bI (plB P.2.1 L pr s p (l + 1)))), (12, .int (nI (l + 1)))]) ⟨rfl, rfl, rfl, rfl, rfl, rfl, rfl, rfl, rfl, rfl, rfl, rfl, trivial⟩ (ih (l + 1) _ (by omega) (by omega) hS hR))
        · have ho : ownB L pr s p l = true := own_1 ep (bI_eq1 h132)
          have hd := dir_1 ho
          refine X_iconst (v := 1) dL_areRight_135 (by decide) ?_
          refine X_goto (tgt := 140) dL_areRight_136 (by decide) ?_
          refine X_istore (i := 13) (lo' := [(13, _), (0, _), (1, _), (2, _), (3, _), (4, _), (5, _), (6, _), (7, _), (9, _), (10, _), (11, _), (12, _)]) dL_areRight_140 (by decide) rfl ?_
          refine X_iload dL_areRight_142 (i := 10) rfl ?_
          refine X_iload dL_areRight_144 (i := 13) rfl ?_
          refine X_if_eq (tgt := 153) dL_areRight_146 (by decide) (fun h => absurd h (by decide)) (fun _ => ?_)
          refine X_iconst (v := 1) dL_areRight_149 (by decide) ?_
          refine X_goto (tgt := 154) dL_areRight_150 (by decide) ?_
          refine X_iadd dL_areRight_154 ?_
          refine XJ.top (v' := .int (nI (dirN L pr s p (l + 1)))) (by rw [hd, ← nI_add]; rfl) ?_
          refine X_istore (i := 10) (lo' := [(10, _), (13, _), (0, _), (1, _), (2, _), (3, _), (4, _), (5, _), (6, _), (7, _), (9, _), (11, _), (12, _)]) dL_areRight_155 (by decide) rfl ?_
          refine X_iload dL_areRight_157 (i := 11) rfl ?_
          refine X_iload dL_areRight_159 (i := 13) rfl ?_
          refine X_if_eq (tgt := 178) dL_areRight_161 (by decide) (fun h => absurd h (by decide)) (fun _ => ?_)
          refine X_aload_n dL_areRight_164 (i := 0) rfl rfl ?_
          refine X_aload dL_areRight_165 (i := 5) rfl ?_
          refine X_iload dL_areRight_167 (i := 12) rfl ?_
          refine X_iald (i := 41) hR.m3 hR.e3 rfl (by omega) (by decide) dL_areRight_169 ?_
          refine XJ.top (v' := .int (nI (ch L l))) (by rw [hg.2.2.1]) ?_
          refine X_callSW (gc2 := (9 * n + 6 + gA)) (gs2 := (54 * n + 36 + gB)) (q_kind hR.e0 hS hIP h6 (by have := hb.2.2.1; omega)) kmL_kind rfl lL_230 sL_kind rfl rfl (Nat.le_of_ble_eq_true rfl) (by decide) dL_areRight_170 (by omega) (by omega) (fun E w1 hq => nomatch hq.1) (fun v w1 hq => ?_)
          have hvv := hq.1
          have hS := hq.2.1
          have hR := hR.fx hq.2.2
          cases hvv
          refine X_bipush (v := 112) dL_areRight_173 (by decide) ?_
          refine X_icmp_eq (tgt := 182) dL_areRight_175 (by decide) (fun h175 => ?_) (fun h175 => ?_)
          · have hkd : P.2.1 (ch L l) = 112 := (nI_eq (by have := hIP.2.1 (ch L l); omega) (by decide)).mp h175
            have hpl := pl_2 (kd := P.2.1) ho hkd
            refine X_iconst (v := 0) dL_areRight_182 (by decide) ?_
            refine X_iand dL_areRight_183 ?_
            refine XJ.top (v' := .int (bI (plB P.2.1 L pr s p (l + 1)))) (by rw [hpl]; first | rw [bI_1] | rw [bI_0]) ?_
            refine X_istore (i := 11) (lo' := [(11, _), (10, _), (13, _), (0, _), (1, _), (2, _), (3, _), (4, _), (5, _), (6, _), (7, _), (9, _), (12, _)]) dL_areRight_184 (by decide) rfl ?_
            refine X_iload dL_areRight_186 (i := 7) rfl ?_
            refine X_iload dL_areRight_188 (i := 13) rfl ?_
            refine X_if_eq (tgt := 213) dL_areRight_190 (by decide) (fun h => absurd h (by decide)) (fun _ => ?_)
            refine X_aload_n dL_areRight_193 (i := 0) rfl rfl ?_
            refine X_iload dL_areRight_194 (i := 9) rfl ?_
            refine X_iload_n dL_areRight_196 (i := 1) rfl rfl ?_
            refine X_callSW (gc2 := (9 * n + 3 + gA)) (gs2 := (54 * n + 18 + gB)) (q_levels hR.e0 hS hIP h6 p6 hs1 hs2) kmL_levels rfl lL_232 sL_levels rfl rfl (Nat.le_of_ble_eq_true rfl) (by decide) dL_areRight_197 (by omega) (by omega) (fun E w1 hq => nomatch hq.1) (fun v w1 hq => ?_)
            have hvv := hq.1
            have hS := hq.2.1
            have hR := hR.fx hq.2.2
            cases hvv
            refine X_aload_n dL_areRight_200 (i := 0) rfl rfl ?_
            refine X_aload dL_areRight_201 (i := 5) rfl ?_
            refine X_iload dL_areRight_203 (i := 12) rfl ?_
            refine X_iald (i := 41) hR.m3 hR.e3 rfl (by omega) (by decide) dL_areRight_205 ?_
            refine XJ.top (v' := .int (nI (ch L l))) (by rw [hg.2.2.1]) ?_
            refine X_iload_n dL_areRight_206 (i := 1) rfl rfl ?_
            refine X_callSW (gc2 := (9 * n + gA)) (gs2 := (54 * n + gB)) (q_levels hR.e0 hS hIP h6 (by have := hb.2.2.1; omega) hs1 hs2) kmL_levels rfl lL_232 sL_levels rfl rfl (Nat.le_of_ble_eq_true rfl) (by decide) dL_areRight_207 (by omega) (by omega) (fun E w1 hq => nomatch hq.1) (fun v w1 hq => ?_)
            have hvv := hq.1
            have hS := hq.2.1
            have hR := hR.fx hq.2.2
            cases hvv
            refine X_icmp_le (tgt := 217) dL_areRight_210 (by decide) (fun h210 => ?_) (fun h210 => ?_)
            · have h1 := dpt_lt (pr := pr) (s := s) hIP.2.2.1.1 hIP.2.2.1.2.1 hIP.2.2.1.2.2 ll (bI_eq1 h132) ep
              have h2 := dpt_4 (pr := pr) (s := s) (p := p) hIP.2.2.1.1 hIP.2.2.1.2.1 hIP.2.2.1.2.2
              exact absurd ((nI_leI (by omega) (by omega)).mp h210) (by omega)
            · refine X_iconst (v := 1) dL_areRight_213 (by decide) ?_
              refine X_goto (tgt := 218) dL_areRight_214 (by decide) ?_
              refine X_iand dL_areRight_218 ?_
              refine XJ.top (v' := .int 1) (by decide) ?_
              refine X_istore (i := 7) (lo' := [(7, _), (11, _), (10, _), (13, _), (0, _), (1, _), (2, _), (3, _), (4, _), (5, _), (6, _), (9, _), (12, _)]) dL_areRight_219 (by decide) rfl ?_
              refine X_iinc (i := 12) (v := nI (l + 1)) (lo' := [(12, _), (7, _), (11, _), (10, _), (13, _), (0, _), (1, _), (2, _), (3, _), (4, _), (5, _), (6, _), (9, _)]) dL_areRight_221 rfl (nI_inc l) (by decide) rfl ?_
              refine X_goto (tgt := 109) dL_areRight_224 (by decide) ?_
              exact XJ.less (by omega) (by omega) (XJ.lcs (lo' := [(0, .ref a0), (1, .int (nI s)), (2, .int (nI (ln L))), (3, .ref a1), (4, .ref a2), (5, .ref a3), (6, .ref a4), (7, .int 1), (9, .int (nI p)), (10, .int (nI (dirN L pr s p (l + 1)))), (11, .int (bI (plB P.2.1 L pr s p (l + 1)))), (12, .int (nI (l + 1)))]) ⟨rfl, rfl, rfl, rfl, rfl, rfl, rfl, rfl, rfl, rfl, rfl, rfl, trivial⟩ (ih (l + 1) _ (by omega) (by omega) hS hR))
          · have hpl := pl_1 (kd := P.2.1) (pr := pr) (s := s) (p := p) (l := l) (L := L) (fun e => h175 (by rw [e]; rfl))
            refine X_iconst (v := 1) dL_areRight_178 (by decide) ?_
            refine X_goto (tgt := 183) dL_areRight_179 (by decide) ?_
            refine X_iand dL_areRight_183 ?_
            refine XJ.top (v' := .int (bI (plB P.2.1 L pr s p (l + 1)))) (by rw [hpl]; first | rw [bI_1] | rw [bI_0]) ?_
            refine X_istore (i := 11) (lo' := [(11, _), (10, _), (13, _), (0, _), (1, _), (2, _), (3, _), (4, _), (5, _), (6, _), (7, _), (9, _), (12, _)]) dL_areRight_184 (by decide) rfl ?_
            refine X_iload dL_areRight_186 (i := 7) rfl ?_
            refine X_iload dL_areRight_188 (i := 13) rfl ?_
            refine X_if_eq (tgt := 213) dL_areRight_190 (by decide) (fun h => absurd h (by decide)) (fun _ => ?_)
            refine X_aload_n dL_areRight_193 (i := 0) rfl rfl ?_
            refine X_iload dL_areRight_194 (i := 9) rfl ?_
            refine X_iload_n dL_areRight_196 (i := 1) rfl rfl ?_
            refine X_callSW (gc2 := (9 * n + 3 + gA)) (gs2 := (54 * n + 18 + gB)) (q_levels hR.e0 hS hIP h6 p6 hs1 hs2) kmL_levels rfl lL_232 sL_levels rfl rfl (Nat.le_of_ble_eq_true rfl) (by decide) dL_areRight_197 (by omega) (by omega) (fun E w1 hq => nomatch hq.1) (fun v w1 hq => ?_)
            have hvv := hq.1
            have hS := hq.2.1
            have hR := hR.fx hq.2.2
            cases hvv
            refine X_aload_n dL_areRight_200 (i := 0) rfl rfl ?_
            refine X_aload dL_areRight_201 (i := 5) rfl ?_
            refine X_iload dL_areRight_203 (i := 12) rfl ?_
            refine X_iald (i := 41) hR.m3 hR.e3 rfl (by omega) (by decide) dL_areRight_205 ?_
            refine XJ.top (v' := .int (nI (ch L l))) (by rw [hg.2.2.1]) ?_
            refine X_iload_n dL_areRight_206 (i := 1) rfl rfl ?_
            refine X_callSW (gc2 := (9 * n + gA)) (gs2 := (54 * n + gB)) (q_levels hR.e0 hS hIP h6 (by have := hb.2.2.1; omega) hs1 hs2) kmL_levels rfl lL_232 sL_levels rfl rfl (Nat.le_of_ble_eq_true rfl) (by decide) dL_areRight_207 (by omega) (by omega) (fun E w1 hq => nomatch hq.1) (fun v w1 hq => ?_)
            have hvv := hq.1
            have hS := hq.2.1
            have hR := hR.fx hq.2.2
            cases hvv
            refine X_icmp_le (tgt := 217) dL_areRight_210 (by decide) (fun h210 => ?_) (fun h210 => ?_)
            · have h1 := dpt_lt (pr := pr) (s := s) hIP.2.2.1.1 hIP.2.2.1.2.1 hIP.2.2.1.2.2 ll (bI_eq1 h132) ep
              have h2 := dpt_4 (pr := pr) (s := s) (p := p) hIP.2.2.1.1 hIP.2.2.1.2.1 hIP.2.2.1.2.2
              exact absurd ((nI_leI (by omega) (by omega)).mp h210) (by omega)
            · refine X_iconst (v := 1) dL_areRight_213 (by decide) ?_
              refine X_goto (tgt := 218) dL_areRight_214 (by decide) ?_
              refine X_iand dL_areRight_218 ?_
              refine XJ.top (v' := .int 1) (by decide) ?_
              refine X_istore (i := 7) (lo' := [(7, _), (11, _), (10, _), (13, _), (0, _), (1, _), (2, _), (3, _), (4, _), (5, _), (6, _), (9, _), (12, _)]) dL_areRight_219 (by decide) rfl ?_
              refine X_iinc (i := 12) (v := nI (l + 1)) (lo' := [(12, _), (7, _), (11, _), (10, _), (13, _), (0, _), (1, _), (2, _), (3, _), (4, _), (5, _), (6, _), (9, _)]) dL_areRight_221 rfl (nI_inc l) (by decide) rfl ?_
              refine X_goto (tgt := 109) dL_areRight_224 (by decide) ?_
              exact XJ.less (by omega) (by omega) (XJ.lcs (lo' := [(0, .ref a0), (1, .int (nI s)), (2, .int (nI (ln L))), (3, .ref a1), (4, .ref a2), (5, .ref a3), (6, .ref a4), (7, .int 1), (9, .int (nI p)), (10, .int (nI (dirN L pr s p (l + 1)))), (11, .int (bI (plB P.2.1 L pr s p (l + 1)))), (12, .int (nI (l + 1)))]) ⟨rfl, rfl, rfl, rfl, rfl, rfl, rfl, rfl, rfl, rfl, rfl, rfl, trivial⟩ (ih (l + 1) _ (by omega) (by omega) hS hR))
set_option maxRecDepth 20000 in
theorem r_al {P : PSt} {L : LSt} {pr : Nat → Nat} {O : OSt} {mp : Nat} {mk : Nat → UInt32} {a0 a1 a2 a3 a4 s : Nat} {f1 f2 f3 f4 : Nat → Int32} (hIP : IP P L pr O mp mk []) (h6 : P.1 = 6) (hs1 : 1 ≤ s) (hs2 : s ≤ 999) (hk : KD P) (hag : AG L f1 f2 f3 f4) {p c gA gB : Nat} (p6 : p < 6) (c6 : c < 6) (hn : ∀ w2, ST 0 G.2.2.1 w2 P L pr O mp mk → LR 44 G.2.2.1 w2 a0 a1 a2 a3 a4 f1 f2 f3 f4 → XJ G mL_areRight 21 gA gB 321 [(0, .ref a0), (1, .int (nI s)), (2, .int (nI (ln L))), (3, .ref a1), (4, .ref a2), (5, .ref a3), (6, .ref a4), (7, .int 1), (9, .int (nI p)), (10, .int (nI (dirN L pr s p (ln L)))), (11, .int (bI (plB P.2.1 L pr s p (ln L)))), (12, .int (nI c)), (13, .long (nL (allN L pr s p c (ln L))))] [] w2 Q) : ∀ (n : Nat) (l : Nat) (w1 : Wd), ln L - l < n → l ≤ ln L → ST 0 G.2.2.1 w1 P L pr O mp mk → LR 44 G.2.2.1 w1 a0 a1 a2 a3 a4 f1 f2 f3 f4 → XJ G mL_areRight 21 (6 * n + gA) (36 * n + gB) 254 [(0, .ref a0), (1, .int (nI s)), (2, .int (nI (ln L))), (3, .ref a1), (4, .ref a2), (5, .ref a3), (6, .ref a4), (7, .int 1), (9, .int (nI p)), (10, .int (nI (dirN L pr s p (ln L)))), (11, .int (bI (plB P.2.1 L pr s p (ln L)))), (12, .int (nI c)), (13, .long (nL (allN L pr s p c l))), (15, .int (nI l))] [] w1 (Q) := by
  intro n
  induction n with
  | zero => intro l w1 hm hl hS hR; exact absurd hm (Nat.not_lt_zero _)
  | succ n ih =>
    intro l w1 hm hl hS hR
    refine X_iload dL_areRight_254 (i := 15) rfl ?_
    refine X_iload_n dL_areRight_256 (i := 2) rfl rfl ?_
    refine X_icmp_ge (tgt := 321) dL_areRight_257 (by decide) (fun h257 => ?_) (fun h257 => ?_)
    · have h40 := hIP.2.2.1.1.2.1
      have el : l = ln L := ge6 (by omega) hl h257
      subst el
      exact XJ.less (by omega) (by omega) (XJ.lcs (lo' := [(0, .ref a0), (1, .int (nI s)), (2, .int (nI (ln L))), (3, .ref a1), (4, .ref a2), (5, .ref a3), (6, .ref a4), (7, .int 1), (9, .int (nI p)), (10, .int (nI (dirN L pr s p (ln L)))), (11, .int (bI (plB P.2.1 L pr s p (ln L)))), (12, .int (nI c)), (13, .long (nL (allN L pr s p c (ln L))))]) ⟨rfl, rfl, rfl, rfl, rfl, rfl, rfl, rfl, rfl, rfl, rfl, rfl, rfl, trivial⟩ (hn _ hS hR))
    · have h40 := hIP.2.2.1.1.2.1
      have ll : l < ln L := lt6 (by omega) hl h257
      have hb := hIP.2.2.1.1.2.2 l ll
      have h40 := hIP.2.2.1.1.2.1
      have hg := hag l ll
      refine X_lload dL_areRight_260 (i := 13) rfl ?_
      refine X_aload_n dL_areRight_262 (i := 3) rfl rfl ?_
      refine X_iload dL_areRight_263 (i := 15) rfl ?_
      refine X_iald (i := 39) hR.m1 hR.e1 rfl (by omega) (by decide) dL_areRight_265 ?_
      refine XJ.top (v' := .int (nI (pa L l))) (by rw [hg.1]) ?_
      refine X_iload dL_areRight_266 (i := 9) rfl ?_
      refine X_icmp_ne (tgt := 311) dL_areRight_268 (by decide) (fun h268 => ?_) (fun h268 => ?_)
      · have ho : (ownB L pr s p l && decide (p ≠ c)) = false := by rw [own_0 (fun e => h268 (by rw [e]))]; rfl
        have hx : allN L pr s p c (l + 1) = allN L pr s p c l + 0 := all_0 ho
        have hx2 : nL (allN L pr s p c l) + 0 = nL (allN L pr s p c (l + 1)) := by rw [hx, ← nL_add]; rfl
        refine X_lconst (v := 0) dL_areRight_311 rfl ?_
        refine X_ladd dL_areRight_312 ?_
        refine XJ.top (v' := .long (nL (allN L pr s p c (l + 1)))) (by rw [hx2]) ?_
        refine X_lstore (i := 13) (lo' := [(13, _), (0, _), (1, _), (2, _), (3, _), (4, _), (5, _), (6, _), (7, _), (9, _), (10, _), (11, _), (12, _), (15, _)]) dL_areRight_313 (by decide) rfl ?_
        refine X_iinc (i := 15) (v := nI (l + 1)) (lo' := [(15, _), (13, _), (0, _), (1, _), (2, _), (3, _), (4, _), (5, _), (6, _), (7, _), (9, _), (10, _), (11, _), (12, _)]) dL_areRight_315 rfl (nI_inc l) (by decide) rfl ?_
        refine X_goto (tgt := 254) dL_areRight_318 (by decide) ?_
        exact XJ.less (by omega) (by omega) (XJ.lcs (lo' := [(0, .ref a0), (1, .int (nI s)), (2, .int (nI (ln L))), (3, .ref a1), (4, .ref a2), (5, .ref a3), (6, .ref a4), (7, .int 1), (9, .int (nI p)), (10, .int (nI (dirN L pr s p (ln L)))), (11, .int (bI (plB P.2.1 L pr s p (ln L)))), (12, .int (nI c)), (13, .long (nL (allN L pr s p c (l + 1)))), (15, .int (nI (l + 1)))]) ⟨rfl, rfl, rfl, rfl, rfl, rfl, rfl, rfl, rfl, rfl, rfl, rfl, rfl, rfl, trivial⟩ (ih (l + 1) _ (by omega) (by omega) hS hR))
      · have ep : pa L l = p := (nI_eq (by have := hb.1; omega) (by omega)).mp h268
        refine X_iload dL_areRight_271 (i := 9) rfl ?_
        refine X_iload dL_areRight_273 (i := 12) rfl ?_
        refine X_icmp_eq (tgt := 311) dL_areRight_275 (by decide) (fun h275 => ?_) (fun h275 => ?_)
        · have ho : (ownB L pr s p l && decide (p ≠ c)) = false := by rw [decide_eq_false (fun h => h ((nI_eq (by omega) (by omega)).mp h275)), Bool.and_false]
          have hx : allN L pr s p c (l + 1) = allN L pr s p c l + 0 := all_0 ho
          have hx2 : nL (allN L pr s p c l) + 0 = nL (allN L pr s p c (l + 1)) := by rw [hx, ← nL_add]; rfl
          refine X_lconst (v := 0) dL_areRight_311 rfl ?_
          refine X_ladd dL_areRight_312 ?_
          refine XJ.top (v' := .long (nL (allN L pr s p c (l + 1)))) (by rw [hx2]) ?_
          refine X_lstore (i := 13) (lo' := [(13, _), (0, _), (1, _), (2, _), (3, _), (4, _), (5, _), (6, _), (7, _), (9, _), (10, _), (11, _), (12, _), (15, _)]) dL_areRight_313 (by decide) rfl ?_
          refine X_iinc (i := 15) (v := nI (l + 1)) (lo' := [(15, _), (13, _), (0, _), (1, _), (2, _), (3, _), (4, _), (5, _), (6, _), (7, _), (9, _), (10, _), (11, _), (12, _)]) dL_areRight_315 rfl (nI_inc l) (by decide) rfl ?_
          refine X_goto (tgt := 254) dL_areRight_318 (by decide) ?_
          exact XJ.less (by omega) (by omega) (XJ.lcs (lo' := [(0, .ref a0), (1, .int (nI s)), (2, .int (nI (ln L))), (3, .ref a1), (4, .ref a2), (5, .ref a3), (6, .ref a4), (7, .int 1), (9, .int (nI p)), (10, .int (nI (dirN L pr s p (ln L)))), (11, .int (bI (plB P.2.1 L pr s p (ln L)))), (12, .int (nI c)), (13, .long (nL (allN L pr s p c (l + 1)))), (15, .int (nI (l + 1)))]) ⟨rfl, rfl, rfl, rfl, rfl, rfl, rfl, rfl, rfl, rfl, rfl, rfl, rfl, rfl, trivial⟩ (ih (l + 1) _ (by omega) (by omega) hS hR))
        · have npc : p ≠ c := fun e => h275 (by rw [e])
          refine X_aload_n dL_areRight_278 (i := 0) rfl rfl ?_
          refine X_iload dL_areRight_279 (i := 15) rfl ?_
          refine X_iload_n dL_areRight_281 (i := 1) rfl rfl ?_
          refine X_callSW (gc2 := (6 * n + 4 + gA)) (gs2 := (36 * n + 24 + gB)) (q_holds hR.e0 hS hIP ll hs1 hs2) kmL_holds rfl lL_176 sL_holds rfl rfl (Nat.le_of_ble_eq_true rfl) (by decide) dL_areRight_282 (by omega) (by omega) (fun E w1 hq => nomatch hq.1) (fun v w1 hq => ?_)
          have hvv := hq.1
          have hS := hq.2.1
          have hR := hR.fx hq.2.2
          cases hvv
          refine X_iconst (v := 1) dL_areRight_285 (by decide) ?_
          refine X_icmp_ne (tgt := 311) dL_areRight_286 (by decide) (fun h286 => ?_) (fun h286 => ?_)
          · have ho : (ownB L pr s p l && decide (p ≠ c)) = false := by rw [own_h (bI_ne1 h286)]; rfl
            have hx : allN L pr s p c (l + 1) = allN L pr s p c l + 0 := all_0 ho
            have hx2 : nL (allN L pr s p c l) + 0 = nL (allN L pr s p c (l + 1)) := by rw [hx, ← nL_add]; rfl
            refine X_lconst (v := 0) dL_areRight_311 rfl ?_
            refine X_ladd dL_areRight_312 ?_
            refine XJ.top (v' := .long (nL (allN L pr s p c (l + 1)))) (by rw [hx2]) ?_
            refine X_lstore (i := 13) (lo' := [(13, _), (0, _), (1, _), (2, _), (3, _), (4, _), (5, _), (6, _), (7, _), (9, _), (10, _), (11, _), (12, _), (15, _)]) dL_areRight_313 (by decide) rfl ?_
            refine X_iinc (i := 15) (v := nI (l + 1)) (lo' := [(15, _), (13, _), (0, _), (1, _), (2, _), (3, _), (4, _), (5, _), (6, _), (7, _), (9, _), (10, _), (11, _), (12, _)]) dL_areRight_315 rfl (nI_inc l) (by decide) rfl ?_
            refine X_goto (tgt := 254) dL_areRight_318 (by decide) ?_
            exact XJ.less (by omega) (by omega) (XJ.lcs (lo' := [(0, .ref a0), (1, .int (nI s)), (2, .int (nI (ln L))), (3, .ref a1), (4, .ref a2), (5, .ref a3), (6, .ref a4), (7, .int 1), (9, .int (nI p)), (10, .int (nI (dirN L pr s p (ln L)))), (11, .int (bI (plB P.2.1 L pr s p (ln L)))), (12, .int (nI c)), (13, .long (nL (allN L pr s p c (l + 1)))), (15, .int (nI (l + 1)))]) ⟨rfl, rfl, rfl, rfl, rfl, rfl, rfl, rfl, rfl, rfl, rfl, rfl, rfl, rfl, trivial⟩ (ih (l + 1) _ (by omega) (by omega) hS hR))
          · have ho : ownB L pr s p l = true := own_1 ep (bI_eq1 h286)
            have hx := all_1 (c := c) ho npc
            have hx2 : nL (allN L pr s p c l) + nL (qt L l * hasN L pr s 5 (ch L l) c) = nL (allN L pr s p c (l + 1)) := by rw [hx, nL_add]
            refine X_aload dL_areRight_289 (i := 6) rfl ?_
            refine X_iload dL_areRight_291 (i := 15) rfl ?_
            refine X_iald (i := 42) hR.m4 hR.e4 rfl (by omega) (by decide) dL_areRight_293 ?_
            refine XJ.top (v' := .int (nI (qt L l))) (by rw [hg.2.2.2]) ?_
            refine X_i2l dL_areRight_294 rfl ?_
            refine XJ.top (v' := .long (nL (qt L l))) (by rw [nL_i2l (by have := hb.2.2.2.1; omega)]) ?_
            refine X_aload_n dL_areRight_295 (i := 0) rfl rfl ?_
            refine X_aload dL_areRight_296 (i := 5) rfl ?_
            refine X_iload dL_areRight_298 (i := 15) rfl ?_
            refine X_iald (i := 41) hR.m3 hR.e3 rfl (by omega) (by decide) dL_areRight_300 ?_
            refine XJ.top (v' := .int (nI (ch L l))) (by rw [hg.2.2.1]) ?_
            refine X_iload dL_areRight_301 (i := 12) rfl ?_
            refine X_iload_n dL_areRight_303 (i := 1) rfl rfl ?_
            refine X_callSW (gc2 := (6 * n + gA)) (gs2 := (36 * n + gB)) (q_quantity hR.e0 hS hIP h6 (by have := hb.2.2.1; omega) c6 hs1 hs2) kmL_quantity rfl lL_167 sL_quantity rfl rfl (Nat.le_of_ble_eq_true rfl) (by decide) dL_areRight_304 (by omega) (by omega) (fun E w1 hq => nomatch hq.1) (fun v w1 hq => ?_)
            have hvv := hq.1
            have hS := hq.2.1
            have hR := hR.fx hq.2.2
            cases hvv
            refine X_lmul dL_areRight_307 ?_
            refine XJ.top (v' := .long (nL (qt L l * hasN L pr s 5 (ch L l) c))) (by rw [nL_mul]) ?_
            refine X_goto (tgt := 312) dL_areRight_308 (by decide) ?_
            refine X_ladd dL_areRight_312 ?_
            refine XJ.top (v' := .long (nL (allN L pr s p c (l + 1)))) (by rw [hx2]) ?_
            refine X_lstore (i := 13) (lo' := [(13, _), (0, _), (1, _), (2, _), (3, _), (4, _), (5, _), (6, _), (7, _), (9, _), (10, _), (11, _), (12, _), (15, _)]) dL_areRight_313 (by decide) rfl ?_
            refine X_iinc (i := 15) (v := nI (l + 1)) (lo' := [(15, _), (13, _), (0, _), (1, _), (2, _), (3, _), (4, _), (5, _), (6, _), (7, _), (9, _), (10, _), (11, _), (12, _)]) dL_areRight_315 rfl (nI_inc l) (by decide) rfl ?_
            refine X_goto (tgt := 254) dL_areRight_318 (by decide) ?_
            exact XJ.less (by omega) (by omega) (XJ.lcs (lo' := [(0, .ref a0), (1, .int (nI s)), (2, .int (nI (ln L))), (3, .ref a1), (4, .ref a2), (5, .ref a3), (6, .ref a4), (7, .int 1), (9, .int (nI p)), (10, .int (nI (dirN L pr s p (ln L)))), (11, .int (bI (plB P.2.1 L pr s p (ln L)))), (12, .int (nI c)), (13, .long (nL (allN L pr s p c (l + 1)))), (15, .int (nI (l + 1)))]) ⟨rfl, rfl, rfl, rfl, rfl, rfl, rfl, rfl, rfl, rfl, rfl, rfl, rfl, rfl, trivial⟩ (ih (l + 1) _ (by omega) (by omega) hS hR))
set_option maxRecDepth 20000 in
theorem r_q {P : PSt} {L : LSt} {pr : Nat → Nat} {O : OSt} {mp : Nat} {mk : Nat → UInt32} {a0 a1 a2 a3 a4 s : Nat} {f1 f2 f3 f4 : Nat → Int32} (hIP : IP P L pr O mp mk []) (h6 : P.1 = 6) (hs1 : 1 ≤ s) (hs2 : s ≤ 999) (hk : KD P) (hag : AG L f1 f2 f3 f4) {p gA gB : Nat} (p6 : p < 6) (hn : ∀ w2, ST 0 G.2.2.1 w2 P L pr O mp mk → LR 44 G.2.2.1 w2 a0 a1 a2 a3 a4 f1 f2 f3 f4 → XJ G mL_areRight 21 gA gB 367 [(0, .ref a0), (1, .int (nI s)), (2, .int (nI (ln L))), (3, .ref a1), (4, .ref a2), (5, .ref a3), (6, .ref a4), (7, .int 1), (9, .int (nI p)), (10, .int (nI (dirN L pr s p (ln L)))), (11, .int (bI (plB P.2.1 L pr s p (ln L))))] [] w2 Q) : ∀ (n : Nat) (c : Nat) (w1 : Wd), 6 - c < n → c ≤ 6 → ST 0 G.2.2.1 w1 P L pr O mp mk → LR 44 G.2.2.1 w1 a0 a1 a2 a3 a4 f1 f2 f3 f4 → XJ G mL_areRight 21 (254 * n + gA) (1524 * n + gB) 230 [(0, .ref a0), (1, .int (nI s)), (2, .int (nI (ln L))), (3, .ref a1), (4, .ref a2), (5, .ref a3), (6, .ref a4), (7, .int 1), (9, .int (nI p)), (10, .int (nI (dirN L pr s p (ln L)))), (11, .int (bI (plB P.2.1 L pr s p (ln L)))), (12, .int (nI c))] [] w1 (Q) := by
  intro n
  induction n with
  | zero => intro c w1 hm hc hS hR; exact absurd hm (Nat.not_lt_zero _)
  | succ n ih =>
    intro c w1 hm hc hS hR
    refine X_iload dL_areRight_230 (i := 12) rfl ?_
    refine X_bipush (v := 6) dL_areRight_232 (by decide) ?_
    refine X_icmp_ge (tgt := 367) dL_areRight_234 (by decide) (fun h234 => ?_) (fun h234 => ?_)
    · have e6 : c = 6 := ge6 (by decide) hc h234
      subst e6
      exact XJ.less (by omega) (by omega) (XJ.lcs (lo' := [(0, .ref a0), (1, .int (nI s)), (2, .int (nI (ln L))), (3, .ref a1), (4, .ref a2), (5, .ref a3), (6, .ref a4), (7, .int 1), (9, .int (nI p)), (10, .int (nI (dirN L pr s p (ln L)))), (11, .int (bI (plB P.2.1 L pr s p (ln L))))]) ⟨rfl, rfl, rfl, rfl, rfl, rfl, rfl, rfl, rfl, rfl, rfl, trivial⟩ (hn _ hS hR))
    · have c6 : c < 6 := lt6 (by decide) hc h234
      refine X_iload dL_areRight_237 (i := 9) rfl ?_
      refine X_iload dL_areRight_239 (i := 12) rfl ?_
      refine X_icmp_ne (tgt := 248) dL_areRight_241 (by decide) (fun h241 => ?_) (fun h241 => ?_)
      · have e0 : (if p = c then 1 else 0) = 0 := if_neg (fun e => h241 (by rw [e]))
        refine X_lconst (v := 0) dL_areRight_248 rfl ?_
        refine XJ.top (v' := .long (nL (allN L pr s p c 0))) (by rw [allN, e0]; rfl) ?_
        refine X_lstore (i := 13) (lo' := [(13, _), (0, _), (1, _), (2, _), (3, _), (4, _), (5, _), (6, _), (7, _), (9, _), (10, _), (11, _), (12, _)]) dL_areRight_249 (by decide) rfl ?_
        refine X_iconst (v := 0) dL_areRight_251 (by decide) ?_
        refine X_istore (i := 15) (lo' := [(15, _), (13, _), (0, _), (1, _), (2, _), (3, _), (4, _), (5, _), (6, _), (7, _), (9, _), (10, _), (11, _), (12, _)]) dL_areRight_252 (by decide) rfl ?_
        refine XJ.less (gc' := 6 * 41 + (254 * n + 8 + gA)) (gs' := 36 * 41 + (1524 * n + 48 + gB)) (by omega) (by omega) (XJ.lcs (lo' := [(0, .ref a0), (1, .int (nI s)), (2, .int (nI (ln L))), (3, .ref a1), (4, .ref a2), (5, .ref a3), (6, .ref a4), (7, .int 1), (9, .int (nI p)), (10, .int (nI (dirN L pr s p (ln L)))), (11, .int (bI (plB P.2.1 L pr s p (ln L)))), (12, .int (nI c)), (13, .long (nL (allN L pr s p c 0))), (15, .int (nI 0))]) ⟨rfl, rfl, rfl, rfl, rfl, rfl, rfl, rfl, rfl, rfl, rfl, rfl, rfl, rfl, trivial⟩ (r_al hIP h6 hs1 hs2 hk hag p6 c6 (fun w2 hS hR => ?_) 41 0 _ (by have := hIP.2.2.1.1.2.1; omega) (Nat.zero_le _) hS hR))
        have ea : allN L pr s p c (ln L) = hasN L pr s 5 p c := all_has hIP.2.2.1.1 hIP.2.2.1.2.1 hIP.2.2.1.2.2
        refine X_iload dL_areRight_321 (i := 7) rfl ?_
        refine X_aload_n dL_areRight_323 (i := 0) rfl rfl ?_
        refine X_iload dL_areRight_324 (i := 9) rfl ?_
        refine X_iload dL_areRight_326 (i := 12) rfl ?_
        refine X_iload_n dL_areRight_328 (i := 1) rfl rfl ?_
        refine X_callSW (gc2 := (254 * n + 4 + gA)) (gs2 := (1524 * n + 24 + gB)) (q_quantity hR.e0 hS hIP h6 p6 c6 hs1 hs2) kmL_quantity rfl lL_167 sL_quantity rfl rfl (Nat.le_of_ble_eq_true rfl) (by decide) dL_areRight_329 (by omega) (by omega) (fun E w1 hq => nomatch hq.1) (fun v w1 hq => ?_)
        have hvv := hq.1
        have hS := hq.2.1
        have hR := hR.fx hq.2.2
        cases hvv
        refine X_lload dL_areRight_332 (i := 13) rfl ?_
        refine XJ.top (v' := .long (nL (hasN L pr s 5 p c))) (by rw [ea]) ?_
        refine X_lcmp dL_areRight_334 ?_
        refine X_if_ne (tgt := 357) dL_areRight_335 (by decide) (fun h335 => ?_) (fun h335 => ?_)
        · exact absurd (lcmp_s _) h335
        · refine X_aload_n dL_areRight_338 (i := 0) rfl rfl ?_
          refine X_iload dL_areRight_339 (i := 9) rfl ?_
          refine X_iload dL_areRight_341 (i := 12) rfl ?_
          refine X_iload_n dL_areRight_343 (i := 1) rfl rfl ?_
          refine X_callSW (gc2 := (254 * n + gA)) (gs2 := (1524 * n + gB)) (q_quantityByWalking hR.e0 hS hIP h6 p6 c6 hs1 hs2) kmL_quantityByWalking rfl lL_234 sL_quantityByWalking rfl rfl (Nat.le_of_ble_eq_true rfl) (by decide) dL_areRight_344 (by omega) (by omega) (fun E w1 hq => nomatch hq.1) (fun v w1 hq => ?_)
          have hvv := hq.1
          have hS := hq.2.1
          have hR := hR.fx hq.2.2
          cases hvv
          refine X_lload dL_areRight_347 (i := 13) rfl ?_
          refine XJ.top (v' := .long (nL (hasN L pr s 5 p c))) (by rw [ea]) ?_
          refine X_lcmp dL_areRight_349 ?_
          refine X_if_ne (tgt := 357) dL_areRight_350 (by decide) (fun h350 => ?_) (fun h350 => ?_)
          · exact absurd (lcmp_s _) h350
          · refine X_iconst (v := 1) dL_areRight_353 (by decide) ?_
            refine X_goto (tgt := 358) dL_areRight_354 (by decide) ?_
            refine X_iand dL_areRight_358 ?_
            refine XJ.top (v' := .int 1) (by decide) ?_
            refine X_istore (i := 7) (lo' := [(7, _), (0, _), (1, _), (2, _), (3, _), (4, _), (5, _), (6, _), (9, _), (10, _), (11, _), (12, _), (13, _)]) dL_areRight_359 (by decide) rfl ?_
            refine X_iinc (i := 12) (v := nI (c + 1)) (lo' := [(12, _), (7, _), (0, _), (1, _), (2, _), (3, _), (4, _), (5, _), (6, _), (9, _), (10, _), (11, _), (13, _)]) dL_areRight_361 rfl (nI_inc c) (by decide) rfl ?_
            refine X_goto (tgt := 230) dL_areRight_364 (by decide) ?_
            exact XJ.less (by omega) (by omega) (XJ.lcs (lo' := [(0, .ref a0), (1, .int (nI s)), (2, .int (nI (ln L))), (3, .ref a1), (4, .ref a2), (5, .ref a3), (6, .ref a4), (7, .int 1), (9, .int (nI p)), (10, .int (nI (dirN L pr s p (ln L)))), (11, .int (bI (plB P.2.1 L pr s p (ln L)))), (12, .int (nI (c + 1)))]) ⟨rfl, rfl, rfl, rfl, rfl, rfl, rfl, rfl, rfl, rfl, rfl, rfl, trivial⟩ (ih (c + 1) _ (by omega) (by omega) hS hR))
      · have e0 : (if p = c then 1 else 0) = 1 := if_pos ((nI_eq (by omega) (by omega)).mp h241)
        refine X_lconst (v := 1) dL_areRight_244 rfl ?_
        refine XJ.top (v' := .long (nL (allN L pr s p c 0))) (by rw [allN, e0]; rfl) ?_
        refine X_goto (tgt := 249) dL_areRight_245 (by decide) ?_
        refine X_lstore (i := 13) (lo' := [(13, _), (0, _), (1, _), (2, _), (3, _), (4, _), (5, _), (6, _), (7, _), (9, _), (10, _), (11, _), (12, _)]) dL_areRight_249 (by decide) rfl ?_
        refine X_iconst (v := 0) dL_areRight_251 (by decide) ?_
        refine X_istore (i := 15) (lo' := [(15, _), (13, _), (0, _), (1, _), (2, _), (3, _), (4, _), (5, _), (6, _), (7, _), (9, _), (10, _), (11, _), (12, _)]) dL_areRight_252 (by decide) rfl ?_
        refine XJ.less (gc' := 6 * 41 + (254 * n + 8 + gA)) (gs' := 36 * 41 + (1524 * n + 48 + gB)) (by omega) (by omega) (XJ.lcs (lo' := [(0, .ref a0), (1, .int (nI s)), (2, .int (nI (ln L))), (3, .ref a1), (4, .ref a2), (5, .ref a3), (6, .ref a4), (7, .int 1), (9, .int (nI p)), (10, .int (nI (dirN L pr s p (ln L)))), (11, .int (bI (plB P.2.1 L pr s p (ln L)))), (12, .int (nI c)), (13, .long (nL (allN L pr s p c 0))), (15, .int (nI 0))]) ⟨rfl, rfl, rfl, rfl, rfl, rfl, rfl, rfl, rfl, rfl, rfl, rfl, rfl, rfl, trivial⟩ (r_al hIP h6 hs1 hs2 hk hag p6 c6 (fun w2 hS hR => ?_) 41 0 _ (by have := hIP.2.2.1.1.2.1; omega) (Nat.zero_le _) hS hR))
        have ea : allN L pr s p c (ln L) = hasN L pr s 5 p c := all_has hIP.2.2.1.1 hIP.2.2.1.2.1 hIP.2.2.1.2.2
        refine X_iload dL_areRight_321 (i := 7) rfl ?_
        refine X_aload_n dL_areRight_323 (i := 0) rfl rfl ?_
        refine X_iload dL_areRight_324 (i := 9) rfl ?_
        refine X_iload dL_areRight_326 (i := 12) rfl ?_
        refine X_iload_n dL_areRight_328 (i := 1) rfl rfl ?_
        refine X_callSW (gc2 := (254 * n + 4 + gA)) (gs2 := (1524 * n + 24 + gB)) (q_quantity hR.e0 hS hIP h6 p6 c6 hs1 hs2) kmL_quantity rfl lL_167 sL_quantity rfl rfl (Nat.le_of_ble_eq_true rfl) (by decide) dL_areRight_329 (by omega) (by omega) (fun E w1 hq => nomatch hq.1) (fun v w1 hq => ?_)
        have hvv := hq.1
        have hS := hq.2.1
        have hR := hR.fx hq.2.2
        cases hvv
        refine X_lload dL_areRight_332 (i := 13) rfl ?_
        refine XJ.top (v' := .long (nL (hasN L pr s 5 p c))) (by rw [ea]) ?_
        refine X_lcmp dL_areRight_334 ?_
        refine X_if_ne (tgt := 357) dL_areRight_335 (by decide) (fun h335 => ?_) (fun h335 => ?_)
        · exact absurd (lcmp_s _) h335
        · refine X_aload_n dL_areRight_338 (i := 0) rfl rfl ?_
          refine X_iload dL_areRight_339 (i := 9) rfl ?_
          refine X_iload dL_areRight_341 (i := 12) rfl ?_
          refine X_iload_n dL_areRight_343 (i := 1) rfl rfl ?_
          refine X_callSW (gc2 := (254 * n + gA)) (gs2 := (1524 * n + gB)) (q_quantityByWalking hR.e0 hS hIP h6 p6 c6 hs1 hs2) kmL_quantityByWalking rfl lL_234 sL_quantityByWalking rfl rfl (Nat.le_of_ble_eq_true rfl) (by decide) dL_areRight_344 (by omega) (by omega) (fun E w1 hq => nomatch hq.1) (fun v w1 hq => ?_)
          have hvv := hq.1
          have hS := hq.2.1
          have hR := hR.fx hq.2.2
          cases hvv
          refine X_lload dL_areRight_347 (i := 13) rfl ?_
          refine XJ.top (v' := .long (nL (hasN L pr s 5 p c))) (by rw [ea]) ?_
          refine X_lcmp dL_areRight_349 ?_
          refine X_if_ne (tgt := 357) dL_areRight_350 (by decide) (fun h350 => ?_) (fun h350 => ?_)
          · exact absurd (lcmp_s _) h350
          · refine X_iconst (v := 1) dL_areRight_353 (by decide) ?_
            refine X_goto (tgt := 358) dL_areRight_354 (by decide) ?_
            refine X_iand dL_areRight_358 ?_
            refine XJ.top (v' := .int 1) (by decide) ?_
            refine X_istore (i := 7) (lo' := [(7, _), (0, _), (1, _), (2, _), (3, _), (4, _), (5, _), (6, _), (9, _), (10, _), (11, _), (12, _), (13, _)]) dL_areRight_359 (by decide) rfl ?_
            refine X_iinc (i := 12) (v := nI (c + 1)) (lo' := [(12, _), (7, _), (0, _), (1, _), (2, _), (3, _), (4, _), (5, _), (6, _), (9, _), (10, _), (11, _), (13, _)]) dL_areRight_361 rfl (nI_inc c) (by decide) rfl ?_
            refine X_goto (tgt := 230) dL_areRight_364 (by decide) ?_
            exact XJ.less (by omega) (by omega) (XJ.lcs (lo' := [(0, .ref a0), (1, .int (nI s)), (2, .int (nI (ln L))), (3, .ref a1), (4, .ref a2), (5, .ref a3), (6, .ref a4), (7, .int 1), (9, .int (nI p)), (10, .int (nI (dirN L pr s p (ln L)))), (11, .int (bI (plB P.2.1 L pr s p (ln L)))), (12, .int (nI (c + 1)))]) ⟨rfl, rfl, rfl, rfl, rfl, rfl, rfl, rfl, rfl, rfl, rfl, rfl, trivial⟩ (ih (c + 1) _ (by omega) (by omega) hS hR))
set_option maxRecDepth 20000 in
theorem r_B {P : PSt} {L : LSt} {pr : Nat → Nat} {O : OSt} {mp : Nat} {mk : Nat → UInt32} {a0 a1 a2 a3 a4 s : Nat} {f1 f2 f3 f4 : Nat → Int32} (hIP : IP P L pr O mp mk []) (h6 : P.1 = 6) (hs1 : 1 ≤ s) (hs2 : s ≤ 999) (hk : KD P) (hag : AG L f1 f2 f3 f4) {p gA gB : Nat} (p6 : p < 6) (hn : ∀ w2, ST 0 G.2.2.1 w2 P L pr O mp mk → LR 44 G.2.2.1 w2 a0 a1 a2 a3 a4 f1 f2 f3 f4 → XJ G mL_areRight 21 gA gB 562 [(0, .ref a0), (1, .int (nI s)), (2, .int (nI (ln L))), (3, .ref a1), (4, .ref a2), (5, .ref a3), (6, .ref a4), (7, .int 1), (9, .int (nI p))] [] w2 Q) {w1 : Wd} (hS : ST 0 G.2.2.1 w1 P L pr O mp mk) (hR : LR 44 G.2.2.1 w1 a0 a1 a2 a3 a4 f1 f2 f3 f4) : XJ G mL_areRight 21 (27 + gA) (162 + gB) 454 [(0, .ref a0), (1, .int (nI s)), (2, .int (nI (ln L))), (3, .ref a1), (4, .ref a2), (5, .ref a3), (6, .ref a4), (7, .int 1), (9, .int (nI p)), (10, .int (nI (dirN L pr s p (ln L)))), (11, .int (bI (plB P.2.1 L pr s p (ln L)))), (12, .int (dstV (dstF L pr s p (mrF L (priF P L pr s 5)) 6)))] [.int 1] w1 (Q) := by
  rcases opt_ns (dstF L pr s p (mrF L (priF P L pr s 5)) 6) with hd | ⟨b, hd⟩
  · refine X_aload_n dL_areRight_454 (i := 0) rfl rfl ?_
    refine X_iload dL_areRight_455 (i := 9) rfl ?_
    refine X_iload_n dL_areRight_457 (i := 1) rfl rfl ?_
    refine X_callSW (gc2 := (24 + gA)) (gs2 := (144 + gB)) (q_costBits hR.e0 hS hIP h6 p6 hs1 hs2) kmL_costBits rfl lL_217 sL_costBits rfl rfl (Nat.le_of_ble_eq_true rfl) (by decide) dL_areRight_458 (by omega) (by omega) (fun E w1 hq => nomatch hq.1) (fun v w1 hq => ?_)
    have hvv := hq.1
    have hS := hq.2.1
    have hR := hR.fx hq.2.2
    cases hvv
    refine X_aload_n dL_areRight_461 (i := 0) rfl rfl ?_
    refine X_iload dL_areRight_462 (i := 9) rfl ?_
    refine X_iload_n dL_areRight_464 (i := 1) rfl rfl ?_
    refine X_callSW (gc2 := (21 + gA)) (gs2 := (126 + gB)) (q_costByWalking hR.e0 hS hIP h6 p6 hs1 hs2) kmL_costByWalking rfl lL_236 sL_costByWalking rfl rfl (Nat.le_of_ble_eq_true rfl) (by decide) dL_areRight_465 (by omega) (by omega) (fun E w1 hq => nomatch hq.1) (fun v w1 hq => ?_)
    have hvv := hq.1
    have hS := hq.2.1
    have hR := hR.fx hq.2.2
    cases hvv
    refine X_callS (gc2 := 21 + gA) (gs2 := 126 + gB) (j_fbits _ (z_nn (pri5_z hIP.2.2.1.1 rfl hIP.1 (by omega)) (by decide))) kmJxf58ca_floatToIntBits_5c35a rfl lL_238 sJxf58ca_floatToIntBits_5c35a rfl rfl (Nat.le_of_ble_eq_true rfl) (by decide) dL_areRight_468 (by omega) (by omega) (fun E w1 hq => nomatch hq.1) (fun v w1 hq => ?_)
    have hv := hq.1
    obtain rfl := hq.2.symm
    cases hv
    refine X_icmp_ne (tgt := 558) dL_areRight_471 (by decide) (fun h471 => ?_) (fun h471 => ?_)
    · exact absurd rfl h471
    refine X_aload_n dL_areRight_474 (i := 0) rfl rfl ?_
    refine X_iload dL_areRight_475 (i := 9) rfl ?_
    refine X_iload_n dL_areRight_477 (i := 1) rfl rfl ?_
    refine X_callSW (gc2 := (18 + gA)) (gs2 := (108 + gB)) (q_cost hR.e0 hS hIP h6 p6 hs1 hs2) kmL_cost rfl lL_244 sL_cost rfl rfl (Nat.le_of_ble_eq_true rfl) (by decide) dL_areRight_478 (by omega) (by omega) (fun E w1 hq => nomatch hq.1) (fun v w1 hq => ?_)
    have hvv := hq.1
    have hS := hq.2.1
    have hR := hR.fx hq.2.2
    cases hvv
    refine X_fconst0 dL_areRight_481 ?_
    refine X_fcmp dL_areRight_482 ?_
    refine X_if_lt (tgt := 558) dL_areRight_483 (by decide) (fun h483 => ?_) (fun h483 => ?_)
    · exact absurd h483 (fcmp_ge (lo := 120) (hi := 234) (pri5_z hIP.2.2.1.1 rfl hIP.1 (by omega)) (Or.inl rfl) (by decide) (by decide) (Nat.zero_le _))
    refine X_iload dL_areRight_486 (i := 12) rfl ?_
    refine X_if_lt (tgt := 512) dL_areRight_488 (by decide) (fun h488 => ?_) (fun h488 => ?_)
    rotate_left
    · exact absurd (by rw [hd]; decide) h488
    refine X_aload_n dL_areRight_512 (i := 0) rfl rfl ?_
    refine X_iload dL_areRight_513 (i := 9) rfl ?_
    refine X_iload_n dL_areRight_515 (i := 1) rfl rfl ?_
    refine X_callSW (gc2 := (15 + gA)) (gs2 := (90 + gB)) (q_costCents hR.e0 hS hIP h6 p6 hs1 hs2) kmL_costCents rfl lL_246 sL_costCents rfl rfl (Nat.le_of_ble_eq_true rfl) (by decide) dL_areRight_516 (by omega) (by omega) (fun E w1 hq => nomatch hq.1) (fun v w1 hq => ?_)
    have hvv := hq.1
    have hS := hq.2.1
    have hR := hR.fx hq.2.2
    cases hvv
    refine X_aload_n dL_areRight_519 (i := 0) rfl rfl ?_
    refine X_iload dL_areRight_520 (i := 9) rfl ?_
    refine X_iload_n dL_areRight_522 (i := 1) rfl rfl ?_
    refine X_callSW (gc2 := (12 + gA)) (gs2 := (72 + gB)) (q_cost hR.e0 hS hIP h6 p6 hs1 hs2) kmL_cost rfl lL_244 sL_cost rfl rfl (Nat.le_of_ble_eq_true rfl) (by decide) dL_areRight_523 (by omega) (by omega) (fun E w1 hq => nomatch hq.1) (fun v w1 hq => ?_)
    have hvv := hq.1
    have hS := hq.2.1
    have hR := hR.fx hq.2.2
    cases hvv
    refine X_ldcf dL_areRight_526 kL_248 ?_
    refine X_fmul dL_areRight_528 (cents_nn (pri5_z hIP.2.2.1.1 rfl hIP.1 (by omega))) ?_
    refine X_f2i dL_areRight_529 ?_
    refine X_icmp_ne (tgt := 558) dL_areRight_530 (by decide) (fun h530 => ?_) (fun h530 => ?_)
    · exact absurd rfl h530
    refine X_aload_n dL_areRight_533 (i := 0) rfl rfl ?_
    refine X_iload dL_areRight_534 (i := 9) rfl ?_
    refine X_iload_n dL_areRight_536 (i := 1) rfl rfl ?_
    refine X_callSW (gc2 := (9 + gA)) (gs2 := (54 + gB)) (q_weightBits hR.e0 hS hIP h6 p6 hs1 hs2) kmL_weightBits rfl lL_221 sL_weightBits rfl rfl (Nat.le_of_ble_eq_true rfl) (by decide) dL_areRight_537 (by omega) (by omega) (fun E w1 hq => nomatch hq.1) (fun v w1 hq => ?_)
    have hvv := hq.1
    have hS := hq.2.1
    have hR := hR.fx hq.2.2
    cases hvv
    refine X_aload_n dL_areRight_540 (i := 0) rfl rfl ?_
    refine X_iload dL_areRight_541 (i := 9) rfl ?_
    refine X_iload_n dL_areRight_543 (i := 1) rfl rfl ?_
    refine X_callSW (gc2 := (6 + gA)) (gs2 := (36 + gB)) (q_weight hR.e0 hS hIP h6 p6 hs1 hs2) kmL_weight rfl lL_249 sL_weight rfl rfl (Nat.le_of_ble_eq_true rfl) (by decide) dL_areRight_544 (by omega) (by omega) (fun E w1 hq => nomatch hq.1) (fun v w1 hq => ?_)
    have hvv := hq.1
    have hS := hq.2.1
    have hR := hR.fx hq.2.2
    cases hvv
    refine X_callS (gc2 := 6 + gA) (gs2 := 36 + gB) (j_dbits _ (z_nnd (mas5_z hIP.2.2.1.1 rfl hIP.1 (by omega)) (by decide))) kmJxe99ae_doubleToLongBits_ccdee rfl lL_252 sJxe99ae_doubleToLongBits_ccdee rfl rfl (Nat.le_of_ble_eq_true rfl) (by decide) dL_areRight_547 (by omega) (by omega) (fun E w1 hq => nomatch hq.1) (fun v w1 hq => ?_)
    have hv := hq.1
    obtain rfl := hq.2.symm
    cases hv
    refine X_lcmp dL_areRight_550 ?_
    refine X_if_ne (tgt := 558) dL_areRight_551 (by decide) (fun h551 => ?_) (fun h551 => ?_)
    · exact absurd (lcmp_s _) h551
    refine X_iconst (v := 1) dL_areRight_554 (by decide) ?_
    refine X_goto (tgt := 559) dL_areRight_555 (by decide) ?_
    refine X_iand dL_areRight_559 ?_
    refine XJ.top (v' := .int 1) (by decide) ?_
    refine X_istore (i := 7) (lo' := [(7, _), (0, _), (1, _), (2, _), (3, _), (4, _), (5, _), (6, _), (9, _), (10, _), (11, _), (12, _)]) dL_areRight_560 (by decide) rfl ?_
    exact XJ.less (by omega) (by omega) (XJ.lcs (lo' := [(0, .ref a0), (1, .int (nI s)), (2, .int (nI (ln L))), (3, .ref a1), (4, .ref a2), (5, .ref a3), (6, .ref a4), (7, .int 1), (9, .int (nI p))]) ⟨rfl, rfl, rfl, rfl, rfl, rfl, rfl, rfl, rfl, trivial⟩ (hn _ hS hR))
  · have ho := dst_own 6 b hd
    have hb := hIP.2.2.1.1.2.2 b ho.1
    have h40 := hIP.2.2.1.1.2.1
    have hg := hag b ho.1
    have c6 : ch L b < 6 := by have := hb.2.2.1; omega
    have hpc := pri_child (pr := pr) (s := s) hIP.2.2.1.1 hIP.2.2.1.2.1 hIP.2.2.1.2.2 (fun p hp => (hIP.1.2 p hp).2.1) (by omega) ho.1 ho.2.1 ho.2.2
    refine X_aload_n dL_areRight_454 (i := 0) rfl rfl ?_
    refine X_iload dL_areRight_455 (i := 9) rfl ?_
    refine X_iload_n dL_areRight_457 (i := 1) rfl rfl ?_
    refine X_callSW (gc2 := (24 + gA)) (gs2 := (144 + gB)) (q_costBits hR.e0 hS hIP h6 p6 hs1 hs2) kmL_costBits rfl lL_217 sL_costBits rfl rfl (Nat.le_of_ble_eq_true rfl) (by decide) dL_areRight_458 (by omega) (by omega) (fun E w1 hq => nomatch hq.1) (fun v w1 hq => ?_)
    have hvv := hq.1
    have hS := hq.2.1
    have hR := hR.fx hq.2.2
    cases hvv
    refine X_aload_n dL_areRight_461 (i := 0) rfl rfl ?_
    refine X_iload dL_areRight_462 (i := 9) rfl ?_
    refine X_iload_n dL_areRight_464 (i := 1) rfl rfl ?_
    refine X_callSW (gc2 := (21 + gA)) (gs2 := (126 + gB)) (q_costByWalking hR.e0 hS hIP h6 p6 hs1 hs2) kmL_costByWalking rfl lL_236 sL_costByWalking rfl rfl (Nat.le_of_ble_eq_true rfl) (by decide) dL_areRight_465 (by omega) (by omega) (fun E w1 hq => nomatch hq.1) (fun v w1 hq => ?_)
    have hvv := hq.1
    have hS := hq.2.1
    have hR := hR.fx hq.2.2
    cases hvv
    refine X_callS (gc2 := 21 + gA) (gs2 := 126 + gB) (j_fbits _ (z_nn (pri5_z hIP.2.2.1.1 rfl hIP.1 (by omega)) (by decide))) kmJxf58ca_floatToIntBits_5c35a rfl lL_238 sJxf58ca_floatToIntBits_5c35a rfl rfl (Nat.le_of_ble_eq_true rfl) (by decide) dL_areRight_468 (by omega) (by omega) (fun E w1 hq => nomatch hq.1) (fun v w1 hq => ?_)
    have hv := hq.1
    obtain rfl := hq.2.symm
    cases hv
    refine X_icmp_ne (tgt := 558) dL_areRight_471 (by decide) (fun h471 => ?_) (fun h471 => ?_)
    · exact absurd rfl h471
    refine X_aload_n dL_areRight_474 (i := 0) rfl rfl ?_
    refine X_iload dL_areRight_475 (i := 9) rfl ?_
    refine X_iload_n dL_areRight_477 (i := 1) rfl rfl ?_
    refine X_callSW (gc2 := (18 + gA)) (gs2 := (108 + gB)) (q_cost hR.e0 hS hIP h6 p6 hs1 hs2) kmL_cost rfl lL_244 sL_cost rfl rfl (Nat.le_of_ble_eq_true rfl) (by decide) dL_areRight_478 (by omega) (by omega) (fun E w1 hq => nomatch hq.1) (fun v w1 hq => ?_)
    have hvv := hq.1
    have hS := hq.2.1
    have hR := hR.fx hq.2.2
    cases hvv
    refine X_fconst0 dL_areRight_481 ?_
    refine X_fcmp dL_areRight_482 ?_
    refine X_if_lt (tgt := 558) dL_areRight_483 (by decide) (fun h483 => ?_) (fun h483 => ?_)
    · exact absurd h483 (fcmp_ge (lo := 120) (hi := 234) (pri5_z hIP.2.2.1.1 rfl hIP.1 (by omega)) (Or.inl rfl) (by decide) (by decide) (Nat.zero_le _))
    refine X_iload dL_areRight_486 (i := 12) rfl ?_
    refine X_if_lt (tgt := 512) dL_areRight_488 (by decide) (fun h488 => ?_) (fun h488 => ?_)
    · exact absurd h488 (by rw [hd]; exact nI_pos (by omega))
    refine X_aload_n dL_areRight_491 (i := 0) rfl rfl ?_
    refine X_iload dL_areRight_492 (i := 9) rfl ?_
    refine X_iload_n dL_areRight_494 (i := 1) rfl rfl ?_
    refine X_callSW (gc2 := (15 + gA)) (gs2 := (90 + gB)) (q_cost hR.e0 hS hIP h6 p6 hs1 hs2) kmL_cost rfl lL_244 sL_cost rfl rfl (Nat.le_of_ble_eq_true rfl) (by decide) dL_areRight_495 (by omega) (by omega) (fun E w1 hq => nomatch hq.1) (fun v w1 hq => ?_)
    have hvv := hq.1
    have hS := hq.2.1
    have hR := hR.fx hq.2.2
    cases hvv
    refine X_aload_n dL_areRight_498 (i := 0) rfl rfl ?_
    refine X_aload dL_areRight_499 (i := 5) rfl ?_
    refine X_iload dL_areRight_501 (i := 12) rfl ?_
    refine X_iald (i := 41) hR.m3 hR.e3 (by rw [hd]; rfl) (by omega) (by decide) dL_areRight_503 ?_
    refine XJ.top (v' := .int (nI (ch L b))) (by rw [hg.2.2.1]) ?_
    refine X_iload_n dL_areRight_504 (i := 1) rfl rfl ?_
    refine X_callSW (gc2 := (12 + gA)) (gs2 := (72 + gB)) (q_cost hR.e0 hS hIP h6 c6 hs1 hs2) kmL_cost rfl lL_244 sL_cost rfl rfl (Nat.le_of_ble_eq_true rfl) (by decide) dL_areRight_505 (by omega) (by omega) (fun E w1 hq => nomatch hq.1) (fun v w1 hq => ?_)
    have hvv := hq.1
    have hS := hq.2.1
    have hR := hR.fx hq.2.2
    cases hvv
    refine X_fcmp dL_areRight_508 ?_
    refine X_if_lt (tgt := 558) dL_areRight_509 (by decide) (fun h509 => ?_) (fun h509 => ?_)
    · exact absurd h509 (fcmp_ge (lo := 120) (hi := 234) (pri5_z hIP.2.2.1.1 rfl hIP.1 (by omega)) (pri5_z hIP.2.2.1.1 rfl hIP.1 (by omega)) (by decide) (by decide) hpc)
    refine X_aload_n dL_areRight_512 (i := 0) rfl rfl ?_
    refine X_iload dL_areRight_513 (i := 9) rfl ?_
    refine X_iload_n dL_areRight_515 (i := 1) rfl rfl ?_
    refine X_callSW (gc2 := (9 + gA)) (gs2 := (54 + gB)) (q_costCents hR.e0 hS hIP h6 p6 hs1 hs2) kmL_costCents rfl lL_246 sL_costCents rfl rfl (Nat.le_of_ble_eq_true rfl) (by decide) dL_areRight_516 (by omega) (by omega) (fun E w1 hq => nomatch hq.1) (fun v w1 hq => ?_)
    have hvv := hq.1
    have hS := hq.2.1
    have hR := hR.fx hq.2.2
    cases hvv
    refine X_aload_n dL_areRight_519 (i := 0) rfl rfl ?_
    refine X_iload dL_areRight_520 (i := 9) rfl ?_
    refine X_iload_n dL_areRight_522 (i := 1) rfl rfl ?_
    refine X_callSW (gc2 := (6 + gA)) (gs2 := (36 + gB)) (q_cost hR.e0 hS hIP h6 p6 hs1 hs2) kmL_cost rfl lL_244 sL_cost rfl rfl (Nat.le_of_ble_eq_true rfl) (by decide) dL_areRight_523 (by omega) (by omega) (fun E w1 hq => nomatch hq.1) (fun v w1 hq => ?_)
    have hvv := hq.1
    have hS := hq.2.1
    have hR := hR.fx hq.2.2
    cases hvv
    refine X_ldcf dL_areRight_526 kL_248 ?_
    refine X_fmul dL_areRight_528 (cents_nn (pri5_z hIP.2.2.1.1 rfl hIP.1 (by omega))) ?_
    refine X_f2i dL_areRight_529 ?_
    refine X_icmp_ne (tgt := 558) dL_areRight_530 (by decide) (fun h530 => ?_) (fun h530 => ?_)
    · exact absurd rfl h530
    refine X_aload_n dL_areRight_533 (i := 0) rfl rfl ?_
    refine X_iload dL_areRight_534 (i := 9) rfl ?_
    refine X_iload_n dL_areRight_536 (i := 1) rfl rfl ?_
    refine X_callSW (gc2 := (3 + gA)) (gs2 := (18 + gB)) (q_weightBits hR.e0 hS hIP h6 p6 hs1 hs2) kmL_weightBits rfl lL_221 sL_weightBits rfl rfl (Nat.le_of_ble_eq_true rfl) (by decide) dL_areRight_537 (by omega) (by omega) (fun E w1 hq => nomatch hq.1) (fun v w1 hq => ?_)
    have hvv := hq.1
    have hS := hq.2.1
    have hR := hR.fx hq.2.2
    cases hvv
    refine X_aload_n dL_areRight_540 (i := 0) rfl rfl ?_
    refine X_iload dL_areRight_541 (i := 9) rfl ?_
    refine X_iload_n dL_areRight_543 (i := 1) rfl rfl ?_
    refine X_callSW (gc2 := (0 + gA)) (gs2 := (0 + gB)) (q_weight hR.e0 hS hIP h6 p6 hs1 hs2) kmL_weight rfl lL_249 sL_weight rfl rfl (Nat.le_of_ble_eq_true rfl) (by decide) dL_areRight_544 (by omega) (by omega) (fun E w1 hq => nomatch hq.1) (fun v w1 hq => ?_)
    have hvv := hq.1
    have hS := hq.2.1
    have hR := hR.fx hq.2.2
    cases hvv
    refine X_callS (gc2 := 0 + gA) (gs2 := 0 + gB) (j_dbits _ (z_nnd (mas5_z hIP.2.2.1.1 rfl hIP.1 (by omega)) (by decide))) kmJxe99ae_doubleToLongBits_ccdee rfl lL_252 sJxe99ae_doubleToLongBits_ccdee rfl rfl (Nat.le_of_ble_eq_true rfl) (by decide) dL_areRight_547 (by omega) (by omega) (fun E w1 hq => nomatch hq.1) (fun v w1 hq => ?_)
    have hv := hq.1
    obtain rfl := hq.2.symm
    cases hv
    refine X_lcmp dL_areRight_550 ?_
    refine X_if_ne (tgt := 558) dL_areRight_551 (by decide) (fun h551 => ?_) (fun h551 => ?_)
    · exact absurd (lcmp_s _) h551
    refine X_iconst (v := 1) dL_areRight_554 (by decide) ?_
    refine X_goto (tgt := 559) dL_areRight_555 (by decide) ?_
    refine X_iand dL_areRight_559 ?_
    refine XJ.top (v' := .int 1) (by decide) ?_
    refine X_istore (i := 7) (lo' := [(7, _), (0, _), (1, _), (2, _), (3, _), (4, _), (5, _), (6, _), (9, _), (10, _), (11, _), (12, _)]) dL_areRight_560 (by decide) rfl ?_
    exact XJ.less (by omega) (by omega) (XJ.lcs (lo' := [(0, .ref a0), (1, .int (nI s)), (2, .int (nI (ln L))), (3, .ref a1), (4, .ref a2), (5, .ref a3), (6, .ref a4), (7, .int 1), (9, .int (nI p))]) ⟨rfl, rfl, rfl, rfl, rfl, rfl, rfl, rfl, rfl, trivial⟩ (hn _ hS hR))
set_option maxRecDepth 20000 in
theorem r_A {P : PSt} {L : LSt} {pr : Nat → Nat} {O : OSt} {mp : Nat} {mk : Nat → UInt32} {a0 a1 a2 a3 a4 s : Nat} {f1 f2 f3 f4 : Nat → Int32} (hIP : IP P L pr O mp mk []) (h6 : P.1 = 6) (hs1 : 1 ≤ s) (hs2 : s ≤ 999) (hk : KD P) (hag : AG L f1 f2 f3 f4) {p gA gB : Nat} (p6 : p < 6) (hn : ∀ w2, ST 0 G.2.2.1 w2 P L pr O mp mk → LR 44 G.2.2.1 w2 a0 a1 a2 a3 a4 f1 f2 f3 f4 → XJ G mL_areRight 21 gA gB 454 [(0, .ref a0), (1, .int (nI s)), (2, .int (nI (ln L))), (3, .ref a1), (4, .ref a2), (5, .ref a3), (6, .ref a4), (7, .int 1), (9, .int (nI p)), (10, .int (nI (dirN L pr s p (ln L)))), (11, .int (bI (plB P.2.1 L pr s p (ln L)))), (12, .int (dstV (dstF L pr s p (mrF L (priF P L pr s 5)) 6)))] [.int 1] w2 Q) {w1 : Wd} (hS : ST 0 G.2.2.1 w1 P L pr O mp mk) (hR : LR 44 G.2.2.1 w1 a0 a1 a2 a3 a4 f1 f2 f3 f4) : XJ G mL_areRight 21 (67 + gA) (290 + gB) 367 [(0, .ref a0), (1, .int (nI s)), (2, .int (nI (ln L))), (3, .ref a1), (4, .ref a2), (5, .ref a3), (6, .ref a4), (7, .int 1), (9, .int (nI p)), (10, .int (nI (dirN L pr s p (ln L)))), (11, .int (bI (plB P.2.1 L pr s p (ln L))))] [] w1 (Q) := by
  have hdl : dirN L pr s p (ln L) ≤ ln L := dir_le
  rcases opt_ns (dstF L pr s p (mrF L (priF P L pr s 5)) 6) with hd | ⟨b, hd⟩
  · have hdd : dirN L pr s p (ln L) = 0 := by
      rcases Nat.eq_zero_or_pos (dirN L pr s p (ln L)) with h | h
      · exact h
      · exact absurd hd ((dst_dir (pr := pr) (s := s) (p := p) (g := mrF L (priF P L pr s 5)) hIP.2.2.1.1 hIP.2.2.1.2.1).mp h)
    refine X_aload_n dL_areRight_367 (i := 0) rfl rfl ?_
    refine X_iload dL_areRight_368 (i := 9) rfl ?_
    refine X_iload_n dL_areRight_370 (i := 1) rfl rfl ?_
    refine X_callSW (gc2 := (63 + gA)) (gs2 := (266 + gB)) (q_dearest hR.e0 hS hIP h6 p6 hs1 hs2) kmL_dearest rfl lL_228 sL_dearest rfl rfl (Nat.le_of_ble_eq_true rfl) (by decide) dL_areRight_371 (by omega) (by omega) (fun E w1 hq => nomatch hq.1) (fun v w1 hq => ?_)
    have hvv := hq.1
    have hS := hq.2.1
    have hR := hR.fx hq.2.2
    cases hvv
    refine X_istore (i := 12) (lo' := [(12, _), (0, _), (1, _), (2, _), (3, _), (4, _), (5, _), (6, _), (7, _), (9, _), (10, _), (11, _)]) dL_areRight_374 (by decide) rfl ?_
    refine X_iload dL_areRight_376 (i := 7) rfl ?_
    refine X_aload_n dL_areRight_378 (i := 0) rfl rfl ?_
    refine X_iload dL_areRight_379 (i := 9) rfl ?_
    refine X_iload_n dL_areRight_381 (i := 1) rfl rfl ?_
    refine X_callSW (gc2 := (60 + gA)) (gs2 := (248 + gB)) (q_levels hR.e0 hS hIP h6 p6 hs1 hs2) kmL_levels rfl lL_232 sL_levels rfl rfl (Nat.le_of_ble_eq_true rfl) (by decide) dL_areRight_382 (by omega) (by omega) (fun E w1 hq => nomatch hq.1) (fun v w1 hq => ?_)
    have hvv := hq.1
    have hS := hq.2.1
    have hR := hR.fx hq.2.2
    cases hvv
    refine X_iconst (v := 4) dL_areRight_385 (by decide) ?_
    have h4 := dpt_4 (pr := pr) (s := s) (p := p) hIP.2.2.1.1 hIP.2.2.1.2.1 hIP.2.2.1.2.2
    refine X_icmp_gt (tgt := 558) dL_areRight_386 (by decide) (fun h386 => ?_) (fun h386 => ?_)
    · exact absurd ((nI_ltI (a := 4) (by decide) (by omega)).mp h386) (by omega)
    refine X_iload dL_areRight_389 (i := 10) rfl ?_
    refine X_if_le (tgt := 398) dL_areRight_391 (by decide) (fun h391 => ?_) (fun h391 => ?_)
    rotate_left
    · exact absurd (by rw [hdd]; decide) h391
    refine X_iconst (v := 0) dL_areRight_398 (by decide) ?_
    refine X_iload dL_areRight_399 (i := 12) rfl ?_
    refine X_if_lt (tgt := 408) dL_areRight_401 (by decide) (fun h401 => ?_) (fun h401 => ?_)
    rotate_left
    · exact absurd (by rw [hd]; decide) h401
    refine X_iconst (v := 0) dL_areRight_408 (by decide) ?_
    refine X_icmp_ne (tgt := 558) dL_areRight_409 (by decide) (fun h => absurd h (by decide)) (fun _ => ?_)
    refine X_iload dL_areRight_412 (i := 12) rfl ?_
    refine X_if_lt (tgt := 437) dL_areRight_414 (by decide) (fun h414 => ?_) (fun h414 => ?_)
    rotate_left
    · exact absurd (by rw [hd]; decide) h414
    refine X_iload dL_areRight_437 (i := 11) rfl ?_
    refine X_if_eq (tgt := 454) dL_areRight_439 (by decide) (fun h439 => ?_) (fun h439 => ?_)
    · exact XJ.less (by omega) (by omega) (XJ.lcs (lo' := [(0, .ref a0), (1, .int (nI s)), (2, .int (nI (ln L))), (3, .ref a1), (4, .ref a2), (5, .ref a3), (6, .ref a4), (7, .int 1), (9, .int (nI p)), (10, .int (nI (dirN L pr s p (ln L)))), (11, .int (bI (plB P.2.1 L pr s p (ln L)))), (12, .int (dstV (dstF L pr s p (mrF L (priF P L pr s 5)) 6)))]) ⟨rfl, rfl, rfl, rfl, rfl, rfl, rfl, rfl, rfl, rfl, rfl, rfl, trivial⟩ (hn _ hS hR))
    · have hlp := list_plain (kd := P.2.1) (pr := pr) (s := s) (p := p) (m := 1) (f := 4) hIP.2.2.1.1 hIP.2.2.1.2.1 (plB_all (bI_ne h439))
      refine X_aload_n dL_areRight_442 (i := 0) rfl rfl ?_
      refine X_iload dL_areRight_443 (i := 9) rfl ?_
      refine X_iload_n dL_areRight_445 (i := 1) rfl rfl ?_
      refine X_callSW (gc2 := (2 + gA)) (gs2 := (12 + gB)) (q_listSize hR.e0 hS hIP h6 p6 hs1 hs2 (len_36 hIP h6 hk)) kmL_listSize rfl lL_226 sL_listSize rfl rfl (Nat.le_of_ble_eq_true rfl) (by decide) dL_areRight_446 (by omega) (by omega) (fun E w1 hq => nomatch hq.1) (fun v w1 hq => ?_)
      have hvv := hq.1
      have hS := ST.le hq.2.1 (Nat.zero_le _)
      have hR := hR.fx hq.2.2
      cases hvv
      refine XJ.top (v' := .int (nI (dirN L pr s p (ln L)))) (by rw [hlp]) ?_
      refine X_iload dL_areRight_449 (i := 10) rfl ?_
      refine X_icmp_ne (tgt := 558) dL_areRight_451 (by decide) (fun h451 => ?_) (fun h451 => ?_)
      · exact absurd rfl h451
      exact XJ.less (by omega) (by omega) (XJ.lcs (lo' := [(0, .ref a0), (1, .int (nI s)), (2, .int (nI (ln L))), (3, .ref a1), (4, .ref a2), (5, .ref a3), (6, .ref a4), (7, .int 1), (9, .int (nI p)), (10, .int (nI (dirN L pr s p (ln L)))), (11, .int (bI (plB P.2.1 L pr s p (ln L)))), (12, .int (dstV (dstF L pr s p (mrF L (priF P L pr s 5)) 6)))]) ⟨rfl, rfl, rfl, rfl, rfl, rfl, rfl, rfl, rfl, rfl, rfl, rfl, trivial⟩ (hn _ hS hR))
  · have ho := dst_own 6 b hd
    have hb := hIP.2.2.1.1.2.2 b ho.1
    have h40 := hIP.2.2.1.1.2.1
    have hg := hag b ho.1
    have hdd : 0 < dirN L pr s p (ln L) := (dst_dir (pr := pr) (s := s) (p := p) (g := mrF L (priF P L pr s 5)) hIP.2.2.1.1 hIP.2.2.1.2.1).mpr (by rw [hd]; exact fun h => nomatch h)
    refine X_aload_n dL_areRight_367 (i := 0) rfl rfl ?_
    refine X_iload dL_areRight_368 (i := 9) rfl ?_
    refine X_iload_n dL_areRight_370 (i := 1) rfl rfl ?_
    refine X_callSW (gc2 := (63 + gA)) (gs2 := (266 + gB)) (q_dearest hR.e0 hS hIP h6 p6 hs1 hs2) kmL_dearest rfl lL_228 sL_dearest rfl rfl (Nat.le_of_ble_eq_true rfl) (by decide) dL_areRight_371 (by omega) (by omega) (fun E w1 hq => nomatch hq.1) (fun v w1 hq => ?_)
    have hvv := hq.1
    have hS := hq.2.1
    have hR := hR.fx hq.2.2
    cases hvv
    refine X_istore (i := 12) (lo' := [(12, _), (0, _), (1, _), (2, _), (3, _), (4, _), (5, _), (6, _), (7, _), (9, _), (10, _), (11, _)]) dL_areRight_374 (by decide) rfl ?_
    refine X_iload dL_areRight_376 (i := 7) rfl ?_
    refine X_aload_n dL_areRight_378 (i := 0) rfl rfl ?_
    refine X_iload dL_areRight_379 (i := 9) rfl ?_
    refine X_iload_n dL_areRight_381 (i := 1) rfl rfl ?_
    refine X_callSW (gc2 := (60 + gA)) (gs2 := (248 + gB)) (q_levels hR.e0 hS hIP h6 p6 hs1 hs2) kmL_levels rfl lL_232 sL_levels rfl rfl (Nat.le_of_ble_eq_true rfl) (by decide) dL_areRight_382 (by omega) (by omega) (fun E w1 hq => nomatch hq.1) (fun v w1 hq => ?_)
    have hvv := hq.1
    have hS := hq.2.1
    have hR := hR.fx hq.2.2
    cases hvv
    refine X_iconst (v := 4) dL_areRight_385 (by decide) ?_
    have h4 := dpt_4 (pr := pr) (s := s) (p := p) hIP.2.2.1.1 hIP.2.2.1.2.1 hIP.2.2.1.2.2
    refine X_icmp_gt (tgt := 558) dL_areRight_386 (by decide) (fun h386 => ?_) (fun h386 => ?_)
    · exact absurd ((nI_ltI (a := 4) (by decide) (by omega)).mp h386) (by omega)
    refine X_iload dL_areRight_389 (i := 10) rfl ?_
    refine X_if_le (tgt := 398) dL_areRight_391 (by decide) (fun h391 => ?_) (fun h391 => ?_)
    · exact absurd ((nI_leI (b := 0) (by omega) (by decide)).mp h391) (by omega)
    refine X_iconst (v := 1) dL_areRight_394 (by decide) ?_
    refine X_goto (tgt := 399) dL_areRight_395 (by decide) ?_
    refine X_iload dL_areRight_399 (i := 12) rfl ?_
    refine X_if_lt (tgt := 408) dL_areRight_401 (by decide) (fun h401 => ?_) (fun h401 => ?_)
    · exact absurd h401 (by rw [hd]; exact nI_pos (by omega))
    refine X_iconst (v := 1) dL_areRight_404 (by decide) ?_
    refine X_goto (tgt := 409) dL_areRight_405 (by decide) ?_
    refine X_icmp_ne (tgt := 558) dL_areRight_409 (by decide) (fun h => absurd h (by decide)) (fun _ => ?_)
    refine X_iload dL_areRight_412 (i := 12) rfl ?_
    refine X_if_lt (tgt := 437) dL_areRight_414 (by decide) (fun h414 => ?_) (fun h414 => ?_)
    · exact absurd h414 (by rw [hd]; exact nI_pos (by omega))
    refine X_aload_n dL_areRight_417 (i := 3) rfl rfl ?_
    refine X_iload dL_areRight_418 (i := 12) rfl ?_
    refine X_iald (i := 39) hR.m1 hR.e1 (by rw [hd]; rfl) (by omega) (by decide) dL_areRight_420 ?_
    refine XJ.top (v' := .int (nI p)) (by rw [hg.1, ho.2.2]) ?_
    refine X_iload dL_areRight_421 (i := 9) rfl ?_
    refine X_icmp_ne (tgt := 558) dL_areRight_423 (by decide) (fun h423 => ?_) (fun h423 => ?_)
    · exact absurd rfl h423
    refine X_aload_n dL_areRight_426 (i := 0) rfl rfl ?_
    refine X_iload dL_areRight_427 (i := 12) rfl ?_
    refine XJ.top (v' := .int (nI b)) (by rw [hd]; rfl) ?_
    refine X_iload_n dL_areRight_429 (i := 1) rfl rfl ?_
    refine X_callSW (gc2 := (58 + gA)) (gs2 := (236 + gB)) (q_holds hR.e0 hS hIP ho.1 hs1 hs2) kmL_holds rfl lL_176 sL_holds rfl rfl (Nat.le_of_ble_eq_true rfl) (by decide) dL_areRight_430 (by omega) (by omega) (fun E w1 hq => nomatch hq.1) (fun v w1 hq => ?_)
    have hvv := hq.1
    have hS := hq.2.1
    have hR := hR.fx hq.2.2
    cases hvv
    refine XJ.top (v' := .int 1) (by rw [ho.2.1]; rfl) ?_
    refine X_iconst (v := 1) dL_areRight_433 (by decide) ?_
    refine X_icmp_ne (tgt := 558) dL_areRight_434 (by decide) (fun h434 => ?_) (fun h434 => ?_)
    · exact absurd rfl h434
    refine X_iload dL_areRight_437 (i := 11) rfl ?_
    refine X_if_eq (tgt := 454) dL_areRight_439 (by decide) (fun h439 => ?_) (fun h439 => ?_)
    · exact XJ.less (by omega) (by omega) (XJ.lcs (lo' := [(0, .ref a0), (1, .int (nI s)), (2, .int (nI (ln L))), (3, .ref a1), (4, .ref a2), (5, .ref a3), (6, .ref a4), (7, .int 1), (9, .int (nI p)), (10, .int (nI (dirN L pr s p (ln L)))), (11, .int (bI (plB P.2.1 L pr s p (ln L)))), (12, .int (dstV (dstF L pr s p (mrF L (priF P L pr s 5)) 6)))]) ⟨rfl, rfl, rfl, rfl, rfl, rfl, rfl, rfl, rfl, rfl, rfl, rfl, trivial⟩ (hn _ hS hR))
    · have hlp := list_plain (kd := P.2.1) (pr := pr) (s := s) (p := p) (m := 1) (f := 4) hIP.2.2.1.1 hIP.2.2.1.2.1 (plB_all (bI_ne h439))
      refine X_aload_n dL_areRight_442 (i := 0) rfl rfl ?_
      refine X_iload dL_areRight_443 (i := 9) rfl ?_
      refine X_iload_n dL_areRight_445 (i := 1) rfl rfl ?_
      refine X_callSW (gc2 := (0 + gA)) (gs2 := (0 + gB)) (q_listSize hR.e0 hS hIP h6 p6 hs1 hs2 (len_36 hIP h6 hk)) kmL_listSize rfl lL_226 sL_listSize rfl rfl (Nat.le_of_ble_eq_true rfl) (by decide) dL_areRight_446 (by omega) (by omega) (fun E w1 hq => nomatch hq.1) (fun v w1 hq => ?_)
      have hvv := hq.1
      have hS := ST.le hq.2.1 (Nat.zero_le _)
      have hR := hR.fx hq.2.2
      cases hvv
      refine XJ.top (v' := .int (nI (dirN L pr s p (ln L)))) (by rw [hlp]) ?_
      refine X_iload dL_areRight_449 (i := 10) rfl ?_
      refine X_icmp_ne (tgt := 558) dL_areRight_451 (by decide) (fun h451 => ?_) (fun h451 => ?_)
      · exact absurd rfl h451
      exact XJ.less (by omega) (by omega) (XJ.lcs (lo' := [(0, .ref a0), (1, .int (nI s)), (2, .int (nI (ln L))), (3, .ref a1), (4, .ref a2), (5, .ref a3), (6, .ref a4), (7, .int 1), (9, .int (nI p)), (10, .int (nI (dirN L pr s p (ln L)))), (11, .int (bI (plB P.2.1 L pr s p (ln L)))), (12, .int (dstV (dstF L pr s p (mrF L (priF P L pr s 5)) 6)))]) ⟨rfl, rfl, rfl, rfl, rfl, rfl, rfl, rfl, rfl, rfl, rfl, rfl, trivial⟩ (hn _ hS hR))
set_option maxRecDepth 20000 in
theorem r_en {P : PSt} {L : LSt} {pr : Nat → Nat} {O : OSt} {mp : Nat} {mk : Nat → UInt32} {a0 a1 a2 a3 a4 s : Nat} {f1 f2 f3 f4 : Nat → Int32} (hIP : IP P L pr O mp mk []) (h6 : P.1 = 6) (hs1 : 1 ≤ s) (hs2 : s ≤ 999) (hk : KD P) (hag : AG L f1 f2 f3 f4) {p gA gB : Nat} (p6 : p < 6) (hn : ∀ w2, ST 0 G.2.2.1 w2 P L pr O mp mk → LR 44 G.2.2.1 w2 a0 a1 a2 a3 a4 f1 f2 f3 f4 → XJ G mL_areRight 21 gA gB 628 [(0, .ref a0), (1, .int (nI s)), (2, .int (nI (ln L))), (3, .ref a1), (4, .ref a2), (5, .ref a3), (6, .ref a4), (7, .int 1), (9, .int (nI p)), (13, .long (nL (sQ (listN P.2.1 L pr s 5 p 1))))] [] w2 Q) : ∀ (n : Nat) (k : Nat) (w1 : Wd), (listN P.2.1 L pr s 5 p 1).length - k < n → k ≤ (listN P.2.1 L pr s 5 p 1).length → ST (listN P.2.1 L pr s 5 p 1).length G.2.2.1 w1 P L pr O mp mk → LR 44 G.2.2.1 w1 a0 a1 a2 a3 a4 f1 f2 f3 f4 → XJ G mL_areRight 21 (9 * n + gA) (54 * n + gB) 577 [(0, .ref a0), (1, .int (nI s)), (2, .int (nI (ln L))), (3, .ref a1), (4, .ref a2), (5, .ref a3), (6, .ref a4), (7, .int 1), (9, .int (nI p)), (13, .long (nL (sQ ((listN P.2.1 L pr s 5 p 1).take k)))), (15, .int (nI k))] [.int (nI (listN P.2.1 L pr s 5 p 1).length), .int (nI k)] w1 (Q) := by
  intro n
  induction n with
  | zero => intro k w1 hm hkl hS hR; exact absurd hm (Nat.not_lt_zero _)
  | succ n ih =>
    intro k w1 hm hkl hS hR
    refine X_icmp_ge (tgt := 628) dL_areRight_577 (by decide) (fun h577 => ?_) (fun h577 => ?_)
    · have h36 : (listN P.2.1 L pr s 5 p 1).length ≤ 36 := len_36 hIP h6 hk p
      have ek : k = (listN P.2.1 L pr s 5 p 1).length := ge6 (by omega) hkl h577
      subst ek
      have et : nL (sQ ((listN P.2.1 L pr s 5 p 1).take (listN P.2.1 L pr s 5 p 1).length)) = nL (sQ (listN P.2.1 L pr s 5 p 1)) := by rw [List.take_length]
      exact XJ.less (by omega) (by omega) (XJ.lcs (lo' := [(0, .ref a0), (1, .int (nI s)), (2, .int (nI (ln L))), (3, .ref a1), (4, .ref a2), (5, .ref a3), (6, .ref a4), (7, .int 1), (9, .int (nI p)), (13, .long (nL (sQ (listN P.2.1 L pr s 5 p 1))))]) ⟨rfl, rfl, rfl, rfl, rfl, rfl, rfl, rfl, rfl, congrArg (fun x => some (Value.long x)) et, trivial⟩ (hn _ (ST.le hS (Nat.zero_le _)) hR))
    · have h36 : (listN P.2.1 L pr s 5 p 1).length ≤ 36 := len_36 hIP h6 hk p
      have kl : k < (listN P.2.1 L pr s 5 p 1).length := lt6 (by omega) hkl h577
      have hmem : (listN P.2.1 L pr s 5 p 1).getD k (0, 0) ∈ (listN P.2.1 L pr s 5 p 1) := getD_mem kl
      have h1 : ((listN P.2.1 L pr s 5 p 1).getD k (0, 0)).1 < 6 := by have := (listN_mem hIP.2.2.1.1 hmem).1; omega
      have h2 := list_kind _ hmem
      have hsq := sQ_take kl
      refine X_lload dL_areRight_580 (i := 13) rfl ?_
      refine X_aload_n dL_areRight_582 (i := 0) rfl rfl ?_
      refine X_iload dL_areRight_583 (i := 9) rfl ?_
      refine X_iload_n dL_areRight_585 (i := 1) rfl rfl ?_
      refine X_iload dL_areRight_586 (i := 15) rfl ?_
      refine X_callSW (gc2 := (9 * n + 6 + gA)) (gs2 := (54 * n + 36 + gB)) (gq_listQuantity hR.e0 hS hIP h6 p6 hs1 hs2 (Nat.le_refl _) (by have := len_36 (s := s) hIP h6 hk p; omega) kl) kmL_listQuantity rfl lL_258 sL_listQuantity rfl rfl (Nat.le_of_ble_eq_true rfl) (by decide) dL_areRight_588 (by omega) (by omega) (fun E w1 hq => nomatch hq.1) (fun v w1 hq => ?_)
      have hvv := hq.1
      have hS := hq.2.1
      have hR := hR.fx hq.2.2
      cases hvv
      refine X_ladd dL_areRight_591 ?_
      refine XJ.top (v' := .long (nL (sQ ((listN P.2.1 L pr s 5 p 1).take (k + 1))))) (by rw [hsq, nL_add]) ?_
      refine X_lstore (i := 13) (lo' := [(13, _), (0, _), (1, _), (2, _), (3, _), (4, _), (5, _), (6, _), (7, _), (9, _), (15, _)]) dL_areRight_592 (by decide) rfl ?_
      refine X_iload dL_areRight_594 (i := 7) rfl ?_
      refine X_aload_n dL_areRight_596 (i := 0) rfl rfl ?_
      refine X_aload_n dL_areRight_597 (i := 0) rfl rfl ?_
      refine X_iload dL_areRight_598 (i := 9) rfl ?_
      refine X_iload_n dL_areRight_600 (i := 1) rfl rfl ?_
      refine X_iload dL_areRight_601 (i := 15) rfl ?_
      refine X_callSW (gc2 := (9 * n + 3 + gA)) (gs2 := (54 * n + 18 + gB)) (gq_listPart hR.e0 hS hIP h6 p6 hs1 hs2 (Nat.le_refl _) (by have := len_36 (s := s) hIP h6 hk p; omega) kl) kmL_listPart rfl lL_260 sL_listPart rfl rfl (Nat.le_of_ble_eq_true rfl) (by decide) dL_areRight_603 (by omega) (by omega) (fun E w1 hq => nomatch hq.1) (fun v w1 hq => ?_)
      have hvv := hq.1
      have hS := hq.2.1
      have hR := hR.fx hq.2.2
      cases hvv
      refine X_callSW (gc2 := (9 * n + 2 + gA)) (gs2 := (54 * n + 12 + gB)) (q_kind hR.e0 hS hIP h6 h1) kmL_kind rfl lL_230 sL_kind rfl rfl (Nat.le_of_ble_eq_true rfl) (by decide) dL_areRight_606 (by omega) (by omega) (fun E w1 hq => nomatch hq.1) (fun v w1 hq => ?_)
      have hvv := hq.1
      have hS := hq.2.1
      have hR := hR.fx hq.2.2
      cases hvv
      refine X_bipush (v := 112) dL_areRight_609 (by decide) ?_
      refine X_icmp_eq (tgt := 618) dL_areRight_611 (by decide) (fun h611 => ?_) (fun h611 => ?_)
      · exact absurd ((nI_eq (by have := hIP.2.1 ((listN P.2.1 L pr s 5 p 1).getD k (0, 0)).1; omega) (by decide)).mp h611) h2
      · refine X_iconst (v := 1) dL_areRight_614 (by decide) ?_
        refine X_goto (tgt := 619) dL_areRight_615 (by decide) ?_
        refine X_iand dL_areRight_619 ?_
        refine XJ.top (v' := .int 1) (by decide) ?_
        refine X_istore (i := 7) (lo' := [(7, _), (13, _), (0, _), (1, _), (2, _), (3, _), (4, _), (5, _), (6, _), (9, _), (15, _)]) dL_areRight_620 (by decide) rfl ?_
        refine X_iinc (i := 15) (v := nI (k + 1)) (lo' := [(15, _), (7, _), (13, _), (0, _), (1, _), (2, _), (3, _), (4, _), (5, _), (6, _), (9, _)]) dL_areRight_622 rfl (nI_inc k) (by decide) rfl ?_
        refine X_goto (tgt := 568) dL_areRight_625 (by decide) ?_
        refine X_iload dL_areRight_568 (i := 15) rfl ?_
        refine X_aload_n dL_areRight_570 (i := 0) rfl rfl ?_
        refine X_iload dL_areRight_571 (i := 9) rfl ?_
        refine X_iload_n dL_areRight_573 (i := 1) rfl rfl ?_
        refine X_callSW (gc2 := (9 * n + gA)) (gs2 := (54 * n + gB)) (gq_listSize hR.e0 hS hIP h6 p6 hs1 hs2 (Nat.le_refl _) (by have := len_36 (s := s) hIP h6 hk p; omega)) kmL_listSize rfl lL_226 sL_listSize rfl rfl (Nat.le_of_ble_eq_true rfl) (by decide) dL_areRight_574 (by omega) (by omega) (fun E w1 hq => nomatch hq.1) (fun v w1 hq => ?_)
        have hvv := hq.1
        have hS := hq.2.1
        have hR := hR.fx hq.2.2
        cases hvv
        exact XJ.less (by omega) (by omega) (XJ.lcs (lo' := [(0, .ref a0), (1, .int (nI s)), (2, .int (nI (ln L))), (3, .ref a1), (4, .ref a2), (5, .ref a3), (6, .ref a4), (7, .int 1), (9, .int (nI p)), (13, .long (nL (sQ ((listN P.2.1 L pr s 5 p 1).take (k + 1))))), (15, .int (nI (k + 1)))]) ⟨rfl, rfl, rfl, rfl, rfl, rfl, rfl, rfl, rfl, rfl, rfl, trivial⟩ (ih (k + 1) _ (by omega) (by omega) hS hR))
set_option maxRecDepth 20000 in
theorem r_E {P : PSt} {L : LSt} {pr : Nat → Nat} {O : OSt} {mp : Nat} {mk : Nat → UInt32} {a0 a1 a2 a3 a4 s : Nat} {f1 f2 f3 f4 : Nat → Int32} (hIP : IP P L pr O mp mk []) (h6 : P.1 = 6) (hs1 : 1 ≤ s) (hs2 : s ≤ 999) (hk : KD P) (hag : AG L f1 f2 f3 f4) {p gA gB : Nat} (p6 : p < 6) (hn : ∀ w2, ST 0 G.2.2.1 w2 P L pr O mp mk → LR 44 G.2.2.1 w2 a0 a1 a2 a3 a4 f1 f2 f3 f4 → XJ G mL_areRight 21 gA gB 628 [(0, .ref a0), (1, .int (nI s)), (2, .int (nI (ln L))), (3, .ref a1), (4, .ref a2), (5, .ref a3), (6, .ref a4), (7, .int 1), (9, .int (nI p)), (13, .long (nL (sQ (listN P.2.1 L pr s 5 p 1))))] [] w2 Q) {w1 : Wd} (hS : ST 0 G.2.2.1 w1 P L pr O mp mk) (hR : LR 44 G.2.2.1 w1 a0 a1 a2 a3 a4 f1 f2 f3 f4) : XJ G mL_areRight 21 (391 + gA) (2234 + gB) 562 [(0, .ref a0), (1, .int (nI s)), (2, .int (nI (ln L))), (3, .ref a1), (4, .ref a2), (5, .ref a3), (6, .ref a4), (7, .int 1), (9, .int (nI p))] [] w1 (Q) := by
  refine X_lconst (v := 0) dL_areRight_562 rfl ?_
  refine X_lstore (i := 13) (lo' := [(13, _), (0, _), (1, _), (2, _), (3, _), (4, _), (5, _), (6, _), (7, _), (9, _)]) dL_areRight_563 (by decide) rfl ?_
  refine X_iconst (v := 0) dL_areRight_565 (by decide) ?_
  refine X_istore (i := 15) (lo' := [(15, _), (13, _), (0, _), (1, _), (2, _), (3, _), (4, _), (5, _), (6, _), (7, _), (9, _)]) dL_areRight_566 (by decide) rfl ?_
  refine X_iload dL_areRight_568 (i := 15) rfl ?_
  refine X_aload_n dL_areRight_570 (i := 0) rfl rfl ?_
  refine X_iload dL_areRight_571 (i := 9) rfl ?_
  refine X_iload_n dL_areRight_573 (i := 1) rfl rfl ?_
  refine X_callSW (gc2 := (9 * 37 + gA)) (gs2 := (54 * 37 + gB)) (q_listSize hR.e0 hS hIP h6 p6 hs1 hs2 (len_36 hIP h6 hk)) kmL_listSize rfl lL_226 sL_listSize rfl rfl (Nat.le_of_ble_eq_true rfl) (by decide) dL_areRight_574 (by omega) (by omega) (fun E w1 hq => nomatch hq.1) (fun v w1 hq => ?_)
  have hvv := hq.1
  have hS := hq.2.1
  have hR := hR.fx hq.2.2
  cases hvv
  exact XJ.less (by omega) (by omega) (XJ.lcs (lo' := [(0, .ref a0), (1, .int (nI s)), (2, .int (nI (ln L))), (3, .ref a1), (4, .ref a2), (5, .ref a3), (6, .ref a4), (7, .int 1), (9, .int (nI p)), (13, .long (nL (sQ ((listN P.2.1 L pr s 5 p 1).take 0)))), (15, .int (nI 0))]) ⟨rfl, rfl, rfl, rfl, rfl, rfl, rfl, rfl, rfl, rfl, rfl, trivial⟩ (r_en hIP h6 hs1 hs2 hk hag p6 hn 37 0 _ (by have := len_36 (s := s) hIP h6 hk p; omega) (Nat.zero_le _) hS hR))
set_option maxRecDepth 20000 in
theorem r_pt {P : PSt} {L : LSt} {pr : Nat → Nat} {O : OSt} {mp : Nat} {mk : Nat → UInt32} {a0 a1 a2 a3 a4 s : Nat} {f1 f2 f3 f4 : Nat → Int32} (hIP : IP P L pr O mp mk []) (h6 : P.1 = 6) (hs1 : 1 ≤ s) (hs2 : s ≤ 999) (hk : KD P) (hag : AG L f1 f2 f3 f4) {p gA gB : Nat} (p6 : p < 6) (hn : ∀ w2, ST 0 G.2.2.1 w2 P L pr O mp mk → LR 44 G.2.2.1 w2 a0 a1 a2 a3 a4 f1 f2 f3 f4 → XJ G mL_areRight 21 gA gB 683 [(0, .ref a0), (1, .int (nI s)), (2, .int (nI (ln L))), (3, .ref a1), (4, .ref a2), (5, .ref a3), (6, .ref a4), (7, .int 1), (9, .int (nI p)), (13, .long (nL (sQ (listN P.2.1 L pr s 5 p 1)))), (15, .long (nL (othN P.2.1 L pr s 5 p 6)))] [] w2 Q) : ∀ (n : Nat) (c : Nat) (w1 : Wd), 6 - c < n → c ≤ 6 → ST 0 G.2.2.1 w1 P L pr O mp mk → LR 44 G.2.2.1 w1 a0 a1 a2 a3 a4 f1 f2 f3 f4 → XJ G mL_areRight 21 (5 * n + gA) (30 * n + gB) 634 [(0, .ref a0), (1, .int (nI s)), (2, .int (nI (ln L))), (3, .ref a1), (4, .ref a2), (5, .ref a3), (6, .ref a4), (7, .int 1), (9, .int (nI p)), (13, .long (nL (sQ (listN P.2.1 L pr s 5 p 1)))), (15, .long (nL (othN P.2.1 L pr s 5 p c))), (17, .int (nI c))] [] w1 (Q) := by
  intro n
  induction n with
  | zero => intro c w1 hm hc hS hR; exact absurd hm (Nat.not_lt_zero _)
  | succ n ih =>
    intro c w1 hm hc hS hR
    refine X_iload dL_areRight_634 (i := 17) rfl ?_
    refine X_bipush (v := 6) dL_areRight_636 (by decide) ?_
    refine X_icmp_ge (tgt := 683) dL_areRight_638 (by decide) (fun h638 => ?_) (fun h638 => ?_)
    · have e6 : c = 6 := ge6 (by decide) hc h638
      subst e6
      exact XJ.less (by omega) (by omega) (XJ.lcs (lo' := [(0, .ref a0), (1, .int (nI s)), (2, .int (nI (ln L))), (3, .ref a1), (4, .ref a2), (5, .ref a3), (6, .ref a4), (7, .int 1), (9, .int (nI p)), (13, .long (nL (sQ (listN P.2.1 L pr s 5 p 1)))), (15, .long (nL (othN P.2.1 L pr s 5 p 6)))]) ⟨rfl, rfl, rfl, rfl, rfl, rfl, rfl, rfl, rfl, rfl, rfl, trivial⟩ (hn _ hS hR))
    · have c6 : c < 6 := lt6 (by decide) hc h638
      refine X_lload dL_areRight_641 (i := 15) rfl ?_
      refine X_iload dL_areRight_643 (i := 17) rfl ?_
      refine X_iload dL_areRight_645 (i := 9) rfl ?_
      refine X_icmp_eq (tgt := 673) dL_areRight_647 (by decide) (fun h647 => ?_) (fun h647 => ?_)
      · have hx : othN P.2.1 L pr s 5 p (c + 1) = othN P.2.1 L pr s 5 p c + 0 := oth_0 (fun h => h.1 ((nI_eq (by omega) (by omega)).mp h647))
        have hx2 : nL (othN P.2.1 L pr s 5 p c) + 0 = nL (othN P.2.1 L pr s 5 p (c + 1)) := by rw [hx, ← nL_add]; rfl
        refine X_lconst (v := 0) dL_areRight_673 rfl ?_
        refine X_ladd dL_areRight_674 ?_
        refine XJ.top (v' := .long (nL (othN P.2.1 L pr s 5 p (c + 1)))) (by rw [hx2]) ?_
        refine X_lstore (i := 15) (lo' := [(15, _), (0, _), (1, _), (2, _), (3, _), (4, _), (5, _), (6, _), (7, _), (9, _), (13, _), (17, _)]) dL_areRight_675 (by decide) rfl ?_
        refine X_iinc (i := 17) (v := nI (c + 1)) (lo' := [(17, _), (15, _), (0, _), (1, _), (2, _), (3, _), (4, _), (5, _), (6, _), (7, _), (9, _), (13, _)]) dL_areRight_677 rfl (nI_inc c) (by decide) rfl ?_
        refine X_goto (tgt := 634) dL_areRight_680 (by decide) ?_
        exact XJ.less (by omega) (by omega) (XJ.lcs (lo' := [(0, .ref a0), (1, .int (nI s)), (2, .int (nI (ln L))), (3, .ref a1), (4, .ref a2), (5, .ref a3), (6, .ref a4), (7, .int 1), (9, .int (nI p)), (13, .long (nL (sQ (listN P.2.1 L pr s 5 p 1)))), (15, .long (nL (othN P.2.1 L pr s 5 p (c + 1)))), (17, .int (nI (c + 1)))]) ⟨rfl, rfl, rfl, rfl, rfl, rfl, rfl, rfl, rfl, rfl, rfl, rfl, trivial⟩ (ih (c + 1) _ (by omega) (by omega) hS hR))
      · have npc : c ≠ p := fun e => h647 (by rw [e])
        refine X_aload_n dL_areRight_650 (i := 0) rfl rfl ?_
        refine X_iload dL_areRight_651 (i := 17) rfl ?_
        refine X_callSW (gc2 := (5 * n + 4 + gA)) (gs2 := (30 * n + 24 + gB)) (q_kind hR.e0 hS hIP h6 c6) kmL_kind rfl lL_230 sL_kind rfl rfl (Nat.le_of_ble_eq_true rfl) (by decide) dL_areRight_653 (by omega) (by omega) (fun E w1 hq => nomatch hq.1) (fun v w1 hq => ?_)
        have hvv := hq.1
        have hS := hq.2.1
        have hR := hR.fx hq.2.2
        cases hvv
        refine X_bipush (v := 112) dL_areRight_656 (by decide) ?_
        refine X_icmp_eq (tgt := 673) dL_areRight_658 (by decide) (fun h658 => ?_) (fun h658 => ?_)
        · have hx : othN P.2.1 L pr s 5 p (c + 1) = othN P.2.1 L pr s 5 p c + 0 := oth_0 (fun h => h.2 ((nI_eq (by have := hIP.2.1 c; omega) (by decide)).mp h658))
          have hx2 : nL (othN P.2.1 L pr s 5 p c) + 0 = nL (othN P.2.1 L pr s 5 p (c + 1)) := by rw [hx, ← nL_add]; rfl
          refine X_lconst (v := 0) dL_areRight_673 rfl ?_
          refine X_ladd dL_areRight_674 ?_
          refine XJ.top (v' := .long (nL (othN P.2.1 L pr s 5 p (c + 1)))) (by rw [hx2]) ?_
          refine X_lstore (i := 15) (lo' := [(15, _), (0, _), (1, _), (2, _), (3, _), (4, _), (5, _), (6, _), (7, _), (9, _), (13, _), (17, _)]) dL_areRight_675 (by decide) rfl ?_
          refine X_iinc (i := 17) (v := nI (c + 1)) (lo' := [(17, _), (15, _), (0, _), (1, _), (2, _), (3, _), (4, _), (5, _), (6, _), (7, _), (9, _), (13, _)]) dL_areRight_677 rfl (nI_inc c) (by decide) rfl ?_
          refine X_goto (tgt := 634) dL_areRight_680 (by decide) ?_
          exact XJ.less (by omega) (by omega) (XJ.lcs (lo' := [(0, .ref a0), (1, .int (nI s)), (2, .int (nI (ln L))), (3, .ref a1), (4, .ref a2), (5, .ref a3), (6, .ref a4), (7, .int 1), (9, .int (nI p)), (13, .long (nL (sQ (listN P.2.1 L pr s 5 p 1)))), (15, .long (nL (othN P.2.1 L pr s 5 p (c + 1)))), (17, .int (nI (c + 1)))]) ⟨rfl, rfl, rfl, rfl, rfl, rfl, rfl, rfl, rfl, rfl, rfl, rfl, trivial⟩ (ih (c + 1) _ (by omega) (by omega) hS hR))
        · have hx := oth_1 (kd := P.2.1) (L := L) (pr := pr) (s := s) (f := 5) npc (fun e => h658 (by rw [e]; rfl))
          have hx2 : nL (othN P.2.1 L pr s 5 p c) + nL (hasN L pr s 5 p c) = nL (othN P.2.1 L pr s 5 p (c + 1)) := by rw [hx, nL_add]
          refine X_aload_n dL_areRight_661 (i := 0) rfl rfl ?_
          refine X_iload dL_areRight_662 (i := 9) rfl ?_
          refine X_iload dL_areRight_664 (i := 17) rfl ?_
          refine X_iload_n dL_areRight_666 (i := 1) rfl rfl ?_
          refine X_callSW (gc2 := (5 * n + gA)) (gs2 := (30 * n + gB)) (q_quantity hR.e0 hS hIP h6 p6 c6 hs1 hs2) kmL_quantity rfl lL_167 sL_quantity rfl rfl (Nat.le_of_ble_eq_true rfl) (by decide) dL_areRight_667 (by omega) (by omega) (fun E w1 hq => nomatch hq.1) (fun v w1 hq => ?_)
          have hvv := hq.1
          have hS := hq.2.1
          have hR := hR.fx hq.2.2
          cases hvv
          refine X_goto (tgt := 674) dL_areRight_670 (by decide) ?_
          refine X_ladd dL_areRight_674 ?_
          refine XJ.top (v' := .long (nL (othN P.2.1 L pr s 5 p (c + 1)))) (by rw [hx2]) ?_
          refine X_lstore (i := 15) (lo' := [(15, _), (0, _), (1, _), (2, _), (3, _), (4, _), (5, _), (6, _), (7, _), (9, _), (13, _), (17, _)]) dL_areRight_675 (by decide) rfl ?_
          refine X_iinc (i := 17) (v := nI (c + 1)) (lo' := [(17, _), (15, _), (0, _), (1, _), (2, _), (3, _), (4, _), (5, _), (6, _), (7, _), (9, _), (13, _)]) dL_areRight_677 rfl (nI_inc c) (by decide) rfl ?_
          refine X_goto (tgt := 634) dL_areRight_680 (by decide) ?_
          exact XJ.less (by omega) (by omega) (XJ.lcs (lo' := [(0, .ref a0), (1, .int (nI s)), (2, .int (nI (ln L))), (3, .ref a1), (4, .ref a2), (5, .ref a3), (6, .ref a4), (7, .int 1), (9, .int (nI p)), (13, .long (nL (sQ (listN P.2.1 L pr s 5 p 1)))), (15, .long (nL (othN P.2.1 L pr s 5 p (c + 1)))), (17, .int (nI (c + 1)))]) ⟨rfl, rfl, rfl, rfl, rfl, rfl, rfl, rfl, rfl, rfl, rfl, rfl, trivial⟩ (ih (c + 1) _ (by omega) (by omega) hS hR))
set_option maxRecDepth 20000 in
theorem r_F {P : PSt} {L : LSt} {pr : Nat → Nat} {O : OSt} {mp : Nat} {mk : Nat → UInt32} {a0 a1 a2 a3 a4 s : Nat} {f1 f2 f3 f4 : Nat → Int32} (hIP : IP P L pr O mp mk []) (h6 : P.1 = 6) (hs1 : 1 ≤ s) (hs2 : s ≤ 999) (hk : KD P) (hag : AG L f1 f2 f3 f4) {p gA gB : Nat} (p6 : p < 6) (hn : ∀ w2, ST 0 G.2.2.1 w2 P L pr O mp mk → LR 44 G.2.2.1 w2 a0 a1 a2 a3 a4 f1 f2 f3 f4 → XJ G mL_areRight 21 gA gB 88 [(0, .ref a0), (1, .int (nI s)), (2, .int (nI (ln L))), (3, .ref a1), (4, .ref a2), (5, .ref a3), (6, .ref a4), (7, .int 1), (9, .int (nI (p + 1)))] [] w2 Q) {w1 : Wd} (hS : ST 0 G.2.2.1 w1 P L pr O mp mk) (hR : LR 44 G.2.2.1 w1 a0 a1 a2 a3 a4 f1 f2 f3 f4) : XJ G mL_areRight 21 gA gB 683 [(0, .ref a0), (1, .int (nI s)), (2, .int (nI (ln L))), (3, .ref a1), (4, .ref a2), (5, .ref a3), (6, .ref a4), (7, .int 1), (9, .int (nI p)), (13, .long (nL (sQ (listN P.2.1 L pr s 5 p 1)))), (15, .long (nL (othN P.2.1 L pr s 5 p 6)))] [] w1 (Q) := by
  have hle : sQ (listN P.2.1 L pr s 5 p 1) ≤ othN P.2.1 L pr s 5 p 6 := by
    have h := entries_oth (kd := P.2.1) (pr := pr) (s := s) (p := p) hIP.2.2.1.1 hIP.2.2.1.2.2
    rwa [h6] at h
  have h63 : othN P.2.1 L pr s 5 p 6 < 2 ^ 63 := oth_63 hIP.2.2.1.1
  refine X_iload dL_areRight_683 (i := 7) rfl ?_
  refine X_lload dL_areRight_685 (i := 13) rfl ?_
  refine X_lload dL_areRight_687 (i := 15) rfl ?_
  refine X_lcmp dL_areRight_689 ?_
  refine X_if_gt (tgt := 697) dL_areRight_690 (by decide) (fun h690 => ?_) (fun h690 => ?_)
  · exact absurd h690 (lcmp_le (by omega) h63 hle)
  refine X_iconst (v := 1) dL_areRight_693 (by decide) ?_
  refine X_goto (tgt := 698) dL_areRight_694 (by decide) ?_
  refine X_iand dL_areRight_698 ?_
  refine XJ.top (v' := .int 1) (by decide) ?_
  refine X_istore (i := 7) (lo' := [(7, _), (0, _), (1, _), (2, _), (3, _), (4, _), (5, _), (6, _), (9, _), (13, _), (15, _)]) dL_areRight_699 (by decide) rfl ?_
  refine X_iinc (i := 9) (v := nI (p + 1)) (lo' := [(9, _), (7, _), (0, _), (1, _), (2, _), (3, _), (4, _), (5, _), (6, _), (13, _), (15, _)]) dL_areRight_701 rfl (nI_inc p) (by decide) rfl ?_
  refine X_goto (tgt := 88) dL_areRight_704 (by decide) ?_
  exact XJ.less (by omega) (by omega) (XJ.lcs (lo' := [(0, .ref a0), (1, .int (nI s)), (2, .int (nI (ln L))), (3, .ref a1), (4, .ref a2), (5, .ref a3), (6, .ref a4), (7, .int 1), (9, .int (nI (p + 1)))]) ⟨rfl, rfl, rfl, rfl, rfl, rfl, rfl, rfl, rfl, trivial⟩ (hn _ hS hR))
theorem r_part {P : PSt} {L : LSt} {pr : Nat → Nat} {O : OSt} {mp : Nat} {mk : Nat → UInt32} {a0 a1 a2 a3 a4 s : Nat} {f1 f2 f3 f4 : Nat → Int32} (hIP : IP P L pr O mp mk []) (h6 : P.1 = 6) (hs1 : 1 ≤ s) (hs2 : s ≤ 999) (hk : KD P) (hag : AG L f1 f2 f3 f4) {p gA gB : Nat} (p6 : p < 6) (hn : ∀ w2, ST 0 G.2.2.1 w2 P L pr O mp mk → LR 44 G.2.2.1 w2 a0 a1 a2 a3 a4 f1 f2 f3 f4 → XJ G mL_areRight 21 gA gB 88 [(0, .ref a0), (1, .int (nI s)), (2, .int (nI (ln L))), (3, .ref a1), (4, .ref a2), (5, .ref a3), (6, .ref a4), (7, .int 1), (9, .int (nI (p + 1)))] [] w2 Q) {w1 : Wd} (hS : ST 0 G.2.2.1 w1 P L pr O mp mk) (hR : LR 44 G.2.2.1 w1 a0 a1 a2 a3 a4 f1 f2 f3 f4) : XJ G mL_areRight 21 (2667 + gA) (15778 + gB) 109 [(0, .ref a0), (1, .int (nI s)), (2, .int (nI (ln L))), (3, .ref a1), (4, .ref a2), (5, .ref a3), (6, .ref a4), (7, .int 1), (9, .int (nI p)), (10, .int (nI (dirN L pr s p 0))), (11, .int (bI (plB P.2.1 L pr s p 0))), (12, .int (nI 0))] [] w1 Q := by
  have h40 := hIP.2.2.1.1.2.1
  refine XJ.less (gc' := 9 * 41 + (2298 + gA)) (gs' := 54 * 41 + (13564 + gB)) (by omega) (by omega) (r_ln hIP h6 hs1 hs2 hk hag p6 (fun w2 hS hR => ?_) 41 0 w1 (by omega) (Nat.zero_le _) hS hR)
  refine X_iconst (v := 0) dL_areRight_227 (by decide) ?_
  refine X_istore (i := 12) (lo' := [(12, .int 0), (0, .ref a0), (1, .int (nI s)), (2, .int (nI (ln L))), (3, .ref a1), (4, .ref a2), (5, .ref a3), (6, .ref a4), (7, .int 1), (9, .int (nI p)), (10, .int (nI (dirN L pr s p (ln L)))), (11, .int (bI (plB P.2.1 L pr s p (ln L))))]) dL_areRight_228 (by decide) rfl ?_
  refine XJ.less (gc' := 254 * 7 + (520 + gA)) (gs' := 1524 * 7 + (2896 + gB)) (by omega) (by omega) (XJ.lcs (lo' := [(0, .ref a0), (1, .int (nI s)), (2, .int (nI (ln L))), (3, .ref a1), (4, .ref a2), (5, .ref a3), (6, .ref a4), (7, .int 1), (9, .int (nI p)), (10, .int (nI (dirN L pr s p (ln L)))), (11, .int (bI (plB P.2.1 L pr s p (ln L)))), (12, .int (nI 0))]) ⟨rfl, rfl, rfl, rfl, rfl, rfl, rfl, rfl, rfl, rfl, rfl, rfl, trivial⟩ (r_q hIP h6 hs1 hs2 hk hag p6 (fun w2 hS hR => ?_) 7 0 w2 (by decide) (by decide) hS hR))
  refine XJ.less (gc' := 67 + (453 + gA)) (gs' := 290 + (2606 + gB)) (by omega) (by omega) (r_A hIP h6 hs1 hs2 hk hag p6 (fun w2 hS hR => ?_) hS hR)
  refine XJ.less (gc' := 27 + (426 + gA)) (gs' := 162 + (2444 + gB)) (by omega) (by omega) (r_B hIP h6 hs1 hs2 hk hag p6 (fun w2 hS hR => ?_) hS hR)
  refine XJ.less (gc' := 391 + (35 + gA)) (gs' := 2234 + (210 + gB)) (by omega) (by omega) (r_E hIP h6 hs1 hs2 hk hag p6 (fun w2 hS hR => ?_) hS hR)
  refine X_lconst (v := 0) dL_areRight_628 rfl ?_
  refine X_lstore (i := 15) (lo' := [(15, .long 0), (0, .ref a0), (1, .int (nI s)), (2, .int (nI (ln L))), (3, .ref a1), (4, .ref a2), (5, .ref a3), (6, .ref a4), (7, .int 1), (9, .int (nI p)), (13, .long (nL (sQ (listN P.2.1 L pr s 5 p 1))))]) dL_areRight_629 (by decide) rfl ?_
  refine X_iconst (v := 0) dL_areRight_631 (by decide) ?_
  refine X_istore (i := 17) (lo' := [(17, .int 0), (15, .long 0), (0, .ref a0), (1, .int (nI s)), (2, .int (nI (ln L))), (3, .ref a1), (4, .ref a2), (5, .ref a3), (6, .ref a4), (7, .int 1), (9, .int (nI p)), (13, .long (nL (sQ (listN P.2.1 L pr s 5 p 1))))]) dL_areRight_632 (by decide) rfl ?_
  refine XJ.less (gc' := 5 * 7 + gA) (gs' := 30 * 7 + gB) (by omega) (by omega) (XJ.lcs (lo' := [(0, .ref a0), (1, .int (nI s)), (2, .int (nI (ln L))), (3, .ref a1), (4, .ref a2), (5, .ref a3), (6, .ref a4), (7, .int 1), (9, .int (nI p)), (13, .long (nL (sQ (listN P.2.1 L pr s 5 p 1)))), (15, .long (nL (othN P.2.1 L pr s 5 p 0))), (17, .int (nI 0))]) ⟨rfl, rfl, rfl, rfl, rfl, rfl, rfl, rfl, rfl, rfl, rfl, rfl, trivial⟩ (r_pt hIP h6 hs1 hs2 hk hag p6 (fun w2 hS hR => ?_) 7 0 w2 (by decide) (by decide) hS hR))
  exact r_F hIP h6 hs1 hs2 hk hag p6 hn hS hR
set_option maxRecDepth 20000 in
theorem r_all {P : PSt} {L : LSt} {pr : Nat → Nat} {O : OSt} {mp : Nat} {mk : Nat → UInt32} {a0 a1 a2 a3 a4 s : Nat} {f1 f2 f3 f4 : Nat → Int32} (hIP : IP P L pr O mp mk []) (h6 : P.1 = 6) (hs1 : 1 ≤ s) (hs2 : s ≤ 999) (hk : KD P) (hag : AG L f1 f2 f3 f4) : ∀ (n : Nat) (p : Nat) (w1 : Wd), 6 - p < n → p ≤ 6 → ST 0 G.2.2.1 w1 P L pr O mp mk → LR 44 G.2.2.1 w1 a0 a1 a2 a3 a4 f1 f2 f3 f4 → XJ G mL_areRight 21 (2667 * n + 217) (15778 * n + 1302) 88 [(0, .ref a0), (1, .int (nI s)), (2, .int (nI (ln L))), (3, .ref a1), (4, .ref a2), (5, .ref a3), (6, .ref a4), (7, .int 1), (9, .int (nI p))] [] w1 (fun r w' => r = .inl (some (.int 1)) ∧ ST 0 G.2.2.1 w' P L pr O mp mk ∧ LR 43 G.2.2.1 w' a0 a1 a2 a3 a4 f1 f2 f3 f4) := by
  intro n
  induction n with
  | zero => intro p w1 hm hp hS hR; exact absurd hm (Nat.not_lt_zero _)
  | succ n ih =>
    intro p w1 hm hp hS hR
    refine X_iload dL_areRight_88 (i := 9) rfl ?_
    refine X_bipush (v := 6) dL_areRight_90 (by decide) ?_
    refine X_icmp_ge (tgt := 707) dL_areRight_92 (by decide) (fun h92 => ?_) (fun h92 => ?_)
    · refine X_iload dL_areRight_707 (i := 7) rfl ?_
      refine X_if_eq (tgt := 724) dL_areRight_709 (by decide) (fun h709 => ?_) (fun h709 => ?_)
      · exact absurd h709 (by decide)
      refine X_aload_n dL_areRight_712 (i := 0) rfl rfl ?_
      refine X_iload_n dL_areRight_713 (i := 1) rfl rfl ?_
      refine X_callS (gc2 := (2667 * n)) (gs2 := (15778 * n)) (m_areUsed hR.e0 hIP h6 hs1 hs2 hS) kmL_areUsed rfl lL_262 sL_areUsed rfl rfl (Nat.le_of_ble_eq_true rfl) (by decide) dL_areRight_714 (by omega) (by omega) (fun E w1 hq => nomatch hq.1) (fun v w1 hq => ?_)
      have hvv := hq.1
      have hS := hq.2.1
      have hR := hR.fx hq.2.2
      cases hvv
      refine X_if_eq (tgt := 724) dL_areRight_717 (by decide) (fun h717 => ?_) (fun h717 => ?_)
      · exact absurd h717 (by decide)
      refine X_iconst (v := 1) dL_areRight_720 (by decide) ?_
      refine X_goto (tgt := 725) dL_areRight_721 (by decide) ?_
      refine XJ.cut hR.1 ?_
      refine X_ireturn dL_areRight_725 rfl rfl ?_
      exact ⟨rfl, hS.cut, hR.cut⟩
    · have p6 : p < 6 := lt6 (by decide) hp h92
      refine X_iload dL_areRight_95 (i := 7) rfl ?_
      refine X_if_eq (tgt := 707) dL_areRight_97 (by decide) (fun h97 => ?_) (fun h97 => ?_)
      · exact absurd h97 (by decide)
      refine X_iconst (v := 0) dL_areRight_100 (by decide) ?_
      refine X_istore (i := 10) (lo' := [(10, _), (0, _), (1, _), (2, _), (3, _), (4, _), (5, _), (6, _), (7, _), (9, _)]) dL_areRight_101 (by decide) rfl ?_
      refine X_iconst (v := 1) dL_areRight_103 (by decide) ?_
      refine X_istore (i := 11) (lo' := [(11, _), (10, _), (0, _), (1, _), (2, _), (3, _), (4, _), (5, _), (6, _), (7, _), (9, _)]) dL_areRight_104 (by decide) rfl ?_
      refine X_iconst (v := 0) dL_areRight_106 (by decide) ?_
      refine X_istore (i := 12) (lo' := [(12, _), (11, _), (10, _), (0, _), (1, _), (2, _), (3, _), (4, _), (5, _), (6, _), (7, _), (9, _)]) dL_areRight_107 (by decide) rfl ?_
      exact XJ.less (gc' := 2667 + (2667 * n + 217)) (gs' := 15778 + (15778 * n + 1302)) (by omega) (by omega) (XJ.lcs (lo' := [(0, .ref a0), (1, .int (nI s)), (2, .int (nI (ln L))), (3, .ref a1), (4, .ref a2), (5, .ref a3), (6, .ref a4), (7, .int 1), (9, .int (nI p)), (10, .int (nI (dirN L pr s p 0))), (11, .int (bI (plB P.2.1 L pr s p 0))), (12, .int (nI 0))]) ⟨rfl, rfl, rfl, rfl, rfl, rfl, rfl, rfl, rfl, rfl, rfl, rfl, trivial⟩ (r_part hIP h6 hs1 hs2 hk hag p6 (fun w2 hS hR => ih (p + 1) w2 (by omega) (by omega) hS hR) hS hR))
set_option maxRecDepth 20000 in
theorem m_areRight {P : PSt} {L : LSt} {pr : Nat → Nat} {O : OSt} {mp : Nat} {mk : Nat → UInt32} {a0 a1 a2 a3 a4 s : Nat} {f1 f2 f3 f4 : Nat → Int32} (hIP : IP P L pr O mp mk []) (h6 : P.1 = 6) (hs1 : 1 ≤ s) (hs2 : s ≤ 999) (hk : KD P) (hag : AG L f1 f2 f3 f4) (hS : ST 0 G.2.2.1 w P L pr O mp mk) (hR : LR 43 G.2.2.1 w a0 a1 a2 a3 a4 f1 f2 f3 f4) : XC G mL_areRight 21 18969 112282 [.ref a0, .int (nI s), .int (nI (ln L)), .ref a1, .ref a2, .ref a3, .ref a4] w (fun r w' => r = .inl (some (.int 1)) ∧ ST 0 G.2.2.1 w' P L pr O mp mk ∧ LR 43 G.2.2.1 w' a0 a1 a2 a3 a4 f1 f2 f3 f4) := by
  have h40 := hIP.2.2.1.1.2.1
  refine XC.of (lo0 := [(0, .ref a0), (1, .int (nI s)), (2, .int (nI (ln L))), (3, .ref a1), (4, .ref a2), (5, .ref a3), (6, .ref a4)]) kmL_areRight (Nat.le_of_ble_eq_true rfl) rfl ?_
  refine X_iconst (v := 1) dL_areRight_0 (by decide) ?_
  refine X_istore (i := 7) (lo' := [(7, .int 1), (0, .ref a0), (1, .int (nI s)), (2, .int (nI (ln L))), (3, .ref a1), (4, .ref a2), (5, .ref a3), (6, .ref a4)]) dL_areRight_1 (by decide) rfl ?_
  refine X_bipush (v := 42) dL_areRight_3 (by decide) ?_
  refine X_newa (atype := .int) (t := 0) (N' := 42) (ty := .int) (a0 := (42, .inl (fun _ => 0))) rfl rfl (fun C h => nomatch h) arr_int (fun cA => rfl) rfl (by decide) (by decide) (by decide) (by decide) dL_areRight_5 (fun a5 => ?_)
  obtain ⟨hR1, hx, hH⟩ := LR.add (q := a5) (e := .inl (G.2.2.1 0, (42, .inl (fun _ => 0)))) hR
  have hS1 := ST.add (q := a5) (e := .inl (G.2.2.1 0, (42, .inl (fun _ => 0)))) hS hR.1
  refine X_astore (i := 8) (lo' := [(8, .ref a5), (7, .int 1), (0, .ref a0), (1, .int (nI s)), (2, .int (nI (ln L))), (3, .ref a1), (4, .ref a2), (5, .ref a3), (6, .ref a4)]) dL_areRight_7 (by decide) rfl ?_
  refine X_iconst (v := 0) dL_areRight_9 (by decide) ?_
  refine X_istore (i := 9) (lo' := [(9, .int 0), (8, .ref a5), (7, .int 1), (0, .ref a0), (1, .int (nI s)), (2, .int (nI (ln L))), (3, .ref a1), (4, .ref a2), (5, .ref a3), (6, .ref a4)]) dL_areRight_10 (by decide) rfl ?_
  refine XJ.less (gc' := 2 * 41 + 18886) (gs' := 12 * 41 + 111748) (by decide) (by decide) (XJ.lcs (lo' := [(0, .ref a0), (1, .int (nI s)), (2, .int (nI (ln L))), (3, .ref a1), (4, .ref a2), (5, .ref a3), (6, .ref a4), (7, .int 1), (8, .ref a5), (9, .int (nI 0))]) ⟨rfl, rfl, rfl, rfl, rfl, rfl, rfl, rfl, rfl, rfl, trivial⟩ (r_held hIP h6 hs1 hs2 hk hag (fun w2 hS hR hH hx => ?_) 41 0 _ (by omega) (Nat.zero_le _) hS1 hR1 hH hx))
  refine X_iconst (v := 0) dL_areRight_50 (by decide) ?_
  refine X_istore (i := 9) (lo' := [(9, .int 0), (0, .ref a0), (1, .int (nI s)), (2, .int (nI (ln L))), (3, .ref a1), (4, .ref a2), (5, .ref a3), (6, .ref a4), (7, .int 1), (8, .ref a5)]) dL_areRight_51 (by decide) rfl ?_
  refine XJ.lcs (lo' := [(0, .ref a0), (1, .int (nI s)), (2, .int (nI (ln L))), (3, .ref a1), (4, .ref a2), (5, .ref a3), (6, .ref a4), (7, .int 1), (8, .ref a5), (9, .int (nI 0))]) ⟨rfl, rfl, rfl, rfl, rfl, rfl, rfl, rfl, rfl, rfl, trivial⟩ (r_one hIP h6 hs1 hs2 hk hag (fun w2 hS hR => ?_) 43 0 _ (by decide) (by decide) hS hR hH hx)
  refine X_iconst (v := 0) dL_areRight_85 (by decide) ?_
  refine X_istore (i := 9) (lo' := [(9, .int 0), (0, .ref a0), (1, .int (nI s)), (2, .int (nI (ln L))), (3, .ref a1), (4, .ref a2), (5, .ref a3), (6, .ref a4), (7, .int 1), (8, .ref a5)]) dL_areRight_86 (by decide) rfl ?_
  exact XJ.less (gc' := 2667 * 7 + 217) (gs' := 15778 * 7 + 1302) (by decide) (by decide) (XJ.lcs (lo' := [(0, .ref a0), (1, .int (nI s)), (2, .int (nI (ln L))), (3, .ref a1), (4, .ref a2), (5, .ref a3), (6, .ref a4), (7, .int 1), (9, .int (nI 0))]) ⟨rfl, rfl, rfl, rfl, rfl, rfl, rfl, rfl, rfl, trivial⟩ (r_all hIP h6 hs1 hs2 hk hag 7 0 _ (by decide) (by decide) hS hR))
end RightQ
