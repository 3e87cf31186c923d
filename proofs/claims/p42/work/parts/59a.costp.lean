/-! COSTS of the class: the calls (walks by gen/spec59.py) -/
section CostP
variable {G : Gx} {w : Wd}
theorem sF_no {L : LSt} {pr : Nat → Nat} {s p : Nat} {g : Nat → UInt32} {a : UInt32} (h : ∀ j, j < ln L → pa L j ≠ p) : ∀ n, sF L pr s p g a n = a
  | 0 => rfl
  | n + 1 => by
    rw [sF, sF_no h n]
    cases hx : lnAt L pr s p (n + 1) with
    | none => rfl
    | some j => exact absurd (lnAt_some hx).2.2.1 (h j (lnAt_some hx).1)
/-- which of two is dearer -/
def gtF (x y : UInt32) : Bool := !decide (Op.cmpValue (FP.fcmp x y) CmpOp.l ≤ 0)
def dsF (g : Nat → UInt32) (d : Option Nat) : Option Nat → Option Nat
  | none => d
  | some l => match d with
    | none => some l
    | some b => bif gtF (g l) (g b) then some l else some b
/-- the dearest line of p, up to position n -/
def dstF (L : LSt) (pr : Nat → Nat) (s p : Nat) (g : Nat → UInt32) : Nat → Option Nat
  | 0 => none
  | n + 1 => dsF g (dstF L pr s p g n) (lnAt L pr s p (n + 1))
theorem dst_n {L : LSt} {pr : Nat → Nat} {s p n : Nat} {g : Nat → UInt32} (hx : lnAt L pr s p (n + 1) = none) : dstF L pr s p g (n + 1) = dstF L pr s p g n := by rw [dstF, hx]; rfl
theorem dst_1 {L : LSt} {pr : Nat → Nat} {s p n l : Nat} {g : Nat → UInt32} (hx : lnAt L pr s p (n + 1) = some l) (h : dstF L pr s p g n = none) : dstF L pr s p g (n + 1) = some l := by rw [dstF, hx, h]; rfl
theorem dst_t {L : LSt} {pr : Nat → Nat} {s p n l b : Nat} {g : Nat → UInt32} (hx : lnAt L pr s p (n + 1) = some l) (h : dstF L pr s p g n = some b) (h2 : ¬ Op.cmpValue (FP.fcmp (g l) (g b)) CmpOp.l ≤ 0) : dstF L pr s p g (n + 1) = some l := by
  rw [dstF, hx, h]
  show (bif gtF (g l) (g b) then some l else some b) = some l
  rw [gtF, decide_eq_false h2]; rfl
theorem dst_f {L : LSt} {pr : Nat → Nat} {s p n l b : Nat} {g : Nat → UInt32} (hx : lnAt L pr s p (n + 1) = some l) (h : dstF L pr s p g n = some b) (h2 : Op.cmpValue (FP.fcmp (g l) (g b)) CmpOp.l ≤ 0) : dstF L pr s p g (n + 1) = some b := by
  rw [dstF, hx, h]
  show (bif gtF (g l) (g b) then some l else some b) = some b
  rw [gtF, decide_eq_true h2]; rfl
theorem dst_lt {L : LSt} {pr : Nat → Nat} {s p : Nat} {g : Nat → UInt32} : ∀ n b, dstF L pr s p g n = some b → b < ln L
  | 0, b, h => by cases h
  | n + 1, b, h => by
    cases hx : lnAt L pr s p (n + 1) with
    | none => rw [dst_n hx] at h; exact dst_lt n b h
    | some l =>
      have hl := (lnAt_some hx).1
      cases hd : dstF L pr s p g n with
      | none => rw [dst_1 hx hd] at h; cases h; exact hl
      | some c =>
        by_cases h2 : Op.cmpValue (FP.fcmp (g l) (g c)) CmpOp.l ≤ 0
        · rw [dst_f hx hd h2] at h; cases h; exact dst_lt n b hd
        · rw [dst_t hx hd h2] at h; cases h; exact hl
def cdD (a s : Int32) (np : Nat) (d : Option Nat) : Nat := if cdA a s np = 0 then (match d with | none => 3 | some _ => 0) else cdA a s np
theorem cdD_n {a s : Int32} {np : Nat} {d : Option Nat} (h : cdA a s np ≠ 0) : cdD a s np d = cdA a s np := if_neg h
theorem cdD_0 {a s : Int32} {np b : Nat} (h : cdA a s np = 0) : cdD a s np (some b) = 0 := if_pos h
theorem cdD_3 {a s : Int32} {np : Nat} (h : cdA a s np = 0) : cdD a s np none = 3 := if_pos h
def cdH (a s : Int32) (np mp : Nat) : Nat := if cdA a s np = 0 then (if idx a < mp then 0 else 3) else cdA a s np
theorem cdH_n {a s : Int32} {np mp : Nat} (h : cdA a s np ≠ 0) : cdH a s np mp = cdA a s np := if_neg h
theorem cdH_0 {a s : Int32} {np mp : Nat} (h : cdA a s np = 0) (h2 : idx a < mp) : cdH a s np mp = 0 := by rw [cdH, if_pos h, if_pos h2]
theorem cdH_3 {a s : Int32} {np mp : Nat} (h : cdA a s np = 0) (h2 : ¬ idx a < mp) : cdH a s np mp = 3 := by rw [cdH, if_pos h, if_neg h2]
def cdM (s : Int32) : Nat := bif btw s 1 999 then 0 else 1
/-- the world after the costs were rolled up -/
def cstW (K : Nat → ClassId) (w : Wd) (L : LSt) (pr : Nat → Nat) (s : Nat) (w' : Wd) : Prop := ∃ c : Nat → UInt32, w' = setM (selW K w L pr s) 30 (aF K 16 c)
def wgtW (K : Nat → ClassId) (w : Wd) (L : LSt) (pr : Nat → Nat) (s : Nat) (w' : Wd) : Prop := ∃ c : Nat → UInt64, w' = setM (selW K w L pr s) 32 (aD K 16 c)
set_option maxRecDepth 20000 in
theorem c_walkC_s {np : Nat} {P : PSt} {L : LSt} {pr : Nat → Nat} {s : Nat} (hB : XB w) (hP : XP G.2.2.1 w P) (hL : XL G.2.2.1 w L) (hM : cel w 19 (aI G.2.2.1 96 (hlN L pr s (ln L)))) (hI : LI np L) (hPP : ∀ p, p < np → P.2.2.1 p ≤ 99999) {f dd : Nat} (hd : f + 1 + dd = 5) (p : Nat) (hp : p < np) (hnc : ∀ i, i < ln L → pa L i = p → NC (ln L) (pa L) (ch L) f (ch L i)) (hrec : ∀ q, q < np → NC (ln L) (pa L) (ch L) f q → XC G mX10_walkCost (f + 1) 0 0 [.ref (w.1 1), .int (nI q), .int (nI (dd + 1))] w (fun r w' => r = .inl (some (.float (priF P L pr s f q))) ∧ w' = w)) : XC G mX10_walkCost (f + 2) 0 0 [.ref (w.1 1), .int (nI p), .int (nI dd)] w (fun r w' => r = .inl (some (.float (priF P L pr s (f + 1) p))) ∧ w' = w) := by
  have h16 := hI.1
  have h40 := hI.2.1
  refine XC.of (lo0 := [(0, .ref (w.1 1)), (1, .int (nI p)), (2, .int (nI dd))]) kmX10_walkCost (Nat.le_of_ble_eq_true rfl) rfl ?_
  have hloop : ∀ (n : Nat) (l : Nat), 6 - l < n → l ≤ 6 → XJ G mX10_walkCost (f + 2) 0 0 19 [(0, .ref (w.1 1)), (1, .int (nI p)), (2, .int (nI dd)), (3, .float (sF L pr s p (mrF L (priF P L pr s f)) (ownF P p) l)), (4, .int (nI (l + 1)))] [] w (fun r w' => r = .inl (some (.float (priF P L pr s (f + 1) p))) ∧ w' = w) := by
    intro n
    induction n with
    | zero => intro l hm hl; exact absurd hm (Nat.not_lt_zero _)
    | succ n ih =>
      intro l hm hl
      refine X_iload dX10_walkCost_19 (i := 4) rfl ?_
      refine X_bipush (v := 6) dX10_walkCost_21 (by decide) ?_
      refine X_icmp_gt (tgt := 76) dX10_walkCost_23 (by decide) (fun h1 => ?_) (fun h1 => ?_)
      · have h5 : l = 6 := by have := lt_nI (a := 6) (by decide) (by omega) h1; omega
        subst h5
        refine X_fload_n dX10_walkCost_76 (i := 3) rfl rfl ?_
        refine X_freturn dX10_walkCost_77 rfl ?_
        exact ⟨rfl, rfl⟩
      · have h5 : l < 6 := by have := nlt_nI (a := 6) (by decide) (by omega) h1; omega
        refine X_aload_n dX10_walkCost_26 (i := 0) rfl rfl ?_
        refine X_iload_n dX10_walkCost_27 (i := 1) rfl rfl ?_
        refine X_iload dX10_walkCost_28 (i := 4) rfl ?_
        refine X_callV (gc2 := 0) (gs2 := 0) (c_heldLine p (l + 1) (by omega) (by omega) (by omega) hB hM) (i := 1) hB rfl rfl kmX0_heldLine rfl lX10_419 iX0_heldLine vX0_heldLine rfl rfl (Nat.le_of_ble_eq_true rfl) (by omega) dX10_walkCost_30 (by decide) (by decide) (fun E w1 hq => nomatch hq.1) (fun v w1 hq => ?_)
        have hv := hq.1
        obtain rfl := hq.2.symm
        cases hv
        refine XJ.top (v' := .int (oI (lnAt L pr s p (l + 1)))) (by rw [hlN_at hI (by omega) (by omega)]) ?_
        refine X_istore (i := 5) (lo' := [(5, _), (0, _), (1, _), (2, _), (3, _), (4, _)]) dX10_walkCost_33 (by decide) rfl ?_
        refine X_iload dX10_walkCost_35 (i := 5) rfl ?_
        refine X_iconst (v := -1) dX10_walkCost_37 (by decide) ?_
        refine X_icmp_eq (tgt := 70) dX10_walkCost_38 (by decide) (fun h2 => ?_) (fun h2 => ?_)
        · have hx := oI_none (n := ln L) (fun j h => (lnAt_some (L := L) (pr := pr) (s := s) (p := p) (k := l + 1) h).1) (by omega) h2
          refine X_iinc (i := 4) (v := nI (l + 1 + 1)) (lo' := [(4, _), (5, _), (0, _), (1, _), (2, _), (3, _)]) dX10_walkCost_70 rfl (nI_inc (l + 1)) (by decide) rfl ?_
          refine X_goto (tgt := 19) dX10_walkCost_73 (by decide) ?_
          first
            | exact XJ.lcs (lo' := [(0, .ref (w.1 1)), (1, .int (nI p)), (2, .int (nI dd)), (3, .float (sF L pr s p (mrF L (priF P L pr s f)) (ownF P p) (l + 1))), (4, .int (nI (l + 1 + 1)))]) ⟨rfl, rfl, rfl, (by rw [sF, hx]; rfl), rfl, trivial⟩ (ih (l + 1) (by omega) (by omega))
        · obtain ⟨j, hx⟩ := oI_some (n := ln L) (fun j h => (lnAt_some (L := L) (pr := pr) (s := s) (p := p) (k := l + 1) h).1) (by omega) h2
          have hj := lnAt_some hx
          have hb := hI.2.2 j hj.1
          have hjn := hj.1
          rw [show oI (lnAt L pr s p (l + 1)) = nI j by rw [hx]; rfl]
          refine X_fload_n dX10_walkCost_41 (i := 3) rfl rfl ?_
          refine X_aload_n dX10_walkCost_42 (i := 0) rfl rfl ?_
          refine X_get (i := 1) hB rfl (ci := 0) rfl in0 (k := 1) (by decide) fX10_137 rfl dX10_walkCost_43 ?_
          refine X_iload dX10_walkCost_46 (i := 5) rfl ?_
          refine X_aload_n dX10_walkCost_48 (i := 0) rfl rfl ?_
          refine X_aload_n dX10_walkCost_49 (i := 0) rfl rfl ?_
          refine X_get (i := 1) hB rfl (ci := 0) rfl in0 (k := 1) (by decide) fX10_137 rfl dX10_walkCost_50 ?_
          refine X_get (i := 6) hL.1 rfl (ci := 3) rfl in4 (k := 2) (by decide) fX10_422 rfl dX10_walkCost_53 ?_
          refine X_iload dX10_walkCost_56 (i := 5) rfl ?_
          refine X_iald (i := 9) hL.2.2.2.1 rfl rfl (by omega) (by decide) dX10_walkCost_58 ?_
          refine X_iload_n dX10_walkCost_59 (i := 2) rfl rfl ?_
          refine X_iconst (v := 1) dX10_walkCost_60 (by decide) ?_
          refine X_iadd dX10_walkCost_61 ?_
          refine XJ.top (v' := .int (nI (dd + 1))) (by rw [← nI_1]) ?_
          refine X_callS (gc2 := 0) (gs2 := 0) (hrec (ch L j) hb.2.2.1 (hnc j hjn hj.2.2.1)) kmX10_walkCost rfl lX10_255 sX10_walkCost rfl rfl (Nat.le_of_ble_eq_true rfl) (by omega) dX10_walkCost_62 (by decide) (by decide) (fun E w1 hq => nomatch hq.1) (fun v w1 hq => ?_)
          have hv := hq.1
          obtain rfl := hq.2.symm
          cases hv
          refine X_callV (gc2 := 0) (gs2 := 0) (c_addedCost hL hI j hjn _ (priF_z (s := s) (pr := pr) hI hPP f (ch L j) (by omega) hb.2.2.1) (by omega) (by omega)) (i := 6) hL.1 rfl rfl kmX4_addedCost rfl lX10_435 iX4_addedCost vX4_addedCost rfl rfl (Nat.le_of_ble_eq_true rfl) (by omega) dX10_walkCost_65 (by decide) (by decide) (fun E w1 hq => nomatch hq.1) (fun v w1 hq => ?_)
          have hv := hq.1
          obtain rfl := hq.2.symm
          cases hv
          refine X_fadd dX10_walkCost_68 (sF_nn (g := priF P L pr s f) hI (hPP p hp) (fun j h1 _ _ => priF_z hI hPP f _ (by omega) (hI.2.2 j h1).2.2.1) (by omega) (by omega) hx) ?_
          refine X_fstore_n (i := 3) (lo' := [(3, _), (5, _), (0, _), (1, _), (2, _), (4, _)]) dX10_walkCost_69 rfl (by decide) rfl ?_
          refine X_iinc (i := 4) (v := nI (l + 1 + 1)) (lo' := [(4, _), (3, _), (5, _), (0, _), (1, _), (2, _)]) dX10_walkCost_70 rfl (nI_inc (l + 1)) (by decide) rfl ?_
          refine X_goto (tgt := 19) dX10_walkCost_73 (by decide) ?_
          first
            | exact XJ.lcs (lo' := [(0, .ref (w.1 1)), (1, .int (nI p)), (2, .int (nI dd)), (3, .float (sF L pr s p (mrF L (priF P L pr s f)) (ownF P p) (l + 1))), (4, .int (nI (l + 1 + 1)))]) ⟨rfl, rfl, rfl, (by rw [sF, hx]; rfl), rfl, trivial⟩ (ih (l + 1) (by omega) (by omega))
  refine X_aload_n dX10_walkCost_0 (i := 0) rfl rfl ?_
  refine X_get (i := 1) hB rfl (ci := 0) rfl in0 (k := 0) (by decide) fX10_80 rfl dX10_walkCost_1 ?_
  refine X_iload_n dX10_walkCost_4 (i := 1) rfl rfl ?_
  refine X_callV (gc2 := 0) (gs2 := 0) (c_ownCost p (by omega) (hPP p hp) hP) (i := 2) hP.1 rfl rfl kmX7_ownCost rfl lX10_431 iX7_ownCost vX7_ownCost rfl rfl (Nat.le_of_ble_eq_true rfl) (by omega) dX10_walkCost_5 (by decide) (by decide) (fun E w1 hq => nomatch hq.1) (fun v w1 hq => ?_)
  have hv := hq.1
  obtain rfl := hq.2.symm
  cases hv
  refine X_fstore_n (i := 3) (lo' := [(3, _), (0, _), (1, _), (2, _)]) dX10_walkCost_8 rfl (by decide) rfl ?_
  refine X_iload_n dX10_walkCost_9 (i := 2) rfl rfl ?_
  refine X_iconst (v := 4) dX10_walkCost_10 (by decide) ?_
  refine X_icmp_lt (tgt := 16) dX10_walkCost_11 (by decide) (fun h3 => ?_) (fun h3 => ?_)
  · refine X_iconst (v := 1) dX10_walkCost_16 (by decide) ?_
    refine X_istore (i := 4) (lo' := [(4, _), (3, _), (0, _), (1, _), (2, _)]) dX10_walkCost_17 (by decide) rfl ?_
    exact XJ.lcs (lo' := [(0, .ref (w.1 1)), (1, .int (nI p)), (2, .int (nI dd)), (3, .float (sF L pr s p (mrF L (priF P L pr s f)) (ownF P p) 0)), (4, .int (nI (0 + 1)))]) ⟨rfl, rfl, rfl, rfl, rfl, trivial⟩ (hloop 7 0 (by omega) (by omega))
  · have h4 : 4 ≤ dd := by have := nlt_nI (a := dd) (b := 4) (by omega) (by decide) h3; omega
    have hf0 : f = 0 := by omega
    subst hf0
    refine X_fload_n dX10_walkCost_14 (i := 3) rfl rfl ?_
    refine X_freturn dX10_walkCost_15 rfl ?_
    exact ⟨rF (by rw [priF, sF_no (fun j h1 h2 => (hnc j h1 h2).elim)]), rfl⟩
theorem c_walkC {np : Nat} {P : PSt} {L : LSt} {pr : Nat → Nat} {s : Nat} (hB : XB w) (hP : XP G.2.2.1 w P) (hL : XL G.2.2.1 w L) (hM : cel w 19 (aI G.2.2.1 96 (hlN L pr s (ln L)))) (hI : LI np L) (hPP : ∀ p, p < np → P.2.2.1 p ≤ 99999) : ∀ (f dd : Nat), f + dd = 5 → ∀ (p : Nat), p < np → NC (ln L) (pa L) (ch L) f p → XC G mX10_walkCost (f + 1) 0 0 [.ref (w.1 1), .int (nI p), .int (nI dd)] w (fun r w' => r = .inl (some (.float (priF P L pr s f p))) ∧ w' = w)
  | 0, _, _, _, _, h => h.elim
  | f + 1, dd, hd, p, hp, h => c_walkC_s hB hP hL hM hI hPP (by omega) p hp h (fun q hq hn => c_walkC hB hP hL hM hI hPP f (dd + 1) (by omega) q hq hn)
set_option maxRecDepth 20000 in
theorem c_dearestLine {np : Nat} {P : PSt} {L : LSt} {pr : Nat → Nat} {s : Nat} (hB : XB w) (hP : XP G.2.2.1 w P) (hL : XL G.2.2.1 w L) (hM : cel w 19 (aI G.2.2.1 96 (hlN L pr s (ln L)))) (hI : LI np L) (hPP : ∀ p, p < np → P.2.2.1 p ≤ 99999) {c : Nat → UInt32} (hC : XC2 G.2.2.1 w c) (hcc : ∀ x, x < np → c x = priF P L pr s 5 x) (p : Nat) (hp : p < np) : XC G mX2_dearestLine 2 0 0 [.ref (w.1 29), .ref (w.1 1), .int (nI p)] w (fun r w' => r = .inl (some (.int (oI (dstF L pr s p (mrF L (priF P L pr s 5)) 6)))) ∧ w' = w) := by
  have h16 := hI.1
  have h40 := hI.2.1
  have hg : ∀ j, j < ln L → mrF L c j = (mrF L (priF P L pr s 5)) j := fun j h => by unfold mrF; rw [hcc _ (hI.2.2 j h).2.2.1]
  refine XC.of (lo0 := [(0, .ref (w.1 29)), (1, .ref (w.1 1)), (2, .int (nI p))]) kmX2_dearestLine (Nat.le_of_ble_eq_true rfl) rfl ?_
  have hloop : ∀ (n : Nat) (l : Nat), 6 - l < n → l ≤ 6 → XJ G mX2_dearestLine 2 0 0 5 [(0, .ref (w.1 29)), (1, .ref (w.1 1)), (2, .int (nI p)), (3, .int (oI (dstF L pr s p (mrF L (priF P L pr s 5)) l))), (4, .int (nI (l + 1)))] [] w (fun r w' => r = .inl (some (.int (oI (dstF L pr s p (mrF L (priF P L pr s 5)) 6)))) ∧ w' = w) := by
    intro n
    induction n with
    | zero => intro l hm hl; exact absurd hm (Nat.not_lt_zero _)
    | succ n ih =>
      intro l hm hl
      refine X_iload dX2_dearestLine_5 (i := 4) rfl ?_
      refine X_bipush (v := 6) dX2_dearestLine_7 (by decide) ?_
      refine X_icmp_gt (tgt := 58) dX2_dearestLine_9 (by decide) (fun h1 => ?_) (fun h1 => ?_)
      · have h5 : l = 6 := by have := lt_nI (a := 6) (by decide) (by omega) h1; omega
        subst h5
        refine X_iload_n dX2_dearestLine_58 (i := 3) rfl rfl ?_
        refine X_ireturn dX2_dearestLine_59 rfl rfl ?_
        exact ⟨rfl, rfl⟩
      · have h5 : l < 6 := by have := nlt_nI (a := 6) (by decide) (by omega) h1; omega
        refine X_aload_n dX2_dearestLine_12 (i := 1) rfl rfl ?_
        refine X_iload_n dX2_dearestLine_13 (i := 2) rfl rfl ?_
        refine X_iload dX2_dearestLine_14 (i := 4) rfl ?_
        refine X_callV (gc2 := 0) (gs2 := 0) (c_heldLine p (l + 1) (by omega) (by omega) (by omega) hB hM) (i := 1) hB rfl rfl kmX0_heldLine rfl lX2_35 iX0_heldLine vX0_heldLine rfl rfl (Nat.le_of_ble_eq_true rfl) (by decide) dX2_dearestLine_16 (by decide) (by decide) (fun E w1 hq => nomatch hq.1) (fun v w1 hq => ?_)
        have hv := hq.1
        obtain rfl := hq.2.symm
        cases hv
        refine XJ.top (v' := .int (oI (lnAt L pr s p (l + 1)))) (by rw [hlN_at hI (by omega) (by omega)]) ?_
        refine X_istore (i := 5) (lo' := [(5, _), (0, _), (1, _), (2, _), (3, _), (4, _)]) dX2_dearestLine_19 (by decide) rfl ?_
        refine X_iload dX2_dearestLine_21 (i := 5) rfl ?_
        refine X_iconst (v := -1) dX2_dearestLine_23 (by decide) ?_
        refine X_icmp_eq (tgt := 52) dX2_dearestLine_24 (by decide) (fun h2 => ?_) (fun h2 => ?_)
        · have hx := oI_none (n := ln L) (fun j h => (lnAt_some (L := L) (pr := pr) (s := s) (p := p) (k := l + 1) h).1) (by omega) h2
          refine X_iinc (i := 4) (v := nI (l + 1 + 1)) (lo' := [(4, _), (5, _), (0, _), (1, _), (2, _), (3, _)]) dX2_dearestLine_52 rfl (nI_inc (l + 1)) (by decide) rfl ?_
          refine X_goto (tgt := 5) dX2_dearestLine_55 (by decide) ?_
          first
            | exact XJ.lcs (lo' := [(0, .ref (w.1 29)), (1, .ref (w.1 1)), (2, .int (nI p)), (3, .int (oI (dstF L pr s p (mrF L (priF P L pr s 5)) (l + 1)))), (4, .int (nI (l + 1 + 1)))]) ⟨rfl, rfl, rfl, (by rw [dst_n hx]; rfl), rfl, trivial⟩ (ih (l + 1) (by omega) (by omega))
            | exact XJ.lcs (lo' := [(0, .ref (w.1 29)), (1, .ref (w.1 1)), (2, .int (nI p)), (3, .int (oI (dstF L pr s p (mrF L (priF P L pr s 5)) (l + 1)))), (4, .int (nI (l + 1 + 1)))]) ⟨rfl, rfl, rfl, (by rw [dst_1 hx h8]; rfl), rfl, trivial⟩ (ih (l + 1) (by omega) (by omega))
            | exact XJ.lcs (lo' := [(0, .ref (w.1 29)), (1, .ref (w.1 1)), (2, .int (nI p)), (3, .int (oI (dstF L pr s p (mrF L (priF P L pr s 5)) (l + 1)))), (4, .int (nI (l + 1 + 1)))]) ⟨rfl, rfl, rfl, (by rw [dst_f hx h8 h7, ← h8]; rfl), rfl, trivial⟩ (ih (l + 1) (by omega) (by omega))
            | exact XJ.lcs (lo' := [(0, .ref (w.1 29)), (1, .ref (w.1 1)), (2, .int (nI p)), (3, .int (oI (dstF L pr s p (mrF L (priF P L pr s 5)) (l + 1)))), (4, .int (nI (l + 1 + 1)))]) ⟨rfl, rfl, rfl, (by rw [dst_t hx h8 h7]; rfl), rfl, trivial⟩ (ih (l + 1) (by omega) (by omega))
        · obtain ⟨j, hx⟩ := oI_some (n := ln L) (fun j h => (lnAt_some (L := L) (pr := pr) (s := s) (p := p) (k := l + 1) h).1) (by omega) h2
          have hj := lnAt_some hx
          have hb := hI.2.2 j hj.1
          have hjn := hj.1
          rw [show oI (lnAt L pr s p (l + 1)) = nI j by rw [hx]; rfl]
          refine X_iload_n dX2_dearestLine_27 (i := 3) rfl rfl ?_
          refine X_iconst (v := -1) dX2_dearestLine_28 (by decide) ?_
          refine X_icmp_eq (tgt := 49) dX2_dearestLine_29 (by decide) (fun h6 => ?_) (fun h6 => ?_)
          · have h8 := oI_none (n := ln L) (fun j h => dst_lt (L := L) (pr := pr) (s := s) (p := p) (g := (mrF L (priF P L pr s 5))) l j h) (by omega) h6
            refine X_iload dX2_dearestLine_49 (i := 5) rfl ?_
            refine X_istore_n (i := 3) (lo' := [(3, _), (5, _), (0, _), (1, _), (2, _), (4, _)]) dX2_dearestLine_51 rfl (by decide) rfl ?_
            refine X_iinc (i := 4) (v := nI (l + 1 + 1)) (lo' := [(4, _), (3, _), (5, _), (0, _), (1, _), (2, _)]) dX2_dearestLine_52 rfl (nI_inc (l + 1)) (by decide) rfl ?_
            refine X_goto (tgt := 5) dX2_dearestLine_55 (by decide) ?_
            first
              | exact XJ.lcs (lo' := [(0, .ref (w.1 29)), (1, .ref (w.1 1)), (2, .int (nI p)), (3, .int (oI (dstF L pr s p (mrF L (priF P L pr s 5)) (l + 1)))), (4, .int (nI (l + 1 + 1)))]) ⟨rfl, rfl, rfl, (by rw [dst_n hx]; rfl), rfl, trivial⟩ (ih (l + 1) (by omega) (by omega))
              | exact XJ.lcs (lo' := [(0, .ref (w.1 29)), (1, .ref (w.1 1)), (2, .int (nI p)), (3, .int (oI (dstF L pr s p (mrF L (priF P L pr s 5)) (l + 1)))), (4, .int (nI (l + 1 + 1)))]) ⟨rfl, rfl, rfl, (by rw [dst_1 hx h8]; rfl), rfl, trivial⟩ (ih (l + 1) (by omega) (by omega))
              | exact XJ.lcs (lo' := [(0, .ref (w.1 29)), (1, .ref (w.1 1)), (2, .int (nI p)), (3, .int (oI (dstF L pr s p (mrF L (priF P L pr s 5)) (l + 1)))), (4, .int (nI (l + 1 + 1)))]) ⟨rfl, rfl, rfl, (by rw [dst_f hx h8 h7, ← h8]; rfl), rfl, trivial⟩ (ih (l + 1) (by omega) (by omega))
              | exact XJ.lcs (lo' := [(0, .ref (w.1 29)), (1, .ref (w.1 1)), (2, .int (nI p)), (3, .int (oI (dstF L pr s p (mrF L (priF P L pr s 5)) (l + 1)))), (4, .int (nI (l + 1 + 1)))]) ⟨rfl, rfl, rfl, (by rw [dst_t hx h8 h7]; rfl), rfl, trivial⟩ (ih (l + 1) (by omega) (by omega))
          · obtain ⟨b, h8⟩ := oI_some (n := ln L) (fun j h => dst_lt (L := L) (pr := pr) (s := s) (p := p) (g := (mrF L (priF P L pr s 5))) l j h) (by omega) h6
            have hbn : b < ln L := dst_lt l b h8
            refine X_aload_n dX2_dearestLine_32 (i := 0) rfl rfl ?_
            refine X_aload_n dX2_dearestLine_33 (i := 1) rfl rfl ?_
            refine X_iload dX2_dearestLine_34 (i := 5) rfl ?_
            refine X_callV (gc2 := 0) (gs2 := 0) (c_addedBy hB hL hI hC j hjn (by rw [hcc _ (hI.2.2 _ (by assumption)).2.2.1]; exact priF_z hI hPP 5 _ (by omega) (hI.2.2 _ (by assumption)).2.2.1)) (i := 29) hC.1 rfl rfl kmX2_addedBy rfl lX2_39 iX2_addedBy vX2_addedBy rfl rfl (Nat.le_of_ble_eq_true rfl) (by decide) dX2_dearestLine_36 (by decide) (by decide) (fun E w1 hq => nomatch hq.1) (fun v w1 hq => ?_)
            have hv := hq.1
            obtain rfl := hq.2.symm
            cases hv
            refine XJ.top (v' := .float ((mrF L (priF P L pr s 5)) j)) (by rw [hg j hjn]) ?_
            refine X_aload_n dX2_dearestLine_39 (i := 0) rfl rfl ?_
            refine X_aload_n dX2_dearestLine_40 (i := 1) rfl rfl ?_
            refine X_iload_n dX2_dearestLine_41 (i := 3) rfl rfl ?_
            refine XJ.top (v' := .int (nI b)) (by rw [h8]; rfl) ?_
            refine X_callV (gc2 := 0) (gs2 := 0) (c_addedBy hB hL hI hC b hbn (by rw [hcc _ (hI.2.2 _ (by assumption)).2.2.1]; exact priF_z hI hPP 5 _ (by omega) (hI.2.2 _ (by assumption)).2.2.1)) (i := 29) hC.1 rfl rfl kmX2_addedBy rfl lX2_39 iX2_addedBy vX2_addedBy rfl rfl (Nat.le_of_ble_eq_true rfl) (by decide) dX2_dearestLine_42 (by decide) (by decide) (fun E w1 hq => nomatch hq.1) (fun v w1 hq => ?_)
            have hv := hq.1
            obtain rfl := hq.2.symm
            cases hv
            refine XJ.top (v' := .float ((mrF L (priF P L pr s 5)) b)) (by rw [hg b hbn]) ?_
            refine X_fcmp dX2_dearestLine_45 ?_
            refine X_if_le (tgt := 52) dX2_dearestLine_46 (by decide) (fun h7 => ?_) (fun h7 => ?_)
            · refine X_iinc (i := 4) (v := nI (l + 1 + 1)) (lo' := [(4, _), (5, _), (0, _), (1, _), (2, _), (3, _)]) dX2_dearestLine_52 rfl (nI_inc (l + 1)) (by decide) rfl ?_
              refine X_goto (tgt := 5) dX2_dearestLine_55 (by decide) ?_
              first
                | exact XJ.lcs (lo' := [(0, .ref (w.1 29)), (1, .ref (w.1 1)), (2, .int (nI p)), (3, .int (oI (dstF L pr s p (mrF L (priF P L pr s 5)) (l + 1)))), (4, .int (nI (l + 1 + 1)))]) ⟨rfl, rfl, rfl, (by rw [dst_n hx]; rfl), rfl, trivial⟩ (ih (l + 1) (by omega) (by omega))
                | exact XJ.lcs (lo' := [(0, .ref (w.1 29)), (1, .ref (w.1 1)), (2, .int (nI p)), (3, .int (oI (dstF L pr s p (mrF L (priF P L pr s 5)) (l + 1)))), (4, .int (nI (l + 1 + 1)))]) ⟨rfl, rfl, rfl, (by rw [dst_1 hx h8]; rfl), rfl, trivial⟩ (ih (l + 1) (by omega) (by omega))
                | exact XJ.lcs (lo' := [(0, .ref (w.1 29)), (1, .ref (w.1 1)), (2, .int (nI p)), (3, .int (oI (dstF L pr s p (mrF L (priF P L pr s 5)) (l + 1)))), (4, .int (nI (l + 1 + 1)))]) ⟨rfl, rfl, rfl, (by rw [dst_f hx h8 h7, ← h8]; rfl), rfl, trivial⟩ (ih (l + 1) (by omega) (by omega))
                | exact XJ.lcs (lo' := [(0, .ref (w.1 29)), (1, .ref (w.1 1)), (2, .int (nI p)), (3, .int (oI (dstF L pr s p (mrF L (priF P L pr s 5)) (l + 1)))), (4, .int (nI (l + 1 + 1)))]) ⟨rfl, rfl, rfl, (by rw [dst_t hx h8 h7]; rfl), rfl, trivial⟩ (ih (l + 1) (by omega) (by omega))
            · refine X_iload dX2_dearestLine_49 (i := 5) rfl ?_
              refine X_istore_n (i := 3) (lo' := [(3, _), (5, _), (0, _), (1, _), (2, _), (4, _)]) dX2_dearestLine_51 rfl (by decide) rfl ?_
              refine X_iinc (i := 4) (v := nI (l + 1 + 1)) (lo' := [(4, _), (3, _), (5, _), (0, _), (1, _), (2, _)]) dX2_dearestLine_52 rfl (nI_inc (l + 1)) (by decide) rfl ?_
              refine X_goto (tgt := 5) dX2_dearestLine_55 (by decide) ?_
              first
                | exact XJ.lcs (lo' := [(0, .ref (w.1 29)), (1, .ref (w.1 1)), (2, .int (nI p)), (3, .int (oI (dstF L pr s p (mrF L (priF P L pr s 5)) (l + 1)))), (4, .int (nI (l + 1 + 1)))]) ⟨rfl, rfl, rfl, (by rw [dst_n hx]; rfl), rfl, trivial⟩ (ih (l + 1) (by omega) (by omega))
                | exact XJ.lcs (lo' := [(0, .ref (w.1 29)), (1, .ref (w.1 1)), (2, .int (nI p)), (3, .int (oI (dstF L pr s p (mrF L (priF P L pr s 5)) (l + 1)))), (4, .int (nI (l + 1 + 1)))]) ⟨rfl, rfl, rfl, (by rw [dst_1 hx h8]; rfl), rfl, trivial⟩ (ih (l + 1) (by omega) (by omega))
                | exact XJ.lcs (lo' := [(0, .ref (w.1 29)), (1, .ref (w.1 1)), (2, .int (nI p)), (3, .int (oI (dstF L pr s p (mrF L (priF P L pr s 5)) (l + 1)))), (4, .int (nI (l + 1 + 1)))]) ⟨rfl, rfl, rfl, (by rw [dst_f hx h8 h7, ← h8]; rfl), rfl, trivial⟩ (ih (l + 1) (by omega) (by omega))
                | exact XJ.lcs (lo' := [(0, .ref (w.1 29)), (1, .ref (w.1 1)), (2, .int (nI p)), (3, .int (oI (dstF L pr s p (mrF L (priF P L pr s 5)) (l + 1)))), (4, .int (nI (l + 1 + 1)))]) ⟨rfl, rfl, rfl, (by rw [dst_t hx h8 h7]; rfl), rfl, trivial⟩ (ih (l + 1) (by omega) (by omega))
  refine X_iconst (v := -1) dX2_dearestLine_0 (by decide) ?_
  refine X_istore_n (i := 3) (lo' := [(3, _), (0, _), (1, _), (2, _)]) dX2_dearestLine_1 rfl (by decide) rfl ?_
  refine X_iconst (v := 1) dX2_dearestLine_2 (by decide) ?_
  refine X_istore (i := 4) (lo' := [(4, _), (3, _), (0, _), (1, _), (2, _)]) dX2_dearestLine_3 (by decide) rfl ?_
  exact XJ.lcs (lo' := [(0, .ref (w.1 29)), (1, .ref (w.1 1)), (2, .int (nI p)), (3, .int (oI (dstF L pr s p (mrF L (priF P L pr s 5)) 0))), (4, .int (nI (0 + 1)))]) ⟨rfl, rfl, rfl, rfl, rfl, trivial⟩ (hloop 7 0 (by omega) (by omega))
set_option maxRecDepth 20000 in
theorem c_rolled {mp cf np : Nat} {P : PSt} {L : LSt} {hc hl : Nat → Int32} (h0 : X0 w mp cf) (hB : XB w) (hP : XP G.2.2.1 w P) (hL : XL G.2.2.1 w L) (hS : XSel G.2.2.1 w hc hl) (hnp : P.1 = np) (hI : LI np L) (hN : NC5 L) (hPI : PI P) {c : Nat → UInt32} (hC : XC2 G.2.2.1 w c) {pr : Nat → Nat} (hpr : ∀ i, i < 4 → pr i < 4) (p s : Nat) (hp : p < np) (hs : s < 2 ^ 31) : XC G mX10_rolledUpCost 4 0 0 [.ref (w.1 0), .int (nI p), .int (nI s), .int (nI (cfg pr))] w (fun r w' => r = .inl (some (.float (priF P L pr s 5 p))) ∧ cstW G.2.2.1 w L pr s w') := by
  have h16 := hI.1
  have h40 := hI.2.1
  refine XC.of (lo0 := [(0, .ref (w.1 0)), (1, .int (nI p)), (2, .int (nI s)), (3, .int (nI (cfg pr)))]) kmX10_rolledUpCost (Nat.le_of_ble_eq_true rfl) rfl ?_
  refine X_aload_n dX10_rolledUpCost_0 (i := 0) rfl rfl ?_
  refine X_get (i := 0) h0 rfl (ci := 9) rfl in10 (k := 0) (by decide) fX10_10 rfl dX10_rolledUpCost_1 ?_
  refine X_iload_n dX10_rolledUpCost_4 (i := 2) rfl rfl ?_
  refine X_iload_n dX10_rolledUpCost_5 (i := 3) rfl rfl ?_
  refine X_callV (gc2 := 0) (gs2 := 0) (c_select hB hL hS hI hpr s hs) (i := 1) hB rfl rfl kmX0_select rfl lX10_237 iX0_select vX0_select rfl rfl (Nat.le_of_ble_eq_true rfl) (by decide) dX10_rolledUpCost_6 (by decide) (by decide) (fun E w1 hq => nomatch hq.1) (fun v w1 hq => ?_)
  have hv := hq.1
  obtain rfl := hq.2.symm
  cases hv
  refine X_aload_n dX10_rolledUpCost_9 (i := 0) rfl rfl ?_
  refine X_get (i := 0) h0 rfl (ci := 9) rfl in10 (k := 3) (by decide) fX10_33 rfl dX10_rolledUpCost_10 ?_
  refine X_aload_n dX10_rolledUpCost_13 (i := 0) rfl rfl ?_
  refine X_get (i := 0) h0 rfl (ci := 9) rfl in10 (k := 0) (by decide) fX10_10 rfl dX10_rolledUpCost_14 ?_
  refine X_callV (gc2 := 0) (gs2 := 0) (c_rollUp (w := (selW G.2.2.1 w L pr s)) (s := s) (pr := pr) hB hP hL ⟨hS.2.1, rfl⟩ hI hnp hN (fun p hp => (hPI.2 p (by omega)).2.1) ⟨hS.1.1, rfl⟩ (c := c) hC) (i := 29) hC.1 rfl rfl kmX2_rollUp rfl lX10_266 iX2_rollUp vX2_rollUp rfl rfl (Nat.le_of_ble_eq_true rfl) (by decide) dX10_rolledUpCost_17 (by decide) (by decide) (fun E w1 hq => nomatch hq.1) (fun v w1 hq => ?_)
  have hv := hq.1
  obtain ⟨c', hw2, hc'⟩ := hq.2
  subst hw2
  cases hv
  have e30 : cel (setM (selW G.2.2.1 w L pr s) 30 (aF G.2.2.1 16 c')) 30 (aF G.2.2.1 16 c') := ⟨hC.2.1, rfl⟩
  refine X_aload_n dX10_rolledUpCost_20 (i := 0) rfl rfl ?_
  refine X_get (i := 0) h0 rfl (ci := 9) rfl in10 (k := 3) (by decide) fX10_33 rfl dX10_rolledUpCost_21 ?_
  refine X_get (i := 29) hC.1 rfl (ci := 1) rfl in2 (k := 0) (by decide) fX10_287 rfl dX10_rolledUpCost_24 ?_
  refine X_iload_n dX10_rolledUpCost_27 (i := 1) rfl rfl ?_
  refine X_fald (i := 30) e30 rfl rfl (by omega) (by decide) dX10_rolledUpCost_28 ?_
  refine X_freturn dX10_rolledUpCost_29 rfl ?_
  exact ⟨rF (hc' p hp), _, rfl⟩
set_option maxRecDepth 20000 in
theorem c_rolledW {mp np : Nat} {P : PSt} {L : LSt} {pr : Nat → Nat} {hc hl : Nat → Int32} (h0 : X0 w mp (cfg pr)) (hB : XB w) (hP : XP G.2.2.1 w P) (hL : XL G.2.2.1 w L) (hS : XSel G.2.2.1 w hc hl) (hnp : P.1 = np) (hI : LI np L) (hN : NC5 L) (hPI : PI P) {c : Nat → UInt64} (hC : XW2 G.2.2.1 w c) (hpr : ∀ i, i < 4 → pr i < 4) (p s : Nat) (hp : p < np) (hs : s < 2 ^ 31) : XC G mX10_rolledUpWeight 4 0 0 [.ref (w.1 0), .int (nI p), .int (nI s)] w (fun r w' => r = .inl (some (.double (masF P L pr s 5 p))) ∧ wgtW G.2.2.1 w L pr s w') := by
  have h16 := hI.1
  have h40 := hI.2.1
  refine XC.of (lo0 := [(0, .ref (w.1 0)), (1, .int (nI p)), (2, .int (nI s))]) kmX10_rolledUpWeight (Nat.le_of_ble_eq_true rfl) rfl ?_
  refine X_aload_n dX10_rolledUpWeight_0 (i := 0) rfl rfl ?_
  refine X_get (i := 0) h0 rfl (ci := 9) rfl in10 (k := 0) (by decide) fX10_10 rfl dX10_rolledUpWeight_1 ?_
  refine X_iload_n dX10_rolledUpWeight_4 (i := 2) rfl rfl ?_
  refine X_aload_n dX10_rolledUpWeight_5 (i := 0) rfl rfl ?_
  refine X_get (i := 0) h0 rfl (ci := 9) rfl in10 (k := 9) (by decide) fX10_66 rfl dX10_rolledUpWeight_6 ?_
  refine X_callV (gc2 := 0) (gs2 := 0) (c_select hB hL hS hI hpr s hs) (i := 1) hB rfl rfl kmX0_select rfl lX10_237 iX0_select vX0_select rfl rfl (Nat.le_of_ble_eq_true rfl) (by decide) dX10_rolledUpWeight_9 (by decide) (by decide) (fun E w1 hq => nomatch hq.1) (fun v w1 hq => ?_)
  have hv := hq.1
  obtain rfl := hq.2.symm
  cases hv
  refine X_aload_n dX10_rolledUpWeight_12 (i := 0) rfl rfl ?_
  refine X_get (i := 0) h0 rfl (ci := 9) rfl in10 (k := 4) (by decide) fX10_40 rfl dX10_rolledUpWeight_13 ?_
  refine X_aload_n dX10_rolledUpWeight_16 (i := 0) rfl rfl ?_
  refine X_get (i := 0) h0 rfl (ci := 9) rfl in10 (k := 0) (by decide) fX10_10 rfl dX10_rolledUpWeight_17 ?_
  refine X_callV (gc2 := 0) (gs2 := 0) (c_rollUpW (w := (selW G.2.2.1 w L pr s)) (s := s) (pr := pr) hB hP hL ⟨hS.2.1, rfl⟩ hI hnp hN (fun p hp => (hPI.2 p (by omega)).2.2) ⟨hS.1.1, rfl⟩ (c := c) hC) (i := 31) hC.1 rfl rfl kmX9_rollUp rfl lX10_414 iX9_rollUp vX9_rollUp rfl rfl (Nat.le_of_ble_eq_true rfl) (by decide) dX10_rolledUpWeight_20 (by decide) (by decide) (fun E w1 hq => nomatch hq.1) (fun v w1 hq => ?_)
  have hv := hq.1
  obtain ⟨c', hw2, hc'⟩ := hq.2
  subst hw2
  cases hv
  have e32 : cel (setM (selW G.2.2.1 w L pr s) 32 (aD G.2.2.1 16 c')) 32 (aD G.2.2.1 16 c') := ⟨hC.2.1, rfl⟩
  refine X_aload_n dX10_rolledUpWeight_23 (i := 0) rfl rfl ?_
  refine X_get (i := 0) h0 rfl (ci := 9) rfl in10 (k := 4) (by decide) fX10_40 rfl dX10_rolledUpWeight_24 ?_
  refine X_get (i := 31) hC.1 rfl (ci := 8) rfl in9 (k := 0) (by decide) fX10_415 rfl dX10_rolledUpWeight_27 ?_
  refine X_iload_n dX10_rolledUpWeight_30 (i := 1) rfl rfl ?_
  refine X_dald (i := 32) e32 rfl rfl (by omega) (by decide) dX10_rolledUpWeight_31 ?_
  refine X_dreturn dX10_rolledUpWeight_32 rfl ?_
  exact ⟨rD (hc' p hp), _, rfl⟩
end CostP
