/-! THE LAW: areUsed and sum (walks by gen/spec82.py) -/
section SumQ
variable {G : Gx} {w : Wd} {Q : XRes → Wd → Prop}
theorem FX.trans {w w1 w2 : Wd} (h : FX w w1) (h2 : FX w1 w2) : FX w w2 := ⟨h2.1.trans h.1, h2.2.1.trans h.2.1, fun i hi => ⟨(h2.2.2 i hi).1.trans (h.2.2 i hi).1, (h2.2.2 i hi).2.trans (h.2.2 i hi).2⟩⟩
theorem has_63 {np : Nat} {L : LSt} {pr : Nat → Nat} {s f p c : Nat} (hI : LI np L) (hf : f ≤ 5) : hasN L pr s f p c < 2 ^ 63 := Nat.lt_of_le_of_lt (hasN_le hI f p c) (Nat.lt_of_le_of_lt (Nat.pow_le_pow_right (by decide) hf) (by decide))
/-- f for 0 .. n-1, one after the other -/
def itI {α : Type} (f : Nat → α → α) : Nat → α → α
  | 0, v => v
  | n + 1, v => f n (itI f n v)
theorem ge6 {p n : Nat} (hn : n < 2 ^ 31) (hp : p ≤ n) (h : nI n ≤ nI p) : p = n := by have := ge_nI hn (by omega) h; omega
theorem lt6 {p n : Nat} (hn : n < 2 ^ 31) (hp : p ≤ n) (h : ¬ nI n ≤ nI p) : p < n := by
  rcases Nat.lt_or_ge p n with h1 | h1
  · exact h1
  · exact absurd ((nI_leI hn (by omega)).mpr h1) h
set_option maxRecDepth 20000 in
theorem u_in {P : PSt} {L : LSt} {pr : Nat → Nat} {O : OSt} {mp : Nat} {mk : Nat → UInt32} {a0 s : Nat} (ha : w.1 0 = a0) (hIP : IP P L pr O mp mk []) (h6 : P.1 = 6) (hs1 : 1 ≤ s) (hs2 : s ≤ 999) {c gA gB : Nat} (hc6 : c < 6) (hn : ∀ w2, ST 0 G.2.2.1 w2 P L pr O mp mk → FX w w2 → XJ G mL_areUsed 20 gA gB 58 [(0, .ref a0), (1, .int (nI s)), (2, .int 1), (3, .int (nI c)), (4, .int (nI (cntB (fun p => decide (p ≠ c) && decide (hasN L pr s 5 p c ≠ 0)) 6)))] [] w2 Q) : ∀ (n : Nat) (p : Nat) (w1 : Wd), 6 - p < n → p ≤ 6 → ST 0 G.2.2.1 w1 P L pr O mp mk → FX w w1 → XJ G mL_areUsed 20 (4 * n + gA) (24 * n + gB) 16 [(0, .ref a0), (1, .int (nI s)), (2, .int 1), (3, .int (nI c)), (4, .int (nI (cntB (fun p => decide (p ≠ c) && decide (hasN L pr s 5 p c ≠ 0)) p))), (5, .int (nI p))] [] w1 (Q) := by
  intro n
  induction n with
  | zero => intro p w1 hm hp hS hF; exact absurd hm (Nat.not_lt_zero _)
  | succ n ih =>
    intro p w1 hm hp hS hF
    refine X_iload dL_areUsed_16 (i := 5) rfl ?_
    refine X_bipush (v := 6) dL_areUsed_18 (by decide) ?_
    refine X_icmp_ge (tgt := 58) dL_areUsed_20 (by decide) (fun h20 => ?_) (fun h20 => ?_)
    · have e6 : p = 6 := ge6 (by decide) hp h20
      subst e6
      exact XJ.less (by omega) (by omega) (XJ.lcs (lo' := [(0, .ref a0), (1, .int (nI s)), (2, .int 1), (3, .int (nI c)), (4, .int (nI (cntB (fun p => decide (p ≠ c) && decide (hasN L pr s 5 p c ≠ 0)) 6)))]) ⟨rfl, rfl, rfl, rfl, rfl, trivial⟩ (hn _ hS hF))
    · have p6 : p < 6 := lt6 (by decide) hp h20
      refine X_iload dL_areUsed_23 (i := 4) rfl ?_
      refine X_iload dL_areUsed_25 (i := 5) rfl ?_
      refine X_iload_n dL_areUsed_27 (i := 3) rfl rfl ?_
      refine X_icmp_eq (tgt := 48) dL_areUsed_28 (by decide) (fun h28 => ?_) (fun h28 => ?_)
      · have epc : p = c := (nI_eq (by omega) (by omega)).mp h28
        have e0 : (decide (p ≠ c) && decide (hasN L pr s 5 p c ≠ 0)) = false := by rw [decide_eq_false (fun h => h epc)]; rfl
        have hu : (cntB (fun p => decide (p ≠ c) && decide (hasN L pr s 5 p c ≠ 0)) (p + 1)) = (cntB (fun p => decide (p ≠ c) && decide (hasN L pr s 5 p c ≠ 0)) p) + 0 := by rw [cntB]; show _ + (bif (decide (p ≠ c) && decide (hasN L pr s 5 p c ≠ 0)) then 1 else 0) = _; rw [e0]; rfl
        refine X_iconst (v := 0) dL_areUsed_48 (by decide) ?_
        refine X_iadd dL_areUsed_49 ?_
        refine XJ.top (v' := .int (nI (cntB (fun p => decide (p ≠ c) && decide (hasN L pr s 5 p c ≠ 0)) (p + 1)))) (by rw [hu, ← nI_add]; rfl) ?_
        refine X_istore (i := 4) (lo' := [(4, _), (0, _), (1, _), (2, _), (3, _), (5, _)]) dL_areUsed_50 (by decide) rfl ?_
        refine X_iinc (i := 5) (v := nI (p + 1)) (lo' := [(5, _), (4, _), (0, _), (1, _), (2, _), (3, _)]) dL_areUsed_52 rfl (nI_inc p) (by decide) rfl ?_
        refine X_goto (tgt := 16) dL_areUsed_55 (by decide) ?_
        exact XJ.less (by omega) (by omega) (XJ.lcs (lo' := [(0, .ref a0), (1, .int (nI s)), (2, .int 1), (3, .int (nI c)), (4, .int (nI (cntB (fun p => decide (p ≠ c) && decide (hasN L pr s 5 p c ≠ 0)) (p + 1)))), (5, .int (nI (p + 1)))]) ⟨rfl, rfl, rfl, rfl, rfl, rfl, trivial⟩ (ih (p + 1) _ (by omega) (by omega) hS hF))
      · have npc : p ≠ c := fun h => h28 (by rw [h])
        refine X_aload_n dL_areUsed_31 (i := 0) rfl rfl ?_
        refine X_iload dL_areUsed_32 (i := 5) rfl ?_
        refine X_iload_n dL_areUsed_34 (i := 3) rfl rfl ?_
        refine X_iload_n dL_areUsed_35 (i := 1) rfl rfl ?_
        refine X_callSW (gc2 := (4 * n + gA)) (gs2 := (24 * n + gB)) (q_quantity (hF.2.1.trans ha) hS hIP h6 p6 hc6 hs1 hs2) kmL_quantity rfl lL_167 sL_quantity rfl rfl (Nat.le_of_ble_eq_true rfl) (by decide) dL_areUsed_36 (by omega) (by omega) (fun E w1 hq => nomatch hq.1) (fun v w1 hq => ?_)
        have hvv := hq.1
        have hS := hq.2.1
        have hF := hF.trans hq.2.2
        cases hvv
        refine X_lconst (v := 0) dL_areUsed_39 rfl ?_
        refine X_lcmp dL_areUsed_40 ?_
        refine X_if_le (tgt := 48) dL_areUsed_41 (by decide) (fun h41 => ?_) (fun h41 => ?_)
        · have e1 := (nL_gt0 (has_63 hIP.2.2.1.1 (by decide))).mp h41
          have e0 : (decide (p ≠ c) && decide (hasN L pr s 5 p c ≠ 0)) = false := by rw [e1]; simp
          have hu : (cntB (fun p => decide (p ≠ c) && decide (hasN L pr s 5 p c ≠ 0)) (p + 1)) = (cntB (fun p => decide (p ≠ c) && decide (hasN L pr s 5 p c ≠ 0)) p) + 0 := by rw [cntB]; show _ + (bif (decide (p ≠ c) && decide (hasN L pr s 5 p c ≠ 0)) then 1 else 0) = _; rw [e0]; rfl
          refine X_iconst (v := 0) dL_areUsed_48 (by decide) ?_
          refine X_iadd dL_areUsed_49 ?_
          refine XJ.top (v' := .int (nI (cntB (fun p => decide (p ≠ c) && decide (hasN L pr s 5 p c ≠ 0)) (p + 1)))) (by rw [hu, ← nI_add]; rfl) ?_
          refine X_istore (i := 4) (lo' := [(4, _), (0, _), (1, _), (2, _), (3, _), (5, _)]) dL_areUsed_50 (by decide) rfl ?_
          refine X_iinc (i := 5) (v := nI (p + 1)) (lo' := [(5, _), (4, _), (0, _), (1, _), (2, _), (3, _)]) dL_areUsed_52 rfl (nI_inc p) (by decide) rfl ?_
          refine X_goto (tgt := 16) dL_areUsed_55 (by decide) ?_
          exact XJ.less (by omega) (by omega) (XJ.lcs (lo' := [(0, .ref a0), (1, .int (nI s)), (2, .int 1), (3, .int (nI c)), (4, .int (nI (cntB (fun p => decide (p ≠ c) && decide (hasN L pr s 5 p c ≠ 0)) (p + 1)))), (5, .int (nI (p + 1)))]) ⟨rfl, rfl, rfl, rfl, rfl, rfl, trivial⟩ (ih (p + 1) _ (by omega) (by omega) hS hF))
        · have e1 : hasN L pr s 5 p c ≠ 0 := fun h => h41 ((nL_gt0 (has_63 hIP.2.2.1.1 (by decide))).mpr h)
          have e0 : (decide (p ≠ c) && decide (hasN L pr s 5 p c ≠ 0)) = true := by rw [decide_eq_true npc, decide_eq_true e1]; rfl
          have hu : (cntB (fun p => decide (p ≠ c) && decide (hasN L pr s 5 p c ≠ 0)) (p + 1)) = (cntB (fun p => decide (p ≠ c) && decide (hasN L pr s 5 p c ≠ 0)) p) + 1 := by rw [cntB]; show _ + (bif (decide (p ≠ c) && decide (hasN L pr s 5 p c ≠ 0)) then 1 else 0) = _; rw [e0]; rfl
          refine X_iconst (v := 1) dL_areUsed_44 (by decide) ?_
          refine X_goto (tgt := 49) dL_areUsed_45 (by decide) ?_
          refine X_iadd dL_areUsed_49 ?_
          refine XJ.top (v' := .int (nI (cntB (fun p => decide (p ≠ c) && decide (hasN L pr s 5 p c ≠ 0)) (p + 1)))) (by rw [hu, ← nI_add]; rfl) ?_
          refine X_istore (i := 4) (lo' := [(4, _), (0, _), (1, _), (2, _), (3, _), (5, _)]) dL_areUsed_50 (by decide) rfl ?_
          refine X_iinc (i := 5) (v := nI (p + 1)) (lo' := [(5, _), (4, _), (0, _), (1, _), (2, _), (3, _)]) dL_areUsed_52 rfl (nI_inc p) (by decide) rfl ?_
          refine X_goto (tgt := 16) dL_areUsed_55 (by decide) ?_
          exact XJ.less (by omega) (by omega) (XJ.lcs (lo' := [(0, .ref a0), (1, .int (nI s)), (2, .int 1), (3, .int (nI c)), (4, .int (nI (cntB (fun p => decide (p ≠ c) && decide (hasN L pr s 5 p c ≠ 0)) (p + 1)))), (5, .int (nI (p + 1)))]) ⟨rfl, rfl, rfl, rfl, rfl, rfl, trivial⟩ (ih (p + 1) _ (by omega) (by omega) hS hF))
set_option maxRecDepth 20000 in
theorem u_out {P : PSt} {L : LSt} {pr : Nat → Nat} {O : OSt} {mp : Nat} {mk : Nat → UInt32} {a0 s : Nat} (ha : w.1 0 = a0) (hIP : IP P L pr O mp mk []) (h6 : P.1 = 6) (hs1 : 1 ≤ s) (hs2 : s ≤ 999) : ∀ (n : Nat) (c : Nat) (w1 : Wd), 6 - c < n → c ≤ 6 → ST 0 G.2.2.1 w1 P L pr O mp mk → FX w w1 → XJ G mL_areUsed 20 (31 * n) (186 * n) 4 [(0, .ref a0), (1, .int (nI s)), (2, .int 1), (3, .int (nI c))] [] w1 (fun r w' => r = .inl (some (.int 1)) ∧ ST 0 G.2.2.1 w' P L pr O mp mk ∧ FX w w') := by
  intro n
  induction n with
  | zero => intro c w1 hm hc hS hF; exact absurd hm (Nat.not_lt_zero _)
  | succ n ih =>
    intro c w1 hm hc hS hF
    refine X_iload_n dL_areUsed_4 (i := 3) rfl rfl ?_
    refine X_bipush (v := 6) dL_areUsed_5 (by decide) ?_
    refine X_icmp_ge (tgt := 83) dL_areUsed_7 (by decide) (fun h7 => ?_) (fun h7 => ?_)
    · refine X_iload_n dL_areUsed_83 (i := 2) rfl rfl ?_
      refine X_ireturn dL_areUsed_84 rfl rfl ?_
      exact ⟨rfl, hS, hF⟩
    · have c6 : c < 6 := lt6 (by decide) hc h7
      refine X_iconst (v := 0) dL_areUsed_10 (by decide) ?_
      refine X_istore (i := 4) (lo' := [(4, _), (0, _), (1, _), (2, _), (3, _)]) dL_areUsed_11 (by decide) rfl ?_
      refine X_iconst (v := 0) dL_areUsed_13 (by decide) ?_
      refine X_istore (i := 5) (lo' := [(5, _), (4, _), (0, _), (1, _), (2, _), (3, _)]) dL_areUsed_14 (by decide) rfl ?_
      refine XJ.less (gc' := 4 * 7 + (3 + 31 * n)) (gs' := 24 * 7 + (18 + 186 * n)) (by omega) (by omega) (XJ.lcs (lo' := [(0, .ref a0), (1, .int (nI s)), (2, .int 1), (3, .int (nI c)), (4, .int (nI (cntB (fun p => decide (p ≠ c) && decide (hasN L pr s 5 p c ≠ 0)) 0))), (5, .int (nI 0))]) ⟨rfl, rfl, rfl, rfl, rfl, rfl, trivial⟩ (u_in ha hIP h6 hs1 hs2 c6 (fun w2 hS hF => ?_) 7 0 _ (by omega) (by omega) hS hF))
      refine X_iload_n dL_areUsed_58 (i := 2) rfl rfl ?_
      refine X_aload_n dL_areUsed_59 (i := 0) rfl rfl ?_
      refine X_iload_n dL_areUsed_60 (i := 3) rfl rfl ?_
      refine X_iload_n dL_areUsed_61 (i := 1) rfl rfl ?_
      refine X_callSW (gc2 := (31 * n)) (gs2 := (186 * n)) (q_whereUsed (hF.2.1.trans ha) hS hIP h6 c6 hs1 hs2) kmL_whereUsed rfl lL_266 sL_whereUsed rfl rfl (Nat.le_of_ble_eq_true rfl) (by decide) dL_areUsed_62 (by omega) (by omega) (fun E w1 hq => nomatch hq.1) (fun v w1 hq => ?_)
      have hvv := hq.1
      have hS := hq.2.1
      have hF := hF.trans hq.2.2
      cases hvv
      refine X_iload dL_areUsed_65 (i := 4) rfl ?_
      refine X_icmp_ne (tgt := 74) dL_areUsed_67 (by decide) (fun h67 => ?_) (fun h67 => ?_)
      · exact absurd rfl h67
      · refine X_iconst (v := 1) dL_areUsed_70 (by decide) ?_
        refine X_goto (tgt := 75) dL_areUsed_71 (by decide) ?_
        refine X_iand dL_areUsed_75 ?_
        refine XJ.top (v' := .int 1) (by decide) ?_
        refine X_istore_n (i := 2) (lo' := [(2, _), (0, _), (1, _), (3, _), (4, _)]) dL_areUsed_76 rfl (by decide) rfl ?_
        refine X_iinc (i := 3) (v := nI (c + 1)) (lo' := [(3, _), (2, _), (0, _), (1, _), (4, _)]) dL_areUsed_77 rfl (nI_inc c) (by decide) rfl ?_
        refine X_goto (tgt := 4) dL_areUsed_80 (by decide) ?_
        exact XJ.less (by omega) (by omega) (XJ.lcs (lo' := [(0, .ref a0), (1, .int (nI s)), (2, .int 1), (3, .int (nI (c + 1)))]) ⟨rfl, rfl, rfl, rfl, trivial⟩ (ih (c + 1) _ (by omega) (by omega) hS hF))
set_option maxRecDepth 20000 in
theorem m_areUsed {P : PSt} {L : LSt} {pr : Nat → Nat} {O : OSt} {mp : Nat} {mk : Nat → UInt32} {a0 s : Nat} (ha : w.1 0 = a0) (hIP : IP P L pr O mp mk []) (h6 : P.1 = 6) (hs1 : 1 ≤ s) (hs2 : s ≤ 999) (hS : ST 0 G.2.2.1 w P L pr O mp mk) : XC G mL_areUsed 20 217 1302 [.ref a0, .int (nI s)] w (fun r w' => r = .inl (some (.int 1)) ∧ ST 0 G.2.2.1 w' P L pr O mp mk ∧ FX w w') := by
  refine XC.of (lo0 := [(0, .ref a0), (1, .int (nI s))]) kmL_areUsed (Nat.le_of_ble_eq_true rfl) rfl ?_
  refine X_iconst (v := 1) dL_areUsed_0 (by decide) ?_
  refine X_istore_n (i := 2) (lo' := [(2, _), (0, _), (1, _)]) dL_areUsed_1 rfl (by decide) rfl ?_
  refine X_iconst (v := 0) dL_areUsed_2 (by decide) ?_
  refine X_istore_n (i := 3) (lo' := [(3, _), (2, _), (0, _), (1, _)]) dL_areUsed_3 rfl (by decide) rfl ?_
  exact XJ.less (gc' := 31 * 7) (gs' := 186 * 7) (by decide) (by decide) (XJ.lcs (lo' := [(0, .ref a0), (1, .int (nI s)), (2, .int 1), (3, .int (nI 0))]) ⟨rfl, rfl, rfl, rfl, trivial⟩ (u_out ha hIP h6 hs1 hs2 7 0 _ (by decide) (by decide) hS FX.rf))
/-- what a part brings to the law's sum -/
def smP (P : PSt) (L : LSt) (pr : Nat → Nat) (O : OSt) (s p : Nat) (v : Int64) : Int64 := 31 * v + nL (needN L O p O.1) + 7 * (priF P L pr s 5 p).toInt32.toInt64 + 11 * (masF P L pr s 5 p).toInt64 + 13 * (nI (listN P.2.1 L pr s 5 p 1).length).toInt64 + (dstV (dstF L pr s p (mrF L (priF P L pr s 5)) 6)).toInt64
def smQ (L : LSt) (pr : Nat → Nat) (s p c : Nat) (v : Int64) : Int64 := 31 * v + nL (hasN L pr s 5 p c)
def smO (P : PSt) (L : LSt) (pr : Nat → Nat) (O : OSt) (s p : Nat) (v : Int64) : Int64 := itI (smQ L pr s p) 6 (smP P L pr O s p v)
def smL (L : LSt) (pr : Nat → Nat) (s l : Nat) (v : Int64) : Int64 := 31 * v + (nI (la L l)).toInt64 + (bI (hld L pr s l)).toInt64
def smC (pr : Nat → Nat) (l : Nat) (v : Int64) : Int64 := 31 * v + (nI (pr l)).toInt64
def sm1 (P : PSt) (L : LSt) (pr : Nat → Nat) (O : OSt) (s p : Nat) : Int64 := itI (smO P L pr O s) p (nI (ln L)).toInt64
def sm2 (P : PSt) (L : LSt) (pr : Nat → Nat) (O : OSt) (s l : Nat) : Int64 := itI (smL L pr s) l (sm1 P L pr O s 6)
/-- the law's sum -/
def smV (P : PSt) (L : LSt) (pr : Nat → Nat) (O : OSt) (s l : Nat) : Int64 := itI (smC pr) l (sm2 P L pr O s (ln L))
set_option maxRecDepth 20000 in
theorem s_ch {P : PSt} {L : LSt} {pr : Nat → Nat} {O : OSt} {mp : Nat} {mk : Nat → UInt32} {a0 s : Nat} (ha : w.1 0 = a0) (hIP : IP P L pr O mp mk []) (h6 : P.1 = 6) (hs1 : 1 ≤ s) (hs2 : s ≤ 999) : ∀ (n : Nat) (l : Nat) (w1 : Wd), 4 - l < n → l ≤ 4 → ST 0 G.2.2.1 w1 P L pr O mp mk → FX w w1 → XJ G mL_sum 20 (1 * n) (6 * n) 158 [(0, .ref a0), (1, .int (nI s)), (2, .long (smV P L pr O s l)), (4, .int (nI l))] [] w1 (fun r w' => r = .inl (some (.long (smV P L pr O s 4))) ∧ ST 0 G.2.2.1 w' P L pr O mp mk ∧ FX w w') := by
  intro n
  induction n with
  | zero => intro l w1 hm hl hS hF; exact absurd hm (Nat.not_lt_zero _)
  | succ n ih =>
    intro l w1 hm hl hS hF
    refine X_iload dL_sum_158 (i := 4) rfl ?_
    refine X_iconst (v := 4) dL_sum_160 (by decide) ?_
    refine X_icmp_ge (tgt := 184) dL_sum_161 (by decide) (fun h161 => ?_) (fun h161 => ?_)
    · have e4 : l = 4 := ge6 (by decide) hl h161
      subst e4
      refine X_lload_n dL_sum_184 (i := 2) rfl rfl ?_
      refine X_lreturn dL_sum_185 rfl ?_
      exact ⟨rfl, hS, hF⟩
    · have l4 : l < 4 := lt6 (by decide) hl h161
      refine X_ldc2 dL_sum_164 kL_213 ?_
      refine X_lload_n dL_sum_167 (i := 2) rfl rfl ?_
      refine X_lmul dL_sum_168 ?_
      refine X_aload_n dL_sum_169 (i := 0) rfl rfl ?_
      refine X_iload dL_sum_170 (i := 4) rfl ?_
      refine X_callSW (gc2 := (1 * n)) (gs2 := (6 * n)) (q_choice (hF.2.1.trans ha) hS hIP l4) kmL_choice rfl lL_185 sL_choice rfl rfl (Nat.le_of_ble_eq_true rfl) (by decide) dL_sum_172 (by omega) (by omega) (fun E w1 hq => nomatch hq.1) (fun v w1 hq => ?_)
      have hvv := hq.1
      have hS := hq.2.1
      have hF := hF.trans hq.2.2
      cases hvv
      refine X_i2l dL_sum_175 rfl ?_
      refine X_ladd dL_sum_176 ?_
      refine X_lstore_n (i := 2) (lo' := [(2, _), (0, _), (1, _), (4, _)]) dL_sum_177 rfl (by decide) rfl ?_
      refine X_iinc (i := 4) (v := nI (l + 1)) (lo' := [(4, _), (2, _), (0, _), (1, _)]) dL_sum_178 rfl (nI_inc l) (by decide) rfl ?_
      refine X_goto (tgt := 158) dL_sum_181 (by decide) ?_
      exact XJ.less (by omega) (by omega) (XJ.lcs (lo' := [(0, .ref a0), (1, .int (nI s)), (2, .long (smV P L pr O s (l + 1))), (4, .int (nI (l + 1)))]) ⟨rfl, rfl, rfl, rfl, trivial⟩ (ih (l + 1) _ (by omega) (by omega) hS hF))
set_option maxRecDepth 20000 in
theorem s_ln {P : PSt} {L : LSt} {pr : Nat → Nat} {O : OSt} {mp : Nat} {mk : Nat → UInt32} {a0 s : Nat} (ha : w.1 0 = a0) (hIP : IP P L pr O mp mk []) (h6 : P.1 = 6) (hs1 : 1 ≤ s) (hs2 : s ≤ 999) : ∀ (n : Nat) (l : Nat) (w1 : Wd), ln L - l < n → l ≤ ln L → ST 0 G.2.2.1 w1 P L pr O mp mk → FX w w1 → XJ G mL_sum 20 (3 * n + 5) (18 * n + 30) 117 [(0, .ref a0), (1, .int (nI s)), (2, .long (sm2 P L pr O s l)), (4, .int (nI l))] [] w1 (fun r w' => r = .inl (some (.long (smV P L pr O s 4))) ∧ ST 0 G.2.2.1 w' P L pr O mp mk ∧ FX w w') := by
  intro n
  induction n with
  | zero => intro l w1 hm hl hS hF; exact absurd hm (Nat.not_lt_zero _)
  | succ n ih =>
    intro l w1 hm hl hS hF
    have h40 := hIP.2.2.1.1.2.1
    refine X_iload dL_sum_117 (i := 4) rfl ?_
    refine X_aload_n dL_sum_119 (i := 0) rfl rfl ?_
    refine X_callV (gc2 := (3 * (n + 1) + 5)) (gs2 := (18 * (n + 1) + 30)) (q_lines (hF.2.1.trans ha) hS) (i := 0) hS.c0 (hF.2.1.trans ha) rfl kmX10_lines rfl lL_201 iX10_lines vX10_lines rfl rfl (Nat.le_of_ble_eq_true rfl) (by decide) dL_sum_120 (by omega) (by omega) (fun E w1 hq => nomatch hq.1) (fun v w1 hq => ?_)
    have hvv := hq.1
    obtain rfl := hq.2.symm
    cases hvv
    refine X_icmp_ge (tgt := 155) dL_sum_123 (by decide) (fun h123 => ?_) (fun h123 => ?_)
    · have el : l = ln L := ge6 (by omega) hl h123
      subst el
      refine X_iconst (v := 0) dL_sum_155 (by decide) ?_
      refine X_istore (i := 4) (lo' := [(4, _), (0, _), (1, _), (2, _)]) dL_sum_156 (by decide) rfl ?_
      exact XJ.less (gc' := 1 * 5) (gs' := 6 * 5) (by omega) (by omega) (XJ.lcs (lo' := [(0, .ref a0), (1, .int (nI s)), (2, .long (smV P L pr O s 0)), (4, .int (nI 0))]) ⟨rfl, rfl, rfl, rfl, trivial⟩ (s_ch ha hIP h6 hs1 hs2 5 0 _ (by decide) (by decide) hS hF))
    · have ll : l < ln L := lt6 (by omega) hl h123
      refine X_ldc2 dL_sum_126 kL_213 ?_
      refine X_lload_n dL_sum_129 (i := 2) rfl rfl ?_
      refine X_lmul dL_sum_130 ?_
      refine X_aload_n dL_sum_131 (i := 0) rfl rfl ?_
      refine X_iload dL_sum_132 (i := 4) rfl ?_
      refine X_callSW (gc2 := (3 * n + 7)) (gs2 := (18 * n + 42)) (q_lastSerial (hF.2.1.trans ha) hS hIP ll) kmL_lastSerial rfl lL_173 sL_lastSerial rfl rfl (Nat.le_of_ble_eq_true rfl) (by decide) dL_sum_134 (by omega) (by omega) (fun E w1 hq => nomatch hq.1) (fun v w1 hq => ?_)
      have hvv := hq.1
      have hS := hq.2.1
      have hF := hF.trans hq.2.2
      cases hvv
      refine X_i2l dL_sum_137 rfl ?_
      refine X_ladd dL_sum_138 ?_
      refine X_aload_n dL_sum_139 (i := 0) rfl rfl ?_
      refine X_iload dL_sum_140 (i := 4) rfl ?_
      refine X_iload_n dL_sum_142 (i := 1) rfl rfl ?_
      refine X_callSW (gc2 := (3 * n + 5)) (gs2 := (18 * n + 30)) (q_holds (hF.2.1.trans ha) hS hIP ll hs1 hs2) kmL_holds rfl lL_176 sL_holds rfl rfl (Nat.le_of_ble_eq_true rfl) (by decide) dL_sum_143 (by omega) (by omega) (fun E w1 hq => nomatch hq.1) (fun v w1 hq => ?_)
      have hvv := hq.1
      have hS := hq.2.1
      have hF := hF.trans hq.2.2
      cases hvv
      refine X_i2l dL_sum_146 rfl ?_
      refine X_ladd dL_sum_147 ?_
      refine X_lstore_n (i := 2) (lo' := [(2, _), (0, _), (1, _), (4, _)]) dL_sum_148 rfl (by decide) rfl ?_
      refine X_iinc (i := 4) (v := nI (l + 1)) (lo' := [(4, _), (2, _), (0, _), (1, _)]) dL_sum_149 rfl (nI_inc l) (by decide) rfl ?_
      refine X_goto (tgt := 117) dL_sum_152 (by decide) ?_
      exact XJ.less (by omega) (by omega) (XJ.lcs (lo' := [(0, .ref a0), (1, .int (nI s)), (2, .long (sm2 P L pr O s (l + 1))), (4, .int (nI (l + 1)))]) ⟨rfl, rfl, rfl, rfl, trivial⟩ (ih (l + 1) _ (by omega) (by omega) hS hF))
set_option maxRecDepth 20000 in
theorem s_qt {P : PSt} {L : LSt} {pr : Nat → Nat} {O : OSt} {mp : Nat} {mk : Nat → UInt32} {a0 s : Nat} (ha : w.1 0 = a0) (hIP : IP P L pr O mp mk []) (h6 : P.1 = 6) (hs1 : 1 ≤ s) (hs2 : s ≤ 999) {p gA gB : Nat} (p6 : p < 6) (hn : ∀ w2, ST 0 G.2.2.1 w2 P L pr O mp mk → FX w w2 → XJ G mL_sum 20 gA gB 108 [(0, .ref a0), (1, .int (nI s)), (2, .long (itI (smQ L pr s p) 6 (smP P L pr O s p (sm1 P L pr O s p)))), (4, .int (nI p))] [] w2 Q) : ∀ (n : Nat) (c : Nat) (w1 : Wd), 6 - c < n → c ≤ 6 → ST 0 G.2.2.1 w1 P L pr O mp mk → FX w w1 → XJ G mL_sum 20 (4 * n + gA) (24 * n + gB) 79 [(0, .ref a0), (1, .int (nI s)), (2, .long (itI (smQ L pr s p) c (smP P L pr O s p (sm1 P L pr O s p)))), (4, .int (nI p)), (5, .int (nI c))] [] w1 (Q) := by
  intro n
  induction n with
  | zero => intro c w1 hm hc hS hF; exact absurd hm (Nat.not_lt_zero _)
  | succ n ih =>
    intro c w1 hm hc hS hF
    refine X_iload dL_sum_79 (i := 5) rfl ?_
    refine X_bipush (v := 6) dL_sum_81 (by decide) ?_
    refine X_icmp_ge (tgt := 108) dL_sum_83 (by decide) (fun h83 => ?_) (fun h83 => ?_)
    · have e6 : c = 6 := ge6 (by decide) hc h83
      subst e6
      exact XJ.less (by omega) (by omega) (XJ.lcs (lo' := [(0, .ref a0), (1, .int (nI s)), (2, .long (itI (smQ L pr s p) 6 (smP P L pr O s p (sm1 P L pr O s p)))), (4, .int (nI p))]) ⟨rfl, rfl, rfl, rfl, trivial⟩ (hn _ hS hF))
    · have c6 : c < 6 := lt6 (by decide) hc h83
      refine X_ldc2 dL_sum_86 kL_213 ?_
      refine X_lload_n dL_sum_89 (i := 2) rfl rfl ?_
      refine X_lmul dL_sum_90 ?_
      refine X_aload_n dL_sum_91 (i := 0) rfl rfl ?_
      refine X_iload dL_sum_92 (i := 4) rfl ?_
      refine X_iload dL_sum_94 (i := 5) rfl ?_
      refine X_iload_n dL_sum_96 (i := 1) rfl rfl ?_
      refine X_callSW (gc2 := (4 * n + gA)) (gs2 := (24 * n + gB)) (q_quantity (hF.2.1.trans ha) hS hIP h6 p6 c6 hs1 hs2) kmL_quantity rfl lL_167 sL_quantity rfl rfl (Nat.le_of_ble_eq_true rfl) (by decide) dL_sum_97 (by omega) (by omega) (fun E w1 hq => nomatch hq.1) (fun v w1 hq => ?_)
      have hvv := hq.1
      have hS := hq.2.1
      have hF := hF.trans hq.2.2
      cases hvv
      refine X_ladd dL_sum_100 ?_
      refine X_lstore_n (i := 2) (lo' := [(2, _), (0, _), (1, _), (4, _), (5, _)]) dL_sum_101 rfl (by decide) rfl ?_
      refine X_iinc (i := 5) (v := nI (c + 1)) (lo' := [(5, _), (2, _), (0, _), (1, _), (4, _)]) dL_sum_102 rfl (nI_inc c) (by decide) rfl ?_
      refine X_goto (tgt := 79) dL_sum_105 (by decide) ?_
      exact XJ.less (by omega) (by omega) (XJ.lcs (lo' := [(0, .ref a0), (1, .int (nI s)), (2, .long (itI (smQ L pr s p) (c + 1) (smP P L pr O s p (sm1 P L pr O s p)))), (4, .int (nI p)), (5, .int (nI (c + 1)))]) ⟨rfl, rfl, rfl, rfl, rfl, trivial⟩ (ih (c + 1) _ (by omega) (by omega) hS hF))
set_option maxRecDepth 20000 in
theorem s_pt {P : PSt} {L : LSt} {pr : Nat → Nat} {O : OSt} {mp : Nat} {mk : Nat → UInt32} {a0 s : Nat} (ha : w.1 0 = a0) (hIP : IP P L pr O mp mk []) (h6 : P.1 = 6) (hs1 : 1 ≤ s) (hs2 : s ≤ 999) (hlen : len36 P L pr s) : ∀ (n : Nat) (p : Nat) (w1 : Wd), 6 - p < n → p ≤ 6 → ST 0 G.2.2.1 w1 P L pr O mp mk → FX w w1 → XJ G mL_sum 20 (98 * n + 128) (476 * n + 768) 9 [(0, .ref a0), (1, .int (nI s)), (2, .long (sm1 P L pr O s p)), (4, .int (nI p))] [] w1 (fun r w' => r = .inl (some (.long (smV P L pr O s 4))) ∧ ST 0 G.2.2.1 w' P L pr O mp mk ∧ FX w w') := by
  intro n
  induction n with
  | zero => intro p w1 hm hp hS hF; exact absurd hm (Nat.not_lt_zero _)
  | succ n ih =>
    intro p w1 hm hp hS hF
    refine X_iload dL_sum_9 (i := 4) rfl ?_
    refine X_bipush (v := 6) dL_sum_11 (by decide) ?_
    refine X_icmp_ge (tgt := 114) dL_sum_13 (by decide) (fun h13 => ?_) (fun h13 => ?_)
    · have e6 : p = 6 := ge6 (by decide) hp h13
      subst e6
      have h40 := hIP.2.2.1.1.2.1
      refine X_iconst (v := 0) dL_sum_114 (by decide) ?_
      refine X_istore (i := 4) (lo' := [(4, _), (0, _), (1, _), (2, _)]) dL_sum_115 (by decide) rfl ?_
      exact XJ.less (gc' := 3 * 41 + 5) (gs' := 18 * 41 + 30) (by omega) (by omega) (XJ.lcs (lo' := [(0, .ref a0), (1, .int (nI s)), (2, .long (sm2 P L pr O s 0)), (4, .int (nI 0))]) ⟨rfl, rfl, rfl, rfl, trivial⟩ (s_ln ha hIP h6 hs1 hs2 41 0 _ (by omega) (by omega) hS hF))
    · have p6 : p < 6 := lt6 (by decide) hp h13
      refine X_ldc2 dL_sum_16 kL_213 ?_
      refine X_lload_n dL_sum_19 (i := 2) rfl rfl ?_
      refine X_lmul dL_sum_20 ?_
      refine X_aload_n dL_sum_21 (i := 0) rfl rfl ?_
      refine X_iload dL_sum_22 (i := 4) rfl ?_
      refine X_callSW (gc2 := (98 * n + 224)) (gs2 := (476 * n + 1232)) (q_need (hF.2.1.trans ha) hS hIP h6 p6) kmL_need rfl lL_194 sL_need rfl rfl (Nat.le_of_ble_eq_true rfl) (by decide) dL_sum_24 (by omega) (by omega) (fun E w1 hq => nomatch hq.1) (fun v w1 hq => ?_)
      have hvv := hq.1
      have hS := hq.2.1
      have hF := hF.trans hq.2.2
      cases hvv
      refine X_ladd dL_sum_27 ?_
      refine X_ldc2 dL_sum_28 kL_215 ?_
      refine X_aload_n dL_sum_31 (i := 0) rfl rfl ?_
      refine X_iload dL_sum_32 (i := 4) rfl ?_
      refine X_iload_n dL_sum_34 (i := 1) rfl rfl ?_
      refine X_callSW (gc2 := (98 * n + 221)) (gs2 := (476 * n + 1214)) (q_costBits (hF.2.1.trans ha) hS hIP h6 p6 hs1 hs2) kmL_costBits rfl lL_217 sL_costBits rfl rfl (Nat.le_of_ble_eq_true rfl) (by decide) dL_sum_35 (by omega) (by omega) (fun E w1 hq => nomatch hq.1) (fun v w1 hq => ?_)
      have hvv := hq.1
      have hS := hq.2.1
      have hF := hF.trans hq.2.2
      cases hvv
      refine X_i2l dL_sum_38 rfl ?_
      refine X_lmul dL_sum_39 ?_
      refine X_ladd dL_sum_40 ?_
      refine X_ldc2 dL_sum_41 kL_219 ?_
      refine X_aload_n dL_sum_44 (i := 0) rfl rfl ?_
      refine X_iload dL_sum_45 (i := 4) rfl ?_
      refine X_iload_n dL_sum_47 (i := 1) rfl rfl ?_
      refine X_callSW (gc2 := (98 * n + 218)) (gs2 := (476 * n + 1196)) (q_weightBits (hF.2.1.trans ha) hS hIP h6 p6 hs1 hs2) kmL_weightBits rfl lL_221 sL_weightBits rfl rfl (Nat.le_of_ble_eq_true rfl) (by decide) dL_sum_48 (by omega) (by omega) (fun E w1 hq => nomatch hq.1) (fun v w1 hq => ?_)
      have hvv := hq.1
      have hS := hq.2.1
      have hF := hF.trans hq.2.2
      cases hvv
      refine X_lmul dL_sum_51 ?_
      refine X_ladd dL_sum_52 ?_
      refine X_ldc2 dL_sum_53 kL_224 ?_
      refine X_aload_n dL_sum_56 (i := 0) rfl rfl ?_
      refine X_iload dL_sum_57 (i := 4) rfl ?_
      refine X_iload_n dL_sum_59 (i := 1) rfl rfl ?_
      refine X_callSW (gc2 := (98 * n + 160)) (gs2 := (476 * n + 960)) (q_listSize (hF.2.1.trans ha) hS hIP h6 p6 hs1 hs2 hlen) kmL_listSize rfl lL_226 sL_listSize rfl rfl (Nat.le_of_ble_eq_true rfl) (by decide) dL_sum_60 (by omega) (by omega) (fun E w1 hq => nomatch hq.1) (fun v w1 hq => ?_)
      have hvv := hq.1
      have hS := ST.le hq.2.1 (Nat.zero_le _)
      have hF := hF.trans hq.2.2
      cases hvv
      refine X_i2l dL_sum_63 rfl ?_
      refine X_lmul dL_sum_64 ?_
      refine X_ladd dL_sum_65 ?_
      refine X_aload_n dL_sum_66 (i := 0) rfl rfl ?_
      refine X_iload dL_sum_67 (i := 4) rfl ?_
      refine X_iload_n dL_sum_69 (i := 1) rfl rfl ?_
      refine X_callSW (gc2 := (98 * n + 156)) (gs2 := (476 * n + 936)) (q_dearest (hF.2.1.trans ha) hS hIP h6 p6 hs1 hs2) kmL_dearest rfl lL_228 sL_dearest rfl rfl (Nat.le_of_ble_eq_true rfl) (by decide) dL_sum_70 (by omega) (by omega) (fun E w1 hq => nomatch hq.1) (fun v w1 hq => ?_)
      have hvv := hq.1
      have hS := hq.2.1
      have hF := hF.trans hq.2.2
      cases hvv
      refine X_i2l dL_sum_73 rfl ?_
      refine X_ladd dL_sum_74 ?_
      refine X_lstore_n (i := 2) (lo' := [(2, _), (0, _), (1, _), (4, _)]) dL_sum_75 rfl (by decide) rfl ?_
      refine X_iconst (v := 0) dL_sum_76 (by decide) ?_
      refine X_istore (i := 5) (lo' := [(5, _), (2, _), (0, _), (1, _), (4, _)]) dL_sum_77 (by decide) rfl ?_
      refine XJ.less (gc' := 4 * 7 + (98 * n + 128)) (gs' := 24 * 7 + (476 * n + 768)) (by omega) (by omega) (XJ.lcs (lo' := [(0, .ref a0), (1, .int (nI s)), (2, .long (itI (smQ L pr s p) 0 (smP P L pr O s p (sm1 P L pr O s p)))), (4, .int (nI p)), (5, .int (nI 0))]) ⟨rfl, rfl, rfl, rfl, rfl, trivial⟩ (s_qt ha hIP h6 hs1 hs2 p6 (fun w2 hS hF => ?_) 7 0 _ (by decide) (by decide) hS hF))
      refine X_iinc (i := 4) (v := nI (p + 1)) (lo' := [(4, _), (0, _), (1, _), (2, _)]) dL_sum_108 rfl (nI_inc p) (by decide) rfl ?_
      refine X_goto (tgt := 9) dL_sum_111 (by decide) ?_
      exact XJ.less (by omega) (by omega) (XJ.lcs (lo' := [(0, .ref a0), (1, .int (nI s)), (2, .long (sm1 P L pr O s (p + 1))), (4, .int (nI (p + 1)))]) ⟨rfl, rfl, rfl, rfl, trivial⟩ (ih (p + 1) _ (by omega) (by omega) hS hF))
set_option maxRecDepth 20000 in
theorem m_sum {P : PSt} {L : LSt} {pr : Nat → Nat} {O : OSt} {mp : Nat} {mk : Nat → UInt32} {a0 s : Nat} (ha : w.1 0 = a0) (hIP : IP P L pr O mp mk []) (h6 : P.1 = 6) (hs1 : 1 ≤ s) (hs2 : s ≤ 999) (hlen : len36 P L pr s) (hS : ST 0 G.2.2.1 w P L pr O mp mk) : XC G mL_sum 20 814 4100 [.ref a0, .int (nI s)] w (fun r w' => r = .inl (some (.long (smV P L pr O s 4))) ∧ ST 0 G.2.2.1 w' P L pr O mp mk ∧ FX w w') := by
  refine XC.of (lo0 := [(0, .ref a0), (1, .int (nI s))]) kmL_sum (Nat.le_of_ble_eq_true rfl) rfl ?_
  refine X_aload_n dL_sum_0 (i := 0) rfl rfl ?_
  refine X_callV (gc2 := 814) (gs2 := 4100) (q_lines ha hS) (i := 0) hS.c0 ha rfl kmX10_lines rfl lL_201 iX10_lines vX10_lines rfl rfl (Nat.le_of_ble_eq_true rfl) (by decide) dL_sum_1 (by decide) (by decide) (fun E w1 hq => nomatch hq.1) (fun v w1 hq => ?_)
  have hvv := hq.1
  obtain rfl := hq.2.symm
  cases hvv
  refine X_i2l dL_sum_4 rfl ?_
  refine X_lstore_n (i := 2) (lo' := [(2, _), (0, _), (1, _)]) dL_sum_5 rfl (by decide) rfl ?_
  refine X_iconst (v := 0) dL_sum_6 (by decide) ?_
  refine X_istore (i := 4) (lo' := [(4, _), (2, _), (0, _), (1, _)]) dL_sum_7 (by decide) rfl ?_
  exact XJ.less (gc' := 98 * 7 + 128) (gs' := 476 * 7 + 768) (by decide) (by decide) (XJ.lcs (lo' := [(0, .ref a0), (1, .int (nI s)), (2, .long (sm1 P L pr O s 0)), (4, .int (nI 0))]) ⟨rfl, rfl, rfl, rfl, trivial⟩ (s_pt ha hIP h6 hs1 hs2 hlen 7 0 _ (by decide) (by decide) hS FX.rf))
end SumQ
