/-! REFERENCE: text (walks by gen/spec40b.py) -/
section TextM2
variable {G : Gx} {w : Wd} {t np nl no nm nw en : Nat}
def txW (K : Nat → ClassId) (w : Wd) (t np nl no nm nw en : Nat) (a : Nat → Int32) : Wd := setM (setM w 39 (m39 w t np nl no nm nw en)) 60 (aI K 20000 a)
theorem txW_id {K : Nat → ClassId} {a : Nat → Int32} (h9 : M0 w t np nl no nm nw en) (h1 : cel w 60 (aI K 20000 a)) : w = txW K w t np nl no nm nw en a := by
  rw [txW, setM_id h9.2, setM_id h1.2]
theorem txW_txW {K : Nat → ClassId} {a a' : Nat → Int32} {t' nw' en' : Nat} : txW K (txW K w t np nl no nm nw en a) t' np nl no nm nw' en' a' = txW K w t' np nl no nm nw' en' a' := by
  show setM (setM (setM (setM w 39 _) 60 _) 39 (m39 w t' np nl no nm nw' en')) 60 _ = _
  rw [setM_comm (i := 60) (k := 39) (by decide), setM_setM, setM_setM]
  rfl
theorem txW_one {K : Nat → ClassId} {a a' : Nat → Int32} {nw' : Nat} : setM (setM (txW K w t np nl no nm nw en a) 60 (aI K 20000 a')) 39 (m39 w t np nl no nm nw' en) = txW K w t np nl no nm nw' en a' := by
  show setM (setM (setM (setM w 39 _) 60 _) 60 _) 39 _ = _
  rw [setM_setM, setM_comm (i := 60) (k := 39) (by decide), setM_setM]
  rfl
theorem txW_new {K : Nat → ClassId} {a' : Nat → Int32} {nw' : Nat} : setM (setM w 60 (aI K 20000 a')) 39 (m39 w t np nl no nm nw' en) = txW K w t np nl no nm nw' en a' := by
  rw [setM_comm (i := 60) (k := 39) (by decide)]
  rfl
/-- the text T is written -/
def tW (K : Nat → ClassId) (w : Wd) (t np nl no nm en : Nat) (a : Nat → Int32) (T : List Nat) : Wd := txW K w t np nl no nm T.length en (wr nI a 0 T)
theorem tW_app {K : Nat → ClassId} {a : Nat → Int32} {T ds : List Nat} : txW K (tW K w t np nl no nm en a T) t np nl no nm (T.length + ds.length) en (wr nI (wr nI a 0 T) T.length ds) = tW K w t np nl no nm en a (T ++ ds) := by
  rw [tW, txW_txW, tW, List.length_append, wr_app, Nat.zero_add]
set_option maxRecDepth 20000 in
theorem m_writes_s {f : Nat} (hf : f < 18) (hrec : ∀ (w2 : Wd) (nw2 : Nat) (lt2 : Nat → Int32), M0 w2 t np nl no nm nw2 en → cel w2 60 (aI G.2.2.1 20000 lt2) → ∀ v2 : Nat, v2 < 10 ^ f → 1 ≤ f → nw2 + (digN f v2).length ≤ 20000 → XC G mX11_writes f 0 0 [.ref (w2.1 39), .long (nL v2)] w2 (fun r w' => r = .inl none ∧ w' = txW G.2.2.1 w2 t np nl no nm (nw2 + (digN f v2).length) en (wr nI lt2 nw2 (digN f v2)))) (w : Wd) (nw : Nat) (lt : Nat → Int32) (h9 : M0 w t np nl no nm nw en) (e60 : cel w 60 (aI G.2.2.1 20000 lt)) (v : Nat) (hv1 : v < 10 ^ (f + 1)) (hlen : nw + (digN (f + 1) v).length ≤ 20000) : XC G mX11_writes (f + 1) 0 0 [.ref (w.1 39), .long (nL v)] w (fun r w' => r = .inl none ∧ w' = txW G.2.2.1 w t np nl no nm (nw + (digN (f + 1) v).length) en (wr nI lt nw (digN (f + 1) v))) := by
  have h63 : v < 2 ^ 63 := Nat.lt_of_lt_of_le hv1 (Nat.le_trans (Nat.pow_le_pow_right (by decide) (show f + 1 ≤ 18 by omega)) (by decide))
  have k9 : cel (txW G.2.2.1 w t np nl no nm (nw + (digN f (v / 10)).length) en (wr nI lt nw (digN f (v / 10)))) 39 (m39 w t np nl no nm (nw + (digN f (v / 10)).length) en) := ⟨h9.1, rfl⟩
  have k60 : cel (txW G.2.2.1 w t np nl no nm (nw + (digN f (v / 10)).length) en (wr nI lt nw (digN f (v / 10)))) 60 (aI G.2.2.1 20000 (wr nI lt nw (digN f (v / 10)))) := ⟨e60.1, rfl⟩
  refine XC.of (lo0 := [(0, .ref (w.1 39)), (1, .long (nL v))]) kmX11_writes (Nat.le_of_ble_eq_true rfl) rfl ?_
  have h63 : v < 2 ^ 63 := Nat.lt_of_lt_of_le hv1 (Nat.le_trans (Nat.pow_le_pow_right (by decide) (show f + 1 ≤ 18 by omega)) (by decide))
  refine X_lload_n dX11_writes_0 (i := 1) rfl rfl ?_
  refine X_ldc2 dX11_writes_1 kX11_156 ?_
  refine X_lcmp dX11_writes_4 ?_
  refine X_if_lt (tgt := 17) dX11_writes_5 (by decide) (fun h1 => ?_) (fun h1 => ?_)
  · have h2 : ¬ 10 ≤ v := by have h3 : v < 10 := (nL_lt h63 (by decide)).mp h1; omega
    have hd : (digN (f + 1) v) = [48 + v % 10] := by rw [digN, if_neg h2]; rfl
    rw [hd] at hlen
    have hlen2 : nw + 1 ≤ 20000 := hlen
    refine X_aload_n dX11_writes_17 (i := 0) rfl rfl ?_
    refine X_get (i := 39) h9 rfl (ci := 10) rfl in11 (k := 27) (by decide) fX11_72 rfl dX11_writes_18 ?_
    refine X_aload_n dX11_writes_21 (i := 0) rfl rfl ?_
    refine X_get (i := 39) h9 rfl (ci := 10) rfl in11 (k := 5) (by decide) fX11_162 rfl dX11_writes_22 ?_
    refine X_ldc2 dX11_writes_25 kX11_165 ?_
    refine X_lload_n dX11_writes_28 (i := 1) rfl rfl ?_
    refine X_ldc2 dX11_writes_29 kX11_156 ?_
    refine X_lrem dX11_writes_32 (by decide) ?_
    refine XJ.top (v' := .long (nL (v % 10))) (by rw [show (10 : Int64) = nL 10 from rfl, nL_rem h63 (by decide) (by decide)]) ?_
    refine X_ladd dX11_writes_33 ?_
    refine XJ.top (v' := .long (nL (48 + v % 10))) (by rw [show (48 : Int64) = nL 48 from rfl, nL_add]) ?_
    refine X_l2i dX11_writes_34 rfl ?_
    refine XJ.top (v' := .int (nI (48 + v % 10))) (by rw [nL_l2i]) ?_
    refine X_iast (i := 60) e60 rfl rfl (by omega) (by decide) dX11_writes_35 (fun hc_35 => ?_)
    refine X_aload_n dX11_writes_36 (i := 0) rfl rfl ?_
    refine X_dup dX11_writes_37 rfl ?_
    refine X_get (i := 39) h9 rfl (ci := 10) rfl in11 (k := 5) (by decide) fX11_162 rfl dX11_writes_38 ?_
    refine X_iconst (v := 1) dX11_writes_41 (by decide) ?_
    refine X_iadd dX11_writes_42 ?_
    refine XJ.top (v' := _) (congrArg Value.int (nI_1 _)) ?_
    refine X_put tyX11 tyX11_ok nmX11 (i := 39) h9 rfl (ci := 10) rfl in11 (k := 5) (by decide) fX11_162 rfl rfl rfl (Nat.le_of_ble_eq_true rfl) dX11_writes_43 (fun hc_43 => ?_)
    refine X_vreturn dX11_writes_46 rfl ?_
    first
      | exact ⟨rfl, by rw [hd]; exact (txW_new (w := w) (nw' := nw + 1))⟩
      | exact ⟨rfl, by rw [hd, wr_app, List.length_append]; exact (txW_one (nw' := nw + (digN f (v / 10)).length + 1))⟩
  · have h2 : 10 ≤ v := by have h3 : ¬ v < 10 := fun h => h1 ((nL_lt h63 (by decide)).mpr h); omega
    have hd : (digN (f + 1) v) = (digN f (v / 10)) ++ [48 + v % 10] := by rw [digN, if_pos h2]
    rw [hd, List.length_append] at hlen
    have hlen2 : nw + (digN f (v / 10)).length + 1 ≤ 20000 := by simpa [Nat.add_assoc] using hlen
    refine X_aload_n dX11_writes_8 (i := 0) rfl rfl ?_
    refine X_lload_n dX11_writes_9 (i := 1) rfl rfl ?_
    refine X_ldc2 dX11_writes_10 kX11_156 ?_
    refine X_ldiv dX11_writes_13 (by decide) ?_
    refine XJ.top (v' := .long (nL (v / 10))) (by rw [show (10 : Int64) = nL 10 from rfl, nL_div h63 (by decide) (by decide)]) ?_
    refine X_callV (gc2 := 0) (gs2 := 0) (hrec w nw lt h9 e60 (v / 10) (by rw [Nat.div_lt_iff_lt_mul (by decide)]; rw [Nat.pow_succ] at hv1; exact hv1) (by rcases Nat.eq_zero_or_pos f with h | h; subst h; simp at hv1; omega; exact h) (by omega)) (i := 39) h9 rfl rfl kmX11_writes rfl lX11_158 iX11_writes vX11_writes rfl rfl (Nat.le_of_ble_eq_true rfl) (by omega) dX11_writes_14 (by decide) (by decide) (fun E w1 hq => nomatch hq.1) (fun v w1 hq => ?_)
    have hv := hq.1
    obtain rfl := hq.2.symm
    cases hv
    refine X_aload_n dX11_writes_17 (i := 0) rfl rfl ?_
    refine X_get (i := 39) k9 rfl (ci := 10) rfl in11 (k := 27) (by decide) fX11_72 rfl dX11_writes_18 ?_
    refine X_aload_n dX11_writes_21 (i := 0) rfl rfl ?_
    refine X_get (i := 39) k9 rfl (ci := 10) rfl in11 (k := 5) (by decide) fX11_162 rfl dX11_writes_22 ?_
    refine X_ldc2 dX11_writes_25 kX11_165 ?_
    refine X_lload_n dX11_writes_28 (i := 1) rfl rfl ?_
    refine X_ldc2 dX11_writes_29 kX11_156 ?_
    refine X_lrem dX11_writes_32 (by decide) ?_
    refine XJ.top (v' := .long (nL (v % 10))) (by rw [show (10 : Int64) = nL 10 from rfl, nL_rem h63 (by decide) (by decide)]) ?_
    refine X_ladd dX11_writes_33 ?_
    refine XJ.top (v' := .long (nL (48 + v % 10))) (by rw [show (48 : Int64) = nL 48 from rfl, nL_add]) ?_
    refine X_l2i dX11_writes_34 rfl ?_
    refine XJ.top (v' := .int (nI (48 + v % 10))) (by rw [nL_l2i]) ?_
    refine X_iast (i := 60) k60 rfl rfl (by omega) (by decide) dX11_writes_35 (fun hc_35 => ?_)
    refine X_aload_n dX11_writes_36 (i := 0) rfl rfl ?_
    refine X_dup dX11_writes_37 rfl ?_
    refine X_get (i := 39) k9 rfl (ci := 10) rfl in11 (k := 5) (by decide) fX11_162 rfl dX11_writes_38 ?_
    refine X_iconst (v := 1) dX11_writes_41 (by decide) ?_
    refine X_iadd dX11_writes_42 ?_
    refine XJ.top (v' := _) (congrArg Value.int (nI_1 _)) ?_
    refine X_put tyX11 tyX11_ok nmX11 (i := 39) k9 rfl (ci := 10) rfl in11 (k := 5) (by decide) fX11_162 rfl rfl rfl (Nat.le_of_ble_eq_true rfl) dX11_writes_43 (fun hc_43 => ?_)
    refine X_vreturn dX11_writes_46 rfl ?_
    first
      | exact ⟨rfl, by rw [hd]; exact (txW_new (w := w) (nw' := nw + 1))⟩
      | exact ⟨rfl, by rw [hd, wr_app, List.length_append]; exact (txW_one (nw' := nw + (digN f (v / 10)).length + 1))⟩
theorem m_writes : ∀ (f : Nat), f < 18 → ∀ (w2 : Wd) (nw2 : Nat) (lt2 : Nat → Int32), M0 w2 t np nl no nm nw2 en → cel w2 60 (aI G.2.2.1 20000 lt2) → ∀ v2 : Nat, v2 < 10 ^ f → 1 ≤ f → nw2 + (digN f v2).length ≤ 20000 → XC G mX11_writes f 0 0 [.ref (w2.1 39), .long (nL v2)] w2 (fun r w' => r = .inl none ∧ w' = txW G.2.2.1 w2 t np nl no nm (nw2 + (digN f v2).length) en (wr nI lt2 nw2 (digN f v2)))
  | 0, _, _, _, _, _, _, _, _, h, _ => absurd h (by decide)
  | f + 1, hf, w, nw, lt, h9, e60, v, hv, _, hlen => m_writes_s (by omega) (m_writes f (by omega)) w nw lt h9 e60 v hv hlen
set_option maxRecDepth 20000 in
theorem m_sets (h9 : M0 w t np nl no nm nw en) {lt : Nat → Int32} (e60 : cel w 60 (aI G.2.2.1 20000 lt)) (n : Nat) (c : Int32) (hc : c = nI n) (hlen : nw < 20000) : XC G mX11_sets 0 0 0 [.ref (w.1 39), .int c] w (fun r w' => r = .inl none ∧ w' = txW G.2.2.1 w t np nl no nm (nw + [n].length) en (wr nI lt nw [n])) := by
  refine XC.of (lo0 := [(0, .ref (w.1 39)), (1, .int c)]) kmX11_sets (Nat.le_of_ble_eq_true rfl) rfl ?_
  refine X_aload_n dX11_sets_0 (i := 0) rfl rfl ?_
  refine X_get (i := 39) h9 rfl (ci := 10) rfl in11 (k := 27) (by decide) fX11_72 rfl dX11_sets_1 ?_
  refine X_aload_n dX11_sets_4 (i := 0) rfl rfl ?_
  refine X_get (i := 39) h9 rfl (ci := 10) rfl in11 (k := 5) (by decide) fX11_162 rfl dX11_sets_5 ?_
  refine X_iload_n dX11_sets_8 (i := 1) rfl rfl ?_
  refine X_iast (i := 60) e60 rfl rfl hlen (by decide) dX11_sets_9 (fun hc_9 => ?_)
  refine X_aload_n dX11_sets_10 (i := 0) rfl rfl ?_
  refine X_dup dX11_sets_11 rfl ?_
  refine X_get (i := 39) h9 rfl (ci := 10) rfl in11 (k := 5) (by decide) fX11_162 rfl dX11_sets_12 ?_
  refine X_iconst (v := 1) dX11_sets_15 (by decide) ?_
  refine X_iadd dX11_sets_16 ?_
  refine XJ.top (v' := _) (congrArg Value.int (nI_1 _)) ?_
  refine X_put tyX11 tyX11_ok nmX11 (i := 39) h9 rfl (ci := 10) rfl in11 (k := 5) (by decide) fX11_162 rfl rfl rfl (Nat.le_of_ble_eq_true rfl) dX11_sets_17 (fun hc_17 => ?_)
  refine X_vreturn dX11_sets_20 rfl ?_
  exact ⟨rfl, by rw [hc]; exact (txW_new (w := w) (nw' := nw + 1))⟩
set_option maxRecDepth 20000 in
theorem m_writeList {P : PSt} {L : LSt} {pr : Nat → Nat} (hnl : ln L = nl) (hI : LI np L) (hW : PW L) (hpr : ∀ i, i < 4 → pr i < 4) (hk16 : ∀ j, P.2.1 j < 65536) (hN : NC5 L) (h9 : M0 w t np nl no nm nw en) (hL : ML G.2.2.1 w L) (hC : MC G.2.2.1 w pr) (hP : MP G.2.2.1 w P) {ea : Nat → Int32} {eb : Nat → Int64} (e61 : cel w 61 (aI G.2.2.1 1500 ea)) (e62 : cel w 62 (aL G.2.2.1 1500 eb)) {lt : Nat → Int32} (e60 : cel w 60 (aI G.2.2.1 20000 lt)) (a s : Int32) : XC G mX11_writeList 9 0 0 [.ref (w.1 39), .int a, .int s] w (fun r w' => ∃ v : Int32, r = .inl (some (.int v)) ∧ (cdA a s np = 0 → v = nI (lstT false (listN P.2.1 L pr (idx s) 5 (idx a) 1)).length) ∧ w' = if cdA a s np = 0 then (tW G.2.2.1 (lsW G.2.2.1 w 0 np nl no nm nw (listN P.2.1 L pr (idx s) 5 (idx a) 1).length (wr vPt ea 0 (listN P.2.1 L pr (idx s) 5 (idx a) 1)) (wr vQt eb 0 (listN P.2.1 L pr (idx s) 5 (idx a) 1))) 0 np nl no nm (listN P.2.1 L pr (idx s) 5 (idx a) 1).length lt (lstT false (listN P.2.1 L pr (idx s) 5 (idx a) 1))) else setM w 39 (m39 w (cdA a s np) np nl no nm nw en)) := by
  have h16 := hI.1
  have h40 := hI.2.1
  refine XC.of (lo0 := [(0, .ref (w.1 39)), (1, .int a), (2, .int s)]) kmX11_writeList (Nat.le_of_ble_eq_true rfl) rfl ?_
  refine X_aload_n dX11_writeList_0 (i := 0) rfl rfl ?_
  refine X_iload_n dX11_writeList_1 (i := 1) rfl rfl ?_
  refine X_iload_n dX11_writeList_2 (i := 2) rfl rfl ?_
  refine X_callV (gc2 := 0) (gs2 := 0) (m_isListed hnl hI hW hpr hk16 hN h9 hL hC hP e61 e62 a s) (i := 39) h9 rfl rfl kmX11_isListed rfl lX11_153 iX11_isListed vX11_isListed rfl rfl (Nat.le_of_ble_eq_true rfl) (by decide) dX11_writeList_3 (by decide) (by decide) (fun E w1 hq => nomatch hq.1) (fun v w1 hq => ?_)
  have hv := hq.1
  obtain rfl := hq.2.symm
  cases hv
  refine X_if_ne (tgt := 11) dX11_writeList_6 (by decide) (fun h1 => ?_) (fun h1 => ?_)
  · have hcd : cdA a s np = 0 := of_decide_eq_true (bI_ne h1)
    rw [show (if cdA a s np = 0 then (lsW G.2.2.1 w 0 np nl no nm nw (listN P.2.1 L pr (idx s) 5 (idx a) 1).length (wr vPt ea 0 (listN P.2.1 L pr (idx s) 5 (idx a) 1)) (wr vQt eb 0 (listN P.2.1 L pr (idx s) 5 (idx a) 1))) else setM w 39 (m39 w (cdA a s np) np nl no nm nw en)) = (lsW G.2.2.1 w 0 np nl no nm nw (listN P.2.1 L pr (idx s) 5 (idx a) 1).length (wr vPt ea 0 (listN P.2.1 L pr (idx s) 5 (idx a) 1)) (wr vQt eb 0 (listN P.2.1 L pr (idx s) 5 (idx a) 1))) from if_pos hcd]
    have k9 : cel (lsW G.2.2.1 w 0 np nl no nm nw (listN P.2.1 L pr (idx s) 5 (idx a) 1).length (wr vPt ea 0 (listN P.2.1 L pr (idx s) 5 (idx a) 1)) (wr vQt eb 0 (listN P.2.1 L pr (idx s) 5 (idx a) 1))) 39 (m39 w 0 np nl no nm nw (listN P.2.1 L pr (idx s) 5 (idx a) 1).length) := ⟨h9.1, rfl⟩
    have hxl : (listN P.2.1 L pr (idx s) 5 (idx a) 1).length ≤ 1296 := xsN_len hN
    have hxb : ∀ x ∈ (listN P.2.1 L pr (idx s) 5 (idx a) 1), x.1 < 100 ∧ x.2 < 10 ^ 7 := fun x hx => by have := listN_mem hI hx; have e : (20 : Nat) ^ 5 = 3200000 := (by decide); have e2 : (10 : Nat) ^ 7 = 10000000 := (by decide); omega
    refine X_aload_n dX11_writeList_11 (i := 0) rfl rfl ?_
    refine X_iconst (v := 0) dX11_writeList_12 (by decide) ?_
    refine X_put tyX11 tyX11_ok nmX11 (i := 39) k9 rfl (ci := 10) rfl in11 (k := 5) (by decide) fX11_162 rfl rfl rfl (Nat.le_of_ble_eq_true rfl) dX11_writeList_13 (fun hc_13 => ?_)
    refine X_iconst (v := 0) dX11_writeList_16 (by decide) ?_
    refine X_istore_n (i := 3) (lo' := [(3, _), (0, _), (1, _), (2, _)]) dX11_writeList_17 rfl (by decide) rfl ?_
    have hloop : ∀ (n : Nat) (k : Nat), (listN P.2.1 L pr (idx s) 5 (idx a) 1).length - k < n → k ≤ (listN P.2.1 L pr (idx s) 5 (idx a) 1).length → XJ G mX11_writeList 9 0 0 18 [(0, .ref (w.1 39)), (3, .int (nI k))] [] (tW G.2.2.1 (lsW G.2.2.1 w 0 np nl no nm nw (listN P.2.1 L pr (idx s) 5 (idx a) 1).length (wr vPt ea 0 (listN P.2.1 L pr (idx s) 5 (idx a) 1)) (wr vQt eb 0 (listN P.2.1 L pr (idx s) 5 (idx a) 1))) 0 np nl no nm (listN P.2.1 L pr (idx s) 5 (idx a) 1).length lt (lstT false ((listN P.2.1 L pr (idx s) 5 (idx a) 1).take k))) (fun r w' => ∃ v : Int32, r = .inl (some (.int v)) ∧ (cdA a s np = 0 → v = nI (lstT false (listN P.2.1 L pr (idx s) 5 (idx a) 1)).length) ∧ w' = if cdA a s np = 0 then (tW G.2.2.1 (lsW G.2.2.1 w 0 np nl no nm nw (listN P.2.1 L pr (idx s) 5 (idx a) 1).length (wr vPt ea 0 (listN P.2.1 L pr (idx s) 5 (idx a) 1)) (wr vQt eb 0 (listN P.2.1 L pr (idx s) 5 (idx a) 1))) 0 np nl no nm (listN P.2.1 L pr (idx s) 5 (idx a) 1).length lt (lstT false (listN P.2.1 L pr (idx s) 5 (idx a) 1))) else setM w 39 (m39 w (cdA a s np) np nl no nm nw en)) := by
      intro n
      induction n with
      | zero => intro k hm hl; exact absurd hm (Nat.not_lt_zero _)
      | succ n ih =>
        intro k hm hl
        have f90 : M0 (tW G.2.2.1 (lsW G.2.2.1 w 0 np nl no nm nw (listN P.2.1 L pr (idx s) 5 (idx a) 1).length (wr vPt ea 0 (listN P.2.1 L pr (idx s) 5 (idx a) 1)) (wr vQt eb 0 (listN P.2.1 L pr (idx s) 5 (idx a) 1))) 0 np nl no nm (listN P.2.1 L pr (idx s) 5 (idx a) 1).length lt (lstT false ((listN P.2.1 L pr (idx s) 5 (idx a) 1).take k))) 0 np nl no nm (lstT false ((listN P.2.1 L pr (idx s) 5 (idx a) 1).take k)).length (listN P.2.1 L pr (idx s) 5 (idx a) 1).length := ⟨h9.1, rfl⟩
        have f60 : cel (tW G.2.2.1 (lsW G.2.2.1 w 0 np nl no nm nw (listN P.2.1 L pr (idx s) 5 (idx a) 1).length (wr vPt ea 0 (listN P.2.1 L pr (idx s) 5 (idx a) 1)) (wr vQt eb 0 (listN P.2.1 L pr (idx s) 5 (idx a) 1))) 0 np nl no nm (listN P.2.1 L pr (idx s) 5 (idx a) 1).length lt (lstT false ((listN P.2.1 L pr (idx s) 5 (idx a) 1).take k))) 60 (aI G.2.2.1 20000 (wr nI lt 0 (lstT false ((listN P.2.1 L pr (idx s) 5 (idx a) 1).take k)))) := ⟨e60.1, rfl⟩
        have k61 : cel (tW G.2.2.1 (lsW G.2.2.1 w 0 np nl no nm nw (listN P.2.1 L pr (idx s) 5 (idx a) 1).length (wr vPt ea 0 (listN P.2.1 L pr (idx s) 5 (idx a) 1)) (wr vQt eb 0 (listN P.2.1 L pr (idx s) 5 (idx a) 1))) 0 np nl no nm (listN P.2.1 L pr (idx s) 5 (idx a) 1).length lt (lstT false ((listN P.2.1 L pr (idx s) 5 (idx a) 1).take k))) 61 (aI G.2.2.1 1500 (wr vPt ea 0 (listN P.2.1 L pr (idx s) 5 (idx a) 1))) := ⟨e61.1, rfl⟩
        have k62 : cel (tW G.2.2.1 (lsW G.2.2.1 w 0 np nl no nm nw (listN P.2.1 L pr (idx s) 5 (idx a) 1).length (wr vPt ea 0 (listN P.2.1 L pr (idx s) 5 (idx a) 1)) (wr vQt eb 0 (listN P.2.1 L pr (idx s) 5 (idx a) 1))) 0 np nl no nm (listN P.2.1 L pr (idx s) 5 (idx a) 1).length lt (lstT false ((listN P.2.1 L pr (idx s) 5 (idx a) 1).take k))) 62 (aL G.2.2.1 1500 (wr vQt eb 0 (listN P.2.1 L pr (idx s) 5 (idx a) 1))) := ⟨e62.1, rfl⟩
        refine X_iload_n dX11_writeList_18 (i := 3) rfl rfl ?_
        refine X_aload_n dX11_writeList_19 (i := 0) rfl rfl ?_
        refine X_get (i := 39) f90 rfl (ci := 10) rfl in11 (k := 6) (by decide) fX11_147 rfl dX11_writeList_20 ?_
        refine X_icmp_ge (tgt := 69) dX11_writeList_23 (by decide) (fun h1 => ?_) (fun h1 => ?_)
        · have h5 : k = (listN P.2.1 L pr (idx s) 5 (idx a) 1).length := by have := ge_nI (a := (listN P.2.1 L pr (idx s) 5 (idx a) 1).length) (by omega) (by omega) h1; omega
          subst h5
          refine X_aload_n dX11_writeList_69 (i := 0) rfl rfl ?_
          refine X_get (i := 39) f90 rfl (ci := 10) rfl in11 (k := 5) (by decide) fX11_162 rfl dX11_writeList_70 ?_
          refine X_ireturn dX11_writeList_73 rfl rfl ?_
          exact ⟨_, rfl, fun _ => by rw [List.take_length], by rw [if_pos hcd, List.take_length]⟩
        · have h5 : k < (listN P.2.1 L pr (idx s) 5 (idx a) 1).length := nge_nI (a := (listN P.2.1 L pr (idx s) 5 (idx a) 1).length) (by omega) (by omega) h1
          have hT := lstT_len (xs := (listN P.2.1 L pr (idx s) 5 (idx a) 1).take k) (c := false) (fun y hy => hxb y (List.mem_of_mem_take hy))
          rw [List.length_take, Nat.min_eq_left (by omega)] at hT
          have hx := hxb ((listN P.2.1 L pr (idx s) 5 (idx a) 1).getD k (0, 0)) (getD_mem h5)
          have hd2 := digN_len (f := 7) (k := 6) (v := ((listN P.2.1 L pr (idx s) 5 (idx a) 1).getD k (0, 0)).2) hx.2
          have hd1 := digN_len (f := 7) (k := 1) (v := ((listN P.2.1 L pr (idx s) 5 (idx a) 1).getD k (0, 0)).1) (by omega)
          have gvq : wr vQt eb 0 (listN P.2.1 L pr (idx s) 5 (idx a) 1) k = nL ((listN P.2.1 L pr (idx s) 5 (idx a) 1).getD k (0, 0)).2 := by have := wr_at (v := vQt) (z := (0, 0)) (a := eb) (n := 0) h5; rw [Nat.zero_add] at this; exact this
          have gvp : wr vPt ea 0 (listN P.2.1 L pr (idx s) 5 (idx a) 1) k = nI ((listN P.2.1 L pr (idx s) 5 (idx a) 1).getD k (0, 0)).1 := by have := wr_at (v := vPt) (z := (0, 0)) (a := ea) (n := 0) h5; rw [Nat.zero_add] at this; exact this
          refine X_iload_n dX11_writeList_26 (i := 3) rfl rfl ?_
          refine X_if_le (tgt := 36) dX11_writeList_27 (by decide) (fun h2 => ?_) (fun h2 => ?_)
          · have h6 : k = 0 := by have := ge_nI (a := k) (b := 0) (by omega) (by omega) h2; omega
            have g90 : M0 (tW G.2.2.1 (lsW G.2.2.1 w 0 np nl no nm nw (listN P.2.1 L pr (idx s) 5 (idx a) 1).length (wr vPt ea 0 (listN P.2.1 L pr (idx s) 5 (idx a) 1)) (wr vQt eb 0 (listN P.2.1 L pr (idx s) 5 (idx a) 1))) 0 np nl no nm (listN P.2.1 L pr (idx s) 5 (idx a) 1).length lt (lstT false ((listN P.2.1 L pr (idx s) 5 (idx a) 1).take k))) 0 np nl no nm (lstT false ((listN P.2.1 L pr (idx s) 5 (idx a) 1).take k)).length (listN P.2.1 L pr (idx s) 5 (idx a) 1).length := ⟨h9.1, rfl⟩
            have g60 : cel (tW G.2.2.1 (lsW G.2.2.1 w 0 np nl no nm nw (listN P.2.1 L pr (idx s) 5 (idx a) 1).length (wr vPt ea 0 (listN P.2.1 L pr (idx s) 5 (idx a) 1)) (wr vQt eb 0 (listN P.2.1 L pr (idx s) 5 (idx a) 1))) 0 np nl no nm (listN P.2.1 L pr (idx s) 5 (idx a) 1).length lt (lstT false ((listN P.2.1 L pr (idx s) 5 (idx a) 1).take k))) 60 (aI G.2.2.1 20000 (wr nI lt 0 (lstT false ((listN P.2.1 L pr (idx s) 5 (idx a) 1).take k)))) := ⟨e60.1, rfl⟩
            have g91 : M0 (tW G.2.2.1 (lsW G.2.2.1 w 0 np nl no nm nw (listN P.2.1 L pr (idx s) 5 (idx a) 1).length (wr vPt ea 0 (listN P.2.1 L pr (idx s) 5 (idx a) 1)) (wr vQt eb 0 (listN P.2.1 L pr (idx s) 5 (idx a) 1))) 0 np nl no nm (listN P.2.1 L pr (idx s) 5 (idx a) 1).length lt ((lstT false ((listN P.2.1 L pr (idx s) 5 (idx a) 1).take k)) ++ digN 7 ((listN P.2.1 L pr (idx s) 5 (idx a) 1).getD k (0, 0)).2)) 0 np nl no nm ((lstT false ((listN P.2.1 L pr (idx s) 5 (idx a) 1).take k)) ++ digN 7 ((listN P.2.1 L pr (idx s) 5 (idx a) 1).getD k (0, 0)).2).length (listN P.2.1 L pr (idx s) 5 (idx a) 1).length := ⟨h9.1, rfl⟩
            have g61 : cel (tW G.2.2.1 (lsW G.2.2.1 w 0 np nl no nm nw (listN P.2.1 L pr (idx s) 5 (idx a) 1).length (wr vPt ea 0 (listN P.2.1 L pr (idx s) 5 (idx a) 1)) (wr vQt eb 0 (listN P.2.1 L pr (idx s) 5 (idx a) 1))) 0 np nl no nm (listN P.2.1 L pr (idx s) 5 (idx a) 1).length lt ((lstT false ((listN P.2.1 L pr (idx s) 5 (idx a) 1).take k)) ++ digN 7 ((listN P.2.1 L pr (idx s) 5 (idx a) 1).getD k (0, 0)).2)) 60 (aI G.2.2.1 20000 (wr nI lt 0 ((lstT false ((listN P.2.1 L pr (idx s) 5 (idx a) 1).take k)) ++ digN 7 ((listN P.2.1 L pr (idx s) 5 (idx a) 1).getD k (0, 0)).2))) := ⟨e60.1, rfl⟩
            have g92 : M0 (tW G.2.2.1 (lsW G.2.2.1 w 0 np nl no nm nw (listN P.2.1 L pr (idx s) 5 (idx a) 1).length (wr vPt ea 0 (listN P.2.1 L pr (idx s) 5 (idx a) 1)) (wr vQt eb 0 (listN P.2.1 L pr (idx s) 5 (idx a) 1))) 0 np nl no nm (listN P.2.1 L pr (idx s) 5 (idx a) 1).length lt ((lstT false ((listN P.2.1 L pr (idx s) 5 (idx a) 1).take k)) ++ digN 7 ((listN P.2.1 L pr (idx s) 5 (idx a) 1).getD k (0, 0)).2 ++ [120])) 0 np nl no nm ((lstT false ((listN P.2.1 L pr (idx s) 5 (idx a) 1).take k)) ++ digN 7 ((listN P.2.1 L pr (idx s) 5 (idx a) 1).getD k (0, 0)).2 ++ [120]).length (listN P.2.1 L pr (idx s) 5 (idx a) 1).length := ⟨h9.1, rfl⟩
            have g62 : cel (tW G.2.2.1 (lsW G.2.2.1 w 0 np nl no nm nw (listN P.2.1 L pr (idx s) 5 (idx a) 1).length (wr vPt ea 0 (listN P.2.1 L pr (idx s) 5 (idx a) 1)) (wr vQt eb 0 (listN P.2.1 L pr (idx s) 5 (idx a) 1))) 0 np nl no nm (listN P.2.1 L pr (idx s) 5 (idx a) 1).length lt ((lstT false ((listN P.2.1 L pr (idx s) 5 (idx a) 1).take k)) ++ digN 7 ((listN P.2.1 L pr (idx s) 5 (idx a) 1).getD k (0, 0)).2 ++ [120])) 60 (aI G.2.2.1 20000 (wr nI lt 0 ((lstT false ((listN P.2.1 L pr (idx s) 5 (idx a) 1).take k)) ++ digN 7 ((listN P.2.1 L pr (idx s) 5 (idx a) 1).getD k (0, 0)).2 ++ [120]))) := ⟨e60.1, rfl⟩
            have t1 := List.length_append (as := (lstT false ((listN P.2.1 L pr (idx s) 5 (idx a) 1).take k))) (bs := digN 7 ((listN P.2.1 L pr (idx s) 5 (idx a) 1).getD k (0, 0)).2)
            have t2 := List.length_append (as := ((lstT false ((listN P.2.1 L pr (idx s) 5 (idx a) 1).take k)) ++ digN 7 ((listN P.2.1 L pr (idx s) 5 (idx a) 1).getD k (0, 0)).2)) (bs := [120])
            simp only [List.length_singleton] at t2
            have l0 : (lstT false ((listN P.2.1 L pr (idx s) 5 (idx a) 1).take k)).length + (digN 7 ((listN P.2.1 L pr (idx s) 5 (idx a) 1).getD k (0, 0)).2).length ≤ 20000 := by omega
            have l1 : ((lstT false ((listN P.2.1 L pr (idx s) 5 (idx a) 1).take k)) ++ digN 7 ((listN P.2.1 L pr (idx s) 5 (idx a) 1).getD k (0, 0)).2).length < 20000 := by omega
            have l2 : ((lstT false ((listN P.2.1 L pr (idx s) 5 (idx a) 1).take k)) ++ digN 7 ((listN P.2.1 L pr (idx s) 5 (idx a) 1).getD k (0, 0)).2 ++ [120]).length + (digN 7 ((listN P.2.1 L pr (idx s) 5 (idx a) 1).getD k (0, 0)).1).length ≤ 20000 := by omega
            have hT9 : ((lstT false ((listN P.2.1 L pr (idx s) 5 (idx a) 1).take k)) ++ digN 7 ((listN P.2.1 L pr (idx s) 5 (idx a) 1).getD k (0, 0)).2 ++ [120] ++ digN 7 ((listN P.2.1 L pr (idx s) 5 (idx a) 1).getD k (0, 0)).1) = (lstT false ((listN P.2.1 L pr (idx s) 5 (idx a) 1).take (k + 1))) := by rw [lstT_take h5, decide_eq_false (show ¬ 0 < k by omega)]; simp [entT]
            try rw [tW_app]
            refine X_aload_n dX11_writeList_36 (i := 0) rfl rfl ?_
            refine X_aload_n dX11_writeList_37 (i := 0) rfl rfl ?_
            refine X_get (i := 39) f90 rfl (ci := 10) rfl in11 (k := 29) (by decide) fX11_78 rfl dX11_writeList_38 ?_
            refine X_iload_n dX11_writeList_41 (i := 3) rfl rfl ?_
            refine X_lald (i := 62) k62 rfl rfl (by omega) (by decide) dX11_writeList_42 ?_
            refine XJ.top (v' := .long (nL ((listN P.2.1 L pr (idx s) 5 (idx a) 1).getD k (0, 0)).2)) (by rw [gvq]) ?_
            refine X_callV (gc2 := 0) (gs2 := 0) (m_writes 7 (by decide) _ _ _ g90 g60 ((listN P.2.1 L pr (idx s) 5 (idx a) 1).getD k (0, 0)).2 hx.2 (by decide) l0) (i := 39) f90 rfl rfl kmX11_writes rfl lX11_158 iX11_writes vX11_writes rfl rfl (Nat.le_of_ble_eq_true rfl) (by decide) dX11_writeList_43 (by decide) (by decide) (fun E w1 hq => nomatch hq.1) (fun v w1 hq => ?_)
            have hv := hq.1
            obtain rfl := hq.2.symm
            cases hv
            rw [tW_app]
            refine X_aload_n dX11_writeList_46 (i := 0) rfl rfl ?_
            refine X_bipush (v := 120) dX11_writeList_47 (by decide) ?_
            refine X_callV (gc2 := 0) (gs2 := 0) (m_sets g91 g61 120 120 rfl l1) (i := 39) g91 rfl rfl kmX11_sets rfl lX11_167 iX11_sets vX11_sets rfl rfl (Nat.le_of_ble_eq_true rfl) (by decide) dX11_writeList_49 (by decide) (by decide) (fun E w1 hq => nomatch hq.1) (fun v w1 hq => ?_)
            have hv := hq.1
            obtain rfl := hq.2.symm
            cases hv
            rw [tW_app]
            refine X_aload_n dX11_writeList_52 (i := 0) rfl rfl ?_
            refine X_aload_n dX11_writeList_53 (i := 0) rfl rfl ?_
            refine X_get (i := 39) g92 rfl (ci := 10) rfl in11 (k := 28) (by decide) fX11_75 rfl dX11_writeList_54 ?_
            refine X_iload_n dX11_writeList_57 (i := 3) rfl rfl ?_
            refine X_iald (i := 61) k61 rfl rfl (by omega) (by decide) dX11_writeList_58 ?_
            refine XJ.top (v' := .int (nI ((listN P.2.1 L pr (idx s) 5 (idx a) 1).getD k (0, 0)).1)) (by rw [gvp]) ?_
            refine X_i2l dX11_writeList_59 rfl ?_
            refine XJ.top (v' := .long (nL ((listN P.2.1 L pr (idx s) 5 (idx a) 1).getD k (0, 0)).1)) (by rw [nL_i2l (by omega)]) ?_
            refine X_callV (gc2 := 0) (gs2 := 0) (m_writes 7 (by decide) _ _ _ g92 g62 ((listN P.2.1 L pr (idx s) 5 (idx a) 1).getD k (0, 0)).1 (by omega) (by decide) l2) (i := 39) g92 rfl rfl kmX11_writes rfl lX11_158 iX11_writes vX11_writes rfl rfl (Nat.le_of_ble_eq_true rfl) (by decide) dX11_writeList_60 (by decide) (by decide) (fun E w1 hq => nomatch hq.1) (fun v w1 hq => ?_)
            have hv := hq.1
            obtain rfl := hq.2.symm
            cases hv
            rw [tW_app, hT9]
            refine X_iinc (i := 3) (v := nI (k + 1)) (lo' := [(3, _), (0, _)]) dX11_writeList_63 rfl (nI_inc k) (by decide) rfl ?_
            refine X_goto (tgt := 18) dX11_writeList_66 (by decide) ?_
            exact XJ.lcs (lo' := [(0, .ref (w.1 39)), (3, .int (nI (k + 1)))]) ⟨rfl, rfl, trivial⟩ (ih (k + 1) (by omega) (by omega))
          · have h6 : 0 < k := by have := nge_nI (a := k) (b := 0) (by omega) (by omega) h2; omega
            have t0 := List.length_append (as := (lstT false ((listN P.2.1 L pr (idx s) 5 (idx a) 1).take k))) (bs := [44])
            simp only [List.length_singleton] at t0
            have g90 : M0 (tW G.2.2.1 (lsW G.2.2.1 w 0 np nl no nm nw (listN P.2.1 L pr (idx s) 5 (idx a) 1).length (wr vPt ea 0 (listN P.2.1 L pr (idx s) 5 (idx a) 1)) (wr vQt eb 0 (listN P.2.1 L pr (idx s) 5 (idx a) 1))) 0 np nl no nm (listN P.2.1 L pr (idx s) 5 (idx a) 1).length lt ((lstT false ((listN P.2.1 L pr (idx s) 5 (idx a) 1).take k)) ++ [44])) 0 np nl no nm ((lstT false ((listN P.2.1 L pr (idx s) 5 (idx a) 1).take k)) ++ [44]).length (listN P.2.1 L pr (idx s) 5 (idx a) 1).length := ⟨h9.1, rfl⟩
            have g60 : cel (tW G.2.2.1 (lsW G.2.2.1 w 0 np nl no nm nw (listN P.2.1 L pr (idx s) 5 (idx a) 1).length (wr vPt ea 0 (listN P.2.1 L pr (idx s) 5 (idx a) 1)) (wr vQt eb 0 (listN P.2.1 L pr (idx s) 5 (idx a) 1))) 0 np nl no nm (listN P.2.1 L pr (idx s) 5 (idx a) 1).length lt ((lstT false ((listN P.2.1 L pr (idx s) 5 (idx a) 1).take k)) ++ [44])) 60 (aI G.2.2.1 20000 (wr nI lt 0 ((lstT false ((listN P.2.1 L pr (idx s) 5 (idx a) 1).take k)) ++ [44]))) := ⟨e60.1, rfl⟩
            have g91 : M0 (tW G.2.2.1 (lsW G.2.2.1 w 0 np nl no nm nw (listN P.2.1 L pr (idx s) 5 (idx a) 1).length (wr vPt ea 0 (listN P.2.1 L pr (idx s) 5 (idx a) 1)) (wr vQt eb 0 (listN P.2.1 L pr (idx s) 5 (idx a) 1))) 0 np nl no nm (listN P.2.1 L pr (idx s) 5 (idx a) 1).length lt (((lstT false ((listN P.2.1 L pr (idx s) 5 (idx a) 1).take k)) ++ [44]) ++ digN 7 ((listN P.2.1 L pr (idx s) 5 (idx a) 1).getD k (0, 0)).2)) 0 np nl no nm (((lstT false ((listN P.2.1 L pr (idx s) 5 (idx a) 1).take k)) ++ [44]) ++ digN 7 ((listN P.2.1 L pr (idx s) 5 (idx a) 1).getD k (0, 0)).2).length (listN P.2.1 L pr (idx s) 5 (idx a) 1).length := ⟨h9.1, rfl⟩
            have g61 : cel (tW G.2.2.1 (lsW G.2.2.1 w 0 np nl no nm nw (listN P.2.1 L pr (idx s) 5 (idx a) 1).length (wr vPt ea 0 (listN P.2.1 L pr (idx s) 5 (idx a) 1)) (wr vQt eb 0 (listN P.2.1 L pr (idx s) 5 (idx a) 1))) 0 np nl no nm (listN P.2.1 L pr (idx s) 5 (idx a) 1).length lt (((lstT false ((listN P.2.1 L pr (idx s) 5 (idx a) 1).take k)) ++ [44]) ++ digN 7 ((listN P.2.1 L pr (idx s) 5 (idx a) 1).getD k (0, 0)).2)) 60 (aI G.2.2.1 20000 (wr nI lt 0 (((lstT false ((listN P.2.1 L pr (idx s) 5 (idx a) 1).take k)) ++ [44]) ++ digN 7 ((listN P.2.1 L pr (idx s) 5 (idx a) 1).getD k (0, 0)).2))) := ⟨e60.1, rfl⟩
            have g92 : M0 (tW G.2.2.1 (lsW G.2.2.1 w 0 np nl no nm nw (listN P.2.1 L pr (idx s) 5 (idx a) 1).length (wr vPt ea 0 (listN P.2.1 L pr (idx s) 5 (idx a) 1)) (wr vQt eb 0 (listN P.2.1 L pr (idx s) 5 (idx a) 1))) 0 np nl no nm (listN P.2.1 L pr (idx s) 5 (idx a) 1).length lt (((lstT false ((listN P.2.1 L pr (idx s) 5 (idx a) 1).take k)) ++ [44]) ++ digN 7 ((listN P.2.1 L pr (idx s) 5 (idx a) 1).getD k (0, 0)).2 ++ [120])) 0 np nl no nm (((lstT false ((listN P.2.1 L pr (idx s) 5 (idx a) 1).take k)) ++ [44]) ++ digN 7 ((listN P.2.1 L pr (idx s) 5 (idx a) 1).getD k (0, 0)).2 ++ [120]).length (listN P.2.1 L pr (idx s) 5 (idx a) 1).length := ⟨h9.1, rfl⟩
            have g62 : cel (tW G.2.2.1 (lsW G.2.2.1 w 0 np nl no nm nw (listN P.2.1 L pr (idx s) 5 (idx a) 1).length (wr vPt ea 0 (listN P.2.1 L pr (idx s) 5 (idx a) 1)) (wr vQt eb 0 (listN P.2.1 L pr (idx s) 5 (idx a) 1))) 0 np nl no nm (listN P.2.1 L pr (idx s) 5 (idx a) 1).length lt (((lstT false ((listN P.2.1 L pr (idx s) 5 (idx a) 1).take k)) ++ [44]) ++ digN 7 ((listN P.2.1 L pr (idx s) 5 (idx a) 1).getD k (0, 0)).2 ++ [120])) 60 (aI G.2.2.1 20000 (wr nI lt 0 (((lstT false ((listN P.2.1 L pr (idx s) 5 (idx a) 1).take k)) ++ [44]) ++ digN 7 ((listN P.2.1 L pr (idx s) 5 (idx a) 1).getD k (0, 0)).2 ++ [120]))) := ⟨e60.1, rfl⟩
            have t1 := List.length_append (as := ((lstT false ((listN P.2.1 L pr (idx s) 5 (idx a) 1).take k)) ++ [44])) (bs := digN 7 ((listN P.2.1 L pr (idx s) 5 (idx a) 1).getD k (0, 0)).2)
            have t2 := List.length_append (as := (((lstT false ((listN P.2.1 L pr (idx s) 5 (idx a) 1).take k)) ++ [44]) ++ digN 7 ((listN P.2.1 L pr (idx s) 5 (idx a) 1).getD k (0, 0)).2)) (bs := [120])
            simp only [List.length_singleton] at t2
            have l0 : ((lstT false ((listN P.2.1 L pr (idx s) 5 (idx a) 1).take k)) ++ [44]).length + (digN 7 ((listN P.2.1 L pr (idx s) 5 (idx a) 1).getD k (0, 0)).2).length ≤ 20000 := by omega
            have l1 : (((lstT false ((listN P.2.1 L pr (idx s) 5 (idx a) 1).take k)) ++ [44]) ++ digN 7 ((listN P.2.1 L pr (idx s) 5 (idx a) 1).getD k (0, 0)).2).length < 20000 := by omega
            have l2 : (((lstT false ((listN P.2.1 L pr (idx s) 5 (idx a) 1).take k)) ++ [44]) ++ digN 7 ((listN P.2.1 L pr (idx s) 5 (idx a) 1).getD k (0, 0)).2 ++ [120]).length + (digN 7 ((listN P.2.1 L pr (idx s) 5 (idx a) 1).getD k (0, 0)).1).length ≤ 20000 := by omega
            have hT9 : (((lstT false ((listN P.2.1 L pr (idx s) 5 (idx a) 1).take k)) ++ [44]) ++ digN 7 ((listN P.2.1 L pr (idx s) 5 (idx a) 1).getD k (0, 0)).2 ++ [120] ++ digN 7 ((listN P.2.1 L pr (idx s) 5 (idx a) 1).getD k (0, 0)).1) = (lstT false ((listN P.2.1 L pr (idx s) 5 (idx a) 1).take (k + 1))) := by rw [lstT_take h5, decide_eq_true h6]; simp [entT]
            refine X_aload_n dX11_writeList_30 (i := 0) rfl rfl ?_
            refine X_bipush (v := 44) dX11_writeList_31 (by decide) ?_
            refine X_callV (gc2 := 0) (gs2 := 0) (m_sets f90 f60 44 44 rfl (by omega)) (i := 39) f90 rfl rfl kmX11_sets rfl lX11_167 iX11_sets vX11_sets rfl rfl (Nat.le_of_ble_eq_true rfl) (by decide) dX11_writeList_33 (by decide) (by decide) (fun E w1 hq => nomatch hq.1) (fun v w1 hq => ?_)
            have hv := hq.1
            obtain rfl := hq.2.symm
            cases hv
            try rw [tW_app]
            refine X_aload_n dX11_writeList_36 (i := 0) rfl rfl ?_
            refine X_aload_n dX11_writeList_37 (i := 0) rfl rfl ?_
            refine X_get (i := 39) g90 rfl (ci := 10) rfl in11 (k := 29) (by decide) fX11_78 rfl dX11_writeList_38 ?_
            refine X_iload_n dX11_writeList_41 (i := 3) rfl rfl ?_
            refine X_lald (i := 62) k62 rfl rfl (by omega) (by decide) dX11_writeList_42 ?_
            refine XJ.top (v' := .long (nL ((listN P.2.1 L pr (idx s) 5 (idx a) 1).getD k (0, 0)).2)) (by rw [gvq]) ?_
            refine X_callV (gc2 := 0) (gs2 := 0) (m_writes 7 (by decide) _ _ _ g90 g60 ((listN P.2.1 L pr (idx s) 5 (idx a) 1).getD k (0, 0)).2 hx.2 (by decide) l0) (i := 39) g90 rfl rfl kmX11_writes rfl lX11_158 iX11_writes vX11_writes rfl rfl (Nat.le_of_ble_eq_true rfl) (by decide) dX11_writeList_43 (by decide) (by decide) (fun E w1 hq => nomatch hq.1) (fun v w1 hq => ?_)
            have hv := hq.1
            obtain rfl := hq.2.symm
            cases hv
            rw [tW_app]
            refine X_aload_n dX11_writeList_46 (i := 0) rfl rfl ?_
            refine X_bipush (v := 120) dX11_writeList_47 (by decide) ?_
            refine X_callV (gc2 := 0) (gs2 := 0) (m_sets g91 g61 120 120 rfl l1) (i := 39) g91 rfl rfl kmX11_sets rfl lX11_167 iX11_sets vX11_sets rfl rfl (Nat.le_of_ble_eq_true rfl) (by decide) dX11_writeList_49 (by decide) (by decide) (fun E w1 hq => nomatch hq.1) (fun v w1 hq => ?_)
            have hv := hq.1
            obtain rfl := hq.2.symm
            cases hv
            rw [tW_app]
            refine X_aload_n dX11_writeList_52 (i := 0) rfl rfl ?_
            refine X_aload_n dX11_writeList_53 (i := 0) rfl rfl ?_
            refine X_get (i := 39) g92 rfl (ci := 10) rfl in11 (k := 28) (by decide) fX11_75 rfl dX11_writeList_54 ?_
            refine X_iload_n dX11_writeList_57 (i := 3) rfl rfl ?_
            refine X_iald (i := 61) k61 rfl rfl (by omega) (by decide) dX11_writeList_58 ?_
            refine XJ.top (v' := .int (nI ((listN P.2.1 L pr (idx s) 5 (idx a) 1).getD k (0, 0)).1)) (by rw [gvp]) ?_
            refine X_i2l dX11_writeList_59 rfl ?_
            refine XJ.top (v' := .long (nL ((listN P.2.1 L pr (idx s) 5 (idx a) 1).getD k (0, 0)).1)) (by rw [nL_i2l (by omega)]) ?_
            refine X_callV (gc2 := 0) (gs2 := 0) (m_writes 7 (by decide) _ _ _ g92 g62 ((listN P.2.1 L pr (idx s) 5 (idx a) 1).getD k (0, 0)).1 (by omega) (by decide) l2) (i := 39) g92 rfl rfl kmX11_writes rfl lX11_158 iX11_writes vX11_writes rfl rfl (Nat.le_of_ble_eq_true rfl) (by decide) dX11_writeList_60 (by decide) (by decide) (fun E w1 hq => nomatch hq.1) (fun v w1 hq => ?_)
            have hv := hq.1
            obtain rfl := hq.2.symm
            cases hv
            rw [tW_app, hT9]
            refine X_iinc (i := 3) (v := nI (k + 1)) (lo' := [(3, _), (0, _)]) dX11_writeList_63 rfl (nI_inc k) (by decide) rfl ?_
            refine X_goto (tgt := 18) dX11_writeList_66 (by decide) ?_
            exact XJ.lcs (lo' := [(0, .ref (w.1 39)), (3, .int (nI (k + 1)))]) ⟨rfl, rfl, trivial⟩ (ih (k + 1) (by omega) (by omega))
    refine XJ.wd (w' := (tW G.2.2.1 (lsW G.2.2.1 w 0 np nl no nm nw (listN P.2.1 L pr (idx s) 5 (idx a) 1).length (wr vPt ea 0 (listN P.2.1 L pr (idx s) 5 (idx a) 1)) (wr vQt eb 0 (listN P.2.1 L pr (idx s) 5 (idx a) 1))) 0 np nl no nm (listN P.2.1 L pr (idx s) 5 (idx a) 1).length lt (lstT false ((listN P.2.1 L pr (idx s) 5 (idx a) 1).take 0)))) (setM_id (show (setM (lsW G.2.2.1 w 0 np nl no nm nw (listN P.2.1 L pr (idx s) 5 (idx a) 1).length (wr vPt ea 0 (listN P.2.1 L pr (idx s) 5 (idx a) 1)) (wr vQt eb 0 (listN P.2.1 L pr (idx s) 5 (idx a) 1))) 39 (m39 w 0 np nl no nm 0 (listN P.2.1 L pr (idx s) 5 (idx a) 1).length)).2.2 60 = _ from e60.2)).symm ?_
    exact XJ.lcs (lo' := [(0, .ref (w.1 39)), (3, .int (nI 0))]) ⟨rfl, rfl, trivial⟩ (hloop ((listN P.2.1 L pr (idx s) 5 (idx a) 1).length + 1) 0 (by omega) (by omega))
  · have hcd : ¬ cdA a s np = 0 := of_decide_eq_false (bI_eq h1)
    rw [if_neg hcd]
    refine X_iconst (v := 0) dX11_writeList_9 (by decide) ?_
    refine X_ireturn dX11_writeList_10 rfl rfl ?_
    exact ⟨_, rfl, fun h => absurd h hcd, by first | rfl | rw [if_neg hcd]⟩
set_option maxRecDepth 20000 in
theorem m_charAt (h9 : M0 w t np nl no nm nw en) {lt : Nat → Int32} {T : List Nat} (e60 : cel w 60 (aI G.2.2.1 20000 (wr nI lt 0 T))) (hT : T.length = nw) (hl : nw ≤ 20000) (hch : ∀ c ∈ T, c < 128) (i : Int32) : XC G mX11_charAt 1 0 0 [.ref (w.1 39), .int i] w (fun r w' => ∃ v : Int32, r = .inl (some (.int v)) ∧ (cdP i nw = 0 → v = nI (T.getD (idx i) 0)) ∧ w' = setM w 39 (m39 w (cdP i nw) np nl no nm nw en)) := by
  refine XC.of (lo0 := [(0, .ref (w.1 39)), (1, .int i)]) kmX11_charAt (Nat.le_of_ble_eq_true rfl) rfl ?_
  refine X_aload_n dX11_charAt_0 (i := 0) rfl rfl ?_
  refine X_iload_n dX11_charAt_1 (i := 1) rfl rfl ?_
  refine X_iconst (v := 0) dX11_charAt_2 (by decide) ?_
  refine X_aload_n dX11_charAt_3 (i := 0) rfl rfl ?_
  refine X_get (i := 39) h9 rfl (ci := 10) rfl in11 (k := 5) (by decide) fX11_162 rfl dX11_charAt_4 ?_
  refine X_iconst (v := 1) dX11_charAt_7 (by decide) ?_
  refine X_isub dX11_charAt_8 ?_
  refine X_callS (gc2 := 0) (gs2 := 0) (m_in i 0 (nI nw - 1)) kmX11_in rfl lX11_89 sX11_in rfl rfl (Nat.le_of_ble_eq_true rfl) (by decide) dX11_charAt_9 (by decide) (by decide) (fun E w1 hq => nomatch hq.1) (fun v w1 hq => ?_)
  have hv := hq.1
  obtain rfl := hq.2.symm
  cases hv
  refine X_if_eq (tgt := 19) dX11_charAt_12 (by decide) (fun h1 => ?_) (fun h1 => ?_)
  · have hi : inP i nw = false := by have := bI_eq h1; rw [btw_inP (by omega)] at this; exact this
    have hcd := cdP_1 hi
    refine X_iconst (v := 1) dX11_charAt_19 (by decide) ?_
    refine X_put tyX11 tyX11_ok nmX11 (i := 39) h9 rfl (ci := 10) rfl in11 (k := 0) (by decide) fX11_82 rfl rfl rfl (Nat.le_of_ble_eq_true rfl) dX11_charAt_20 (fun hc_20 => ?_)
    refine X_aload_n dX11_charAt_23 (i := 0) rfl rfl ?_
    refine X_get (i := 39) hc_20 rfl (ci := 10) rfl in11 (k := 0) (by decide) fX11_82 rfl dX11_charAt_24 ?_
    refine X_if_le (tgt := 34) dX11_charAt_27 (by decide) (fun h => absurd h (by decide)) (fun _ => ?_)
    refine X_iconst (v := 0) dX11_charAt_30 (by decide) ?_
    refine X_goto (tgt := 40) dX11_charAt_31 (by decide) ?_
    refine X_i2c dX11_charAt_40 rfl ?_
    refine X_ireturn dX11_charAt_41 rfl (by first | rfl | exact narrow_c (by omega)) ?_
    first
      | exact ⟨_, rfl, fun _ => by rw [idx_nI (by omega)], by rw [hcd]; rfl⟩
      | exact ⟨_, rfl, fun h => absurd h (by rw [hcd]; decide), by rw [hcd]; rfl⟩
  · have hi : inP i nw = true := by have := bI_ne h1; rw [btw_inP (by omega)] at this; exact this
    have hcd := cdP_0 hi
    obtain ⟨j, hj, rfl⟩ := inP_of (by omega) hi
    have hc := hch _ (getD_mem (z := 0) (show j < T.length by omega))
    refine X_iconst (v := 0) dX11_charAt_15 (by decide) ?_
    refine X_goto (tgt := 20) dX11_charAt_16 (by decide) ?_
    refine X_put tyX11 tyX11_ok nmX11 (i := 39) h9 rfl (ci := 10) rfl in11 (k := 0) (by decide) fX11_82 rfl rfl rfl (Nat.le_of_ble_eq_true rfl) dX11_charAt_20 (fun hc_20 => ?_)
    refine X_aload_n dX11_charAt_23 (i := 0) rfl rfl ?_
    refine X_get (i := 39) hc_20 rfl (ci := 10) rfl in11 (k := 0) (by decide) fX11_82 rfl dX11_charAt_24 ?_
    refine X_if_le (tgt := 34) dX11_charAt_27 (by decide) (fun _ => ?_) (fun h => absurd h (by decide))
    refine X_aload_n dX11_charAt_34 (i := 0) rfl rfl ?_
    refine X_get (i := 39) hc_20 rfl (ci := 10) rfl in11 (k := 27) (by decide) fX11_72 rfl dX11_charAt_35 ?_
    refine X_iload_n dX11_charAt_38 (i := 1) rfl rfl ?_
    refine X_iald (i := 60) e60 rfl rfl (by omega) (by decide) dX11_charAt_39 ?_
    refine XJ.top (v' := .int (nI (T.getD j 0))) (by have := wr_at (v := nI) (z := 0) (a := lt) (n := 0) (show j < T.length by omega); rw [Nat.zero_add] at this; rw [this]) ?_
    refine X_i2c dX11_charAt_40 rfl ?_
    refine XJ.top (v' := .int (nI (T.getD j 0))) (by rw [pk_char, pk_tn (by omega), Nat.mod_eq_of_lt (by omega)]) ?_
    refine X_ireturn dX11_charAt_41 rfl (by first | rfl | exact narrow_c (by omega)) ?_
    first
      | exact ⟨_, rfl, fun _ => by rw [idx_nI (by omega)], by rw [hcd]; rfl⟩
      | exact ⟨_, rfl, fun h => absurd h (by rw [hcd]; decide), by rw [hcd]; rfl⟩
end TextM2
