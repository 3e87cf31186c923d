/-! REFERENCE: lines (walks by gen/spec29.py) -/
section LinesM
variable {G : Gx} {w : Wd} {t np nl no nm nw en : Nat}
theorem opm {o : Nat} (ho : o ≤ 4) : nI o - 1 = -1 ↔ o = 0 := by
  have : ∀ o : Nat, o < 5 → (nI o - 1 = -1 ↔ o = 0) := by decide +kernel
  exact this o (by omega)
theorem opm_eq {o k : Nat} (ho : o ≤ 4) (hk : k ≤ 4) : nI o - 1 = nI k - 1 ↔ o = k := by
  have : ∀ o : Nat, o < 5 → ∀ k : Nat, k < 5 → (nI o - 1 = nI k - 1 ↔ o = k) := by decide +kernel
  exact this o (by omega) k (by omega)
theorem sh_bit {c k : Nat} (hc : c < 16) (hk : k < 4) : (nI c >>> (nI k &&& 31)) &&& 1 = nI (c / 2 ^ k % 2) := by
  have : ∀ c : Nat, c < 16 → ∀ k : Nat, k < 4 → (nI c >>> (nI k &&& 31)) &&& 1 = nI (c / 2 ^ k % 2) := by decide +kernel
  exact this c hc k hk
theorem hld_0 {L : LSt} {pr : Nat → Nat} {s j : Nat} (hpr : ∀ i, i < 4 → pr i < 4) (ho : op L j = 0) : hld L pr s j = (decide (fi L j ≤ s) && decide (s ≤ la L j)) := by
  have h1 : (15 : Nat).testBit (pr (op L j - 1)) = true := by
    have h2 := hpr (op L j - 1) (by omega)
    have : ∀ k : Nat, k < 4 → (15 : Nat).testBit k = true := by decide
    exact this _ h2
  rw [hld, xcs, if_pos ho, h1, Bool.and_true]
theorem hld_s {L : LSt} {pr : Nat → Nat} {s j : Nat} (ho : op L j ≠ 0) : hld L pr s j = ((decide (fi L j ≤ s) && decide (s ≤ la L j)) && decide (cs L j / 2 ^ pr (op L j - 1) % 2 = 1)) := by
  rw [hld, xcs, if_neg ho, tb_div]
set_option maxRecDepth 20000 in
theorem m_isHeld {pr : Nat → Nat} (h9 : M0 w t np nl no nm nw en) {L : LSt} (hL : ML G.2.2.1 w L) (hnl : ln L = nl) (hI : LI np L) (hC : MC G.2.2.1 w pr) (hpr : ∀ i, i < 4 → pr i < 4) (j : Nat) (hj : j < ln L) (s : Nat) (hs : s < 2 ^ 31) : XC G mX11_isHeld 1 0 0 [.ref (w.1 39), .int (nI j), .int (nI s)] w (fun r w' => r = .inl (some (.int (bI (hld L pr s j)))) ∧ w' = w) := by
  have h16 := hI.1
  have h40 := hI.2.1
  have hb := hI.2.2 j hj
  refine XC.of (lo0 := [(0, .ref (w.1 39)), (1, .int (nI j)), (2, .int (nI s))]) kmX11_isHeld (Nat.le_of_ble_eq_true rfl) rfl ?_
  refine X_iload_n dX11_isHeld_0 (i := 2) rfl rfl ?_
  refine X_aload_n dX11_isHeld_1 (i := 0) rfl rfl ?_
  refine X_get (i := 39) h9 rfl (ci := 10) rfl in11 (k := 14) (by decide) fX11_31 rfl dX11_isHeld_2 ?_
  refine X_iload_n dX11_isHeld_5 (i := 1) rfl rfl ?_
  refine X_iald (i := 47) hL.2.2.2.2.1 rfl rfl (by omega) (by decide) dX11_isHeld_6 ?_
  refine X_aload_n dX11_isHeld_7 (i := 0) rfl rfl ?_
  refine X_get (i := 39) h9 rfl (ci := 10) rfl in11 (k := 15) (by decide) fX11_34 rfl dX11_isHeld_8 ?_
  refine X_iload_n dX11_isHeld_11 (i := 1) rfl rfl ?_
  refine X_iald (i := 48) hL.2.2.2.2.2.1 rfl rfl (by omega) (by decide) dX11_isHeld_12 ?_
  refine X_callS (gc2 := 0) (gs2 := 0) (m_in (nI s) (nI (fi L j)) (nI (la L j))) kmX11_in rfl lX11_89 sX11_in rfl rfl (Nat.le_of_ble_eq_true rfl) (by decide) dX11_isHeld_13 (by decide) (by decide) (fun E w1 hq => nomatch hq.1) (fun v w1 hq => ?_)
  have hv := hq.1
  obtain rfl := hq.2.symm
  cases hv
  refine X_if_eq (tgt := 57) dX11_isHeld_16 (by decide) (fun h1 => ?_) (fun h1 => ?_)
  · have h3 := bI_eq h1
    rw [btw_of hs (by omega) (by omega)] at h3
    refine X_iconst (v := 0) dX11_isHeld_57 (by decide) ?_
    refine X_ireturn dX11_isHeld_58 rfl rfl ?_
    first
      | exact ⟨rI (by rw [hld_0 hpr h6, h3]; rfl), rfl⟩
      | exact ⟨rI (by rw [hld_s h6, h3, h10]; rfl), rfl⟩
      | exact ⟨rI (by rw [hld, h3]; rfl), rfl⟩
  · have h3 := bI_ne h1
    rw [btw_of hs (by omega) (by omega)] at h3
    refine X_aload_n dX11_isHeld_19 (i := 0) rfl rfl ?_
    refine X_get (i := 39) h9 rfl (ci := 10) rfl in11 (k := 17) (by decide) fX11_40 rfl dX11_isHeld_20 ?_
    refine X_iload_n dX11_isHeld_23 (i := 1) rfl rfl ?_
    refine X_iald (i := 50) hL.2.2.2.2.2.2.2.1 rfl rfl (by omega) (by decide) dX11_isHeld_24 ?_
    refine X_iconst (v := -1) dX11_isHeld_25 (by decide) ?_
    refine X_icmp_eq (tgt := 53) dX11_isHeld_26 (by decide) (fun h2 => ?_) (fun h2 => ?_)
    · have h6 : op L j = 0 := (opm (by omega)).mp h2
      refine X_iconst (v := 1) dX11_isHeld_53 (by decide) ?_
      refine X_goto (tgt := 58) dX11_isHeld_54 (by decide) ?_
      refine X_ireturn dX11_isHeld_58 rfl rfl ?_
      first
        | exact ⟨rI (by rw [hld_0 hpr h6, h3]; rfl), rfl⟩
        | exact ⟨rI (by rw [hld_s h6, h3, h10]; rfl), rfl⟩
        | exact ⟨rI (by rw [hld, h3]; rfl), rfl⟩
    · refine X_aload_n dX11_isHeld_29 (i := 0) rfl rfl ?_
      refine X_get (i := 39) h9 rfl (ci := 10) rfl in11 (k := 18) (by decide) fX11_43 rfl dX11_isHeld_30 ?_
      refine X_iload_n dX11_isHeld_33 (i := 1) rfl rfl ?_
      refine X_iald (i := 51) hL.2.2.2.2.2.2.2.2 rfl rfl (by omega) (by decide) dX11_isHeld_34 ?_
      refine X_aload_n dX11_isHeld_35 (i := 0) rfl rfl ?_
      refine X_get (i := 39) h9 rfl (ci := 10) rfl in11 (k := 19) (by decide) fX11_46 rfl dX11_isHeld_36 ?_
      refine X_aload_n dX11_isHeld_39 (i := 0) rfl rfl ?_
      refine X_get (i := 39) h9 rfl (ci := 10) rfl in11 (k := 17) (by decide) fX11_40 rfl dX11_isHeld_40 ?_
      refine X_iload_n dX11_isHeld_43 (i := 1) rfl rfl ?_
      refine X_iald (i := 50) hL.2.2.2.2.2.2.2.1 rfl rfl (by omega) (by decide) dX11_isHeld_44 ?_
      have h6 : op L j ≠ 0 := fun h => h2 ((opm (by omega)).mpr h)
      have h7 : nI (op L j) - 1 = nI (op L j - 1) := by rw [show (1 : Int32) = nI 1 from rfl, pk_sub (by omega)]
      have h8 := hpr (op L j - 1) (by omega)
      refine X_iald (i := 52) hC rfl h7 (by omega) (by decide) dX11_isHeld_45 ?_
      refine X_ishr dX11_isHeld_46 ?_
      refine X_iconst (v := 1) dX11_isHeld_47 (by decide) ?_
      refine X_iand dX11_isHeld_48 ?_
      refine XJ.top (v' := .int (nI (cs L j / 2 ^ pr (op L j - 1) % 2))) (by rw [show nf (cs L) j = nI (cs L j) from rfl, show nf pr (op L j - 1) = nI (pr (op L j - 1)) from rfl, sh_bit (by omega) h8]) ?_
      refine X_iconst (v := 1) dX11_isHeld_49 (by decide) ?_
      refine X_icmp_ne (tgt := 57) dX11_isHeld_50 (by decide) (fun h5 => ?_) (fun h5 => ?_)
      · have h10 : decide (cs L j / 2 ^ pr (op L j - 1) % 2 = 1) = false := decide_eq_false (fun h => h5 (by rw [h]; rfl))
        refine X_iconst (v := 0) dX11_isHeld_57 (by decide) ?_
        refine X_ireturn dX11_isHeld_58 rfl rfl ?_
        first
          | exact ⟨rI (by rw [hld_0 hpr h6, h3]; rfl), rfl⟩
          | exact ⟨rI (by rw [hld_s h6, h3, h10]; rfl), rfl⟩
          | exact ⟨rI (by rw [hld, h3]; rfl), rfl⟩
      · have h10 : decide (cs L j / 2 ^ pr (op L j - 1) % 2 = 1) = true := decide_eq_true ((nI_eq (by omega) (by decide)).mp h5)
        refine X_iconst (v := 1) dX11_isHeld_53 (by decide) ?_
        refine X_goto (tgt := 58) dX11_isHeld_54 (by decide) ?_
        refine X_ireturn dX11_isHeld_58 rfl rfl ?_
        first
          | exact ⟨rI (by rw [hld_0 hpr h6, h3]; rfl), rfl⟩
          | exact ⟨rI (by rw [hld_s h6, h3, h10]; rfl), rfl⟩
          | exact ⟨rI (by rw [hld, h3]; rfl), rfl⟩
set_option maxRecDepth 20000 in
theorem m_at {pr : Nat → Nat} (h9 : M0 w t np nl no nm nw en) {L : LSt} (hL : ML G.2.2.1 w L) (hnl : ln L = nl) (hI : LI np L) (hC : MC G.2.2.1 w pr) (hW : PW L) (hpr : ∀ i, i < 4 → pr i < 4) (p k s : Nat) (hp : p < 2 ^ 31) (hk : k < 2 ^ 31) (hs : s < 2 ^ 31) : XC G mX11_at 2 0 0 [.ref (w.1 39), .int (nI p), .int (nI k), .int (nI s)] w (fun r w' => r = .inl (some (.int (oI (lnAt L pr s p k)))) ∧ w' = w) := by
  have h16 := hI.1
  have h40 := hI.2.1
  refine XC.of (lo0 := [(0, .ref (w.1 39)), (1, .int (nI p)), (2, .int (nI k)), (3, .int (nI s))]) kmX11_at (Nat.le_of_ble_eq_true rfl) rfl ?_
  have hloop : ∀ (n : Nat) (l : Nat), nl - l < n → l ≤ nl → (∀ j, j < l → (hld L pr s j && (decide (pa L j = p) && decide (po L j = k))) = false) → XJ G mX11_at 2 0 0 3 [(0, .ref (w.1 39)), (1, .int (nI p)), (2, .int (nI k)), (3, .int (nI s)), (4, .int (nI l))] [] w (fun r w' => r = .inl (some (.int (oI (lnAt L pr s p k)))) ∧ w' = w) := by
    intro n
    induction n with
    | zero => intro l hm hl hn; exact absurd hm (Nat.not_lt_zero _)
    | succ n ih =>
      intro l hm hl hn
      refine X_iload dX11_at_3 (i := 4) rfl ?_
      refine X_aload_n dX11_at_5 (i := 0) rfl rfl ?_
      refine X_get (i := 39) h9 rfl (ci := 10) rfl in11 (k := 2) (by decide) fX11_93 rfl dX11_at_6 ?_
      refine X_icmp_ge (tgt := 53) dX11_at_9 (by decide) (fun h1 => ?_) (fun h1 => ?_)
      · have h5 : l = nl := by have := ge_nI (a := nl) (by omega) (by omega) h1; omega
        refine X_iconst (v := -1) dX11_at_53 (by decide) ?_
        refine X_ireturn dX11_at_54 rfl rfl ?_
        exact ⟨rI (by rw [lnAt, lst_no (fun j hj => hn j (by omega))]; rfl), rfl⟩
      · have h5 : l < nl := nge_nI (a := nl) (by omega) (by omega) h1
        have hb := hI.2.2 l (by omega)
        refine X_aload_n dX11_at_12 (i := 0) rfl rfl ?_
        refine X_get (i := 39) h9 rfl (ci := 10) rfl in11 (k := 10) (by decide) fX11_19 rfl dX11_at_13 ?_
        refine X_iload dX11_at_16 (i := 4) rfl ?_
        refine X_iald (i := 43) hL.1 rfl rfl (by omega) (by decide) dX11_at_18 ?_
        refine X_iload_n dX11_at_19 (i := 1) rfl rfl ?_
        refine X_icmp_ne (tgt := 47) dX11_at_20 (by decide) (fun h2 => ?_) (fun h2 => ?_)
        · have h6 : ¬ pa L l = p := fun h => h2 (by show nI (pa L l) = nI p; rw [h])
          refine X_iinc (i := 4) (v := nI (l + 1)) (lo' := [(4, _), (0, _), (1, _), (2, _), (3, _)]) dX11_at_47 rfl (nI_inc l) (by decide) rfl ?_
          refine X_goto (tgt := 3) dX11_at_50 (by decide) ?_
          first
            | exact XJ.lcs (lo' := [(0, .ref (w.1 39)), (1, .int (nI p)), (2, .int (nI k)), (3, .int (nI s)), (4, .int (nI (l + 1)))]) ⟨rfl, rfl, rfl, rfl, rfl, trivial⟩ (ih (l + 1) (by omega) (by omega) (fun j hj => by rcases Nat.lt_or_ge j l with h | h; exact hn j h; rw [show j = l by omega, h8, Bool.false_and]))
            | exact XJ.lcs (lo' := [(0, .ref (w.1 39)), (1, .int (nI p)), (2, .int (nI k)), (3, .int (nI s)), (4, .int (nI (l + 1)))]) ⟨rfl, rfl, rfl, rfl, rfl, trivial⟩ (ih (l + 1) (by omega) (by omega) (fun j hj => by rcases Nat.lt_or_ge j l with h | h; exact hn j h; rw [show j = l by omega, decide_eq_false h6, Bool.false_and, Bool.and_false]))
            | exact XJ.lcs (lo' := [(0, .ref (w.1 39)), (1, .int (nI p)), (2, .int (nI k)), (3, .int (nI s)), (4, .int (nI (l + 1)))]) ⟨rfl, rfl, rfl, rfl, rfl, trivial⟩ (ih (l + 1) (by omega) (by omega) (fun j hj => by rcases Nat.lt_or_ge j l with h | h; exact hn j h; rw [show j = l by omega, decide_eq_false h7, Bool.and_false, Bool.and_false]))
        · have h6 : pa L l = p := (nI_eq (by omega) hp).mp h2
          refine X_aload_n dX11_at_23 (i := 0) rfl rfl ?_
          refine X_get (i := 39) h9 rfl (ci := 10) rfl in11 (k := 11) (by decide) fX11_22 rfl dX11_at_24 ?_
          refine X_iload dX11_at_27 (i := 4) rfl ?_
          refine X_iald (i := 44) hL.2.1 rfl rfl (by omega) (by decide) dX11_at_29 ?_
          refine X_iload_n dX11_at_30 (i := 2) rfl rfl ?_
          refine X_icmp_ne (tgt := 47) dX11_at_31 (by decide) (fun h3 => ?_) (fun h3 => ?_)
          · have h7 : ¬ po L l = k := fun h => h3 (by show nI (po L l) = nI k; rw [h])
            refine X_iinc (i := 4) (v := nI (l + 1)) (lo' := [(4, _), (0, _), (1, _), (2, _), (3, _)]) dX11_at_47 rfl (nI_inc l) (by decide) rfl ?_
            refine X_goto (tgt := 3) dX11_at_50 (by decide) ?_
            first
              | exact XJ.lcs (lo' := [(0, .ref (w.1 39)), (1, .int (nI p)), (2, .int (nI k)), (3, .int (nI s)), (4, .int (nI (l + 1)))]) ⟨rfl, rfl, rfl, rfl, rfl, trivial⟩ (ih (l + 1) (by omega) (by omega) (fun j hj => by rcases Nat.lt_or_ge j l with h | h; exact hn j h; rw [show j = l by omega, h8, Bool.false_and]))
              | exact XJ.lcs (lo' := [(0, .ref (w.1 39)), (1, .int (nI p)), (2, .int (nI k)), (3, .int (nI s)), (4, .int (nI (l + 1)))]) ⟨rfl, rfl, rfl, rfl, rfl, trivial⟩ (ih (l + 1) (by omega) (by omega) (fun j hj => by rcases Nat.lt_or_ge j l with h | h; exact hn j h; rw [show j = l by omega, decide_eq_false h6, Bool.false_and, Bool.and_false]))
              | exact XJ.lcs (lo' := [(0, .ref (w.1 39)), (1, .int (nI p)), (2, .int (nI k)), (3, .int (nI s)), (4, .int (nI (l + 1)))]) ⟨rfl, rfl, rfl, rfl, rfl, trivial⟩ (ih (l + 1) (by omega) (by omega) (fun j hj => by rcases Nat.lt_or_ge j l with h | h; exact hn j h; rw [show j = l by omega, decide_eq_false h7, Bool.and_false, Bool.and_false]))
          · have h7 : po L l = k := (nI_eq (by omega) hk).mp h3
            refine X_aload_n dX11_at_34 (i := 0) rfl rfl ?_
            refine X_iload dX11_at_35 (i := 4) rfl ?_
            refine X_iload_n dX11_at_37 (i := 3) rfl rfl ?_
            refine X_callV (gc2 := 0) (gs2 := 0) (m_isHeld h9 hL hnl hI hC hpr l (by omega) s hs) (i := 39) h9 rfl rfl kmX11_isHeld rfl lX11_136 iX11_isHeld vX11_isHeld rfl rfl (Nat.le_of_ble_eq_true rfl) (by decide) dX11_at_38 (by decide) (by decide) (fun E w1 hq => nomatch hq.1) (fun v w1 hq => ?_)
            have hv := hq.1
            obtain rfl := hq.2.symm
            cases hv
            refine X_if_eq (tgt := 47) dX11_at_41 (by decide) (fun h4 => ?_) (fun h4 => ?_)
            · have h8 := bI_eq h4
              refine X_iinc (i := 4) (v := nI (l + 1)) (lo' := [(4, _), (0, _), (1, _), (2, _), (3, _)]) dX11_at_47 rfl (nI_inc l) (by decide) rfl ?_
              refine X_goto (tgt := 3) dX11_at_50 (by decide) ?_
              first
                | exact XJ.lcs (lo' := [(0, .ref (w.1 39)), (1, .int (nI p)), (2, .int (nI k)), (3, .int (nI s)), (4, .int (nI (l + 1)))]) ⟨rfl, rfl, rfl, rfl, rfl, trivial⟩ (ih (l + 1) (by omega) (by omega) (fun j hj => by rcases Nat.lt_or_ge j l with h | h; exact hn j h; rw [show j = l by omega, h8, Bool.false_and]))
                | exact XJ.lcs (lo' := [(0, .ref (w.1 39)), (1, .int (nI p)), (2, .int (nI k)), (3, .int (nI s)), (4, .int (nI (l + 1)))]) ⟨rfl, rfl, rfl, rfl, rfl, trivial⟩ (ih (l + 1) (by omega) (by omega) (fun j hj => by rcases Nat.lt_or_ge j l with h | h; exact hn j h; rw [show j = l by omega, decide_eq_false h6, Bool.false_and, Bool.and_false]))
                | exact XJ.lcs (lo' := [(0, .ref (w.1 39)), (1, .int (nI p)), (2, .int (nI k)), (3, .int (nI s)), (4, .int (nI (l + 1)))]) ⟨rfl, rfl, rfl, rfl, rfl, trivial⟩ (ih (l + 1) (by omega) (by omega) (fun j hj => by rcases Nat.lt_or_ge j l with h | h; exact hn j h; rw [show j = l by omega, decide_eq_false h7, Bool.and_false, Bool.and_false]))
            · have h8 := bI_ne h4
              refine X_iload dX11_at_44 (i := 4) rfl ?_
              refine X_ireturn dX11_at_46 rfl rfl ?_
              exact ⟨rI (by rw [lnAt_of hW (by omega) h8 h6 h7]; rfl), rfl⟩
  refine X_iconst (v := 0) dX11_at_0 (by decide) ?_
  refine X_istore (i := 4) (lo' := [(4, _), (0, _), (1, _), (2, _), (3, _)]) dX11_at_1 (by decide) rfl ?_
  exact XJ.lcs (lo' := [(0, .ref (w.1 39)), (1, .int (nI p)), (2, .int (nI k)), (3, .int (nI s)), (4, .int (nI 0))]) ⟨rfl, rfl, rfl, rfl, rfl, trivial⟩ (hloop (nl + 1) 0 (by omega) (by omega) (fun j hj => absurd hj (by omega)))
def hgv (n : Nat) (a b : Nat → Nat) (f p i : Nat) : Nat := if a i = p then 1 + hgt n a b f (b i) else 0
theorem mxN_t {g : Nat → Nat} {n : Nat} (h : mxN g n < g n) : g n = mxN g (n + 1) := by rw [mxN, if_pos h]
theorem mxN_f {g : Nat → Nat} {n : Nat} (h : ¬ mxN g n < g n) : mxN g n = mxN g (n + 1) := by rw [mxN, if_neg h]
theorem hgt_le {n : Nat} {a b : Nat → Nat} (f p : Nat) : hgt n a b f p ≤ f := by
  rcases hgt_iff.mp (Nat.le_refl (hgt n a b f p)) with h | ⟨h, -⟩
  · omega
  · exact h
theorem mxN_le {g : Nat → Nat} {n k : Nat} (h : ∀ i, i < n → g i ≤ k) : mxN g n ≤ k := by
  rcases mxN_iff.mp (Nat.le_refl (mxN g n)) with h1 | ⟨i, h1, h2⟩
  · omega
  · have := h i h1; omega
set_option maxRecDepth 20000 in
theorem m_below_s (h9 : M0 w t np nl no nm nw en) {L : LSt} (hL : ML G.2.2.1 w L) (hnl : ln L = nl) (hI : LI np L) {f : Nat} (hf : f < 100) (p : Nat) (hp : p < 16) (hnc : ∀ i, i < nl → pa L i = p → NC nl (pa L) (ch L) f (ch L i)) (hrec : ∀ q, q < 16 → NC nl (pa L) (ch L) f q → XC G mX11_below (f + 2) 0 0 [.ref (w.1 39), .int (nI q)] w (fun r w' => r = .inl (some (.int (nI (hgt nl (pa L) (ch L) f q)))) ∧ w' = w)) : XC G mX11_below (f + 3) 0 0 [.ref (w.1 39), .int (nI p)] w (fun r w' => r = .inl (some (.int (nI (hgt nl (pa L) (ch L) (f + 1) p)))) ∧ w' = w) := by
  have h16 := hI.1
  have h40 := hI.2.1
  refine XC.of (lo0 := [(0, .ref (w.1 39)), (1, .int (nI p))]) kmX11_below (Nat.le_of_ble_eq_true rfl) rfl ?_
  have hloop : ∀ (n : Nat) (l : Nat), nl - l < n → l ≤ nl → XJ G mX11_below (f + 3) 0 0 4 [(0, .ref (w.1 39)), (1, .int (nI p)), (2, .int (nI (mxN (hgv nl (pa L) (ch L) f p) l))), (3, .int (nI l))] [] w (fun r w' => r = .inl (some (.int (nI (hgt nl (pa L) (ch L) (f + 1) p)))) ∧ w' = w) := by
    intro n
    induction n with
    | zero => intro l hm hl; exact absurd hm (Nat.not_lt_zero _)
    | succ n ih =>
      intro l hm hl
      refine X_iload_n dX11_below_4 (i := 3) rfl rfl ?_
      refine X_aload_n dX11_below_5 (i := 0) rfl rfl ?_
      refine X_get (i := 39) h9 rfl (ci := 10) rfl in11 (k := 2) (by decide) fX11_93 rfl dX11_below_6 ?_
      refine X_icmp_ge (tgt := 59) dX11_below_9 (by decide) (fun h1 => ?_) (fun h1 => ?_)
      · have h5 : l = nl := by have := ge_nI (a := nl) (by omega) (by omega) h1; omega
        subst h5
        refine X_iload_n dX11_below_59 (i := 2) rfl rfl ?_
        refine X_ireturn dX11_below_60 rfl rfl ?_
        exact ⟨rI0 rfl, rfl⟩
      · have h5 : l < nl := nge_nI (a := nl) (by omega) (by omega) h1
        have hb := hI.2.2 l (by omega)
        refine X_aload_n dX11_below_12 (i := 0) rfl rfl ?_
        refine X_get (i := 39) h9 rfl (ci := 10) rfl in11 (k := 10) (by decide) fX11_19 rfl dX11_below_13 ?_
        refine X_iload_n dX11_below_16 (i := 3) rfl rfl ?_
        refine X_iald (i := 43) hL.1 rfl rfl (by omega) (by decide) dX11_below_17 ?_
        refine X_iload_n dX11_below_18 (i := 1) rfl rfl ?_
        refine X_icmp_ne (tgt := 37) dX11_below_19 (by decide) (fun h2 => ?_) (fun h2 => ?_)
        · have h6 : ¬ pa L l = p := fun h => h2 (by show nI (pa L l) = nI p; rw [h])
          have h7 : (hgv nl (pa L) (ch L) f p) l = 0 := if_neg h6
          refine X_iconst (v := 0) dX11_below_37 (by decide) ?_
          refine X_istore (i := 4) (lo' := [(4, _), (0, _), (1, _), (2, _), (3, _)]) dX11_below_38 (by decide) rfl ?_
          have h8 := mxN_le (g := (hgv nl (pa L) (ch L) f p)) (n := l) (k := f + 1) (fun i hi => by have := hgt_le (n := nl) (a := pa L) (b := ch L) f (ch L i); unfold hgv; split <;> omega)
          refine X_iload dX11_below_40 (i := 4) rfl ?_
          refine X_iload_n dX11_below_42 (i := 2) rfl rfl ?_
          refine X_icmp_le (tgt := 51) dX11_below_43 (by decide) (fun h3 => ?_) (fun h3 => ?_)
          · have h10 : ¬ mxN (hgv nl (pa L) (ch L) f p) l < (hgv nl (pa L) (ch L) f p) l := by rw [h7]; first | (have := ge_nI (a := 0) (by omega) (by omega) h3; omega) | (have := ge_nI (by omega) (by omega) h3; omega)
            refine X_iload_n dX11_below_51 (i := 2) rfl rfl ?_
            refine X_istore_n (i := 2) (lo' := [(2, _), (4, _), (0, _), (1, _), (3, _)]) dX11_below_52 rfl (by decide) rfl ?_
            refine X_iinc (i := 3) (v := nI (l + 1)) (lo' := [(3, _), (2, _), (4, _), (0, _), (1, _)]) dX11_below_53 rfl (nI_inc l) (by decide) rfl ?_
            refine X_goto (tgt := 4) dX11_below_56 (by decide) ?_
            first
              | exact XJ.lcs (lo' := [(0, .ref (w.1 39)), (1, .int (nI p)), (2, .int (nI (mxN (hgv nl (pa L) (ch L) f p) (l + 1)))), (3, .int (nI (l + 1)))]) ⟨rfl, rfl, (by rw [← mxN_f h10]; rfl), rfl, trivial⟩ (ih (l + 1) (by omega) (by omega))
              | exact XJ.lcs (lo' := [(0, .ref (w.1 39)), (1, .int (nI p)), (2, .int (nI (mxN (hgv nl (pa L) (ch L) f p) (l + 1)))), (3, .int (nI (l + 1)))]) ⟨rfl, rfl, (by rw [← mxN_t h10, h7]; rfl), rfl, trivial⟩ (ih (l + 1) (by omega) (by omega))
          · have h10 : mxN (hgv nl (pa L) (ch L) f p) l < (hgv nl (pa L) (ch L) f p) l := by rw [h7]; first | (have := nge_nI (a := 0) (by omega) (by omega) h3; omega) | (have := nge_nI (by omega) (by omega) h3; omega)
            refine X_iload dX11_below_46 (i := 4) rfl ?_
            refine X_goto (tgt := 52) dX11_below_48 (by decide) ?_
            refine X_istore_n (i := 2) (lo' := [(2, _), (4, _), (0, _), (1, _), (3, _)]) dX11_below_52 rfl (by decide) rfl ?_
            refine X_iinc (i := 3) (v := nI (l + 1)) (lo' := [(3, _), (2, _), (4, _), (0, _), (1, _)]) dX11_below_53 rfl (nI_inc l) (by decide) rfl ?_
            refine X_goto (tgt := 4) dX11_below_56 (by decide) ?_
            first
              | exact XJ.lcs (lo' := [(0, .ref (w.1 39)), (1, .int (nI p)), (2, .int (nI (mxN (hgv nl (pa L) (ch L) f p) (l + 1)))), (3, .int (nI (l + 1)))]) ⟨rfl, rfl, (by rw [← mxN_f h10]; rfl), rfl, trivial⟩ (ih (l + 1) (by omega) (by omega))
              | exact XJ.lcs (lo' := [(0, .ref (w.1 39)), (1, .int (nI p)), (2, .int (nI (mxN (hgv nl (pa L) (ch L) f p) (l + 1)))), (3, .int (nI (l + 1)))]) ⟨rfl, rfl, (by rw [← mxN_t h10, h7]; rfl), rfl, trivial⟩ (ih (l + 1) (by omega) (by omega))
        · have h6 : pa L l = p := (nI_eq (by omega) (by omega)).mp h2
          have h7 : (hgv nl (pa L) (ch L) f p) l = 1 + hgt nl (pa L) (ch L) f (ch L l) := if_pos h6
          have h9b := hgt_le (n := nl) (a := pa L) (b := ch L) f (ch L l)
          refine X_iconst (v := 1) dX11_below_22 (by decide) ?_
          refine X_aload_n dX11_below_23 (i := 0) rfl rfl ?_
          refine X_aload_n dX11_below_24 (i := 0) rfl rfl ?_
          refine X_get (i := 39) h9 rfl (ci := 10) rfl in11 (k := 12) (by decide) fX11_25 rfl dX11_below_25 ?_
          refine X_iload_n dX11_below_28 (i := 3) rfl rfl ?_
          refine X_iald (i := 45) hL.2.2.1 rfl rfl (by omega) (by decide) dX11_below_29 ?_
          refine X_callV (gc2 := 0) (gs2 := 0) (hrec (ch L l) (by omega) (hnc l h5 h6)) (i := 39) h9 rfl rfl kmX11_below rfl lX11_109 iX11_below vX11_below rfl rfl (Nat.le_of_ble_eq_true rfl) (by omega) dX11_below_30 (by decide) (by decide) (fun E w1 hq => nomatch hq.1) (fun v w1 hq => ?_)
          have hv := hq.1
          obtain rfl := hq.2.symm
          cases hv
          refine X_iadd dX11_below_33 ?_
          refine XJ.top (v' := .int (nI (1 + hgt nl (pa L) (ch L) f (ch L l)))) (by rw [← nI_add]; rfl) ?_
          refine X_goto (tgt := 38) dX11_below_34 (by decide) ?_
          refine X_istore (i := 4) (lo' := [(4, _), (0, _), (1, _), (2, _), (3, _)]) dX11_below_38 (by decide) rfl ?_
          have h8 := mxN_le (g := (hgv nl (pa L) (ch L) f p)) (n := l) (k := f + 1) (fun i hi => by have := hgt_le (n := nl) (a := pa L) (b := ch L) f (ch L i); unfold hgv; split <;> omega)
          refine X_iload dX11_below_40 (i := 4) rfl ?_
          refine X_iload_n dX11_below_42 (i := 2) rfl rfl ?_
          refine X_icmp_le (tgt := 51) dX11_below_43 (by decide) (fun h3 => ?_) (fun h3 => ?_)
          · have h10 : ¬ mxN (hgv nl (pa L) (ch L) f p) l < (hgv nl (pa L) (ch L) f p) l := by rw [h7]; first | (have := ge_nI (a := 0) (by omega) (by omega) h3; omega) | (have := ge_nI (by omega) (by omega) h3; omega)
            refine X_iload_n dX11_below_51 (i := 2) rfl rfl ?_
            refine X_istore_n (i := 2) (lo' := [(2, _), (4, _), (0, _), (1, _), (3, _)]) dX11_below_52 rfl (by decide) rfl ?_
            refine X_iinc (i := 3) (v := nI (l + 1)) (lo' := [(3, _), (2, _), (4, _), (0, _), (1, _)]) dX11_below_53 rfl (nI_inc l) (by decide) rfl ?_
            refine X_goto (tgt := 4) dX11_below_56 (by decide) ?_
            first
              | exact XJ.lcs (lo' := [(0, .ref (w.1 39)), (1, .int (nI p)), (2, .int (nI (mxN (hgv nl (pa L) (ch L) f p) (l + 1)))), (3, .int (nI (l + 1)))]) ⟨rfl, rfl, (by rw [← mxN_f h10]; rfl), rfl, trivial⟩ (ih (l + 1) (by omega) (by omega))
              | exact XJ.lcs (lo' := [(0, .ref (w.1 39)), (1, .int (nI p)), (2, .int (nI (mxN (hgv nl (pa L) (ch L) f p) (l + 1)))), (3, .int (nI (l + 1)))]) ⟨rfl, rfl, (by rw [← mxN_t h10, h7]; rfl), rfl, trivial⟩ (ih (l + 1) (by omega) (by omega))
          · have h10 : mxN (hgv nl (pa L) (ch L) f p) l < (hgv nl (pa L) (ch L) f p) l := by rw [h7]; first | (have := nge_nI (a := 0) (by omega) (by omega) h3; omega) | (have := nge_nI (by omega) (by omega) h3; omega)
            refine X_iload dX11_below_46 (i := 4) rfl ?_
            refine X_goto (tgt := 52) dX11_below_48 (by decide) ?_
            refine X_istore_n (i := 2) (lo' := [(2, _), (4, _), (0, _), (1, _), (3, _)]) dX11_below_52 rfl (by decide) rfl ?_
            refine X_iinc (i := 3) (v := nI (l + 1)) (lo' := [(3, _), (2, _), (4, _), (0, _), (1, _)]) dX11_below_53 rfl (nI_inc l) (by decide) rfl ?_
            refine X_goto (tgt := 4) dX11_below_56 (by decide) ?_
            first
              | exact XJ.lcs (lo' := [(0, .ref (w.1 39)), (1, .int (nI p)), (2, .int (nI (mxN (hgv nl (pa L) (ch L) f p) (l + 1)))), (3, .int (nI (l + 1)))]) ⟨rfl, rfl, (by rw [← mxN_f h10]; rfl), rfl, trivial⟩ (ih (l + 1) (by omega) (by omega))
              | exact XJ.lcs (lo' := [(0, .ref (w.1 39)), (1, .int (nI p)), (2, .int (nI (mxN (hgv nl (pa L) (ch L) f p) (l + 1)))), (3, .int (nI (l + 1)))]) ⟨rfl, rfl, (by rw [← mxN_t h10, h7]; rfl), rfl, trivial⟩ (ih (l + 1) (by omega) (by omega))
  refine X_iconst (v := 0) dX11_below_0 (by decide) ?_
  refine X_istore_n (i := 2) (lo' := [(2, _), (0, _), (1, _)]) dX11_below_1 rfl (by decide) rfl ?_
  refine X_iconst (v := 0) dX11_below_2 (by decide) ?_
  refine X_istore_n (i := 3) (lo' := [(3, _), (2, _), (0, _), (1, _)]) dX11_below_3 rfl (by decide) rfl ?_
  exact XJ.lcs (lo' := [(0, .ref (w.1 39)), (1, .int (nI p)), (2, .int (nI (mxN (hgv nl (pa L) (ch L) f p) 0))), (3, .int (nI 0))]) ⟨rfl, rfl, rfl, rfl, trivial⟩ (hloop (nl + 1) 0 (by omega) (by omega))
theorem m_below (h9 : M0 w t np nl no nm nw en) {L : LSt} (hL : ML G.2.2.1 w L) (hnl : ln L = nl) (hI : LI np L) : ∀ (f : Nat), f < 100 → ∀ (p : Nat), p < 16 → NC nl (pa L) (ch L) f p → XC G mX11_below (f + 2) 0 0 [.ref (w.1 39), .int (nI p)] w (fun r w' => r = .inl (some (.int (nI (hgt nl (pa L) (ch L) f p)))) ∧ w' = w)
  | 0, _, _, _, h => h.elim
  | f + 1, hf, p, hp, h => m_below_s h9 hL hnl hI (by omega) p hp h (fun q hq hn => m_below h9 hL hnl hI f (by omega) q hq hn)
set_option maxRecDepth 20000 in
theorem m_above_s (h9 : M0 w t np nl no nm nw en) {L : LSt} (hL : ML G.2.2.1 w L) (hnl : ln L = nl) (hI : LI np L) {f : Nat} (hf : f < 100) (p : Nat) (hp : p < 16) (hnc : ∀ i, i < nl → ch L i = p → NC nl (ch L) (pa L) f (pa L i)) (hrec : ∀ q, q < 16 → NC nl (ch L) (pa L) f q → XC G mX11_above (f + 2) 0 0 [.ref (w.1 39), .int (nI q)] w (fun r w' => r = .inl (some (.int (nI (hgt nl (ch L) (pa L) f q)))) ∧ w' = w)) : XC G mX11_above (f + 3) 0 0 [.ref (w.1 39), .int (nI p)] w (fun r w' => r = .inl (some (.int (nI (hgt nl (ch L) (pa L) (f + 1) p)))) ∧ w' = w) := by
  have h16 := hI.1
  have h40 := hI.2.1
  refine XC.of (lo0 := [(0, .ref (w.1 39)), (1, .int (nI p))]) kmX11_above (Nat.le_of_ble_eq_true rfl) rfl ?_
  have hloop : ∀ (n : Nat) (l : Nat), nl - l < n → l ≤ nl → XJ G mX11_above (f + 3) 0 0 4 [(0, .ref (w.1 39)), (1, .int (nI p)), (2, .int (nI (mxN (hgv nl (ch L) (pa L) f p) l))), (3, .int (nI l))] [] w (fun r w' => r = .inl (some (.int (nI (hgt nl (ch L) (pa L) (f + 1) p)))) ∧ w' = w) := by
    intro n
    induction n with
    | zero => intro l hm hl; exact absurd hm (Nat.not_lt_zero _)
    | succ n ih =>
      intro l hm hl
      refine X_iload_n dX11_above_4 (i := 3) rfl rfl ?_
      refine X_aload_n dX11_above_5 (i := 0) rfl rfl ?_
      refine X_get (i := 39) h9 rfl (ci := 10) rfl in11 (k := 2) (by decide) fX11_93 rfl dX11_above_6 ?_
      refine X_icmp_ge (tgt := 59) dX11_above_9 (by decide) (fun h1 => ?_) (fun h1 => ?_)
      · have h5 : l = nl := by have := ge_nI (a := nl) (by omega) (by omega) h1; omega
        subst h5
        refine X_iload_n dX11_above_59 (i := 2) rfl rfl ?_
        refine X_ireturn dX11_above_60 rfl rfl ?_
        exact ⟨rI0 rfl, rfl⟩
      · have h5 : l < nl := nge_nI (a := nl) (by omega) (by omega) h1
        have hb := hI.2.2 l (by omega)
        refine X_aload_n dX11_above_12 (i := 0) rfl rfl ?_
        refine X_get (i := 39) h9 rfl (ci := 10) rfl in11 (k := 12) (by decide) fX11_25 rfl dX11_above_13 ?_
        refine X_iload_n dX11_above_16 (i := 3) rfl rfl ?_
        refine X_iald (i := 45) hL.2.2.1 rfl rfl (by omega) (by decide) dX11_above_17 ?_
        refine X_iload_n dX11_above_18 (i := 1) rfl rfl ?_
        refine X_icmp_ne (tgt := 37) dX11_above_19 (by decide) (fun h2 => ?_) (fun h2 => ?_)
        · have h6 : ¬ ch L l = p := fun h => h2 (by show nI (ch L l) = nI p; rw [h])
          have h7 : (hgv nl (ch L) (pa L) f p) l = 0 := if_neg h6
          refine X_iconst (v := 0) dX11_above_37 (by decide) ?_
          refine X_istore (i := 4) (lo' := [(4, _), (0, _), (1, _), (2, _), (3, _)]) dX11_above_38 (by decide) rfl ?_
          have h8 := mxN_le (g := (hgv nl (ch L) (pa L) f p)) (n := l) (k := f + 1) (fun i hi => by have := hgt_le (n := nl) (a := ch L) (b := pa L) f (pa L i); unfold hgv; split <;> omega)
          refine X_iload dX11_above_40 (i := 4) rfl ?_
          refine X_iload_n dX11_above_42 (i := 2) rfl rfl ?_
          refine X_icmp_le (tgt := 51) dX11_above_43 (by decide) (fun h3 => ?_) (fun h3 => ?_)
          · have h10 : ¬ mxN (hgv nl (ch L) (pa L) f p) l < (hgv nl (ch L) (pa L) f p) l := by rw [h7]; first | (have := ge_nI (a := 0) (by omega) (by omega) h3; omega) | (have := ge_nI (by omega) (by omega) h3; omega)
            refine X_iload_n dX11_above_51 (i := 2) rfl rfl ?_
            refine X_istore_n (i := 2) (lo' := [(2, _), (4, _), (0, _), (1, _), (3, _)]) dX11_above_52 rfl (by decide) rfl ?_
            refine X_iinc (i := 3) (v := nI (l + 1)) (lo' := [(3, _), (2, _), (4, _), (0, _), (1, _)]) dX11_above_53 rfl (nI_inc l) (by decide) rfl ?_
            refine X_goto (tgt := 4) dX11_above_56 (by decide) ?_
            first
              | exact XJ.lcs (lo' := [(0, .ref (w.1 39)), (1, .int (nI p)), (2, .int (nI (mxN (hgv nl (ch L) (pa L) f p) (l + 1)))), (3, .int (nI (l + 1)))]) ⟨rfl, rfl, (by rw [← mxN_f h10]; rfl), rfl, trivial⟩ (ih (l + 1) (by omega) (by omega))
              | exact XJ.lcs (lo' := [(0, .ref (w.1 39)), (1, .int (nI p)), (2, .int (nI (mxN (hgv nl (ch L) (pa L) f p) (l + 1)))), (3, .int (nI (l + 1)))]) ⟨rfl, rfl, (by rw [← mxN_t h10, h7]; rfl), rfl, trivial⟩ (ih (l + 1) (by omega) (by omega))
          · have h10 : mxN (hgv nl (ch L) (pa L) f p) l < (hgv nl (ch L) (pa L) f p) l := by rw [h7]; first | (have := nge_nI (a := 0) (by omega) (by omega) h3; omega) | (have := nge_nI (by omega) (by omega) h3; omega)
            refine X_iload dX11_above_46 (i := 4) rfl ?_
            refine X_goto (tgt := 52) dX11_above_48 (by decide) ?_
            refine X_istore_n (i := 2) (lo' := [(2, _), (4, _), (0, _), (1, _), (3, _)]) dX11_above_52 rfl (by decide) rfl ?_
            refine X_iinc (i := 3) (v := nI (l + 1)) (lo' := [(3, _), (2, _), (4, _), (0, _), (1, _)]) dX11_above_53 rfl (nI_inc l) (by decide) rfl ?_
            refine X_goto (tgt := 4) dX11_above_56 (by decide) ?_
            first
              | exact XJ.lcs (lo' := [(0, .ref (w.1 39)), (1, .int (nI p)), (2, .int (nI (mxN (hgv nl (ch L) (pa L) f p) (l + 1)))), (3, .int (nI (l + 1)))]) ⟨rfl, rfl, (by rw [← mxN_f h10]; rfl), rfl, trivial⟩ (ih (l + 1) (by omega) (by omega))
              | exact XJ.lcs (lo' := [(0, .ref (w.1 39)), (1, .int (nI p)), (2, .int (nI (mxN (hgv nl (ch L) (pa L) f p) (l + 1)))), (3, .int (nI (l + 1)))]) ⟨rfl, rfl, (by rw [← mxN_t h10, h7]; rfl), rfl, trivial⟩ (ih (l + 1) (by omega) (by omega))
        · have h6 : ch L l = p := (nI_eq (by omega) (by omega)).mp h2
          have h7 : (hgv nl (ch L) (pa L) f p) l = 1 + hgt nl (ch L) (pa L) f (pa L l) := if_pos h6
          have h9b := hgt_le (n := nl) (a := ch L) (b := pa L) f (pa L l)
          refine X_iconst (v := 1) dX11_above_22 (by decide) ?_
          refine X_aload_n dX11_above_23 (i := 0) rfl rfl ?_
          refine X_aload_n dX11_above_24 (i := 0) rfl rfl ?_
          refine X_get (i := 39) h9 rfl (ci := 10) rfl in11 (k := 10) (by decide) fX11_19 rfl dX11_above_25 ?_
          refine X_iload_n dX11_above_28 (i := 3) rfl rfl ?_
          refine X_iald (i := 43) hL.1 rfl rfl (by omega) (by decide) dX11_above_29 ?_
          refine X_callV (gc2 := 0) (gs2 := 0) (hrec (pa L l) (by omega) (hnc l h5 h6)) (i := 39) h9 rfl rfl kmX11_above rfl lX11_112 iX11_above vX11_above rfl rfl (Nat.le_of_ble_eq_true rfl) (by omega) dX11_above_30 (by decide) (by decide) (fun E w1 hq => nomatch hq.1) (fun v w1 hq => ?_)
          have hv := hq.1
          obtain rfl := hq.2.symm
          cases hv
          refine X_iadd dX11_above_33 ?_
          refine XJ.top (v' := .int (nI (1 + hgt nl (ch L) (pa L) f (pa L l)))) (by rw [← nI_add]; rfl) ?_
          refine X_goto (tgt := 38) dX11_above_34 (by decide) ?_
          refine X_istore (i := 4) (lo' := [(4, _), (0, _), (1, _), (2, _), (3, _)]) dX11_above_38 (by decide) rfl ?_
          have h8 := mxN_le (g := (hgv nl (ch L) (pa L) f p)) (n := l) (k := f + 1) (fun i hi => by have := hgt_le (n := nl) (a := ch L) (b := pa L) f (pa L i); unfold hgv; split <;> omega)
          refine X_iload dX11_above_40 (i := 4) rfl ?_
          refine X_iload_n dX11_above_42 (i := 2) rfl rfl ?_
          refine X_icmp_le (tgt := 51) dX11_above_43 (by decide) (fun h3 => ?_) (fun h3 => ?_)
          · have h10 : ¬ mxN (hgv nl (ch L) (pa L) f p) l < (hgv nl (ch L) (pa L) f p) l := by rw [h7]; first | (have := ge_nI (a := 0) (by omega) (by omega) h3; omega) | (have := ge_nI (by omega) (by omega) h3; omega)
            refine X_iload_n dX11_above_51 (i := 2) rfl rfl ?_
            refine X_istore_n (i := 2) (lo' := [(2, _), (4, _), (0, _), (1, _), (3, _)]) dX11_above_52 rfl (by decide) rfl ?_
            refine X_iinc (i := 3) (v := nI (l + 1)) (lo' := [(3, _), (2, _), (4, _), (0, _), (1, _)]) dX11_above_53 rfl (nI_inc l) (by decide) rfl ?_
            refine X_goto (tgt := 4) dX11_above_56 (by decide) ?_
            first
              | exact XJ.lcs (lo' := [(0, .ref (w.1 39)), (1, .int (nI p)), (2, .int (nI (mxN (hgv nl (ch L) (pa L) f p) (l + 1)))), (3, .int (nI (l + 1)))]) ⟨rfl, rfl, (by rw [← mxN_f h10]; rfl), rfl, trivial⟩ (ih (l + 1) (by omega) (by omega))
              | exact XJ.lcs (lo' := [(0, .ref (w.1 39)), (1, .int (nI p)), (2, .int (nI (mxN (hgv nl (ch L) (pa L) f p) (l + 1)))), (3, .int (nI (l + 1)))]) ⟨rfl, rfl, (by rw [← mxN_t h10, h7]; rfl), rfl, trivial⟩ (ih (l + 1) (by omega) (by omega))
          · have h10 : mxN (hgv nl (ch L) (pa L) f p) l < (hgv nl (ch L) (pa L) f p) l := by rw [h7]; first | (have := nge_nI (a := 0) (by omega) (by omega) h3; omega) | (have := nge_nI (by omega) (by omega) h3; omega)
            refine X_iload dX11_above_46 (i := 4) rfl ?_
            refine X_goto (tgt := 52) dX11_above_48 (by decide) ?_
            refine X_istore_n (i := 2) (lo' := [(2, _), (4, _), (0, _), (1, _), (3, _)]) dX11_above_52 rfl (by decide) rfl ?_
            refine X_iinc (i := 3) (v := nI (l + 1)) (lo' := [(3, _), (2, _), (4, _), (0, _), (1, _)]) dX11_above_53 rfl (nI_inc l) (by decide) rfl ?_
            refine X_goto (tgt := 4) dX11_above_56 (by decide) ?_
            first
              | exact XJ.lcs (lo' := [(0, .ref (w.1 39)), (1, .int (nI p)), (2, .int (nI (mxN (hgv nl (ch L) (pa L) f p) (l + 1)))), (3, .int (nI (l + 1)))]) ⟨rfl, rfl, (by rw [← mxN_f h10]; rfl), rfl, trivial⟩ (ih (l + 1) (by omega) (by omega))
              | exact XJ.lcs (lo' := [(0, .ref (w.1 39)), (1, .int (nI p)), (2, .int (nI (mxN (hgv nl (ch L) (pa L) f p) (l + 1)))), (3, .int (nI (l + 1)))]) ⟨rfl, rfl, (by rw [← mxN_t h10, h7]; rfl), rfl, trivial⟩ (ih (l + 1) (by omega) (by omega))
  refine X_iconst (v := 0) dX11_above_0 (by decide) ?_
  refine X_istore_n (i := 2) (lo' := [(2, _), (0, _), (1, _)]) dX11_above_1 rfl (by decide) rfl ?_
  refine X_iconst (v := 0) dX11_above_2 (by decide) ?_
  refine X_istore_n (i := 3) (lo' := [(3, _), (2, _), (0, _), (1, _)]) dX11_above_3 rfl (by decide) rfl ?_
  exact XJ.lcs (lo' := [(0, .ref (w.1 39)), (1, .int (nI p)), (2, .int (nI (mxN (hgv nl (ch L) (pa L) f p) 0))), (3, .int (nI 0))]) ⟨rfl, rfl, rfl, rfl, trivial⟩ (hloop (nl + 1) 0 (by omega) (by omega))
theorem m_above (h9 : M0 w t np nl no nm nw en) {L : LSt} (hL : ML G.2.2.1 w L) (hnl : ln L = nl) (hI : LI np L) : ∀ (f : Nat), f < 100 → ∀ (p : Nat), p < 16 → NC nl (ch L) (pa L) f p → XC G mX11_above (f + 2) 0 0 [.ref (w.1 39), .int (nI p)] w (fun r w' => r = .inl (some (.int (nI (hgt nl (ch L) (pa L) f p)))) ∧ w' = w)
  | 0, _, _, _, h => h.elim
  | f + 1, hf, p, hp, h => m_above_s h9 hL hnl hI (by omega) p hp h (fun q hq hn => m_above h9 hL hnl hI f (by omega) q hq hn)
end LinesM
