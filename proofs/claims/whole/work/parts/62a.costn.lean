/-! COSTS of the reference: what is asked for (walks by gen/spec62.py) -/
section CostN
variable {G : Gx} {w : Wd} {t np nl no nm nw en : Nat}
set_option maxRecDepth 20000 in
theorem m_cost (h9 : M0 w t np nl no nm nw en) {pr : Nat → Nat} {L : LSt} {P : PSt} (hL : ML G.2.2.1 w L) (hP : MP G.2.2.1 w P) (hnl : ln L = nl) (hI : LI np L) (hC : MC G.2.2.1 w pr) (hW : PW L) (hpr : ∀ i, i < 4 → pr i < 4) (hN : NC5 L) (hnp : P.1 = np) (hPI : PI P) (a s : Int32) : XC G mX11_cost 13 0 0 [.ref (w.1 39), .int a, .int s] w (fun r w' => ∃ v : UInt32, r = .inl (some (.float v)) ∧ (cdA a s np = 0 → v = (priF P L pr (idx s) 5 (idx a))) ∧ w' = setM w 39 (m39 w (cdA a s np) np nl no nm nw en)) := by
  have h16 := hI.1
  have h40 := hI.2.1
  refine XC.of (lo0 := [(0, .ref (w.1 39)), (1, .int a), (2, .int s)]) kmX11_cost (Nat.le_of_ble_eq_true rfl) rfl ?_
  refine X_aload_n dX11_cost_0 (i := 0) rfl rfl ?_
  refine X_iload_n dX11_cost_1 (i := 1) rfl rfl ?_
  refine X_iload_n dX11_cost_2 (i := 2) rfl rfl ?_
  refine X_callV (gc2 := 0) (gs2 := 0) (m_isAsked h9 (by omega) a s) (i := 39) h9 rfl rfl kmX11_isAsked rfl lX11_150 iX11_isAsked vX11_isAsked rfl rfl (Nat.le_of_ble_eq_true rfl) (by decide) dX11_cost_3 (by decide) (by decide) (fun E w1 hq => nomatch hq.1) (fun v w1 hq => ?_)
  have hv := hq.1
  obtain rfl := hq.2.symm
  cases hv
  have k9 : cel (setM w 39 (m39 w (cdA a s np) np nl no nm nw en)) 39 (m39 w (cdA a s np) np nl no nm nw en) := ⟨h9.1, rfl⟩
  refine X_if_eq (tgt := 18) dX11_cost_6 (by decide) (fun h1 => ?_) (fun h1 => ?_)
  · have hcd : ¬ cdA a s np = 0 := of_decide_eq_false (bI_eq h1)
    refine X_fconst0 dX11_cost_18 ?_
    refine X_freturn dX11_cost_19 rfl ?_
    first
      | exact ⟨_, rfl, fun _ => by rw [ga, gs], rfl⟩
      | exact ⟨_, rfl, fun h => absurd h hcd, rfl⟩
  · have hcd : cdA a s np = 0 := of_decide_eq_true (bI_ne h1)
    obtain ⟨hia, his⟩ := cdA_inv hcd
    obtain ⟨a, ha, rfl⟩ := inP_of (by omega) hia
    obtain ⟨s, hs1, hs2, rfl⟩ := btw_n (lo := 1) (hi := 999) (by decide) (by decide) his
    have ga : idx (nI a) = a := idx_nI (by omega)
    have gs : idx (nI s) = s := idx_nI (by omega)
    refine X_aload_n dX11_cost_9 (i := 0) rfl rfl ?_
    refine X_iload_n dX11_cost_10 (i := 1) rfl rfl ?_
    refine X_iload_n dX11_cost_11 (i := 2) rfl rfl ?_
    refine X_callV (gc2 := 0) (gs2 := 0) (m_price (t := cdA (nI a) (nI s) np) (w := (setM w 39 (m39 w (cdA (nI a) (nI s) np) np nl no nm nw en))) ⟨h9.1, rfl⟩ hL hP hnl hI hC hW hpr (fun p hp => (hPI.2 p (by omega)).2.1) s (by omega) 5 (by decide) a ha (hnl ▸ hN a)) (i := 39) k9 rfl rfl kmX11_price rfl lX11_182 iX11_price vX11_price rfl rfl (Nat.le_of_ble_eq_true rfl) (by decide) dX11_cost_12 (by decide) (by decide) (fun E w1 hq => nomatch hq.1) (fun v w1 hq => ?_)
    have hv := hq.1
    obtain rfl := hq.2.symm
    cases hv
    refine X_goto (tgt := 19) dX11_cost_15 (by decide) ?_
    refine X_freturn dX11_cost_19 rfl ?_
    first
      | exact ⟨_, rfl, fun _ => by rw [ga, gs], rfl⟩
      | exact ⟨_, rfl, fun h => absurd h hcd, rfl⟩
set_option maxRecDepth 20000 in
theorem m_costW (h9 : M0 w t np nl no nm nw en) {pr : Nat → Nat} {L : LSt} {P : PSt} (hL : ML G.2.2.1 w L) (hP : MP G.2.2.1 w P) (hnl : ln L = nl) (hI : LI np L) (hC : MC G.2.2.1 w pr) (hW : PW L) (hpr : ∀ i, i < 4 → pr i < 4) (hN : NC5 L) (hnp : P.1 = np) (hPI : PI P) (a s : Int32) : XC G mX11_costByWalking 14 0 0 [.ref (w.1 39), .int a, .int s] w (fun r w' => ∃ v : UInt32, r = .inl (some (.float v)) ∧ (cdA a s np = 0 → v = (priF P L pr (idx s) 5 (idx a))) ∧ w' = setM w 39 (m39 w (cdA a s np) np nl no nm nw en)) := by
  have h16 := hI.1
  have h40 := hI.2.1
  refine XC.of (lo0 := [(0, .ref (w.1 39)), (1, .int a), (2, .int s)]) kmX11_costByWalking (Nat.le_of_ble_eq_true rfl) rfl ?_
  refine X_aload_n dX11_costByWalking_0 (i := 0) rfl rfl ?_
  refine X_iload_n dX11_costByWalking_1 (i := 1) rfl rfl ?_
  refine X_iload_n dX11_costByWalking_2 (i := 2) rfl rfl ?_
  refine X_callV (gc2 := 0) (gs2 := 0) (m_cost h9 hL hP hnl hI hC hW hpr hN hnp hPI a s) (i := 39) h9 rfl rfl kmX11_cost rfl lX11_189 iX11_cost vX11_cost rfl rfl (Nat.le_of_ble_eq_true rfl) (by decide) dX11_costByWalking_3 (by decide) (by decide) (fun E w1 hq => by obtain ⟨_, h, _⟩ := hq; nomatch h) (fun v w1 hq => ?_)
  obtain ⟨v1, hv, hv2, hv3⟩ := hq
  cases hv
  subst hv3
  refine X_freturn dX11_costByWalking_6 rfl ?_
  exact ⟨_, rfl, hv2, rfl⟩
set_option maxRecDepth 20000 in
theorem m_costBits (h9 : M0 w t np nl no nm nw en) {pr : Nat → Nat} {L : LSt} {P : PSt} (hL : ML G.2.2.1 w L) (hP : MP G.2.2.1 w P) (hnl : ln L = nl) (hI : LI np L) (hC : MC G.2.2.1 w pr) (hW : PW L) (hpr : ∀ i, i < 4 → pr i < 4) (hN : NC5 L) (hnp : P.1 = np) (hPI : PI P) (a s : Int32) : XC G mX11_costBits 13 0 0 [.ref (w.1 39), .int a, .int s] w (fun r w' => ∃ v : Int32, r = .inl (some (.int v)) ∧ (cdA a s np = 0 → v = (priF P L pr (idx s) 5 (idx a)).toInt32) ∧ w' = setM w 39 (m39 w (cdA a s np) np nl no nm nw en)) := by
  have h16 := hI.1
  have h40 := hI.2.1
  refine XC.of (lo0 := [(0, .ref (w.1 39)), (1, .int a), (2, .int s)]) kmX11_costBits (Nat.le_of_ble_eq_true rfl) rfl ?_
  refine X_aload_n dX11_costBits_0 (i := 0) rfl rfl ?_
  refine X_iload_n dX11_costBits_1 (i := 1) rfl rfl ?_
  refine X_iload_n dX11_costBits_2 (i := 2) rfl rfl ?_
  refine X_callV (gc2 := 0) (gs2 := 0) (m_isAsked h9 (by omega) a s) (i := 39) h9 rfl rfl kmX11_isAsked rfl lX11_150 iX11_isAsked vX11_isAsked rfl rfl (Nat.le_of_ble_eq_true rfl) (by decide) dX11_costBits_3 (by decide) (by decide) (fun E w1 hq => nomatch hq.1) (fun v w1 hq => ?_)
  have hv := hq.1
  obtain rfl := hq.2.symm
  cases hv
  have k9 : cel (setM w 39 (m39 w (cdA a s np) np nl no nm nw en)) 39 (m39 w (cdA a s np) np nl no nm nw en) := ⟨h9.1, rfl⟩
  refine X_if_eq (tgt := 21) dX11_costBits_6 (by decide) (fun h1 => ?_) (fun h1 => ?_)
  · have hcd : ¬ cdA a s np = 0 := of_decide_eq_false (bI_eq h1)
    refine X_iconst (v := 0) dX11_costBits_21 (by decide) ?_
    refine X_ireturn dX11_costBits_22 rfl rfl ?_
    first
      | exact ⟨_, rfl, fun _ => by rw [ga, gs], rfl⟩
      | exact ⟨_, rfl, fun h => absurd h hcd, rfl⟩
  · have hcd : cdA a s np = 0 := of_decide_eq_true (bI_ne h1)
    obtain ⟨hia, his⟩ := cdA_inv hcd
    obtain ⟨a, ha, rfl⟩ := inP_of (by omega) hia
    obtain ⟨s, hs1, hs2, rfl⟩ := btw_n (lo := 1) (hi := 999) (by decide) (by decide) his
    have ga : idx (nI a) = a := idx_nI (by omega)
    have gs : idx (nI s) = s := idx_nI (by omega)
    refine X_aload_n dX11_costBits_9 (i := 0) rfl rfl ?_
    refine X_iload_n dX11_costBits_10 (i := 1) rfl rfl ?_
    refine X_iload_n dX11_costBits_11 (i := 2) rfl rfl ?_
    refine X_callV (gc2 := 0) (gs2 := 0) (m_price (t := cdA (nI a) (nI s) np) (w := (setM w 39 (m39 w (cdA (nI a) (nI s) np) np nl no nm nw en))) ⟨h9.1, rfl⟩ hL hP hnl hI hC hW hpr (fun p hp => (hPI.2 p (by omega)).2.1) s (by omega) 5 (by decide) a ha (hnl ▸ hN a)) (i := 39) k9 rfl rfl kmX11_price rfl lX11_182 iX11_price vX11_price rfl rfl (Nat.le_of_ble_eq_true rfl) (by decide) dX11_costBits_12 (by decide) (by decide) (fun E w1 hq => nomatch hq.1) (fun v w1 hq => ?_)
    have hv := hq.1
    obtain rfl := hq.2.symm
    cases hv
    refine X_callS (gc2 := 0) (gs2 := 0) (j_fbits _ (z_nn (pri5_z hI hnp hPI ha) (by omega))) kmJxf58ca_floatToIntBits_5c35a rfl lX11_192 sJxf58ca_floatToIntBits_5c35a rfl rfl (Nat.le_of_ble_eq_true rfl) (by decide) dX11_costBits_15 (by decide) (by decide) (fun E w1 hq => nomatch hq.1) (fun v w1 hq => ?_)
    have hv := hq.1
    obtain rfl := hq.2.symm
    cases hv
    refine X_goto (tgt := 22) dX11_costBits_18 (by decide) ?_
    refine X_ireturn dX11_costBits_22 rfl rfl ?_
    first
      | exact ⟨_, rfl, fun _ => by rw [ga, gs], rfl⟩
      | exact ⟨_, rfl, fun h => absurd h hcd, rfl⟩
set_option maxRecDepth 20000 in
theorem m_costCents (h9 : M0 w t np nl no nm nw en) {pr : Nat → Nat} {L : LSt} {P : PSt} (hL : ML G.2.2.1 w L) (hP : MP G.2.2.1 w P) (hnl : ln L = nl) (hI : LI np L) (hC : MC G.2.2.1 w pr) (hW : PW L) (hpr : ∀ i, i < 4 → pr i < 4) (hN : NC5 L) (hnp : P.1 = np) (hPI : PI P) (a s : Int32) : XC G mX11_costCents 13 0 0 [.ref (w.1 39), .int a, .int s] w (fun r w' => ∃ v : Int32, r = .inl (some (.int v)) ∧ (cdA a s np = 0 → v = FP.f2i (FP.fmul (priF P L pr (idx s) 5 (idx a)) 1120403456)) ∧ w' = setM w 39 (m39 w (cdA a s np) np nl no nm nw en)) := by
  have h16 := hI.1
  have h40 := hI.2.1
  refine XC.of (lo0 := [(0, .ref (w.1 39)), (1, .int a), (2, .int s)]) kmX11_costCents (Nat.le_of_ble_eq_true rfl) rfl ?_
  refine X_aload_n dX11_costCents_0 (i := 0) rfl rfl ?_
  refine X_iload_n dX11_costCents_1 (i := 1) rfl rfl ?_
  refine X_iload_n dX11_costCents_2 (i := 2) rfl rfl ?_
  refine X_callV (gc2 := 0) (gs2 := 0) (m_isAsked h9 (by omega) a s) (i := 39) h9 rfl rfl kmX11_isAsked rfl lX11_150 iX11_isAsked vX11_isAsked rfl rfl (Nat.le_of_ble_eq_true rfl) (by decide) dX11_costCents_3 (by decide) (by decide) (fun E w1 hq => nomatch hq.1) (fun v w1 hq => ?_)
  have hv := hq.1
  obtain rfl := hq.2.symm
  cases hv
  have k9 : cel (setM w 39 (m39 w (cdA a s np) np nl no nm nw en)) 39 (m39 w (cdA a s np) np nl no nm nw en) := ⟨h9.1, rfl⟩
  refine X_if_eq (tgt := 22) dX11_costCents_6 (by decide) (fun h1 => ?_) (fun h1 => ?_)
  · have hcd : ¬ cdA a s np = 0 := of_decide_eq_false (bI_eq h1)
    refine X_iconst (v := 0) dX11_costCents_22 (by decide) ?_
    refine X_ireturn dX11_costCents_23 rfl rfl ?_
    first
      | exact ⟨_, rfl, fun _ => by rw [ga, gs], rfl⟩
      | exact ⟨_, rfl, fun h => absurd h hcd, rfl⟩
  · have hcd : cdA a s np = 0 := of_decide_eq_true (bI_ne h1)
    obtain ⟨hia, his⟩ := cdA_inv hcd
    obtain ⟨a, ha, rfl⟩ := inP_of (by omega) hia
    obtain ⟨s, hs1, hs2, rfl⟩ := btw_n (lo := 1) (hi := 999) (by decide) (by decide) his
    have ga : idx (nI a) = a := idx_nI (by omega)
    have gs : idx (nI s) = s := idx_nI (by omega)
    refine X_aload_n dX11_costCents_9 (i := 0) rfl rfl ?_
    refine X_iload_n dX11_costCents_10 (i := 1) rfl rfl ?_
    refine X_iload_n dX11_costCents_11 (i := 2) rfl rfl ?_
    refine X_callV (gc2 := 0) (gs2 := 0) (m_price (t := cdA (nI a) (nI s) np) (w := (setM w 39 (m39 w (cdA (nI a) (nI s) np) np nl no nm nw en))) ⟨h9.1, rfl⟩ hL hP hnl hI hC hW hpr (fun p hp => (hPI.2 p (by omega)).2.1) s (by omega) 5 (by decide) a ha (hnl ▸ hN a)) (i := 39) k9 rfl rfl kmX11_price rfl lX11_182 iX11_price vX11_price rfl rfl (Nat.le_of_ble_eq_true rfl) (by decide) dX11_costCents_12 (by decide) (by decide) (fun E w1 hq => nomatch hq.1) (fun v w1 hq => ?_)
    have hv := hq.1
    obtain rfl := hq.2.symm
    cases hv
    refine X_ldcf dX11_costCents_15 kX11_181 ?_
    refine X_fmul dX11_costCents_17 (cents_nn (pri5_z hI hnp hPI ha)) ?_
    refine X_f2i dX11_costCents_18 ?_
    refine X_goto (tgt := 23) dX11_costCents_19 (by decide) ?_
    refine X_ireturn dX11_costCents_23 rfl rfl ?_
    first
      | exact ⟨_, rfl, fun _ => by rw [ga, gs], rfl⟩
      | exact ⟨_, rfl, fun h => absurd h hcd, rfl⟩
set_option maxRecDepth 20000 in
theorem m_weight (h9 : M0 w t np nl no nm nw en) {pr : Nat → Nat} {L : LSt} {P : PSt} (hL : ML G.2.2.1 w L) (hP : MP G.2.2.1 w P) (hnl : ln L = nl) (hI : LI np L) (hC : MC G.2.2.1 w pr) (hW : PW L) (hpr : ∀ i, i < 4 → pr i < 4) (hN : NC5 L) (hnp : P.1 = np) (hPI : PI P) (a s : Int32) : XC G mX11_weight 8 0 0 [.ref (w.1 39), .int a, .int s] w (fun r w' => ∃ v : UInt64, r = .inl (some (.double v)) ∧ (cdA a s np = 0 → v = (masF P L pr (idx s) 5 (idx a))) ∧ w' = setM w 39 (m39 w (cdA a s np) np nl no nm nw en)) := by
  have h16 := hI.1
  have h40 := hI.2.1
  refine XC.of (lo0 := [(0, .ref (w.1 39)), (1, .int a), (2, .int s)]) kmX11_weight (Nat.le_of_ble_eq_true rfl) rfl ?_
  refine X_aload_n dX11_weight_0 (i := 0) rfl rfl ?_
  refine X_iload_n dX11_weight_1 (i := 1) rfl rfl ?_
  refine X_iload_n dX11_weight_2 (i := 2) rfl rfl ?_
  refine X_callV (gc2 := 0) (gs2 := 0) (m_isAsked h9 (by omega) a s) (i := 39) h9 rfl rfl kmX11_isAsked rfl lX11_150 iX11_isAsked vX11_isAsked rfl rfl (Nat.le_of_ble_eq_true rfl) (by decide) dX11_weight_3 (by decide) (by decide) (fun E w1 hq => nomatch hq.1) (fun v w1 hq => ?_)
  have hv := hq.1
  obtain rfl := hq.2.symm
  cases hv
  have k9 : cel (setM w 39 (m39 w (cdA a s np) np nl no nm nw en)) 39 (m39 w (cdA a s np) np nl no nm nw en) := ⟨h9.1, rfl⟩
  refine X_if_eq (tgt := 18) dX11_weight_6 (by decide) (fun h1 => ?_) (fun h1 => ?_)
  · have hcd : ¬ cdA a s np = 0 := of_decide_eq_false (bI_eq h1)
    refine X_dconst0 dX11_weight_18 ?_
    refine X_dreturn dX11_weight_19 rfl ?_
    first
      | exact ⟨_, rfl, fun _ => by rw [ga, gs], rfl⟩
      | exact ⟨_, rfl, fun h => absurd h hcd, rfl⟩
  · have hcd : cdA a s np = 0 := of_decide_eq_true (bI_ne h1)
    obtain ⟨hia, his⟩ := cdA_inv hcd
    obtain ⟨a, ha, rfl⟩ := inP_of (by omega) hia
    obtain ⟨s, hs1, hs2, rfl⟩ := btw_n (lo := 1) (hi := 999) (by decide) (by decide) his
    have ga : idx (nI a) = a := idx_nI (by omega)
    have gs : idx (nI s) = s := idx_nI (by omega)
    refine X_aload_n dX11_weight_9 (i := 0) rfl rfl ?_
    refine X_iload_n dX11_weight_10 (i := 1) rfl rfl ?_
    refine X_iload_n dX11_weight_11 (i := 2) rfl rfl ?_
    refine X_callV (gc2 := 0) (gs2 := 0) (m_mass (t := cdA (nI a) (nI s) np) (w := (setM w 39 (m39 w (cdA (nI a) (nI s) np) np nl no nm nw en))) ⟨h9.1, rfl⟩ hL hP hnl hI hC hW hpr (fun p hp => (hPI.2 p (by omega)).2.2) s (by omega) 5 (by decide) a ha (hnl ▸ hN a)) (i := 39) k9 rfl rfl kmX11_mass rfl lX11_200 iX11_mass vX11_mass rfl rfl (Nat.le_of_ble_eq_true rfl) (by decide) dX11_weight_12 (by decide) (by decide) (fun E w1 hq => nomatch hq.1) (fun v w1 hq => ?_)
    have hv := hq.1
    obtain rfl := hq.2.symm
    cases hv
    refine X_goto (tgt := 19) dX11_weight_15 (by decide) ?_
    refine X_dreturn dX11_weight_19 rfl ?_
    first
      | exact ⟨_, rfl, fun _ => by rw [ga, gs], rfl⟩
      | exact ⟨_, rfl, fun h => absurd h hcd, rfl⟩
set_option maxRecDepth 20000 in
theorem m_weightBits (h9 : M0 w t np nl no nm nw en) {pr : Nat → Nat} {L : LSt} {P : PSt} (hL : ML G.2.2.1 w L) (hP : MP G.2.2.1 w P) (hnl : ln L = nl) (hI : LI np L) (hC : MC G.2.2.1 w pr) (hW : PW L) (hpr : ∀ i, i < 4 → pr i < 4) (hN : NC5 L) (hnp : P.1 = np) (hPI : PI P) (a s : Int32) : XC G mX11_weightBits 8 0 0 [.ref (w.1 39), .int a, .int s] w (fun r w' => ∃ v : Int64, r = .inl (some (.long v)) ∧ (cdA a s np = 0 → v = (masF P L pr (idx s) 5 (idx a)).toInt64) ∧ w' = setM w 39 (m39 w (cdA a s np) np nl no nm nw en)) := by
  have h16 := hI.1
  have h40 := hI.2.1
  refine XC.of (lo0 := [(0, .ref (w.1 39)), (1, .int a), (2, .int s)]) kmX11_weightBits (Nat.le_of_ble_eq_true rfl) rfl ?_
  refine X_aload_n dX11_weightBits_0 (i := 0) rfl rfl ?_
  refine X_iload_n dX11_weightBits_1 (i := 1) rfl rfl ?_
  refine X_iload_n dX11_weightBits_2 (i := 2) rfl rfl ?_
  refine X_callV (gc2 := 0) (gs2 := 0) (m_isAsked h9 (by omega) a s) (i := 39) h9 rfl rfl kmX11_isAsked rfl lX11_150 iX11_isAsked vX11_isAsked rfl rfl (Nat.le_of_ble_eq_true rfl) (by decide) dX11_weightBits_3 (by decide) (by decide) (fun E w1 hq => nomatch hq.1) (fun v w1 hq => ?_)
  have hv := hq.1
  obtain rfl := hq.2.symm
  cases hv
  have k9 : cel (setM w 39 (m39 w (cdA a s np) np nl no nm nw en)) 39 (m39 w (cdA a s np) np nl no nm nw en) := ⟨h9.1, rfl⟩
  refine X_if_eq (tgt := 21) dX11_weightBits_6 (by decide) (fun h1 => ?_) (fun h1 => ?_)
  · have hcd : ¬ cdA a s np = 0 := of_decide_eq_false (bI_eq h1)
    refine X_lconst (v := 0) dX11_weightBits_21 rfl ?_
    refine X_lreturn dX11_weightBits_22 rfl ?_
    first
      | exact ⟨_, rfl, fun _ => by rw [ga, gs], rfl⟩
      | exact ⟨_, rfl, fun h => absurd h hcd, rfl⟩
  · have hcd : cdA a s np = 0 := of_decide_eq_true (bI_ne h1)
    obtain ⟨hia, his⟩ := cdA_inv hcd
    obtain ⟨a, ha, rfl⟩ := inP_of (by omega) hia
    obtain ⟨s, hs1, hs2, rfl⟩ := btw_n (lo := 1) (hi := 999) (by decide) (by decide) his
    have ga : idx (nI a) = a := idx_nI (by omega)
    have gs : idx (nI s) = s := idx_nI (by omega)
    refine X_aload_n dX11_weightBits_9 (i := 0) rfl rfl ?_
    refine X_iload_n dX11_weightBits_10 (i := 1) rfl rfl ?_
    refine X_iload_n dX11_weightBits_11 (i := 2) rfl rfl ?_
    refine X_callV (gc2 := 0) (gs2 := 0) (m_mass (t := cdA (nI a) (nI s) np) (w := (setM w 39 (m39 w (cdA (nI a) (nI s) np) np nl no nm nw en))) ⟨h9.1, rfl⟩ hL hP hnl hI hC hW hpr (fun p hp => (hPI.2 p (by omega)).2.2) s (by omega) 5 (by decide) a ha (hnl ▸ hN a)) (i := 39) k9 rfl rfl kmX11_mass rfl lX11_200 iX11_mass vX11_mass rfl rfl (Nat.le_of_ble_eq_true rfl) (by decide) dX11_weightBits_12 (by decide) (by decide) (fun E w1 hq => nomatch hq.1) (fun v w1 hq => ?_)
    have hv := hq.1
    obtain rfl := hq.2.symm
    cases hv
    refine X_callS (gc2 := 0) (gs2 := 0) (j_dbits _ (z_nnd (mas5_z hI hnp hPI ha) (by omega))) kmJxe99ae_doubleToLongBits_ccdee rfl lX11_204 sJxe99ae_doubleToLongBits_ccdee rfl rfl (Nat.le_of_ble_eq_true rfl) (by decide) dX11_weightBits_15 (by decide) (by decide) (fun E w1 hq => nomatch hq.1) (fun v w1 hq => ?_)
    have hv := hq.1
    obtain rfl := hq.2.symm
    cases hv
    refine X_goto (tgt := 22) dX11_weightBits_18 (by decide) ?_
    refine X_lreturn dX11_weightBits_22 rfl ?_
    first
      | exact ⟨_, rfl, fun _ => by rw [ga, gs], rfl⟩
      | exact ⟨_, rfl, fun h => absurd h hcd, rfl⟩
set_option maxRecDepth 20000 in
theorem m_dearest (h9 : M0 w t np nl no nm nw en) {pr : Nat → Nat} {L : LSt} {P : PSt} (hL : ML G.2.2.1 w L) (hP : MP G.2.2.1 w P) (hnl : ln L = nl) (hI : LI np L) (hC : MC G.2.2.1 w pr) (hW : PW L) (hpr : ∀ i, i < 4 → pr i < 4) (hN : NC5 L) (hnp : P.1 = np) (hPI : PI P) (a s : Int32) : XC G mX11_dearest 14 0 0 [.ref (w.1 39), .int a, .int s] w (fun r w' => ∃ v : Int32, r = .inl (some (.int v)) ∧ (cdD a s np (dstF L pr (idx s) (idx a) (mrF L (priF P L pr (idx s) 5)) 6) = 0 → v = oI (dstF L pr (idx s) (idx a) (mrF L (priF P L pr (idx s) 5)) 6)) ∧ w' = setM w 39 (m39 w (cdD a s np (dstF L pr (idx s) (idx a) (mrF L (priF P L pr (idx s) 5)) 6)) np nl no nm nw en)) := by
  have h16 := hI.1
  have h40 := hI.2.1
  refine XC.of (lo0 := [(0, .ref (w.1 39)), (1, .int a), (2, .int s)]) kmX11_dearest (Nat.le_of_ble_eq_true rfl) rfl ?_
  refine X_aload_n dX11_dearest_0 (i := 0) rfl rfl ?_
  refine X_iload_n dX11_dearest_1 (i := 1) rfl rfl ?_
  refine X_iload_n dX11_dearest_2 (i := 2) rfl rfl ?_
  refine X_callV (gc2 := 0) (gs2 := 0) (m_isAsked h9 (by omega) a s) (i := 39) h9 rfl rfl kmX11_isAsked rfl lX11_150 iX11_isAsked vX11_isAsked rfl rfl (Nat.le_of_ble_eq_true rfl) (by decide) dX11_dearest_3 (by decide) (by decide) (fun E w1 hq => nomatch hq.1) (fun v w1 hq => ?_)
  have hv := hq.1
  obtain rfl := hq.2.symm
  cases hv
  refine X_if_ne (tgt := 11) dX11_dearest_6 (by decide) (fun h1 => ?_) (fun h1 => ?_)
  · have hcd : cdA a s np = 0 := of_decide_eq_true (bI_ne h1)
    obtain ⟨hia, his⟩ := cdA_inv hcd
    obtain ⟨a, ha, rfl⟩ := inP_of (by omega) hia
    obtain ⟨s, hs1, hs2, rfl⟩ := btw_n (lo := 1) (hi := 999) (by decide) (by decide) his
    have ga : idx (nI a) = a := idx_nI (by omega)
    have gs : idx (nI s) = s := idx_nI (by omega)
    refine X_iconst (v := -1) dX11_dearest_11 (by decide) ?_
    refine X_istore_n (i := 3) (lo' := [(3, _), (0, _), (1, _), (2, _)]) dX11_dearest_12 rfl (by decide) rfl ?_
    refine X_iconst (v := 1) dX11_dearest_13 (by decide) ?_
    refine X_istore (i := 4) (lo' := [(4, _), (3, _), (0, _), (1, _), (2, _)]) dX11_dearest_14 (by decide) rfl ?_
    have hloop : ∀ (n : Nat) (l : Nat), 6 - l < n → l ≤ 6 → XJ G mX11_dearest 14 0 0 16 [(0, .ref (w.1 39)), (1, .int (nI a)), (2, .int (nI s)), (3, .int (oI (dstF L pr s a (mrF L (priF P L pr s 5)) l))), (4, .int (nI (l + 1)))] [] (setM w 39 (m39 w (cdA (nI a) (nI s) np) np nl no nm nw en)) (fun r w' => ∃ v : Int32, r = .inl (some (.int v)) ∧ (cdD (nI a) (nI s) np (dstF L pr (idx (nI s)) (idx (nI a)) (mrF L (priF P L pr (idx (nI s)) 5)) 6) = 0 → v = oI (dstF L pr (idx (nI s)) (idx (nI a)) (mrF L (priF P L pr (idx (nI s)) 5)) 6)) ∧ w' = setM w 39 (m39 w (cdD (nI a) (nI s) np (dstF L pr (idx (nI s)) (idx (nI a)) (mrF L (priF P L pr (idx (nI s)) 5)) 6)) np nl no nm nw en)) := by
      intro n
      induction n with
      | zero => intro l hm hl; exact absurd hm (Nat.not_lt_zero _)
      | succ n ih =>
        intro l hm hl
        have k9b : cel (setM w 39 (m39 w (cdA (nI a) (nI s) np) np nl no nm nw en)) 39 (m39 w (cdA (nI a) (nI s) np) np nl no nm nw en) := ⟨h9.1, rfl⟩
        refine X_iload dX11_dearest_16 (i := 4) rfl ?_
        refine X_bipush (v := 6) dX11_dearest_18 (by decide) ?_
        refine X_icmp_gt (tgt := 70) dX11_dearest_20 (by decide) (fun h1 => ?_) (fun h1 => ?_)
        · have h5 : l = 6 := by have := lt_nI (a := 6) (by decide) (by omega) h1; omega
          subst h5
          refine X_iload_n dX11_dearest_70 (i := 3) rfl rfl ?_
          refine X_iconst (v := -1) dX11_dearest_71 (by decide) ?_
          refine X_icmp_ne (tgt := 83) dX11_dearest_72 (by decide) (fun h10 => ?_) (fun h10 => ?_)
          · obtain ⟨b, h8⟩ := oI_some (n := ln L) (fun j h => dst_lt (L := L) (pr := pr) (s := s) (p := a) (g := (mrF L (priF P L pr s 5))) 6 j h) (by omega) h10
            refine X_iload_n dX11_dearest_83 (i := 3) rfl rfl ?_
            refine X_ireturn dX11_dearest_84 rfl rfl ?_
            first
              | exact ⟨_, rfl, fun h => absurd h (by rw [ga, gs, h8, cdD_3 hcd]; decide), by rw [ga, gs, h8, cdD_3 hcd]; exact setM_setM⟩
              | exact ⟨_, rfl, fun _ => by rw [ga, gs], by rw [ga, gs, h8, cdD_0 hcd, hcd]⟩
          · have h8 := oI_none (n := ln L) (fun j h => dst_lt (L := L) (pr := pr) (s := s) (p := a) (g := (mrF L (priF P L pr s 5))) 6 j h) (by omega) h10
            refine X_aload_n dX11_dearest_75 (i := 0) rfl rfl ?_
            refine X_iconst (v := 3) dX11_dearest_76 (by decide) ?_
            refine X_callV (gc2 := 0) (gs2 := 0) (m_fails (t := cdA (nI a) (nI s) np) (w := (setM w 39 (m39 w (cdA (nI a) (nI s) np) np nl no nm nw en))) ⟨h9.1, rfl⟩ 3) (i := 39) k9b rfl rfl kmX11_fails rfl lX11_105 iX11_fails vX11_fails rfl rfl (Nat.le_of_ble_eq_true rfl) (by decide) dX11_dearest_77 (by decide) (by decide) (fun E w1 hq => nomatch hq.1) (fun v w1 hq => ?_)
            have hv := hq.1
            obtain rfl := hq.2.symm
            cases hv
            refine X_goto (tgt := 84) dX11_dearest_80 (by decide) ?_
            refine X_ireturn dX11_dearest_84 rfl rfl ?_
            first
              | exact ⟨_, rfl, fun h => absurd h (by rw [ga, gs, h8, cdD_3 hcd]; decide), by rw [ga, gs, h8, cdD_3 hcd]; exact setM_setM⟩
              | exact ⟨_, rfl, fun _ => by rw [ga, gs], by rw [ga, gs, h8, cdD_0 hcd, hcd]⟩
        · have h5 : l < 6 := by have := nlt_nI (a := 6) (by decide) (by omega) h1; omega
          refine X_aload_n dX11_dearest_23 (i := 0) rfl rfl ?_
          refine X_iload_n dX11_dearest_24 (i := 1) rfl rfl ?_
          refine X_iload dX11_dearest_25 (i := 4) rfl ?_
          refine X_iload_n dX11_dearest_27 (i := 2) rfl rfl ?_
          refine X_callV (gc2 := 0) (gs2 := 0) (m_at (t := cdA (nI a) (nI s) np) (w := (setM w 39 (m39 w (cdA (nI a) (nI s) np) np nl no nm nw en))) ⟨h9.1, rfl⟩ hL hnl hI hC hW hpr a (l + 1) s (by omega) (by omega) (by omega)) (i := 39) k9b rfl rfl kmX11_at rfl lX11_139 iX11_at vX11_at rfl rfl (Nat.le_of_ble_eq_true rfl) (by decide) dX11_dearest_28 (by decide) (by decide) (fun E w1 hq => nomatch hq.1) (fun v w1 hq => ?_)
          have hv := hq.1
          obtain rfl := hq.2.symm
          cases hv
          refine X_istore (i := 5) (lo' := [(5, _), (0, _), (1, _), (2, _), (3, _), (4, _)]) dX11_dearest_31 (by decide) rfl ?_
          refine X_iload dX11_dearest_33 (i := 5) rfl ?_
          refine X_iconst (v := -1) dX11_dearest_35 (by decide) ?_
          refine X_icmp_eq (tgt := 64) dX11_dearest_36 (by decide) (fun h2 => ?_) (fun h2 => ?_)
          · have hx := oI_none (n := ln L) (fun j h => (lnAt_some (L := L) (pr := pr) (s := s) (p := a) (k := l + 1) h).1) (by omega) h2
            refine X_iinc (i := 4) (v := nI (l + 1 + 1)) (lo' := [(4, _), (5, _), (0, _), (1, _), (2, _), (3, _)]) dX11_dearest_64 rfl (nI_inc (l + 1)) (by decide) rfl ?_
            refine X_goto (tgt := 16) dX11_dearest_67 (by decide) ?_
            first
              | exact XJ.lcs (lo' := [(0, .ref (w.1 39)), (1, .int (nI a)), (2, .int (nI s)), (3, .int (oI (dstF L pr s a (mrF L (priF P L pr s 5)) (l + 1)))), (4, .int (nI (l + 1 + 1)))]) ⟨rfl, rfl, rfl, (by rw [dst_n hx]; rfl), rfl, trivial⟩ (ih (l + 1) (by omega) (by omega))
              | exact XJ.lcs (lo' := [(0, .ref (w.1 39)), (1, .int (nI a)), (2, .int (nI s)), (3, .int (oI (dstF L pr s a (mrF L (priF P L pr s 5)) (l + 1)))), (4, .int (nI (l + 1 + 1)))]) ⟨rfl, rfl, rfl, (by rw [dst_1 hx h8]; rfl), rfl, trivial⟩ (ih (l + 1) (by omega) (by omega))
              | exact XJ.lcs (lo' := [(0, .ref (w.1 39)), (1, .int (nI a)), (2, .int (nI s)), (3, .int (oI (dstF L pr s a (mrF L (priF P L pr s 5)) (l + 1)))), (4, .int (nI (l + 1 + 1)))]) ⟨rfl, rfl, rfl, (by rw [dst_f hx h8 h7, ← h8]; rfl), rfl, trivial⟩ (ih (l + 1) (by omega) (by omega))
              | exact XJ.lcs (lo' := [(0, .ref (w.1 39)), (1, .int (nI a)), (2, .int (nI s)), (3, .int (oI (dstF L pr s a (mrF L (priF P L pr s 5)) (l + 1)))), (4, .int (nI (l + 1 + 1)))]) ⟨rfl, rfl, rfl, (by rw [dst_t hx h8 h7]; rfl), rfl, trivial⟩ (ih (l + 1) (by omega) (by omega))
          · obtain ⟨j, hx⟩ := oI_some (n := ln L) (fun j h => (lnAt_some (L := L) (pr := pr) (s := s) (p := a) (k := l + 1) h).1) (by omega) h2
            have hj := lnAt_some hx
            have hb := hI.2.2 j hj.1
            have hjn := hj.1
            rw [show oI (lnAt L pr s a (l + 1)) = nI j by rw [hx]; rfl]
            refine X_iload_n dX11_dearest_39 (i := 3) rfl rfl ?_
            refine X_iconst (v := -1) dX11_dearest_40 (by decide) ?_
            refine X_icmp_eq (tgt := 61) dX11_dearest_41 (by decide) (fun h6 => ?_) (fun h6 => ?_)
            · have h8 := oI_none (n := ln L) (fun j h => dst_lt (L := L) (pr := pr) (s := s) (p := a) (g := (mrF L (priF P L pr s 5))) l j h) (by omega) h6
              refine X_iload dX11_dearest_61 (i := 5) rfl ?_
              refine X_istore_n (i := 3) (lo' := [(3, _), (5, _), (0, _), (1, _), (2, _), (4, _)]) dX11_dearest_63 rfl (by decide) rfl ?_
              refine X_iinc (i := 4) (v := nI (l + 1 + 1)) (lo' := [(4, _), (3, _), (5, _), (0, _), (1, _), (2, _)]) dX11_dearest_64 rfl (nI_inc (l + 1)) (by decide) rfl ?_
              refine X_goto (tgt := 16) dX11_dearest_67 (by decide) ?_
              first
                | exact XJ.lcs (lo' := [(0, .ref (w.1 39)), (1, .int (nI a)), (2, .int (nI s)), (3, .int (oI (dstF L pr s a (mrF L (priF P L pr s 5)) (l + 1)))), (4, .int (nI (l + 1 + 1)))]) ⟨rfl, rfl, rfl, (by rw [dst_n hx]; rfl), rfl, trivial⟩ (ih (l + 1) (by omega) (by omega))
                | exact XJ.lcs (lo' := [(0, .ref (w.1 39)), (1, .int (nI a)), (2, .int (nI s)), (3, .int (oI (dstF L pr s a (mrF L (priF P L pr s 5)) (l + 1)))), (4, .int (nI (l + 1 + 1)))]) ⟨rfl, rfl, rfl, (by rw [dst_1 hx h8]; rfl), rfl, trivial⟩ (ih (l + 1) (by omega) (by omega))
                | exact XJ.lcs (lo' := [(0, .ref (w.1 39)), (1, .int (nI a)), (2, .int (nI s)), (3, .int (oI (dstF L pr s a (mrF L (priF P L pr s 5)) (l + 1)))), (4, .int (nI (l + 1 + 1)))]) ⟨rfl, rfl, rfl, (by rw [dst_f hx h8 h7, ← h8]; rfl), rfl, trivial⟩ (ih (l + 1) (by omega) (by omega))
                | exact XJ.lcs (lo' := [(0, .ref (w.1 39)), (1, .int (nI a)), (2, .int (nI s)), (3, .int (oI (dstF L pr s a (mrF L (priF P L pr s 5)) (l + 1)))), (4, .int (nI (l + 1 + 1)))]) ⟨rfl, rfl, rfl, (by rw [dst_t hx h8 h7]; rfl), rfl, trivial⟩ (ih (l + 1) (by omega) (by omega))
            · obtain ⟨b, h8⟩ := oI_some (n := ln L) (fun j h => dst_lt (L := L) (pr := pr) (s := s) (p := a) (g := (mrF L (priF P L pr s 5))) l j h) (by omega) h6
              have hbn : b < ln L := dst_lt l b h8
              refine X_aload_n dX11_dearest_44 (i := 0) rfl rfl ?_
              refine X_iload dX11_dearest_45 (i := 5) rfl ?_
              refine X_iload_n dX11_dearest_47 (i := 2) rfl rfl ?_
              refine X_callV (gc2 := 0) (gs2 := 0) (m_more (t := cdA (nI a) (nI s) np) (w := (setM w 39 (m39 w (cdA (nI a) (nI s) np) np nl no nm nw en))) ⟨h9.1, rfl⟩ hL hP hnl hI hC hW hpr (fun p hp => (hPI.2 p (by omega)).2.1) s (f := 5) (by omega) j hjn (fun q hq => m_price (t := cdA (nI a) (nI s) np) (w := (setM w 39 (m39 w (cdA (nI a) (nI s) np) np nl no nm nw en))) ⟨h9.1, rfl⟩ hL hP hnl hI hC hW hpr (fun p hp => (hPI.2 p (by omega)).2.1) s (by omega) 5 (by decide) q (hq ▸ (hI.2.2 j hjn).2.2.1) (hnl ▸ hN q))) (i := 39) k9b rfl rfl kmX11_more rfl lX11_186 iX11_more vX11_more rfl rfl (Nat.le_of_ble_eq_true rfl) (by decide) dX11_dearest_48 (by decide) (by decide) (fun E w1 hq => nomatch hq.1) (fun v w1 hq => ?_)
              have hv := hq.1
              obtain rfl := hq.2.symm
              cases hv
              refine X_aload_n dX11_dearest_51 (i := 0) rfl rfl ?_
              refine X_iload_n dX11_dearest_52 (i := 3) rfl rfl ?_
              refine XJ.top (v' := .int (nI b)) (by rw [h8]; rfl) ?_
              refine X_iload_n dX11_dearest_53 (i := 2) rfl rfl ?_
              refine X_callV (gc2 := 0) (gs2 := 0) (m_more (t := cdA (nI a) (nI s) np) (w := (setM w 39 (m39 w (cdA (nI a) (nI s) np) np nl no nm nw en))) ⟨h9.1, rfl⟩ hL hP hnl hI hC hW hpr (fun p hp => (hPI.2 p (by omega)).2.1) s (f := 5) (by omega) b hbn (fun q hq => m_price (t := cdA (nI a) (nI s) np) (w := (setM w 39 (m39 w (cdA (nI a) (nI s) np) np nl no nm nw en))) ⟨h9.1, rfl⟩ hL hP hnl hI hC hW hpr (fun p hp => (hPI.2 p (by omega)).2.1) s (by omega) 5 (by decide) q (hq ▸ (hI.2.2 b hbn).2.2.1) (hnl ▸ hN q))) (i := 39) k9b rfl rfl kmX11_more rfl lX11_186 iX11_more vX11_more rfl rfl (Nat.le_of_ble_eq_true rfl) (by decide) dX11_dearest_54 (by decide) (by decide) (fun E w1 hq => nomatch hq.1) (fun v w1 hq => ?_)
              have hv := hq.1
              obtain rfl := hq.2.symm
              cases hv
              refine X_fcmp dX11_dearest_57 ?_
              refine X_if_le (tgt := 64) dX11_dearest_58 (by decide) (fun h7 => ?_) (fun h7 => ?_)
              · refine X_iinc (i := 4) (v := nI (l + 1 + 1)) (lo' := [(4, _), (5, _), (0, _), (1, _), (2, _), (3, _)]) dX11_dearest_64 rfl (nI_inc (l + 1)) (by decide) rfl ?_
                refine X_goto (tgt := 16) dX11_dearest_67 (by decide) ?_
                first
                  | exact XJ.lcs (lo' := [(0, .ref (w.1 39)), (1, .int (nI a)), (2, .int (nI s)), (3, .int (oI (dstF L pr s a (mrF L (priF P L pr s 5)) (l + 1)))), (4, .int (nI (l + 1 + 1)))]) ⟨rfl, rfl, rfl, (by rw [dst_n hx]; rfl), rfl, trivial⟩ (ih (l + 1) (by omega) (by omega))
                  | exact XJ.lcs (lo' := [(0, .ref (w.1 39)), (1, .int (nI a)), (2, .int (nI s)), (3, .int (oI (dstF L pr s a (mrF L (priF P L pr s 5)) (l + 1)))), (4, .int (nI (l + 1 + 1)))]) ⟨rfl, rfl, rfl, (by rw [dst_1 hx h8]; rfl), rfl, trivial⟩ (ih (l + 1) (by omega) (by omega))
                  | exact XJ.lcs (lo' := [(0, .ref (w.1 39)), (1, .int (nI a)), (2, .int (nI s)), (3, .int (oI (dstF L pr s a (mrF L (priF P L pr s 5)) (l + 1)))), (4, .int (nI (l + 1 + 1)))]) ⟨rfl, rfl, rfl, (by rw [dst_f hx h8 h7, ← h8]; rfl), rfl, trivial⟩ (ih (l + 1) (by omega) (by omega))
                  | exact XJ.lcs (lo' := [(0, .ref (w.1 39)), (1, .int (nI a)), (2, .int (nI s)), (3, .int (oI (dstF L pr s a (mrF L (priF P L pr s 5)) (l + 1)))), (4, .int (nI (l + 1 + 1)))]) ⟨rfl, rfl, rfl, (by rw [dst_t hx h8 h7]; rfl), rfl, trivial⟩ (ih (l + 1) (by omega) (by omega))
              · refine X_iload dX11_dearest_61 (i := 5) rfl ?_
                refine X_istore_n (i := 3) (lo' := [(3, _), (5, _), (0, _), (1, _), (2, _), (4, _)]) dX11_dearest_63 rfl (by decide) rfl ?_
                refine X_iinc (i := 4) (v := nI (l + 1 + 1)) (lo' := [(4, _), (3, _), (5, _), (0, _), (1, _), (2, _)]) dX11_dearest_64 rfl (nI_inc (l + 1)) (by decide) rfl ?_
                refine X_goto (tgt := 16) dX11_dearest_67 (by decide) ?_
                first
                  | exact XJ.lcs (lo' := [(0, .ref (w.1 39)), (1, .int (nI a)), (2, .int (nI s)), (3, .int (oI (dstF L pr s a (mrF L (priF P L pr s 5)) (l + 1)))), (4, .int (nI (l + 1 + 1)))]) ⟨rfl, rfl, rfl, (by rw [dst_n hx]; rfl), rfl, trivial⟩ (ih (l + 1) (by omega) (by omega))
                  | exact XJ.lcs (lo' := [(0, .ref (w.1 39)), (1, .int (nI a)), (2, .int (nI s)), (3, .int (oI (dstF L pr s a (mrF L (priF P L pr s 5)) (l + 1)))), (4, .int (nI (l + 1 + 1)))]) ⟨rfl, rfl, rfl, (by rw [dst_1 hx h8]; rfl), rfl, trivial⟩ (ih (l + 1) (by omega) (by omega))
                  | exact XJ.lcs (lo' := [(0, .ref (w.1 39)), (1, .int (nI a)), (2, .int (nI s)), (3, .int (oI (dstF L pr s a (mrF L (priF P L pr s 5)) (l + 1)))), (4, .int (nI (l + 1 + 1)))]) ⟨rfl, rfl, rfl, (by rw [dst_f hx h8 h7, ← h8]; rfl), rfl, trivial⟩ (ih (l + 1) (by omega) (by omega))
                  | exact XJ.lcs (lo' := [(0, .ref (w.1 39)), (1, .int (nI a)), (2, .int (nI s)), (3, .int (oI (dstF L pr s a (mrF L (priF P L pr s 5)) (l + 1)))), (4, .int (nI (l + 1 + 1)))]) ⟨rfl, rfl, rfl, (by rw [dst_t hx h8 h7]; rfl), rfl, trivial⟩ (ih (l + 1) (by omega) (by omega))
    exact XJ.lcs (lo' := [(0, .ref (w.1 39)), (1, .int (nI a)), (2, .int (nI s)), (3, .int (oI (dstF L pr s a (mrF L (priF P L pr s 5)) 0))), (4, .int (nI (0 + 1)))]) ⟨rfl, rfl, rfl, rfl, rfl, trivial⟩ (hloop 7 0 (by omega) (by omega))
  · have hcd : ¬ cdA a s np = 0 := of_decide_eq_false (bI_eq h1)
    refine X_iconst (v := 0) dX11_dearest_9 (by decide) ?_
    refine X_ireturn dX11_dearest_10 rfl rfl ?_
    exact ⟨_, rfl, fun h => absurd h (by rw [cdD_n hcd]; exact hcd), by rw [cdD_n hcd]⟩
/-- the reference's world after the costs were marked -/
def mrkM (K : Nat → ClassId) (w : Wd) (P : PSt) (L : LSt) (pr : Nat → Nat) (np nl no nw en s : Nat) (w' : Wd) : Prop := ∃ f' : Nat → UInt32, w' = setM (setM w 39 (m39 w 0 np nl no np nw en)) 59 (aF K 16 f') ∧ ∀ x, x < np → f' x = priF P L pr s 5 x
set_option maxRecDepth 20000 in
theorem m_markCosts (h9 : M0 w t np nl no nm nw en) {pr : Nat → Nat} {L : LSt} {P : PSt} (hL : ML G.2.2.1 w L) (hP : MP G.2.2.1 w P) (hnl : ln L = nl) (hI : LI np L) (hC : MC G.2.2.1 w pr) (hW : PW L) (hpr : ∀ i, i < 4 → pr i < 4) (hN : NC5 L) (hnp : P.1 = np) (hPI : PI P) {mk : Nat → UInt32} (hX : cel w 59 (aF G.2.2.1 16 mk)) (s : Int32) : XC G mX11_markCosts 13 0 0 [.ref (w.1 39), .int s] w (fun r w' => ∃ v : Int32, r = .inl (some (.int v)) ∧ (cdM s = 0 → v = nI np) ∧ (if cdM s = 0 then mrkM G.2.2.1 w P L pr np nl no nw en (idx s) w' else w' = setM w 39 (m39 w (cdM s) np nl no nm nw en))) := by
  have h16 := hI.1
  have h40 := hI.2.1
  refine XC.of (lo0 := [(0, .ref (w.1 39)), (1, .int s)]) kmX11_markCosts (Nat.le_of_ble_eq_true rfl) rfl ?_
  refine X_iload_n dX11_markCosts_0 (i := 1) rfl rfl ?_
  refine X_iconst (v := 1) dX11_markCosts_1 (by decide) ?_
  refine X_sipush (v := 999) dX11_markCosts_2 (by decide) ?_
  refine X_callS (gc2 := 0) (gs2 := 0) (m_in s 1 999) kmX11_in rfl lX11_89 sX11_in rfl rfl (Nat.le_of_ble_eq_true rfl) (by decide) dX11_markCosts_5 (by decide) (by decide) (fun E w1 hq => nomatch hq.1) (fun v w1 hq => ?_)
  have hv := hq.1
  obtain rfl := hq.2.symm
  cases hv
  refine X_if_ne (tgt := 17) dX11_markCosts_8 (by decide) (fun h1 => ?_) (fun h1 => ?_)
  · have e3 := bI_ne h1
    have hcd := cdM_0 e3
    obtain ⟨s, hs1, hs2, rfl⟩ := btw_n (lo := 1) (hi := 999) (by decide) (by decide) e3
    have gs : idx (nI s) = s := idx_nI (by omega)
    refine X_aload_n dX11_markCosts_17 (i := 0) rfl rfl ?_
    refine X_iconst (v := 0) dX11_markCosts_18 (by decide) ?_
    refine X_put tyX11 tyX11_ok nmX11 (i := 39) h9 rfl (ci := 10) rfl in11 (k := 0) (by decide) fX11_82 rfl rfl rfl (Nat.le_of_ble_eq_true rfl) dX11_markCosts_19 (fun hc_19 => ?_)
    refine X_iconst (v := 0) dX11_markCosts_22 (by decide) ?_
    refine X_istore_n (i := 2) (lo' := [(2, _), (0, _), (1, _)]) dX11_markCosts_23 rfl (by decide) rfl ?_
    have hloop : ∀ (n : Nat) (i : Nat) (f : Nat → UInt32), np - i < n → i ≤ np → (∀ q, q < i → f q = priF P L pr s 5 q) → XJ G mX11_markCosts 13 0 0 24 [(0, .ref (w.1 39)), (1, .int (nI s)), (2, .int (nI i))] [] (setM (setM w 39 (m39 w 0 np nl no nm nw en)) 59 (aF G.2.2.1 16 f)) (fun r w' => ∃ v : Int32, r = .inl (some (.int v)) ∧ (cdM (nI s) = 0 → v = nI np) ∧ (if cdM (nI s) = 0 then mrkM G.2.2.1 w P L pr np nl no nw en (idx (nI s)) w' else w' = setM w 39 (m39 w (cdM (nI s)) np nl no nm nw en))) := by
      intro n
      induction n with
      | zero => intro i f hm hi hf; exact absurd hm (Nat.not_lt_zero _)
      | succ n ih =>
        intro i f hm hi hf
        have k39 : M0 (setM (setM w 39 (m39 w 0 np nl no nm nw en)) 59 (aF G.2.2.1 16 f)) 0 np nl no nm nw en := ⟨h9.1, rfl⟩
        have k59 : cel (setM (setM w 39 (m39 w 0 np nl no nm nw en)) 59 (aF G.2.2.1 16 f)) 59 (aF G.2.2.1 16 f) := ⟨hX.1, rfl⟩
        refine X_iload_n dX11_markCosts_24 (i := 2) rfl rfl ?_
        refine X_aload_n dX11_markCosts_25 (i := 0) rfl rfl ?_
        refine X_get (i := 39) k39 rfl (ci := 10) rfl in11 (k := 1) (by decide) fX11_86 rfl dX11_markCosts_26 ?_
        refine X_icmp_ge (tgt := 50) dX11_markCosts_29 (by decide) (fun h2 => ?_) (fun h2 => ?_)
        · have h5 : i = np := by have := ge_nI (a := np) (by omega) (by omega) h2; omega
          refine X_aload_n dX11_markCosts_50 (i := 0) rfl rfl ?_
          refine X_aload_n dX11_markCosts_51 (i := 0) rfl rfl ?_
          refine X_get (i := 39) k39 rfl (ci := 10) rfl in11 (k := 1) (by decide) fX11_86 rfl dX11_markCosts_52 ?_
          refine X_put tyX11 tyX11_ok nmX11 (i := 39) k39 rfl (ci := 10) rfl in11 (k := 4) (by decide) fX11_210 rfl rfl rfl (Nat.le_of_ble_eq_true rfl) dX11_markCosts_55 (fun hc_55 => ?_)
          refine X_aload_n dX11_markCosts_58 (i := 0) rfl rfl ?_
          refine X_get (i := 39) hc_55 rfl (ci := 10) rfl in11 (k := 4) (by decide) fX11_210 rfl dX11_markCosts_59 ?_
          refine X_ireturn dX11_markCosts_62 rfl rfl ?_
          exact ⟨_, rfl, fun _ => rfl, by rw [hcd, if_pos rfl, gs]; exact ⟨f, by rw [setM_comm (i := 59) (k := 39) (by decide), setM_setM]; rfl, fun x hx => hf x (by omega)⟩⟩
        · have h5 : i < np := nge_nI (a := np) (by omega) (by omega) h2
          refine X_aload_n dX11_markCosts_32 (i := 0) rfl rfl ?_
          refine X_get (i := 39) k39 rfl (ci := 10) rfl in11 (k := 26) (by decide) fX11_68 rfl dX11_markCosts_33 ?_
          refine X_iload_n dX11_markCosts_36 (i := 2) rfl rfl ?_
          refine X_aload_n dX11_markCosts_37 (i := 0) rfl rfl ?_
          refine X_iload_n dX11_markCosts_38 (i := 2) rfl rfl ?_
          refine X_iload_n dX11_markCosts_39 (i := 1) rfl rfl ?_
          refine X_callV (gc2 := 0) (gs2 := 0) (m_price (t := 0) (w := (setM (setM w 39 (m39 w 0 np nl no nm nw en)) 59 (aF G.2.2.1 16 f))) k39 hL hP hnl hI hC hW hpr (fun p hp => (hPI.2 p (by omega)).2.1) s (by omega) 5 (by decide) i h5 (hnl ▸ hN i)) (i := 39) k39 rfl rfl kmX11_price rfl lX11_182 iX11_price vX11_price rfl rfl (Nat.le_of_ble_eq_true rfl) (by decide) dX11_markCosts_40 (by decide) (by decide) (fun E w1 hq => nomatch hq.1) (fun v w1 hq => ?_)
          have hv := hq.1
          obtain rfl := hq.2.symm
          cases hv
          refine X_fast (i := 59) k59 rfl rfl (by omega) (by decide) dX11_markCosts_43 (fun hc_43 => ?_)
          refine X_iinc (i := 2) (v := nI (i + 1)) (lo' := [(2, _), (0, _), (1, _)]) dX11_markCosts_44 rfl (nI_inc i) (by decide) rfl ?_
          refine X_goto (tgt := 24) dX11_markCosts_47 (by decide) ?_
          refine XJ.wd (w' := (setM (setM w 39 (m39 w 0 np nl no nm nw en)) 59 (aF G.2.2.1 16 (va_up f i (priF P L pr s 5 i))))) setM_setM ?_
          exact XJ.lcs (lo' := [(0, .ref (w.1 39)), (1, .int (nI s)), (2, .int (nI (i + 1)))]) ⟨rfl, rfl, rfl, trivial⟩ (ih (i + 1) _ (by omega) (by omega) (fun q hq => by simp only [va_up]; split; rename_i h; rw [h]; exact hf q (by omega)))
    refine XJ.wd (w' := (setM (setM w 39 (m39 w 0 np nl no nm nw en)) 59 (aF G.2.2.1 16 mk))) (setM_id (show (setM w 39 (m39 w 0 np nl no nm nw en)).2.2 59 = _ from hX.2)).symm ?_
    exact XJ.lcs (lo' := [(0, .ref (w.1 39)), (1, .int (nI s)), (2, .int (nI 0))]) ⟨rfl, rfl, rfl, trivial⟩ (hloop (np + 1) 0 _ (by omega) (by omega) (fun q hq => absurd hq (Nat.not_lt_zero q)))
  · have hcd := cdM_1 (bI_eq h1)
    refine X_aload_n dX11_markCosts_11 (i := 0) rfl rfl ?_
    refine X_iconst (v := 1) dX11_markCosts_12 (by decide) ?_
    refine X_callV (gc2 := 0) (gs2 := 0) (m_fails h9 1) (i := 39) h9 rfl rfl kmX11_fails rfl lX11_105 iX11_fails vX11_fails rfl rfl (Nat.le_of_ble_eq_true rfl) (by decide) dX11_markCosts_13 (by decide) (by decide) (fun E w1 hq => nomatch hq.1) (fun v w1 hq => ?_)
    have hv := hq.1
    obtain rfl := hq.2.symm
    cases hv
    refine X_ireturn dX11_markCosts_16 rfl rfl ?_
    exact ⟨_, rfl, fun h => absurd h (by rw [hcd]; decide), by rw [hcd]; exact rfl⟩
set_option maxRecDepth 20000 in
theorem m_costChange (h9 : M0 w t np nl no nm nw en) {pr : Nat → Nat} {L : LSt} {P : PSt} (hL : ML G.2.2.1 w L) (hP : MP G.2.2.1 w P) (hnl : ln L = nl) (hI : LI np L) (hC : MC G.2.2.1 w pr) (hW : PW L) (hpr : ∀ i, i < 4 → pr i < 4) (hN : NC5 L) (hnp : P.1 = np) (hPI : PI P) {mk : Nat → UInt32} (hX : cel w 59 (aF G.2.2.1 16 mk)) (hnm : nm ≤ 16) (hmk : ∀ x, x < nm → Z32 120 234 (mk x)) (a s : Int32) : XC G mX11_costChange 13 0 0 [.ref (w.1 39), .int a, .int s] w (fun r w' => ∃ v : UInt32, r = .inl (some (.float v)) ∧ (cdH a s np nm = 0 → v = FP.fsub (priF P L pr (idx s) 5 (idx a)) (mk (idx a))) ∧ w' = setM w 39 (m39 w (cdH a s np nm) np nl no nm nw en)) := by
  have h16 := hI.1
  have h40 := hI.2.1
  refine XC.of (lo0 := [(0, .ref (w.1 39)), (1, .int a), (2, .int s)]) kmX11_costChange (Nat.le_of_ble_eq_true rfl) rfl ?_
  refine X_aload_n dX11_costChange_0 (i := 0) rfl rfl ?_
  refine X_iload_n dX11_costChange_1 (i := 1) rfl rfl ?_
  refine X_iload_n dX11_costChange_2 (i := 2) rfl rfl ?_
  refine X_callV (gc2 := 0) (gs2 := 0) (m_isAsked h9 (by omega) a s) (i := 39) h9 rfl rfl kmX11_isAsked rfl lX11_150 iX11_isAsked vX11_isAsked rfl rfl (Nat.le_of_ble_eq_true rfl) (by decide) dX11_costChange_3 (by decide) (by decide) (fun E w1 hq => nomatch hq.1) (fun v w1 hq => ?_)
  have hv := hq.1
  obtain rfl := hq.2.symm
  cases hv
  have k9 : cel (setM w 39 (m39 w (cdA a s np) np nl no nm nw en)) 39 (m39 w (cdA a s np) np nl no nm nw en) := ⟨h9.1, rfl⟩
  refine X_if_ne (tgt := 11) dX11_costChange_6 (by decide) (fun h1 => ?_) (fun h1 => ?_)
  · have hcd : cdA a s np = 0 := of_decide_eq_true (bI_ne h1)
    obtain ⟨hia, his⟩ := cdA_inv hcd
    obtain ⟨a, ha, rfl⟩ := inP_of (by omega) hia
    obtain ⟨s, hs1, hs2, rfl⟩ := btw_n (lo := 1) (hi := 999) (by decide) (by decide) his
    have ga : idx (nI a) = a := idx_nI (by omega)
    have gs : idx (nI s) = s := idx_nI (by omega)
    refine X_iload_n dX11_costChange_11 (i := 1) rfl rfl ?_
    refine X_aload_n dX11_costChange_12 (i := 0) rfl rfl ?_
    refine X_get (i := 39) k9 rfl (ci := 10) rfl in11 (k := 4) (by decide) fX11_210 rfl dX11_costChange_13 ?_
    refine X_icmp_ge (tgt := 35) dX11_costChange_16 (by decide) (fun h5 => ?_) (fun h5 => ?_)
    · have h6 : ¬ a < nm := by have := ge_nI (a := nm) (by omega) (by omega) h5; omega
      refine X_aload_n dX11_costChange_35 (i := 0) rfl rfl ?_
      refine X_iconst (v := 3) dX11_costChange_36 (by decide) ?_
      refine X_callV (gc2 := 0) (gs2 := 0) (m_fails (t := cdA (nI a) (nI s) np) (w := (setM w 39 (m39 w (cdA (nI a) (nI s) np) np nl no nm nw en))) ⟨h9.1, rfl⟩ 3) (i := 39) k9 rfl rfl kmX11_fails rfl lX11_105 iX11_fails vX11_fails rfl rfl (Nat.le_of_ble_eq_true rfl) (by decide) dX11_costChange_37 (by decide) (by decide) (fun E w1 hq => nomatch hq.1) (fun v w1 hq => ?_)
      have hv := hq.1
      obtain rfl := hq.2.symm
      cases hv
      refine X_i2f dX11_costChange_40 ?_
      refine X_freturn dX11_costChange_41 rfl ?_
      first
        | exact ⟨_, rfl, fun _ => by rw [ga, gs], by rw [cdH_0 hcd (by rw [ga]; exact h6), hcd]⟩
        | exact ⟨_, rfl, fun h => absurd h (by rw [cdH_3 hcd (by rw [ga]; exact h6)]; decide), by rw [cdH_3 hcd (by rw [ga]; exact h6)]; exact setM_setM⟩
    · have h6 : a < nm := by have := nge_nI (a := nm) (by omega) (by omega) h5; omega
      refine X_aload_n dX11_costChange_19 (i := 0) rfl rfl ?_
      refine X_iload_n dX11_costChange_20 (i := 1) rfl rfl ?_
      refine X_iload_n dX11_costChange_21 (i := 2) rfl rfl ?_
      refine X_callV (gc2 := 0) (gs2 := 0) (m_price (t := cdA (nI a) (nI s) np) (w := (setM w 39 (m39 w (cdA (nI a) (nI s) np) np nl no nm nw en))) ⟨h9.1, rfl⟩ hL hP hnl hI hC hW hpr (fun p hp => (hPI.2 p (by omega)).2.1) s (by omega) 5 (by decide) a ha (hnl ▸ hN a)) (i := 39) k9 rfl rfl kmX11_price rfl lX11_182 iX11_price vX11_price rfl rfl (Nat.le_of_ble_eq_true rfl) (by decide) dX11_costChange_22 (by decide) (by decide) (fun E w1 hq => nomatch hq.1) (fun v w1 hq => ?_)
      have hv := hq.1
      obtain rfl := hq.2.symm
      cases hv
      refine X_aload_n dX11_costChange_25 (i := 0) rfl rfl ?_
      refine X_get (i := 39) k9 rfl (ci := 10) rfl in11 (k := 26) (by decide) fX11_68 rfl dX11_costChange_26 ?_
      refine X_iload_n dX11_costChange_29 (i := 1) rfl rfl ?_
      refine X_fald (i := 59) hX rfl rfl (by omega) (by decide) dX11_costChange_30 ?_
      refine X_fsub dX11_costChange_31 (chg_nn (pri5_z hI hnp hPI ha) (hmk a h6)) ?_
      refine X_goto (tgt := 41) dX11_costChange_32 (by decide) ?_
      refine X_freturn dX11_costChange_41 rfl ?_
      first
        | exact ⟨_, rfl, fun _ => by rw [ga, gs], by rw [cdH_0 hcd (by rw [ga]; exact h6), hcd]⟩
        | exact ⟨_, rfl, fun h => absurd h (by rw [cdH_3 hcd (by rw [ga]; exact h6)]; decide), by rw [cdH_3 hcd (by rw [ga]; exact h6)]; exact setM_setM⟩
  · have hcd : ¬ cdA a s np = 0 := of_decide_eq_false (bI_eq h1)
    refine X_fconst0 dX11_costChange_9 ?_
    refine X_freturn dX11_costChange_10 rfl ?_
    exact ⟨_, rfl, fun h => absurd h (by rw [cdH_n hcd]; exact hcd), by rw [cdH_n hcd]⟩
set_option maxRecDepth 20000 in
theorem m_orderCost (h9 : M0 w t np nl no nm nw en) {pr : Nat → Nat} {L : LSt} {P : PSt} (hL : ML G.2.2.1 w L) (hP : MP G.2.2.1 w P) (hnl : ln L = nl) (hI : LI np L) (hC : MC G.2.2.1 w pr) (hW : PW L) (hpr : ∀ i, i < 4 → pr i < 4) (hN : NC5 L) (hnp : P.1 = np) (hPI : PI P) {O : OSt} (hO : MO G.2.2.1 w O) (hno : O.1 = no) (hOI : OI np O) {kf : Nat → Int32} (hK : cel w 53 (aI G.2.2.1 4 kf)) (a : Int32) : XC G mX11_orderCost 13 0 0 [.ref (w.1 39), .int a] w (fun r w' => ∃ v : UInt32, r = .inl (some (.float v)) ∧ (cdP a no = 0 → v = ocF P L O (idx a)) ∧ (cdP a no = 0 → ∃ kf, w' = (setM (setM (setM w 39 (m39 w 0 np nl no nm nw en)) 53 (aI G.2.2.1 4 kf)) 52 (aI G.2.2.1 4 (nf pr)))) ∧ (cdP a no ≠ 0 → w' = setM w 39 (m39 w (cdP a no) np nl no nm nw en))) := by
  have h16 := hI.1
  have h40 := hI.2.1
  have h8 := hOI.1
  refine XC.of (lo0 := [(0, .ref (w.1 39)), (1, .int a)]) kmX11_orderCost (Nat.le_of_ble_eq_true rfl) rfl ?_
  refine X_iload_n dX11_orderCost_0 (i := 1) rfl rfl ?_
  refine X_iconst (v := 0) dX11_orderCost_1 (by decide) ?_
  refine X_aload_n dX11_orderCost_2 (i := 0) rfl rfl ?_
  refine X_get (i := 39) h9 rfl (ci := 10) rfl in11 (k := 3) (by decide) fX11_213 rfl dX11_orderCost_3 ?_
  refine X_iconst (v := 1) dX11_orderCost_6 (by decide) ?_
  refine X_isub dX11_orderCost_7 ?_
  refine X_callS (gc2 := 0) (gs2 := 0) (m_in a 0 (nI no - 1)) kmX11_in rfl lX11_89 sX11_in rfl rfl (Nat.le_of_ble_eq_true rfl) (by decide) dX11_orderCost_8 (by decide) (by decide) (fun E w1 hq => nomatch hq.1) (fun v w1 hq => ?_)
  have hv := hq.1
  obtain rfl := hq.2.symm
  cases hv
  refine X_if_ne (tgt := 21) dX11_orderCost_11 (by decide) (fun h1 => ?_) (fun h1 => ?_)
  · have hi : inP a no = true := by have := bI_ne h1; rw [btw_inP (by omega)] at this; exact this
    have hcd := cdP_0 hi
    obtain ⟨a, ha, rfl⟩ := inP_of (by omega) hi
    have ga : idx (nI a) = a := idx_nI (by omega)
    have ho := hOI.2.1 a (by omega)
    have t39 : M0 (setM (setM (setM w 39 (m39 w 0 np nl no nm nw en)) 53 (aI G.2.2.1 4 (nf pr))) 52 (aI G.2.2.1 4 (nf (O.2.2.2.2.1 a)))) 0 np nl no nm nw en := ⟨h9.1, rfl⟩
    have t52 : MC G.2.2.1 (setM (setM (setM w 39 (m39 w 0 np nl no nm nw en)) 53 (aI G.2.2.1 4 (nf pr))) 52 (aI G.2.2.1 4 (nf (O.2.2.2.2.1 a)))) (O.2.2.2.2.1 a) := ⟨hC.1, rfl⟩
    have t53 : cel (setM (setM (setM w 39 (m39 w 0 np nl no nm nw en)) 53 (aI G.2.2.1 4 (nf pr))) 52 (aI G.2.2.1 4 (nf (O.2.2.2.2.1 a)))) 53 (aI G.2.2.1 4 (nf pr)) := ⟨hK.1, rfl⟩
    refine X_aload_n dX11_orderCost_21 (i := 0) rfl rfl ?_
    refine X_iconst (v := 0) dX11_orderCost_22 (by decide) ?_
    refine X_put tyX11 tyX11_ok nmX11 (i := 39) h9 rfl (ci := 10) rfl in11 (k := 0) (by decide) fX11_82 rfl rfl rfl (Nat.le_of_ble_eq_true rfl) dX11_orderCost_23 (fun hc_23 => ?_)
    refine X_aload_n dX11_orderCost_26 (i := 0) rfl rfl ?_
    refine X_iload_n dX11_orderCost_27 (i := 1) rfl rfl ?_
    refine X_callV (gc2 := 0) (gs2 := 0) (m_takes (w := (setM w 39 (m39 w 0 np nl no nm nw en))) ⟨h9.1, rfl⟩ hO (pr := pr) (kf := kf) hC hK a (by omega)) (i := 39) hc_23 rfl rfl kmX11_takes rfl lX11_216 iX11_takes vX11_takes rfl rfl (Nat.le_of_ble_eq_true rfl) (by decide) dX11_orderCost_28 (by decide) (by decide) (fun E w1 hq => nomatch hq.1) (fun v w1 hq => ?_)
    have hv := hq.1
    obtain rfl := hq.2.symm
    cases hv
    refine X_aload_n dX11_orderCost_31 (i := 0) rfl rfl ?_
    refine X_get (i := 39) t39 rfl (ci := 10) rfl in11 (k := 23) (by decide) fX11_58 rfl dX11_orderCost_32 ?_
    refine X_iload_n dX11_orderCost_35 (i := 1) rfl rfl ?_
    refine X_iald (i := 56) hO.2.2.1 rfl rfl (by omega) (by decide) dX11_orderCost_36 ?_
    refine X_i2f dX11_orderCost_37 ?_
    refine X_aload_n dX11_orderCost_38 (i := 0) rfl rfl ?_
    refine X_aload_n dX11_orderCost_39 (i := 0) rfl rfl ?_
    refine X_get (i := 39) t39 rfl (ci := 10) rfl in11 (k := 21) (by decide) fX11_52 rfl dX11_orderCost_40 ?_
    refine X_iload_n dX11_orderCost_43 (i := 1) rfl rfl ?_
    refine X_iald (i := 54) hO.1 rfl rfl (by omega) (by decide) dX11_orderCost_44 ?_
    refine X_aload_n dX11_orderCost_45 (i := 0) rfl rfl ?_
    refine X_get (i := 39) t39 rfl (ci := 10) rfl in11 (k := 22) (by decide) fX11_55 rfl dX11_orderCost_46 ?_
    refine X_iload_n dX11_orderCost_49 (i := 1) rfl rfl ?_
    refine X_iald (i := 55) hO.2.1 rfl rfl (by omega) (by decide) dX11_orderCost_50 ?_
    refine X_callV (gc2 := 0) (gs2 := 0) (m_price (w := (setM (setM (setM w 39 (m39 w 0 np nl no nm nw en)) 53 (aI G.2.2.1 4 (nf pr))) 52 (aI G.2.2.1 4 (nf (O.2.2.2.2.1 a))))) t39 hL hP hnl hI t52 hW ho.2.2.2 (fun p hp => (hPI.2 p (by omega)).2.1) (O.2.2.1 a) (by omega) 5 (by decide) (O.2.1 a) ho.1 (hnl ▸ hN _)) (i := 39) t39 rfl rfl kmX11_price rfl lX11_182 iX11_price vX11_price rfl rfl (Nat.le_of_ble_eq_true rfl) (by decide) dX11_orderCost_51 (by decide) (by decide) (fun E w1 hq => nomatch hq.1) (fun v w1 hq => ?_)
    have hv := hq.1
    obtain rfl := hq.2.symm
    cases hv
    refine X_fmul dX11_orderCost_54 (ord_nn ho.2.2.1.2 (pri5_z hI hnp hPI ho.1)) ?_
    refine X_fstore_n (i := 2) (lo' := [(2, _), (0, _), (1, _)]) dX11_orderCost_55 rfl (by decide) rfl ?_
    refine X_aload_n dX11_orderCost_56 (i := 0) rfl rfl ?_
    refine X_callV (gc2 := 0) (gs2 := 0) (m_gives (w := (setM (setM (setM w 39 (m39 w 0 np nl no nm nw en)) 53 (aI G.2.2.1 4 (nf pr))) 52 (aI G.2.2.1 4 (nf (O.2.2.2.2.1 a))))) t39 (pf := nf (O.2.2.2.2.1 a)) (kf := nf pr) t52 t53) (i := 39) t39 rfl rfl kmX11_gives rfl lX11_220 iX11_gives vX11_gives rfl rfl (Nat.le_of_ble_eq_true rfl) (by decide) dX11_orderCost_57 (by decide) (by decide) (fun E w1 hq => nomatch hq.1) (fun v w1 hq => ?_)
    have hv := hq.1
    obtain rfl := hq.2.symm
    cases hv
    refine X_fload_n dX11_orderCost_60 (i := 2) rfl rfl ?_
    refine X_freturn dX11_orderCost_61 rfl ?_
    exact ⟨_, rfl, fun _ => by rw [ga]; rfl, fun _ => ⟨nf pr, setM_setM⟩, fun h => absurd hcd h⟩
  · have hi : inP a no = false := by have := bI_eq h1; rw [btw_inP (by omega)] at this; exact this
    have hcd := cdP_1 hi
    refine X_aload_n dX11_orderCost_14 (i := 0) rfl rfl ?_
    refine X_iconst (v := 1) dX11_orderCost_15 (by decide) ?_
    refine X_callV (gc2 := 0) (gs2 := 0) (m_fails h9 1) (i := 39) h9 rfl rfl kmX11_fails rfl lX11_105 iX11_fails vX11_fails rfl rfl (Nat.le_of_ble_eq_true rfl) (by decide) dX11_orderCost_16 (by decide) (by decide) (fun E w1 hq => nomatch hq.1) (fun v w1 hq => ?_)
    have hv := hq.1
    obtain rfl := hq.2.symm
    cases hv
    refine X_i2f dX11_orderCost_19 ?_
    refine X_freturn dX11_orderCost_20 rfl ?_
    exact ⟨_, rfl, fun h => absurd h (by rw [hcd]; decide), fun h => absurd h (by rw [hcd]; decide), fun _ => by rw [hcd]⟩
end CostN
