/-! WHAT THE HELPERS ANSWER to numbers in range (by gen/spec81.py) -/
section CleanQ
variable {G : Gx} {w : Wd}
theorem s_ok {s : Nat} (h1 : 1 ≤ s) (h2 : s ≤ 999) : btw (nI s) 1 999 = true := by
  rw [show (1 : Int32) = nI 1 from rfl, show (999 : Int32) = nI 999 from by decide, btw_of (by omega) (by decide) (by decide), decide_eq_true h1, decide_eq_true h2]; rfl
theorem p_ok {P : PSt} {p : Nat} (h6 : P.1 = 6) (hp : p < 6) : inP (nI p) P.1 = true := by
  rw [h6]; exact inP_nI (by decide) hp
theorem cdP_ok {p n : Nat} (hn : n < 2 ^ 31) (h : p < n) : cdP (nI p) n = 0 := cdP_0 (inP_nI hn h)
theorem cdA_ok {P : PSt} {a s : Nat} (h6 : P.1 = 6) (ha : a < 6) (h1 : 1 ≤ s) (h2 : s ≤ 999) : cdA (nI a) (nI s) P.1 = 0 := cdA_0 (p_ok h6 ha) (s_ok h1 h2)
theorem cdQ_ok {P : PSt} {a b s : Nat} (h6 : P.1 = 6) (ha : a < 6) (hb : b < 6) (h1 : 1 ≤ s) (h2 : s ≤ 999) : cdQ (nI a) (nI b) (nI s) P.1 = 0 := cdQ_0 (p_ok h6 ha) (p_ok h6 hb) (s_ok h1 h2)
theorem cdC_ok {l : Nat} (h : l < 4) : cdC (nI l) = 0 := by
  have e : l = 0 ∨ l = 1 ∨ l = 2 ∨ l = 3 := by omega
  rcases e with rfl | rfl | rfl | rfl <;> decide
/-- the dearest line as the law hears of it -/
def dstV (d : Option Nat) : Int32 := match d with
  | none => -75
  | some b => nI b
def len36 (P : PSt) (L : LSt) (pr : Nat → Nat) (s : Nat) : Prop := ∀ a, (listN P.2.1 L pr s 5 a 1).length ≤ 36
theorem q_holds {P : PSt} {L : LSt} {pr : Nat → Nat} {O : OSt} {mp : Nat} {mk : Nat → UInt32} {a0 s nn : Nat} (ha : w.1 0 = a0) (hS : ST nn G.2.2.1 w P L pr O mp mk) (hIP : IP P L pr O mp mk []) {l : Nat} (hl : l < ln L) (hs1 : 1 ≤ s) (hs2 : s ≤ 999) : XC G mL_holds 8 2 12 [.ref a0, .int (nI l), .int (nI s)] w (fun r w' => r = .inl (some (.int (bI (hld L pr s l)))) ∧ ST nn G.2.2.1 w' P L pr O mp mk ∧ FX w w') := by
  have hcd : cdA (nI l) (nI s) (ln L) = 0 := cdA_0 (inP_nI (by have := hIP.2.2.1.1.2.1; omega) hl) (s_ok hs1 hs2)
  have h40 := hIP.2.2.1.1.2.1
  refine XC.mono (fun r w' hq => ⟨?_, hq.2⟩) (h_holds ha hS hIP (nI l) (nI s))
  rw [hq.1, hcd, idx_nI (show s < 2 ^ 31 by omega), idx_nI (show l < 2 ^ 31 by omega)]
  rfl
theorem q_lastSerial {P : PSt} {L : LSt} {pr : Nat → Nat} {O : OSt} {mp : Nat} {mk : Nat → UInt32} {a0 nn : Nat} (ha : w.1 0 = a0) (hS : ST nn G.2.2.1 w P L pr O mp mk) (hIP : IP P L pr O mp mk []) {l : Nat} (hl : l < ln L) : XC G mL_lastSerial 8 1 6 [.ref a0, .int (nI l)] w (fun r w' => r = .inl (some (.int (nI (la L l)))) ∧ ST nn G.2.2.1 w' P L pr O mp mk ∧ FX w w') := by
  have hcd : cdP (nI l) (ln L) = 0 := cdP_ok (by have := hIP.2.2.1.1.2.1; omega) hl
  have h40 := hIP.2.2.1.1.2.1
  refine XC.mono (fun r w' hq => ⟨?_, hq.2⟩) (h_lastSerial ha hS hIP (nI l))
  rw [hq.1, hcd, idx_nI (show l < 2 ^ 31 by omega)]
  rfl
theorem q_kind {P : PSt} {L : LSt} {pr : Nat → Nat} {O : OSt} {mp : Nat} {mk : Nat → UInt32} {a0 nn : Nat} (ha : w.1 0 = a0) (hS : ST nn G.2.2.1 w P L pr O mp mk) (hIP : IP P L pr O mp mk []) (h6 : P.1 = 6) {a : Nat} (h1 : a < 6) : XC G mL_kind 8 1 6 [.ref a0, .int (nI a)] w (fun r w' => r = .inl (some (.int (nI (P.2.1 a)))) ∧ ST nn G.2.2.1 w' P L pr O mp mk ∧ FX w w') := by
  have hcd : cdP (nI a) P.1 = 0 := cdP_0 (p_ok h6 h1)
  refine XC.mono (fun r w' hq => ⟨?_, hq.2⟩) (h_kind ha hS hIP (nI a))
  rw [hq.1, hcd, idx_nI (show a < 2 ^ 31 by omega)]
  rfl
theorem q_choice {P : PSt} {L : LSt} {pr : Nat → Nat} {O : OSt} {mp : Nat} {mk : Nat → UInt32} {a0 nn : Nat} (ha : w.1 0 = a0) (hS : ST nn G.2.2.1 w P L pr O mp mk) (hIP : IP P L pr O mp mk []) {l : Nat} (hl : l < 4) : XC G mL_choice 8 1 6 [.ref a0, .int (nI l)] w (fun r w' => r = .inl (some (.int (nI (pr l)))) ∧ ST nn G.2.2.1 w' P L pr O mp mk ∧ FX w w') := by
  have hcd : cdC (nI l) = 0 := cdC_ok hl
  refine XC.mono (fun r w' hq => ⟨?_, hq.2⟩) (h_choice ha hS hIP (nI l))
  rw [hq.1, hcd, idx_nI (show l < 2 ^ 31 by omega)]
  rfl
theorem q_levels {P : PSt} {L : LSt} {pr : Nat → Nat} {O : OSt} {mp : Nat} {mk : Nat → UInt32} {a0 s nn : Nat} (ha : w.1 0 = a0) (hS : ST nn G.2.2.1 w P L pr O mp mk) (hIP : IP P L pr O mp mk []) (h6 : P.1 = 6) {a : Nat} (h1 : a < 6) (hs1 : 1 ≤ s) (hs2 : s ≤ 999) : XC G mL_levels 8 3 18 [.ref a0, .int (nI a), .int (nI s)] w (fun r w' => r = .inl (some (.int (nI (dptN L pr s 5 a)))) ∧ ST nn G.2.2.1 w' P L pr O mp mk ∧ FX w w') := by
  have hcd : cdA (nI a) (nI s) P.1 = 0 := cdA_ok h6 h1 hs1 hs2
  refine XC.mono (fun r w' hq => ⟨?_, hq.2⟩) (h_levels ha hS hIP (nI a) (nI s))
  rw [hq.1, hcd, idx_nI (show s < 2 ^ 31 by omega), idx_nI (show a < 2 ^ 31 by omega)]
  rfl
theorem q_whereUsed {P : PSt} {L : LSt} {pr : Nat → Nat} {O : OSt} {mp : Nat} {mk : Nat → UInt32} {a0 s nn : Nat} (ha : w.1 0 = a0) (hS : ST nn G.2.2.1 w P L pr O mp mk) (hIP : IP P L pr O mp mk []) (h6 : P.1 = 6) {a : Nat} (h1 : a < 6) (hs1 : 1 ≤ s) (hs2 : s ≤ 999) : XC G mL_whereUsed 8 3 18 [.ref a0, .int (nI a), .int (nI s)] w (fun r w' => r = .inl (some (.int (nI (cntB (fun p => decide (p ≠ a) && decide (hasN L pr s 5 p a ≠ 0)) 6)))) ∧ ST nn G.2.2.1 w' P L pr O mp mk ∧ FX w w') := by
  have hcd : cdA (nI a) (nI s) P.1 = 0 := cdA_ok h6 h1 hs1 hs2
  refine XC.mono (fun r w' hq => ⟨?_, hq.2⟩) (h_whereUsed ha hS hIP (nI a) (nI s))
  rw [hq.1, hcd, h6, idx_nI (show s < 2 ^ 31 by omega), idx_nI (show a < 2 ^ 31 by omega)]
  rfl
theorem q_cost {P : PSt} {L : LSt} {pr : Nat → Nat} {O : OSt} {mp : Nat} {mk : Nat → UInt32} {a0 s nn : Nat} (ha : w.1 0 = a0) (hS : ST nn G.2.2.1 w P L pr O mp mk) (hIP : IP P L pr O mp mk []) (h6 : P.1 = 6) {a : Nat} (h1 : a < 6) (hs1 : 1 ≤ s) (hs2 : s ≤ 999) : XC G mL_cost 8 3 18 [.ref a0, .int (nI a), .int (nI s)] w (fun r w' => r = .inl (some (.float (priF P L pr s 5 a))) ∧ ST nn G.2.2.1 w' P L pr O mp mk ∧ FX w w') := by
  have hcd : cdA (nI a) (nI s) P.1 = 0 := cdA_ok h6 h1 hs1 hs2
  refine XC.mono (fun r w' hq => ⟨?_, hq.2⟩) (h_cost ha hS hIP (nI a) (nI s))
  rw [hq.1, hcd, idx_nI (show s < 2 ^ 31 by omega), idx_nI (show a < 2 ^ 31 by omega)]
  rfl
theorem q_costByWalking {P : PSt} {L : LSt} {pr : Nat → Nat} {O : OSt} {mp : Nat} {mk : Nat → UInt32} {a0 s nn : Nat} (ha : w.1 0 = a0) (hS : ST nn G.2.2.1 w P L pr O mp mk) (hIP : IP P L pr O mp mk []) (h6 : P.1 = 6) {a : Nat} (h1 : a < 6) (hs1 : 1 ≤ s) (hs2 : s ≤ 999) : XC G mL_costByWalking 8 3 18 [.ref a0, .int (nI a), .int (nI s)] w (fun r w' => r = .inl (some (.float (priF P L pr s 5 a))) ∧ ST nn G.2.2.1 w' P L pr O mp mk ∧ FX w w') := by
  have hcd : cdA (nI a) (nI s) P.1 = 0 := cdA_ok h6 h1 hs1 hs2
  refine XC.mono (fun r w' hq => ⟨?_, hq.2⟩) (h_costByWalking ha hS hIP (nI a) (nI s))
  rw [hq.1, hcd, idx_nI (show s < 2 ^ 31 by omega), idx_nI (show a < 2 ^ 31 by omega)]
  rfl
theorem q_costBits {P : PSt} {L : LSt} {pr : Nat → Nat} {O : OSt} {mp : Nat} {mk : Nat → UInt32} {a0 s nn : Nat} (ha : w.1 0 = a0) (hS : ST nn G.2.2.1 w P L pr O mp mk) (hIP : IP P L pr O mp mk []) (h6 : P.1 = 6) {a : Nat} (h1 : a < 6) (hs1 : 1 ≤ s) (hs2 : s ≤ 999) : XC G mL_costBits 8 3 18 [.ref a0, .int (nI a), .int (nI s)] w (fun r w' => r = .inl (some (.int ((priF P L pr s 5 a).toInt32))) ∧ ST nn G.2.2.1 w' P L pr O mp mk ∧ FX w w') := by
  have hcd : cdA (nI a) (nI s) P.1 = 0 := cdA_ok h6 h1 hs1 hs2
  refine XC.mono (fun r w' hq => ⟨?_, hq.2⟩) (h_costBits ha hS hIP (nI a) (nI s))
  rw [hq.1, hcd, idx_nI (show s < 2 ^ 31 by omega), idx_nI (show a < 2 ^ 31 by omega)]
  rfl
theorem q_costCents {P : PSt} {L : LSt} {pr : Nat → Nat} {O : OSt} {mp : Nat} {mk : Nat → UInt32} {a0 s nn : Nat} (ha : w.1 0 = a0) (hS : ST nn G.2.2.1 w P L pr O mp mk) (hIP : IP P L pr O mp mk []) (h6 : P.1 = 6) {a : Nat} (h1 : a < 6) (hs1 : 1 ≤ s) (hs2 : s ≤ 999) : XC G mL_costCents 8 3 18 [.ref a0, .int (nI a), .int (nI s)] w (fun r w' => r = .inl (some (.int (FP.f2i (FP.fmul (priF P L pr s 5 a) 1120403456)))) ∧ ST nn G.2.2.1 w' P L pr O mp mk ∧ FX w w') := by
  have hcd : cdA (nI a) (nI s) P.1 = 0 := cdA_ok h6 h1 hs1 hs2
  refine XC.mono (fun r w' hq => ⟨?_, hq.2⟩) (h_costCents ha hS hIP (nI a) (nI s))
  rw [hq.1, hcd, idx_nI (show s < 2 ^ 31 by omega), idx_nI (show a < 2 ^ 31 by omega)]
  rfl
theorem q_weight {P : PSt} {L : LSt} {pr : Nat → Nat} {O : OSt} {mp : Nat} {mk : Nat → UInt32} {a0 s nn : Nat} (ha : w.1 0 = a0) (hS : ST nn G.2.2.1 w P L pr O mp mk) (hIP : IP P L pr O mp mk []) (h6 : P.1 = 6) {a : Nat} (h1 : a < 6) (hs1 : 1 ≤ s) (hs2 : s ≤ 999) : XC G mL_weight 8 3 18 [.ref a0, .int (nI a), .int (nI s)] w (fun r w' => r = .inl (some (.double (masF P L pr s 5 a))) ∧ ST nn G.2.2.1 w' P L pr O mp mk ∧ FX w w') := by
  have hcd : cdA (nI a) (nI s) P.1 = 0 := cdA_ok h6 h1 hs1 hs2
  refine XC.mono (fun r w' hq => ⟨?_, hq.2⟩) (h_weight ha hS hIP (nI a) (nI s))
  rw [hq.1, hcd, idx_nI (show s < 2 ^ 31 by omega), idx_nI (show a < 2 ^ 31 by omega)]
  rfl
theorem q_weightBits {P : PSt} {L : LSt} {pr : Nat → Nat} {O : OSt} {mp : Nat} {mk : Nat → UInt32} {a0 s nn : Nat} (ha : w.1 0 = a0) (hS : ST nn G.2.2.1 w P L pr O mp mk) (hIP : IP P L pr O mp mk []) (h6 : P.1 = 6) {a : Nat} (h1 : a < 6) (hs1 : 1 ≤ s) (hs2 : s ≤ 999) : XC G mL_weightBits 8 3 18 [.ref a0, .int (nI a), .int (nI s)] w (fun r w' => r = .inl (some (.long ((masF P L pr s 5 a).toInt64))) ∧ ST nn G.2.2.1 w' P L pr O mp mk ∧ FX w w') := by
  have hcd : cdA (nI a) (nI s) P.1 = 0 := cdA_ok h6 h1 hs1 hs2
  refine XC.mono (fun r w' hq => ⟨?_, hq.2⟩) (h_weightBits ha hS hIP (nI a) (nI s))
  rw [hq.1, hcd, idx_nI (show s < 2 ^ 31 by omega), idx_nI (show a < 2 ^ 31 by omega)]
  rfl
theorem q_quantity {P : PSt} {L : LSt} {pr : Nat → Nat} {O : OSt} {mp : Nat} {mk : Nat → UInt32} {a0 s nn : Nat} (ha : w.1 0 = a0) (hS : ST nn G.2.2.1 w P L pr O mp mk) (hIP : IP P L pr O mp mk []) (h6 : P.1 = 6) {a b : Nat} (h1 : a < 6) (h2 : b < 6) (hs1 : 1 ≤ s) (hs2 : s ≤ 999) : XC G mL_quantity 8 4 24 [.ref a0, .int (nI a), .int (nI b), .int (nI s)] w (fun r w' => r = .inl (some (.long (nL (hasN L pr s 5 a b)))) ∧ ST nn G.2.2.1 w' P L pr O mp mk ∧ FX w w') := by
  have hcd : cdQ (nI a) (nI b) (nI s) P.1 = 0 := cdQ_ok h6 h1 h2 hs1 hs2
  refine XC.mono (fun r w' hq => ⟨?_, hq.2⟩) (h_quantity ha hS hIP (nI a) (nI b) (nI s))
  rw [hq.1, hcd, idx_nI (show s < 2 ^ 31 by omega), idx_nI (show a < 2 ^ 31 by omega), idx_nI (show b < 2 ^ 31 by omega)]
  rfl
theorem q_quantityByWalking {P : PSt} {L : LSt} {pr : Nat → Nat} {O : OSt} {mp : Nat} {mk : Nat → UInt32} {a0 s nn : Nat} (ha : w.1 0 = a0) (hS : ST nn G.2.2.1 w P L pr O mp mk) (hIP : IP P L pr O mp mk []) (h6 : P.1 = 6) {a b : Nat} (h1 : a < 6) (h2 : b < 6) (hs1 : 1 ≤ s) (hs2 : s ≤ 999) : XC G mL_quantityByWalking 8 4 24 [.ref a0, .int (nI a), .int (nI b), .int (nI s)] w (fun r w' => r = .inl (some (.long (nL (hasN L pr s 5 a b)))) ∧ ST nn G.2.2.1 w' P L pr O mp mk ∧ FX w w') := by
  have hcd : cdQ (nI a) (nI b) (nI s) P.1 = 0 := cdQ_ok h6 h1 h2 hs1 hs2
  refine XC.mono (fun r w' hq => ⟨?_, hq.2⟩) (h_quantityByWalking ha hS hIP (nI a) (nI b) (nI s))
  rw [hq.1, hcd, idx_nI (show s < 2 ^ 31 by omega), idx_nI (show a < 2 ^ 31 by omega), idx_nI (show b < 2 ^ 31 by omega)]
  rfl
theorem q_need {P : PSt} {L : LSt} {pr : Nat → Nat} {O : OSt} {mp : Nat} {mk : Nat → UInt32} {a0 nn : Nat} (ha : w.1 0 = a0) (hS : ST nn G.2.2.1 w P L pr O mp mk) (hIP : IP P L pr O mp mk []) (h6 : P.1 = 6) {a : Nat} (h1 : a < 6) : XC G mL_need 8 2 12 [.ref a0, .int (nI a)] w (fun r w' => r = .inl (some (.long (nL (needN L O a O.1)))) ∧ ST nn G.2.2.1 w' P L pr O mp mk ∧ FX w w') := by
  have hcd : cdP (nI a) P.1 = 0 := cdP_0 (p_ok h6 h1)
  refine XC.mono (fun r w' hq => ⟨?_, hq.2⟩) (h_need ha hS hIP (nI a))
  rw [hq.1, hcd, idx_nI (show a < 2 ^ 31 by omega)]
  rfl
theorem q_listSize {P : PSt} {L : LSt} {pr : Nat → Nat} {O : OSt} {mp : Nat} {mk : Nat → UInt32} {a0 s nn : Nat} (ha : w.1 0 = a0) (hS : ST nn G.2.2.1 w P L pr O mp mk) (hIP : IP P L pr O mp mk []) (h6 : P.1 = 6) {a : Nat} (h1 : a < 6) (hs1 : 1 ≤ s) (hs2 : s ≤ 999) (hlen : len36 P L pr s) : XC G mL_listSize 10 58 236 [.ref a0, .int (nI a), .int (nI s)] w (fun r w' => r = .inl (some (.int (nI (listN P.2.1 L pr s 5 a 1).length))) ∧ ST (listN P.2.1 L pr s 5 a 1).length G.2.2.1 w' P L pr O mp mk ∧ FX w w') := by
  have hcd : cdA (nI a) (nI s) P.1 = 0 := cdA_ok h6 h1 hs1 hs2
  refine XC.mono (fun r w' hq => ⟨?_, ⟨by have h := hq.2.1; rwa [cdA_ok h6 h1 hs1 hs2, if_pos rfl, idx_nI (show s < 2 ^ 31 by omega), idx_nI (show a < 2 ^ 31 by omega)] at h, hq.2.2⟩⟩) (h_listSize ha hS hIP (nI a) (nI s) (by rw [idx_nI (show s < 2 ^ 31 by omega), idx_nI (show a < 2 ^ 31 by omega)]; exact hlen a))
  rw [hq.1, hcd, idx_nI (show s < 2 ^ 31 by omega), idx_nI (show a < 2 ^ 31 by omega)]
  rfl
theorem gq_listSize {P : PSt} {L : LSt} {pr : Nat → Nat} {O : OSt} {mp : Nat} {mk : Nat → UInt32} {a0 s nn : Nat} (ha : w.1 0 = a0) (hS : ST nn G.2.2.1 w P L pr O mp mk) (hIP : IP P L pr O mp mk []) (h6 : P.1 = 6) {a : Nat} (h1 : a < 6) (hs1 : 1 ≤ s) (hs2 : s ≤ 999) (hlen : (listN P.2.1 L pr s 5 a 1).length ≤ nn) (hnn : nn ≤ 72) : XC G mL_listSize 10 2 12 [.ref a0, .int (nI a), .int (nI s)] w (fun r w' => r = .inl (some (.int (nI (listN P.2.1 L pr s 5 a 1).length))) ∧ ST nn G.2.2.1 w' P L pr O mp mk ∧ FX w w') := by
  have hcd : cdA (nI a) (nI s) P.1 = 0 := cdA_ok h6 h1 hs1 hs2
  refine XC.mono (fun r w' hq => ⟨?_, hq.2⟩) (g_listSize ha hS hIP (nI a) (nI s) (by rw [idx_nI (show s < 2 ^ 31 by omega), idx_nI (show a < 2 ^ 31 by omega)]; exact hlen))
  rw [hq.1, hcd, idx_nI (show s < 2 ^ 31 by omega), idx_nI (show a < 2 ^ 31 by omega)]
  rfl
theorem gq_listPart {P : PSt} {L : LSt} {pr : Nat → Nat} {O : OSt} {mp : Nat} {mk : Nat → UInt32} {a0 s nn : Nat} (ha : w.1 0 = a0) (hS : ST nn G.2.2.1 w P L pr O mp mk) (hIP : IP P L pr O mp mk []) (h6 : P.1 = 6) {a : Nat} (h1 : a < 6) (hs1 : 1 ≤ s) (hs2 : s ≤ 999) (hlen : (listN P.2.1 L pr s 5 a 1).length ≤ nn) (hnn : nn ≤ 72) {i : Nat} (hi : i < (listN P.2.1 L pr s 5 a 1).length) : XC G mL_listPart 10 3 18 [.ref a0, .int (nI a), .int (nI s), .int (nI i)] w (fun r w' => r = .inl (some (.int (nI ((listN P.2.1 L pr s 5 a 1).getD i (0, 0)).1))) ∧ ST nn G.2.2.1 w' P L pr O mp mk ∧ FX w w') := by
  have hcd : cdLP (nI a) (nI s) (nI i) P.1 (listN P.2.1 L pr (idx (nI s)) 5 (idx (nI a)) 1).length = 0 := by
    have hle := hlen
    rw [cdLP_0 (cdA_ok h6 h1 hs1 hs2), idx_nI (show s < 2 ^ 31 by omega), idx_nI (show a < 2 ^ 31 by omega), cdI, inP_nI (by omega) hi]; rfl
  have hle := hlen
  refine XC.mono (fun r w' hq => ⟨?_, hq.2⟩) (g_listPart ha hS hIP (nI a) (nI s) (nI i) (by rw [idx_nI (show s < 2 ^ 31 by omega), idx_nI (show a < 2 ^ 31 by omega)]; exact hlen))
  rw [hq.1, hcd, idx_nI (show s < 2 ^ 31 by omega), idx_nI (show a < 2 ^ 31 by omega), idx_nI (show i < 2 ^ 31 by omega)]
  rfl
theorem gq_listQuantity {P : PSt} {L : LSt} {pr : Nat → Nat} {O : OSt} {mp : Nat} {mk : Nat → UInt32} {a0 s nn : Nat} (ha : w.1 0 = a0) (hS : ST nn G.2.2.1 w P L pr O mp mk) (hIP : IP P L pr O mp mk []) (h6 : P.1 = 6) {a : Nat} (h1 : a < 6) (hs1 : 1 ≤ s) (hs2 : s ≤ 999) (hlen : (listN P.2.1 L pr s 5 a 1).length ≤ nn) (hnn : nn ≤ 72) {i : Nat} (hi : i < (listN P.2.1 L pr s 5 a 1).length) : XC G mL_listQuantity 10 3 18 [.ref a0, .int (nI a), .int (nI s), .int (nI i)] w (fun r w' => r = .inl (some (.long (nL ((listN P.2.1 L pr s 5 a 1).getD i (0, 0)).2))) ∧ ST nn G.2.2.1 w' P L pr O mp mk ∧ FX w w') := by
  have hcd : cdLP (nI a) (nI s) (nI i) P.1 (listN P.2.1 L pr (idx (nI s)) 5 (idx (nI a)) 1).length = 0 := by
    have hle := hlen
    rw [cdLP_0 (cdA_ok h6 h1 hs1 hs2), idx_nI (show s < 2 ^ 31 by omega), idx_nI (show a < 2 ^ 31 by omega), cdI, inP_nI (by omega) hi]; rfl
  have hle := hlen
  refine XC.mono (fun r w' hq => ⟨?_, hq.2⟩) (g_listQuantity ha hS hIP (nI a) (nI s) (nI i) (by rw [idx_nI (show s < 2 ^ 31 by omega), idx_nI (show a < 2 ^ 31 by omega)]; exact hlen))
  rw [hq.1, hcd, idx_nI (show s < 2 ^ 31 by omega), idx_nI (show a < 2 ^ 31 by omega), idx_nI (show i < 2 ^ 31 by omega)]
  rfl
theorem q_dearest {P : PSt} {L : LSt} {pr : Nat → Nat} {O : OSt} {mp : Nat} {mk : Nat → UInt32} {a0 s nn : Nat} (ha : w.1 0 = a0) (hS : ST nn G.2.2.1 w P L pr O mp mk) (hIP : IP P L pr O mp mk []) (h6 : P.1 = 6) {a : Nat} (h1 : a < 6) (hs1 : 1 ≤ s) (hs2 : s ≤ 999) : XC G mL_dearest 8 4 24 [.ref a0, .int (nI a), .int (nI s)] w (fun r w' => r = .inl (some (.int (dstV (dstF L pr s a (mrF L (priF P L pr s 5)) 6)))) ∧ ST nn G.2.2.1 w' P L pr O mp mk ∧ FX w w') := by
  refine XC.mono (fun r w' hq => ⟨?_, hq.2⟩) (h_dearest ha hS hIP (nI a) (nI s))
  rw [hq.1, idx_nI (show s < 2 ^ 31 by omega), idx_nI (show a < 2 ^ 31 by omega)]
  cases hd : (dstF L pr s a (mrF L (priF P L pr s 5)) 6) with
  | none => rw [cdD_3 (cdA_ok h6 h1 hs1 hs2)]; rfl
  | some b => rw [cdD_0 (cdA_ok h6 h1 hs1 hs2)]; rfl
end CleanQ
