/-! LISTS of a part that is not there (walks by gen/spec66.py) -/
section ListF
variable {G : Gx} {w : Wd}
theorem lK_nil {α : Type} {g : Nat → List α} : ∀ {n : Nat}, (∀ k, k < n → g (k + 1) = []) → lK g n = []
  | 0, _ => rfl
  | n + 1, h => by
    rw [lK, lK_nil (fun k hk => h k (by omega)), h n (by omega)]; rfl
/-- no line holds at such a serial number -/
theorem listN_no {np : Nat} {kd : Nat → Nat} {L : LSt} {pr : Nat → Nat} {s p : Nat} (hI : LI np L) (hs : s = 0 ∨ 1000 ≤ s) : listN kd L pr s 5 p 1 = [] := by
  rw [listN]
  refine lK_nil (fun k _ => ?_)
  show oL _ (lnAt L pr s p (k + 1)) = []
  cases hx : lnAt L pr s p (k + 1) with
  | none => rfl
  | some j =>
    obtain ⟨h1, h2, -, -⟩ := lnAt_some hx
    have hb := (hI.2.2 j h1).2.2.2.2.2.1
    simp only [hld, Bool.and_eq_true, decide_eq_true_eq] at h2
    omega
theorem idx_out {s : Int32} (h : btw s 1 999 = false) : idx s = 0 ∨ 1000 ≤ idx s := by
  by_cases h1 : 1 ≤ idx s ∧ idx s ≤ 999
  · exfalso
    have e : s.toInt = (idx s : Int) := by
      have : (idx s : Int) = max s.toInt 0 := by
        show ((s.toInt.toNat : Nat) : Int) = _
        omega
      omega
    have g1 : (1 : Int32) ≤ s := by rw [Int32.le_iff_toInt_le, e]; show (1 : Int) ≤ _; omega
    have g2 : s ≤ (999 : Int32) := by rw [Int32.le_iff_toInt_le, e]; show _ ≤ (999 : Int); omega
    rw [btw, decide_eq_true g1, decide_eq_true g2] at h
    cases h
  · omega
set_option maxRecDepth 20000 in
theorem c_mkList_f {gc gs mp cf : Nat} {P : PSt} (h1 : 1 ≤ gc) (h6 : 6 ≤ gs) (h0 : X0 w mp cf) (hB : XB w) (hP : XP G.2.2.1 w P) (a s : Int32) (hf : inP a P.1 = false) : XC G mX10_makeDirectList 8 gc gs [.ref (w.1 0), .int a, .int s] w (fun r w' => r = .inr eIOB ∧ w' = w) := by
  refine XC.of (lo0 := [(0, .ref (w.1 0)), (1, .int a), (2, .int s)]) kmX10_makeDirectList (Nat.le_of_ble_eq_true rfl) rfl ?_
  refine X_aload_n dX10_makeDirectList_0 (i := 0) rfl rfl ?_
  refine X_iload_n dX10_makeDirectList_1 (i := 1) rfl rfl ?_
  refine X_callV (gc2 := gc - 1) (gs2 := gs - 6) (c_checkPart a h0 hB hP) (i := 0) h0 rfl rfl kmX10_checkPart rfl lX10_100 iX10_checkPart vX10_checkPart rfl rfl (Nat.le_of_ble_eq_true rfl) (by decide) dX10_makeDirectList_2 (by omega) (by omega) (fun E w1 hq => XT.out rfl (by
      have hv := hq.1
      obtain rfl := hq.2.symm
      obtain ⟨e1, rfl⟩ := rOK_inr hv
      exact ⟨rfl, rfl⟩)) (fun v w1 hq => ?_)
  exact absurd (rOK_inl hq.1).1 (by rw [hf]; decide)
set_option maxRecDepth 20000 in
theorem c_listSize_f {gc gs mp cf : Nat} {P : PSt} (h1 : 1 ≤ gc) (h6 : 6 ≤ gs) (h0 : X0 w mp cf) (hB : XB w) (hP : XP G.2.2.1 w P) (a s : Int32) (hf : inP a P.1 = false) : XC G mX10_listSize 9 gc gs [.ref (w.1 0), .int a, .int s] w (fun r w' => r = .inr eIOB ∧ w' = w) := by
  refine XC.of (lo0 := [(0, .ref (w.1 0)), (1, .int a), (2, .int s)]) kmX10_listSize (Nat.le_of_ble_eq_true rfl) rfl ?_
  refine X_aload_n dX10_listSize_0 (i := 0) rfl rfl ?_
  refine X_iload_n dX10_listSize_1 (i := 1) rfl rfl ?_
  refine X_iload_n dX10_listSize_2 (i := 2) rfl rfl ?_
  refine X_callV (gc2 := 0) (gs2 := 0) (c_mkList_f h1 h6 h0 hB hP a s hf) (i := 0) h0 rfl rfl kmX10_makeDirectList rfl lX10_202 iX10_makeDirectList vX10_makeDirectList rfl rfl (Nat.le_of_ble_eq_true rfl) (by decide) dX10_listSize_3 (by omega) (by omega) (fun E w1 hq => XT.out rfl hq) (fun v w1 hq => ?_)
  exact nomatch hq.1
set_option maxRecDepth 20000 in
theorem c_listPart_f {gc gs mp cf : Nat} {P : PSt} (h1 : 1 ≤ gc) (h6 : 6 ≤ gs) (h0 : X0 w mp cf) (hB : XB w) (hP : XP G.2.2.1 w P) (a s i : Int32) (hf : inP a P.1 = false) : XC G mX10_listPart 9 gc gs [.ref (w.1 0), .int a, .int s, .int i] w (fun r w' => r = .inr eIOB ∧ w' = w) := by
  refine XC.of (lo0 := [(0, .ref (w.1 0)), (1, .int a), (2, .int s), (3, .int i)]) kmX10_listPart (Nat.le_of_ble_eq_true rfl) rfl ?_
  refine X_aload_n dX10_listPart_0 (i := 0) rfl rfl ?_
  refine X_iload_n dX10_listPart_1 (i := 1) rfl rfl ?_
  refine X_iload_n dX10_listPart_2 (i := 2) rfl rfl ?_
  refine X_callV (gc2 := 0) (gs2 := 0) (c_mkList_f h1 h6 h0 hB hP a s hf) (i := 0) h0 rfl rfl kmX10_makeDirectList rfl lX10_202 iX10_makeDirectList vX10_makeDirectList rfl rfl (Nat.le_of_ble_eq_true rfl) (by decide) dX10_listPart_3 (by omega) (by omega) (fun E w1 hq => XT.out rfl hq) (fun v w1 hq => ?_)
  exact nomatch hq.1
set_option maxRecDepth 20000 in
theorem c_listQuantity_f {gc gs mp cf : Nat} {P : PSt} (h1 : 1 ≤ gc) (h6 : 6 ≤ gs) (h0 : X0 w mp cf) (hB : XB w) (hP : XP G.2.2.1 w P) (a s i : Int32) (hf : inP a P.1 = false) : XC G mX10_listQuantity 9 gc gs [.ref (w.1 0), .int a, .int s, .int i] w (fun r w' => r = .inr eIOB ∧ w' = w) := by
  refine XC.of (lo0 := [(0, .ref (w.1 0)), (1, .int a), (2, .int s), (3, .int i)]) kmX10_listQuantity (Nat.le_of_ble_eq_true rfl) rfl ?_
  refine X_aload_n dX10_listQuantity_0 (i := 0) rfl rfl ?_
  refine X_iload_n dX10_listQuantity_1 (i := 1) rfl rfl ?_
  refine X_iload_n dX10_listQuantity_2 (i := 2) rfl rfl ?_
  refine X_callV (gc2 := 0) (gs2 := 0) (c_mkList_f h1 h6 h0 hB hP a s hf) (i := 0) h0 rfl rfl kmX10_makeDirectList rfl lX10_202 iX10_makeDirectList vX10_makeDirectList rfl rfl (Nat.le_of_ble_eq_true rfl) (by decide) dX10_listQuantity_3 (by omega) (by omega) (fun E w1 hq => XT.out rfl hq) (fun v w1 hq => ?_)
  exact nomatch hq.1
end ListF
