/-! THE LAW'S ROUNDS, pure: answers below 0, rows with a new line, orders, marks -/
section LawP
variable {G : Gx} {w w' : Wd} {K : Nat → ClassId}
theorem hv_0 {α : Type} {cs : List α} {v : α} {cd : Nat} (h : cd = 0) : hv cd cs v = v := by rw [h]; rfl
theorem hv_neg {cd : Nat} {cs : List Int32} {v : Int32} (h : cd ≠ 0) (hl : cd ≤ cs.length) (hc : ∀ x ∈ cs, x < 0) : hv cd cs v < 0 := by
  obtain ⟨k, rfl⟩ : ∃ k, cd = k + 1 := ⟨cd - 1, by omega⟩
  exact hc _ (getD_mem (show k < cs.length by omega))
theorem lt_neg {n : Nat} {t : Int32} (hn : n < 2 ^ 31) (h : t < 0) : ¬ nI n < t := by
  intro h1
  rw [Int32.lt_iff_toInt_lt] at h h1
  rw [nI_toInt hn] at h1
  have e : (0 : Int32).toInt = 0 := by decide
  omega
theorem inP_lt {p n : Nat} (hp : p < 2 ^ 31) (hn : n < 2 ^ 31) (h : inP (nI p) n = true) : p < n := by
  have h1 := inP_i hn h
  rwa [idx_nI hp] at h1
theorem btw_nn {x a b : Nat} (hx : x < 2 ^ 31) (ha : a < 2 ^ 31) (hb : b < 2 ^ 31) (h : btw (nI x) (nI a) (nI b) = true) : a ≤ x ∧ x ≤ b := by
  have h1 := btw_i ha hb h
  rwa [idx_nI hx] at h1
theorem cut_iv {L : LSt} {j s : Nat} (hf : fi L j < 2 ^ 31) (hl : la L j < 2 ^ 31) (hs : s < 2 ^ 31) (h : cutOK L j (nI s) = true) : fi L j < s ∧ s ≤ la L j := by
  rw [cutOK, Bool.and_eq_true, decide_eq_true_eq, decide_eq_true_eq] at h
  exact ⟨(nI_ltI hf hs).mp h.1, (nI_leI hs hl).mp h.2⟩
section Rows
variable {n a0 a1 a2 a3 a4 : Nat} {f1 f2 f3 f4 g1 g2 g3 g4 : Nat → Int32} {P : PSt} {L L' : LSt} {pr : Nat → Nat} {O : OSt} {mp : Nat} {mk : Nat → UInt32}
theorem ST.w4 {e1 e2 e3 e4 : va_E} (h : ST n K w P L pr O mp mk) (hc : w.2.1 = 43) : ST n K (setM (setM (setM (setM w 39 e1) 40 e2) 41 e3) 42 e4) P L pr O mp mk :=
  h.low (fun i hi => ⟨rfl, (setM_ne (by omega)).trans ((setM_ne (by omega)).trans ((setM_ne (by omega)).trans (setM_ne (by omega))))⟩) (by show 39 ≤ w.2.1; omega)
theorem LR.w4 (h : LR 43 K w a0 a1 a2 a3 a4 f1 f2 f3 f4) : LR 43 K (setM (setM (setM (setM w 39 (aI K 40 g1)) 40 (aI K 40 g2)) 41 (aI K 40 g3)) 42 (aI K 40 g4)) a0 a1 a2 a3 a4 g1 g2 g3 g4 :=
  ⟨h.1, h.e0, h.e1, h.e2, h.e3, h.e4, ⟨h.m1.1, rfl⟩, ⟨h.m2.1, rfl⟩, ⟨h.m3.1, rfl⟩, ⟨h.m4.1, rfl⟩⟩
theorem AG.new {p k c q : Nat} (hag : AG L f1 f2 f3 f4) (hln : ln L' = ln L + 1) (hpa : pa L' = va_up (pa L) (ln L) p) (hpo : po L' = va_up (po L) (ln L) k) (hch : ch L' = va_up (ch L) (ln L) c) (hqt : qt L' = va_up (qt L) (ln L) q) :
    AG L' (va_up f1 (ln L) (nI p)) (va_up f2 (ln L) (nI k)) (va_up f3 (ln L) (nI c)) (va_up f4 (ln L) (nI q)) := by
  intro l hl
  rw [hpa, hpo, hch, hqt]
  by_cases e : l = ln L
  · subst e
    refine ⟨?_, ?_, ?_, ?_⟩ <;> rw [va_up_self, va_up_self]
  · rw [va_up_ne _ _ e, va_up_ne _ _ e, va_up_ne _ _ e, va_up_ne _ _ e, va_up_ne _ _ e, va_up_ne _ _ e, va_up_ne _ _ e, va_up_ne _ _ e]
    exact hag l (by omega)
end Rows
/-! orders -/
theorem need_le {L : LSt} {O : OSt} {c B : Nat} : ∀ {n : Nat}, (∀ k, k < n → O.2.2.2.1 k * hasN L (O.2.2.2.2.1 k) (O.2.2.1 k) 5 (O.2.1 k) c ≤ B) → needN L O c n ≤ n * B
  | 0, _ => Nat.zero_le _
  | n + 1, h => by
    have h1 := need_le (n := n) (fun k hk => h k (by omega))
    have h2 := h n (by omega)
    rw [needN, Nat.succ_mul]
    cases O.2.2.2.2.2 n with
    | true => exact Nat.add_le_add h1 (Nat.zero_le _)
    | false => exact Nat.add_le_add h1 h2
theorem need_63 {np : Nat} {L : LSt} {O : OSt} {c : Nat} (hI : LI np L) (hO : OI np O) : needN L O c O.1 < 2 ^ 63 := by
  have h1 := need_le (L := L) (O := O) (c := c) (B := 999 * 120 ^ 5) (n := O.1) (fun k hk => Nat.mul_le_mul (hO.2.1 k hk).2.2.1.2 (hasN_le hI 5 _ c))
  have h2 : O.1 * (999 * 120 ^ 5) ≤ 8 * (999 * 120 ^ 5) := Nat.mul_le_mul_right _ hO.1
  exact Nat.lt_of_le_of_lt (Nat.le_trans h1 h2) (by decide)
/-! marks -/
theorem fsub_z {x : UInt32} (h : Z32 120 234 x) : FP.fsub x x = FP.fconst0 := by
  obtain ⟨d, r, hd, -⟩ := ft_zd_of ft_gd32 h (by decide) (by decide) (by decide)
  exact FP.Core.fsub_self (s := false) (c := d) (q := r) hd
theorem fcmp_00 : Op.cmpValue (FP.fcmp FP.fconst0 FP.fconst0) CmpOp.l = 0 := by decide +kernel
theorem q_chg {P : PSt} {L : LSt} {pr : Nat → Nat} {O : OSt} {a0 s nn : Nat} (ha : w.1 0 = a0) (hS : ST nn G.2.2.1 w P L pr O P.1 (fun x => priF P L pr s 5 x)) (hIP : IP P L pr O P.1 (fun x => priF P L pr s 5 x) []) (h6 : P.1 = 6) {a : Nat} (h1 : a < 6) (hs1 : 1 ≤ s) (hs2 : s ≤ 999) : XC G mL_costChange 8 4 24 [.ref a0, .int (nI a), .int (nI s)] w (fun r w' => r = .inl (some (.float FP.fconst0)) ∧ ST nn G.2.2.1 w' P L pr O P.1 (fun x => priF P L pr s 5 x) ∧ FX w w') := by
  have hcd : cdH (nI a) (nI s) P.1 P.1 = 0 := by
    rw [cdH, if_pos (cdA_ok h6 h1 hs1 hs2), idx_nI (show a < 2 ^ 31 by omega), if_pos (by omega)]
  refine XC.mono (fun r w' hq => ⟨?_, hq.2⟩) (h_costChange ha hS hIP (nI a) (nI s))
  rw [hq.1, hcd, idx_nI (show s < 2 ^ 31 by omega), idx_nI (show a < 2 ^ 31 by omega)]
  show (.inl (some (.float (FP.fsub (priF P L pr s 5 a) (priF P L pr s 5 a)))) : XRes) = _
  rw [fsub_z (pri5_z hIP.2.2.1.1 rfl hIP.1 (by omega))]
end LawP
