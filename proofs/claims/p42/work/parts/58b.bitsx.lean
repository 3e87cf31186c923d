/-! BITS, the walked cost, the dearest line of the class (walks by gen/spec58.py) -/
section BitsX
variable {G : Gx} {w : Wd}
set_option maxRecDepth 20000 in
theorem c_ofFloat (x : UInt32) (hx : Z32 120 234 x) : XC G mX1_ofFloat 0 0 0 [.float x] w (fun r w' => r = .inl (some (.int (x.toInt32))) ∧ w' = w) := by
  refine XC.of (lo0 := [(0, .float x)]) kmX1_ofFloat (Nat.le_of_ble_eq_true rfl) rfl ?_
  have hgo : ∀ (E t : Nat), x.toNat = E * 8388608 + t → t < 8388608 → 120 ≤ E → E ≤ 234 → XJ G mX1_ofFloat 0 0 0 13 [(0, .float x), (1, .int (nI 127)), (2, .float x)] [] w (fun r w' => r = .inl (some (.int (x.toInt32))) ∧ w' = w) := by
    intro E t hE ht hE1 hE2
    have hloop : ∀ (n : Nat) (e n0 : Nat) (y : UInt32), e < n → y.toNat = e * 8388608 + t → n0 + e = E + 127 → 1 ≤ e → 127 ≤ n0 → XJ G mX1_ofFloat 0 0 0 13 [(0, .float x), (1, .int (nI n0)), (2, .float y)] [] w (fun r w' => r = .inl (some (.int (x.toInt32))) ∧ w' = w) := by
      intro n
      induction n with
      | zero => intro e n0 y hm hy hn h1 hn2; exact absurd hm (Nat.not_lt_zero _)
      | succ n ih =>
        intro e n0 y hm hy hn h1 hn2
        refine X_fload_n dX1_ofFloat_13 (i := 2) rfl rfl ?_
        refine X_fconst2 dX1_ofFloat_14 ?_
        refine XJ.top (v' := .float 0x40000000) rfl ?_
        have hc1 := ft_cmp32 hy ht h1 (show e ≤ 254 by omega) (y := 0x40000000) (F := 128) (by decide) (by decide) (by decide)
        refine X_fcmp dX1_ofFloat_15 ?_
        refine X_if_lt (tgt := 36) dX1_ofFloat_16 (by decide) (fun c1 => ?_) (fun c1 => ?_)
        · have h5 : e < 128 := cv_lt.mp (show Op.cmpValue (some (if e < 128 then Ordering.lt else if e = 128 ∧ t = 0 then Ordering.eq else Ordering.gt)) CmpOp.l < 0 from hc1 ▸ c1)
          have hl2 : ∀ (n : Nat) (e n0 : Nat) (y : UInt32), 127 - e < n → y.toNat = e * 8388608 + t → n0 + e = E + 127 → e ≤ 127 → 1 ≤ e → XJ G mX1_ofFloat 0 0 0 36 [(0, .float x), (1, .int (nI n0)), (2, .float y)] [] w (fun r w' => r = .inl (some (.int (x.toInt32))) ∧ w' = w) := by
            intro n
            induction n with
            | zero => intro e n0 y hm hy hn h127 h1; exact absurd hm (Nat.not_lt_zero _)
            | succ n ih =>
              intro e n0 y hm hy hn h127 h1
              refine X_fload_n dX1_ofFloat_36 (i := 2) rfl rfl ?_
              refine X_fconst1 dX1_ofFloat_37 ?_
              refine XJ.top (v' := .float 0x3f800000) rfl ?_
              have hc1 := ft_cmp32 hy ht h1 (show e ≤ 254 by omega) (y := 0x3f800000) (F := 127) (by decide) (by decide) (by decide)
              skip
              refine X_fcmp dX1_ofFloat_38 ?_
              refine X_if_ge (tgt := 57) dX1_ofFloat_39 (by decide) (fun c1 => ?_) (fun c1 => ?_)
              · have h5 : e = 127 := by have := (not_congr cv_lt).mp (show ¬ Op.cmpValue (some (if e < 127 then Ordering.lt else if e = 127 ∧ t = 0 then Ordering.eq else Ordering.gt)) CmpOp.g < 0 from hc1 ▸ Int32.not_lt.mpr c1); omega
                refine X_iload_n dX1_ofFloat_57 (i := 1) rfl rfl ?_
                refine X_bipush (v := 23) dX1_ofFloat_58 (by decide) ?_
                refine X_ishl dX1_ofFloat_60 ?_
                refine X_fload_n dX1_ofFloat_61 (i := 2) rfl rfl ?_
                refine X_fconst1 dX1_ofFloat_62 ?_
                refine XJ.top (v' := .float 0x3f800000) rfl ?_
                refine X_fsub dX1_ofFloat_63 (ft_tov (ft_frac32 (show y.toNat = 127 * 8388608 + t by rw [hy, show e = 127 by omega]) ht).1) ?_
                refine X_ldcf dX1_ofFloat_64 kX1_7 ?_
                refine X_fmul dX1_ofFloat_66 (ft_tov (ft_frac32 (show y.toNat = 127 * 8388608 + t by rw [hy, show e = 127 by omega]) ht).2.1) ?_
                refine X_f2i dX1_ofFloat_67 ?_
                refine X_ior dX1_ofFloat_68 ?_
                refine X_ireturn dX1_ofFloat_69 rfl rfl ?_
                exact ⟨rI (by rw [show n0 = E by omega, (ft_frac32 (show y.toNat = 127 * 8388608 + t by rw [hy, show e = 127 by omega]) ht).2.2]; exact bits32 hE ht (by omega)), rfl⟩
              · have h5 : e < 127 := cv_lt.mp (show Op.cmpValue (some (if e < 127 then Ordering.lt else if e = 127 ∧ t = 0 then Ordering.eq else Ordering.gt)) CmpOp.g < 0 from hc1 ▸ Int32.not_le.mp c1)
                refine X_iload_n dX1_ofFloat_42 (i := 1) rfl rfl ?_
                refine X_iconst (v := 1) dX1_ofFloat_43 (by decide) ?_
                refine X_icmp_le (tgt := 57) dX1_ofFloat_44 (by decide) (fun c2 => ?_) (fun c2 => ?_)
                · exact absurd c2 (by rw [Int32.le_iff_toInt_le, nI_toInt (by omega)]; show ¬ (n0 : Int) ≤ 1; omega)
                · refine X_fload_n dX1_ofFloat_47 (i := 2) rfl rfl ?_
                  refine X_fconst2 dX1_ofFloat_48 ?_
                  refine XJ.top (v' := .float 0x40000000) rfl ?_
                  refine X_fmul dX1_ofFloat_49 (ft_tov (ft_le32 (by rw [ft_twice32 hy ht h1 (by omega)]; omega))) ?_
                  refine X_fstore_n (i := 2) (lo' := [(2, _), (0, _), (1, _)]) dX1_ofFloat_50 rfl (by decide) rfl ?_
                  refine X_iinc (i := 1) (v := nI (n0 - 1)) (lo' := [(1, _), (2, _), (0, _)]) dX1_ofFloat_51 rfl (by obtain ⟨k, rfl⟩ : ∃ k, n0 = k + 1 := ⟨n0 - 1, by omega⟩; exact nI_dec k) (by decide) rfl ?_
                  refine X_goto (tgt := 36) dX1_ofFloat_54 (by decide) ?_
                  exact XJ.lcs (lo' := [(0, .float x), (1, .int (nI (n0 - 1))), (2, .float (FP.fmul y 0x40000000))]) ⟨rfl, rfl, rfl, trivial⟩ (ih (e + 1) (n0 - 1) _ (by omega) (ft_twice32 hy ht h1 (by omega)) (by omega) (by omega) (by omega))
          exact XJ.lcs (lo' := [(0, .float x), (1, .int (nI n0)), (2, .float y)]) ⟨rfl, rfl, rfl, trivial⟩ (hl2 (127 - e + 1) e n0 y (by omega) hy hn (by omega) (by omega))
        · have h5 : 128 ≤ e := by have := (not_congr cv_lt).mp (show ¬ Op.cmpValue (some (if e < 128 then Ordering.lt else if e = 128 ∧ t = 0 then Ordering.eq else Ordering.gt)) CmpOp.l < 0 from hc1 ▸ c1); omega
          refine X_iload_n dX1_ofFloat_19 (i := 1) rfl rfl ?_
          refine X_sipush (v := 254) dX1_ofFloat_20 (by decide) ?_
          refine X_icmp_ge (tgt := 36) dX1_ofFloat_23 (by decide) (fun c2 => ?_) (fun c2 => ?_)
          · exact absurd c2 (by rw [Int32.le_iff_toInt_le, nI_toInt (by omega)]; show ¬ (254 : Int) ≤ n0; omega)
          · refine X_fload_n dX1_ofFloat_26 (i := 2) rfl rfl ?_
            refine X_fconst2 dX1_ofFloat_27 ?_
            refine XJ.top (v' := .float 0x40000000) rfl ?_
            refine X_fdiv dX1_ofFloat_28 (ft_tov (ft_le32 (by rw [ft_half32 hy ht (by omega) (by omega)]; omega))) ?_
            refine X_fstore_n (i := 2) (lo' := [(2, _), (0, _), (1, _)]) dX1_ofFloat_29 rfl (by decide) rfl ?_
            refine X_iinc (i := 1) (v := nI (n0 + 1)) (lo' := [(1, _), (2, _), (0, _)]) dX1_ofFloat_30 rfl (nI_inc n0) (by decide) rfl ?_
            refine X_goto (tgt := 13) dX1_ofFloat_33 (by decide) ?_
            exact XJ.lcs (lo' := [(0, .float x), (1, .int (nI (n0 + 1))), (2, .float (FP.fdiv y 0x40000000))]) ⟨rfl, rfl, rfl, trivial⟩ (ih (e - 1) (n0 + 1) _ (by omega) (ft_half32 hy ht (by omega) (by omega)) (by omega) (by omega) (by omega))
    exact hloop (E + 1) E 127 x (by omega) hE (by omega) (by omega) (by omega)
  refine X_fload_n dX1_ofFloat_0 (i := 0) rfl rfl ?_
  refine X_fconst0 dX1_ofFloat_1 ?_
  refine XJ.top (v' := .float 0) rfl ?_
  refine X_fcmp dX1_ofFloat_2 ?_
  refine X_if_gt (tgt := 8) dX1_ofFloat_3 (by decide) (fun c0 => ?_) (fun c0 => ?_)
  · have hx0 : x ≠ 0 := fun h => absurd c0 (by rw [h, show FP.fcmp 0 0 = some .eq from ft_cmp0_32]; decide)
    obtain ⟨E, t, hE, ht, hE1, hE2⟩ := z32_E hx hx0
    refine X_bipush (v := 127) dX1_ofFloat_8 (by decide) ?_
    refine X_istore_n (i := 1) (lo' := [(1, _), (0, _)]) dX1_ofFloat_10 rfl (by decide) rfl ?_
    refine X_fload_n dX1_ofFloat_11 (i := 0) rfl rfl ?_
    refine X_fstore_n (i := 2) (lo' := [(2, _), (1, _), (0, _)]) dX1_ofFloat_12 rfl (by decide) rfl ?_
    exact XJ.lcs (lo' := [(0, .float x), (1, .int (nI 127)), (2, .float x)]) ⟨rfl, rfl, rfl, trivial⟩ (hgo E t hE ht hE1 hE2)
  · have hx0 : x = 0 := Classical.byContradiction (fun hx0 => by obtain ⟨E, t, hE, ht, hE1, hE2⟩ := z32_E hx hx0; exact c0 (by rw [show FP.fcmp x 0 = some .gt from ft_cmpz32 hE ht (by omega) (by omega)]; decide))
    refine X_iconst (v := 0) dX1_ofFloat_6 (by decide) ?_
    refine X_ireturn dX1_ofFloat_7 rfl rfl ?_
    exact ⟨rI (by rw [hx0]; rfl), rfl⟩
set_option maxRecDepth 20000 in
theorem c_ofDouble (x : UInt64) (hx : Z64 1013 1127 x) : XC G mX1_ofDouble 0 0 0 [.double x] w (fun r w' => r = .inl (some (.long x.toInt64)) ∧ w' = w) := by
  refine XC.of (lo0 := [(0, .double x)]) kmX1_ofDouble (Nat.le_of_ble_eq_true rfl) rfl ?_
  have hgo : ∀ (E t : Nat), x.toNat = E * 4503599627370496 + t → t < 4503599627370496 → 1013 ≤ E → E ≤ 1127 → XJ G mX1_ofDouble 0 0 0 14 [(0, .double x), (2, .int (nI 1023)), (3, .double x)] [] w (fun r w' => r = .inl (some (.long x.toInt64)) ∧ w' = w) := by
    intro E t hE ht hE1 hE2
    have hloop : ∀ (n : Nat) (e n0 : Nat) (y : UInt64), e < n → y.toNat = e * 4503599627370496 + t → n0 + e = E + 1023 → 1 ≤ e → 1023 ≤ n0 → XJ G mX1_ofDouble 0 0 0 14 [(0, .double x), (2, .int (nI n0)), (3, .double y)] [] w (fun r w' => r = .inl (some (.long x.toInt64)) ∧ w' = w) := by
      intro n
      induction n with
      | zero => intro e n0 y hm hy hn h1 hn2; exact absurd hm (Nat.not_lt_zero _)
      | succ n ih =>
        intro e n0 y hm hy hn h1 hn2
        refine X_dload_n dX1_ofDouble_14 (i := 3) rfl rfl ?_
        refine X_ldc2d dX1_ofDouble_15 kX1_8 ?_
        have hc1 := ft_cmp64 hy ht h1 (show e ≤ 2046 by omega) (y := 0x4000000000000000) (F := 1024) (by decide) (by decide) (by decide)
        refine X_dcmp dX1_ofDouble_18 ?_
        refine X_if_lt (tgt := 41) dX1_ofDouble_19 (by decide) (fun c1 => ?_) (fun c1 => ?_)
        · have h5 : e < 1024 := cv_lt.mp (show Op.cmpValue (some (if e < 1024 then Ordering.lt else if e = 1024 ∧ t = 0 then Ordering.eq else Ordering.gt)) CmpOp.l < 0 from hc1 ▸ c1)
          have hl2 : ∀ (n : Nat) (e n0 : Nat) (y : UInt64), 1023 - e < n → y.toNat = e * 4503599627370496 + t → n0 + e = E + 1023 → e ≤ 1023 → 1 ≤ e → XJ G mX1_ofDouble 0 0 0 41 [(0, .double x), (2, .int (nI n0)), (3, .double y)] [] w (fun r w' => r = .inl (some (.long x.toInt64)) ∧ w' = w) := by
            intro n
            induction n with
            | zero => intro e n0 y hm hy hn h127 h1; exact absurd hm (Nat.not_lt_zero _)
            | succ n ih =>
              intro e n0 y hm hy hn h127 h1
              refine X_dload_n dX1_ofDouble_41 (i := 3) rfl rfl ?_
              refine X_dconst1 dX1_ofDouble_42 ?_
              refine XJ.top (v' := .double 0x3ff0000000000000) rfl ?_
              have hc1 := ft_cmp64 hy ht h1 (show e ≤ 2046 by omega) (y := 0x3ff0000000000000) (F := 1023) (by decide) (by decide) (by decide)
              refine X_dcmp dX1_ofDouble_43 ?_
              refine X_if_ge (tgt := 64) dX1_ofDouble_44 (by decide) (fun c1 => ?_) (fun c1 => ?_)
              · have h5 : e = 1023 := by have := (not_congr cv_lt).mp (show ¬ Op.cmpValue (some (if e < 1023 then Ordering.lt else if e = 1023 ∧ t = 0 then Ordering.eq else Ordering.gt)) CmpOp.g < 0 from hc1 ▸ Int32.not_lt.mpr c1); omega
                refine X_iload_n dX1_ofDouble_64 (i := 2) rfl rfl ?_
                refine X_i2l dX1_ofDouble_65 rfl ?_
                refine X_bipush (v := 52) dX1_ofDouble_66 (by decide) ?_
                refine X_lshl dX1_ofDouble_68 rfl ?_
                refine X_dload_n dX1_ofDouble_69 (i := 3) rfl rfl ?_
                refine X_dconst1 dX1_ofDouble_70 ?_
                refine XJ.top (v' := .double 0x3ff0000000000000) rfl ?_
                refine X_dsub dX1_ofDouble_71 (ft_tovd (ft_frac64 (show y.toNat = 1023 * 4503599627370496 + t by rw [hy, show e = 1023 by omega]) ht).1) ?_
                refine X_ldc2d dX1_ofDouble_72 kX1_10 ?_
                refine X_dmul dX1_ofDouble_75 (ft_tovd (ft_frac64 (show y.toNat = 1023 * 4503599627370496 + t by rw [hy, show e = 1023 by omega]) ht).2.1) ?_
                refine X_d2l dX1_ofDouble_76 ?_
                refine X_lor dX1_ofDouble_77 ?_
                refine X_lreturn dX1_ofDouble_78 rfl ?_
                exact ⟨rL (by rw [show n0 = E by omega, (ft_frac64 (show y.toNat = 1023 * 4503599627370496 + t by rw [hy, show e = 1023 by omega]) ht).2.2]; exact bits64 hE ht (by omega)), rfl⟩
              · have h5 : e < 1023 := cv_lt.mp (show Op.cmpValue (some (if e < 1023 then Ordering.lt else if e = 1023 ∧ t = 0 then Ordering.eq else Ordering.gt)) CmpOp.g < 0 from hc1 ▸ Int32.not_le.mp c1)
                refine X_iload_n dX1_ofDouble_47 (i := 2) rfl rfl ?_
                refine X_iconst (v := 1) dX1_ofDouble_48 (by decide) ?_
                refine X_icmp_le (tgt := 64) dX1_ofDouble_49 (by decide) (fun c2 => ?_) (fun c2 => ?_)
                · exact absurd c2 (by rw [Int32.le_iff_toInt_le, nI_toInt (by omega)]; show ¬ (n0 : Int) ≤ 1; omega)
                · refine X_dload_n dX1_ofDouble_52 (i := 3) rfl rfl ?_
                  refine X_ldc2d dX1_ofDouble_53 kX1_8 ?_
                  refine X_dmul dX1_ofDouble_56 (ft_tovd (ft_le64 (by rw [ft_twice64 hy ht h1 (by omega)]; omega))) ?_
                  refine X_dstore_n (i := 3) (lo' := [(3, _), (0, _), (2, _)]) dX1_ofDouble_57 rfl (by decide) rfl ?_
                  refine X_iinc (i := 2) (v := nI (n0 - 1)) (lo' := [(2, _), (3, _), (0, _)]) dX1_ofDouble_58 rfl (by obtain ⟨k, rfl⟩ : ∃ k, n0 = k + 1 := ⟨n0 - 1, by omega⟩; exact nI_dec k) (by decide) rfl ?_
                  refine X_goto (tgt := 41) dX1_ofDouble_61 (by decide) ?_
                  exact XJ.lcs (lo' := [(0, .double x), (2, .int (nI (n0 - 1))), (3, .double (FP.dmul y 0x4000000000000000))]) ⟨rfl, rfl, rfl, trivial⟩ (ih (e + 1) (n0 - 1) _ (by omega) (ft_twice64 hy ht h1 (by omega)) (by omega) (by omega) (by omega))
          exact XJ.lcs (lo' := [(0, .double x), (2, .int (nI n0)), (3, .double y)]) ⟨rfl, rfl, rfl, trivial⟩ (hl2 (1023 - e + 1) e n0 y (by omega) hy hn (by omega) (by omega))
        · have h5 : 1024 ≤ e := by have := (not_congr cv_lt).mp (show ¬ Op.cmpValue (some (if e < 1024 then Ordering.lt else if e = 1024 ∧ t = 0 then Ordering.eq else Ordering.gt)) CmpOp.l < 0 from hc1 ▸ c1); omega
          refine X_iload_n dX1_ofDouble_22 (i := 2) rfl rfl ?_
          refine X_sipush (v := 2046) dX1_ofDouble_23 (by decide) ?_
          refine X_icmp_ge (tgt := 41) dX1_ofDouble_26 (by decide) (fun c2 => ?_) (fun c2 => ?_)
          · exact absurd c2 (by rw [Int32.le_iff_toInt_le, nI_toInt (by omega)]; show ¬ (2046 : Int) ≤ n0; omega)
          · refine X_dload_n dX1_ofDouble_29 (i := 3) rfl rfl ?_
            refine X_ldc2d dX1_ofDouble_30 kX1_8 ?_
            refine X_ddiv dX1_ofDouble_33 (ft_tovd (ft_le64 (by rw [ft_half64 hy ht (by omega) (by omega)]; omega))) ?_
            refine X_dstore_n (i := 3) (lo' := [(3, _), (0, _), (2, _)]) dX1_ofDouble_34 rfl (by decide) rfl ?_
            refine X_iinc (i := 2) (v := nI (n0 + 1)) (lo' := [(2, _), (3, _), (0, _)]) dX1_ofDouble_35 rfl (nI_inc n0) (by decide) rfl ?_
            refine X_goto (tgt := 14) dX1_ofDouble_38 (by decide) ?_
            exact XJ.lcs (lo' := [(0, .double x), (2, .int (nI (n0 + 1))), (3, .double (FP.ddiv y 0x4000000000000000))]) ⟨rfl, rfl, rfl, trivial⟩ (ih (e - 1) (n0 + 1) _ (by omega) (ft_half64 hy ht (by omega) (by omega)) (by omega) (by omega) (by omega))
    exact hloop (E + 1) E 1023 x (by omega) hE (by omega) (by omega) (by omega)
  refine X_dload_n dX1_ofDouble_0 (i := 0) rfl rfl ?_
  refine X_dconst0 dX1_ofDouble_1 ?_
  refine XJ.top (v' := .double 0) rfl ?_
  refine X_dcmp dX1_ofDouble_2 ?_
  refine X_if_gt (tgt := 8) dX1_ofDouble_3 (by decide) (fun c0 => ?_) (fun c0 => ?_)
  · have hx0 : x ≠ 0 := fun h => absurd c0 (by rw [h, show FP.dcmp 0 0 = some .eq from ft_cmp0_64]; decide)
    obtain ⟨E, t, hE, ht, hE1, hE2⟩ := z64_E hx hx0
    refine X_sipush (v := 1023) dX1_ofDouble_8 (by decide) ?_
    refine X_istore_n (i := 2) (lo' := [(2, _), (0, _)]) dX1_ofDouble_11 rfl (by decide) rfl ?_
    refine X_dload_n dX1_ofDouble_12 (i := 0) rfl rfl ?_
    refine X_dstore_n (i := 3) (lo' := [(3, _), (2, _), (0, _)]) dX1_ofDouble_13 rfl (by decide) rfl ?_
    exact XJ.lcs (lo' := [(0, .double x), (2, .int (nI 1023)), (3, .double x)]) ⟨rfl, rfl, rfl, trivial⟩ (hgo E t hE ht hE1 hE2)
  · have hx0 : x = 0 := Classical.byContradiction (fun hx0 => by obtain ⟨E, t, hE, ht, hE1, hE2⟩ := z64_E hx hx0; exact c0 (by rw [show FP.dcmp x 0 = some .gt from ft_cmpz64 hE ht (by omega) (by omega)]; decide))
    refine X_lconst (v := 0) dX1_ofDouble_6 rfl ?_
    refine X_lreturn dX1_ofDouble_7 rfl ?_
    exact ⟨rL (by rw [hx0]; rfl), rfl⟩
end BitsX
