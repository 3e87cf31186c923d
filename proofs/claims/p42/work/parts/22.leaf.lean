/-! LEAVES: tests and refusals (walks by gen/spec22.py) -/
section Leaf
variable {G : Gx} {w : Wd}
set_option maxRecDepth 20000 in
theorem c_isBetween (a b c : Int32) : XC G mX10_isBetween 0 0 0 [.int a, .int b, .int c] w (fun r w' => r = .inl (some (.int (bI (btw a b c)))) ∧ w' = w) := by
  refine XC.of (lo0 := [(0, .int a), (1, .int b), (2, .int c)]) kmX10_isBetween (Nat.le_of_ble_eq_true rfl) rfl ?_
  refine X_iload_n dX10_isBetween_0 (i := 0) rfl rfl ?_
  refine X_iload_n dX10_isBetween_1 (i := 1) rfl rfl ?_
  refine X_icmp_lt (tgt := 14) dX10_isBetween_2 (by decide) (fun h1 => ?_) (fun h1 => ?_)
  · refine X_iconst (v := 0) dX10_isBetween_14 (by decide) ?_
    refine X_ireturn dX10_isBetween_15 rfl rfl ?_
    first
      | exact ⟨rI (by rw [btw_t h1 h2]; rfl), rfl⟩
      | exact ⟨rI (by rw [btw_f2 h2]; rfl), rfl⟩
      | exact ⟨rI (by rw [btw_f1 h1]; rfl), rfl⟩
  · refine X_iload_n dX10_isBetween_5 (i := 0) rfl rfl ?_
    refine X_iload_n dX10_isBetween_6 (i := 2) rfl rfl ?_
    refine X_icmp_gt (tgt := 14) dX10_isBetween_7 (by decide) (fun h2 => ?_) (fun h2 => ?_)
    · refine X_iconst (v := 0) dX10_isBetween_14 (by decide) ?_
      refine X_ireturn dX10_isBetween_15 rfl rfl ?_
      first
        | exact ⟨rI (by rw [btw_t h1 h2]; rfl), rfl⟩
        | exact ⟨rI (by rw [btw_f2 h2]; rfl), rfl⟩
        | exact ⟨rI (by rw [btw_f1 h1]; rfl), rfl⟩
    · refine X_iconst (v := 1) dX10_isBetween_10 (by decide) ?_
      refine X_goto (tgt := 15) dX10_isBetween_11 (by decide) ?_
      refine X_ireturn dX10_isBetween_15 rfl rfl ?_
      first
        | exact ⟨rI (by rw [btw_t h1 h2]; rfl), rfl⟩
        | exact ⟨rI (by rw [btw_f2 h2]; rfl), rfl⟩
        | exact ⟨rI (by rw [btw_f1 h1]; rfl), rfl⟩
set_option maxRecDepth 20000 in
theorem c_isKind (k : Int32) : XC G mX10_isKind 0 0 0 [.int k] w (fun r w' => r = .inl (some (.int (bI (isK k)))) ∧ w' = w) := by
  refine XC.of (lo0 := [(0, .int k)]) kmX10_isKind (Nat.le_of_ble_eq_true rfl) rfl ?_
  refine X_iload_n dX10_isKind_0 (i := 0) rfl rfl ?_
  refine X_bipush (v := 98) dX10_isKind_1 (by decide) ?_
  refine X_icmp_eq (tgt := 18) dX10_isKind_3 (by decide) (fun h1 => ?_) (fun h1 => ?_)
  · refine X_iconst (v := 1) dX10_isKind_18 (by decide) ?_
    refine X_goto (tgt := 23) dX10_isKind_19 (by decide) ?_
    refine X_ireturn dX10_isKind_23 rfl rfl ?_
    exact ⟨rI (by simp_all [isK, bI]), rfl⟩
  · refine X_iload_n dX10_isKind_6 (i := 0) rfl rfl ?_
    refine X_bipush (v := 109) dX10_isKind_7 (by decide) ?_
    refine X_icmp_eq (tgt := 18) dX10_isKind_9 (by decide) (fun h2 => ?_) (fun h2 => ?_)
    · refine X_iconst (v := 1) dX10_isKind_18 (by decide) ?_
      refine X_goto (tgt := 23) dX10_isKind_19 (by decide) ?_
      refine X_ireturn dX10_isKind_23 rfl rfl ?_
      exact ⟨rI (by simp_all [isK, bI]), rfl⟩
    · refine X_iload_n dX10_isKind_12 (i := 0) rfl rfl ?_
      refine X_bipush (v := 112) dX10_isKind_13 (by decide) ?_
      refine X_icmp_ne (tgt := 22) dX10_isKind_15 (by decide) (fun h3 => ?_) (fun h3 => ?_)
      · refine X_iconst (v := 0) dX10_isKind_22 (by decide) ?_
        refine X_ireturn dX10_isKind_23 rfl rfl ?_
        exact ⟨rI (by simp_all [isK, bI]), rfl⟩
      · refine X_iconst (v := 1) dX10_isKind_18 (by decide) ?_
        refine X_goto (tgt := 23) dX10_isKind_19 (by decide) ?_
        refine X_ireturn dX10_isKind_23 rfl rfl ?_
        exact ⟨rI (by simp_all [isK, bI]), rfl⟩
set_option maxRecDepth 20000 in
theorem c_isConfiguration (a : Int32) : XC G mX10_isConfiguration 1 0 0 [.int a] w (fun r w' => r = .inl (some (.int (bI (btw a 0 255)))) ∧ w' = w) := by
  refine XC.of (lo0 := [(0, .int a)]) kmX10_isConfiguration (Nat.le_of_ble_eq_true rfl) rfl ?_
  refine X_iload_n dX10_isConfiguration_0 (i := 0) rfl rfl ?_
  refine X_iconst (v := 0) dX10_isConfiguration_1 (by decide) ?_
  refine X_sipush (v := 255) dX10_isConfiguration_2 (by decide) ?_
  refine X_callS (gc2 := 0) (gs2 := 0) (c_isBetween a 0 255) kmX10_isBetween rfl lX10_177 sX10_isBetween rfl rfl (Nat.le_of_ble_eq_true rfl) (by decide) dX10_isConfiguration_5 (by decide) (by decide) (fun E w1 hq => nomatch hq.1) (fun v w1 hq => ?_)
  have hv := hq.1
  obtain rfl := hq.2.symm
  cases hv
  refine X_ireturn dX10_isConfiguration_8 rfl (narrow_b _) ?_
  exact ⟨rfl, rfl⟩
set_option maxRecDepth 20000 in
theorem c_checkKind (k : Int32) : XC G mX10_checkKind 6 1 6 [.int k] w (fun r w' => r = rOK (isK k) eIAE ∧ w' = w) := by
  refine XC.of (lo0 := [(0, .int k)]) kmX10_checkKind (Nat.le_of_ble_eq_true rfl) rfl ?_
  refine X_iload_n dX10_checkKind_0 (i := 0) rfl rfl ?_
  refine X_callS (gc2 := 1) (gs2 := 6) (c_isKind k) kmX10_isKind rfl lX10_386 sX10_isKind rfl rfl (Nat.le_of_ble_eq_true rfl) (by decide) dX10_checkKind_1 (by decide) (by decide) (fun E w1 hq => nomatch hq.1) (fun v w1 hq => ?_)
  have hv := hq.1
  obtain rfl := hq.2.symm
  cases hv
  refine X_if_ne (tgt := 18) dX10_checkKind_4 (by decide) (fun h1 => ?_) (fun h1 => ?_)
  · refine X_vreturn dX10_checkKind_18 rfl ?_
    exact ⟨rOK_t (bI_ne h1), rfl⟩
  · refine X_throwSW (text := "no such kind") thr_IllegalArgumentException (by decide +kernel) rfl dX10_checkKind_7 dX10_checkKind_10 dX10_checkKind_11 dX10_checkKind_14 dX10_checkKind_17 (Nat.le_of_ble_eq_true rfl) (by decide) (by decide) (by decide) ?_
    exact ⟨rOK_f (bI_eq h1), rfl⟩
set_option maxRecDepth 20000 in
theorem c_checkCents (c : Int32) : XC G mX10_checkCents 6 1 6 [.int c] w (fun r w' => r = rOK (btw c 0 99999) eIAE ∧ w' = w) := by
  refine XC.of (lo0 := [(0, .int c)]) kmX10_checkCents (Nat.le_of_ble_eq_true rfl) rfl ?_
  refine X_iload_n dX10_checkCents_0 (i := 0) rfl rfl ?_
  refine X_iconst (v := 0) dX10_checkCents_1 (by decide) ?_
  refine X_ldcw dX10_checkCents_2 kX10_392 ?_
  refine X_callS (gc2 := 1) (gs2 := 6) (c_isBetween c 0 99999) kmX10_isBetween rfl lX10_177 sX10_isBetween rfl rfl (Nat.le_of_ble_eq_true rfl) (by decide) dX10_checkCents_5 (by decide) (by decide) (fun E w1 hq => nomatch hq.1) (fun v w1 hq => ?_)
  have hv := hq.1
  obtain rfl := hq.2.symm
  cases hv
  refine X_if_ne (tgt := 22) dX10_checkCents_8 (by decide) (fun h1 => ?_) (fun h1 => ?_)
  · refine X_vreturn dX10_checkCents_22 rfl ?_
    exact ⟨rOK_t (bI_ne h1), rfl⟩
  · refine X_throwSW (text := "price out of range") thr_IllegalArgumentException (by decide +kernel) rfl dX10_checkCents_11 dX10_checkCents_14 dX10_checkCents_15 dX10_checkCents_18 dX10_checkCents_21 (Nat.le_of_ble_eq_true rfl) (by decide) (by decide) (by decide) ?_
    exact ⟨rOK_f (bI_eq h1), rfl⟩
set_option maxRecDepth 20000 in
theorem c_checkGrams (c : Int32) : XC G mX10_checkGrams 6 1 6 [.int c] w (fun r w' => r = rOK (btw c 0 99999) eIAE ∧ w' = w) := by
  refine XC.of (lo0 := [(0, .int c)]) kmX10_checkGrams (Nat.le_of_ble_eq_true rfl) rfl ?_
  refine X_iload_n dX10_checkGrams_0 (i := 0) rfl rfl ?_
  refine X_iconst (v := 0) dX10_checkGrams_1 (by decide) ?_
  refine X_ldcw dX10_checkGrams_2 kX10_392 ?_
  refine X_callS (gc2 := 1) (gs2 := 6) (c_isBetween c 0 99999) kmX10_isBetween rfl lX10_177 sX10_isBetween rfl rfl (Nat.le_of_ble_eq_true rfl) (by decide) dX10_checkGrams_5 (by decide) (by decide) (fun E w1 hq => nomatch hq.1) (fun v w1 hq => ?_)
  have hv := hq.1
  obtain rfl := hq.2.symm
  cases hv
  refine X_if_ne (tgt := 22) dX10_checkGrams_8 (by decide) (fun h1 => ?_) (fun h1 => ?_)
  · refine X_vreturn dX10_checkGrams_22 rfl ?_
    exact ⟨rOK_t (bI_ne h1), rfl⟩
  · refine X_throwSW (text := "weight out of range") thr_IllegalArgumentException (by decide +kernel) rfl dX10_checkGrams_11 dX10_checkGrams_14 dX10_checkGrams_15 dX10_checkGrams_18 dX10_checkGrams_21 (Nat.le_of_ble_eq_true rfl) (by decide) (by decide) (by decide) ?_
    exact ⟨rOK_f (bI_eq h1), rfl⟩
set_option maxRecDepth 20000 in
theorem c_checkPosition (c : Int32) : XC G mX10_checkPosition 6 1 6 [.int c] w (fun r w' => r = rOK (btw c 1 6) eIAE ∧ w' = w) := by
  refine XC.of (lo0 := [(0, .int c)]) kmX10_checkPosition (Nat.le_of_ble_eq_true rfl) rfl ?_
  refine X_iload_n dX10_checkPosition_0 (i := 0) rfl rfl ?_
  refine X_iconst (v := 1) dX10_checkPosition_1 (by decide) ?_
  refine X_bipush (v := 6) dX10_checkPosition_2 (by decide) ?_
  refine X_callS (gc2 := 1) (gs2 := 6) (c_isBetween c 1 6) kmX10_isBetween rfl lX10_177 sX10_isBetween rfl rfl (Nat.le_of_ble_eq_true rfl) (by decide) dX10_checkPosition_4 (by decide) (by decide) (fun E w1 hq => nomatch hq.1) (fun v w1 hq => ?_)
  have hv := hq.1
  obtain rfl := hq.2.symm
  cases hv
  refine X_if_ne (tgt := 21) dX10_checkPosition_7 (by decide) (fun h1 => ?_) (fun h1 => ?_)
  · refine X_vreturn dX10_checkPosition_21 rfl ?_
    exact ⟨rOK_t (bI_ne h1), rfl⟩
  · refine X_throwSW (text := "position out of range") thr_IllegalArgumentException (by decide +kernel) rfl dX10_checkPosition_10 dX10_checkPosition_13 dX10_checkPosition_14 dX10_checkPosition_17 dX10_checkPosition_20 (Nat.le_of_ble_eq_true rfl) (by decide) (by decide) (by decide) ?_
    exact ⟨rOK_f (bI_eq h1), rfl⟩
set_option maxRecDepth 20000 in
theorem c_checkQuantity (c : Int32) : XC G mX10_checkQuantity 6 1 6 [.int c] w (fun r w' => r = rOK (btw c 1 20) eIAE ∧ w' = w) := by
  refine XC.of (lo0 := [(0, .int c)]) kmX10_checkQuantity (Nat.le_of_ble_eq_true rfl) rfl ?_
  refine X_iload_n dX10_checkQuantity_0 (i := 0) rfl rfl ?_
  refine X_iconst (v := 1) dX10_checkQuantity_1 (by decide) ?_
  refine X_bipush (v := 20) dX10_checkQuantity_2 (by decide) ?_
  refine X_callS (gc2 := 1) (gs2 := 6) (c_isBetween c 1 20) kmX10_isBetween rfl lX10_177 sX10_isBetween rfl rfl (Nat.le_of_ble_eq_true rfl) (by decide) dX10_checkQuantity_4 (by decide) (by decide) (fun E w1 hq => nomatch hq.1) (fun v w1 hq => ?_)
  have hv := hq.1
  obtain rfl := hq.2.symm
  cases hv
  refine X_if_ne (tgt := 21) dX10_checkQuantity_7 (by decide) (fun h1 => ?_) (fun h1 => ?_)
  · refine X_vreturn dX10_checkQuantity_21 rfl ?_
    exact ⟨rOK_t (bI_ne h1), rfl⟩
  · refine X_throwSW (text := "quantity out of range") thr_IllegalArgumentException (by decide +kernel) rfl dX10_checkQuantity_10 dX10_checkQuantity_13 dX10_checkQuantity_14 dX10_checkQuantity_17 dX10_checkQuantity_20 (Nat.le_of_ble_eq_true rfl) (by decide) (by decide) (by decide) ?_
    exact ⟨rOK_f (bI_eq h1), rfl⟩
set_option maxRecDepth 20000 in
theorem c_checkSerial (c : Int32) : XC G mX10_checkSerial 6 1 6 [.int c] w (fun r w' => r = rOK (btw c 1 999) eIAE ∧ w' = w) := by
  refine XC.of (lo0 := [(0, .int c)]) kmX10_checkSerial (Nat.le_of_ble_eq_true rfl) rfl ?_
  refine X_iload_n dX10_checkSerial_0 (i := 0) rfl rfl ?_
  refine X_iconst (v := 1) dX10_checkSerial_1 (by decide) ?_
  refine X_sipush (v := 999) dX10_checkSerial_2 (by decide) ?_
  refine X_callS (gc2 := 1) (gs2 := 6) (c_isBetween c 1 999) kmX10_isBetween rfl lX10_177 sX10_isBetween rfl rfl (Nat.le_of_ble_eq_true rfl) (by decide) dX10_checkSerial_5 (by decide) (by decide) (fun E w1 hq => nomatch hq.1) (fun v w1 hq => ?_)
  have hv := hq.1
  obtain rfl := hq.2.symm
  cases hv
  refine X_if_ne (tgt := 22) dX10_checkSerial_8 (by decide) (fun h1 => ?_) (fun h1 => ?_)
  · refine X_vreturn dX10_checkSerial_22 rfl ?_
    exact ⟨rOK_t (bI_ne h1), rfl⟩
  · refine X_throwSW (text := "serial number out of range") thr_IllegalArgumentException (by decide +kernel) rfl dX10_checkSerial_11 dX10_checkSerial_14 dX10_checkSerial_15 dX10_checkSerial_18 dX10_checkSerial_21 (Nat.le_of_ble_eq_true rfl) (by decide) (by decide) (by decide) ?_
    exact ⟨rOK_f (bI_eq h1), rfl⟩
set_option maxRecDepth 20000 in
theorem c_checkOption (c : Int32) : XC G mX10_checkOption 6 1 6 [.int c] w (fun r w' => r = rOK (btw c 0 3) eIOB ∧ w' = w) := by
  refine XC.of (lo0 := [(0, .int c)]) kmX10_checkOption (Nat.le_of_ble_eq_true rfl) rfl ?_
  refine X_iload_n dX10_checkOption_0 (i := 0) rfl rfl ?_
  refine X_iconst (v := 0) dX10_checkOption_1 (by decide) ?_
  refine X_iconst (v := 3) dX10_checkOption_2 (by decide) ?_
  refine X_callS (gc2 := 1) (gs2 := 6) (c_isBetween c 0 3) kmX10_isBetween rfl lX10_177 sX10_isBetween rfl rfl (Nat.le_of_ble_eq_true rfl) (by decide) dX10_checkOption_3 (by decide) (by decide) (fun E w1 hq => nomatch hq.1) (fun v w1 hq => ?_)
  have hv := hq.1
  obtain rfl := hq.2.symm
  cases hv
  refine X_if_ne (tgt := 20) dX10_checkOption_6 (by decide) (fun h1 => ?_) (fun h1 => ?_)
  · refine X_vreturn dX10_checkOption_20 rfl ?_
    exact ⟨rOK_t (bI_ne h1), rfl⟩
  · refine X_throwSW (text := "no such option") thr_IndexOutOfBoundsException (by decide +kernel) rfl dX10_checkOption_9 dX10_checkOption_12 dX10_checkOption_13 dX10_checkOption_16 dX10_checkOption_19 (Nat.le_of_ble_eq_true rfl) (by decide) (by decide) (by decide) ?_
    exact ⟨rOK_f (bI_eq h1), rfl⟩
set_option maxRecDepth 20000 in
theorem c_checkRange (a b : Int32) : XC G mX10_checkRange 6 1 6 [.int a, .int b] w (fun r w' => r = rOK (btw a 1 999 && btw b a 999) eIAE ∧ w' = w) := by
  refine XC.of (lo0 := [(0, .int a), (1, .int b)]) kmX10_checkRange (Nat.le_of_ble_eq_true rfl) rfl ?_
  refine X_iload_n dX10_checkRange_0 (i := 0) rfl rfl ?_
  refine X_iconst (v := 1) dX10_checkRange_1 (by decide) ?_
  refine X_sipush (v := 999) dX10_checkRange_2 (by decide) ?_
  refine X_callS (gc2 := 1) (gs2 := 6) (c_isBetween a 1 999) kmX10_isBetween rfl lX10_177 sX10_isBetween rfl rfl (Nat.le_of_ble_eq_true rfl) (by decide) dX10_checkRange_5 (by decide) (by decide) (fun E w1 hq => nomatch hq.1) (fun v w1 hq => ?_)
  have hv := hq.1
  obtain rfl := hq.2.symm
  cases hv
  refine X_if_eq (tgt := 22) dX10_checkRange_8 (by decide) (fun h1 => ?_) (fun h1 => ?_)
  · refine X_throwSW (text := "range of serial numbers out of range") thr_IllegalArgumentException (by decide +kernel) rfl dX10_checkRange_22 dX10_checkRange_25 dX10_checkRange_26 dX10_checkRange_29 dX10_checkRange_32 (Nat.le_of_ble_eq_true rfl) (by decide) (by decide) (by decide) ?_
    first
      | exact ⟨rOK_f (by rw [bI_eq h1]; rfl), rfl⟩
      | exact ⟨rOK_f (by rw [bI_eq h2]; exact Bool.and_false _), rfl⟩
  · refine X_iload_n dX10_checkRange_11 (i := 1) rfl rfl ?_
    refine X_iload_n dX10_checkRange_12 (i := 0) rfl rfl ?_
    refine X_sipush (v := 999) dX10_checkRange_13 (by decide) ?_
    refine X_callS (gc2 := 1) (gs2 := 6) (c_isBetween b a 999) kmX10_isBetween rfl lX10_177 sX10_isBetween rfl rfl (Nat.le_of_ble_eq_true rfl) (by decide) dX10_checkRange_16 (by decide) (by decide) (fun E w1 hq => nomatch hq.1) (fun v w1 hq => ?_)
    have hv := hq.1
    obtain rfl := hq.2.symm
    cases hv
    refine X_if_ne (tgt := 33) dX10_checkRange_19 (by decide) (fun h2 => ?_) (fun h2 => ?_)
    · refine X_vreturn dX10_checkRange_33 rfl ?_
      exact ⟨rOK_t (by rw [bI_ne h1, bI_ne h2]; rfl), rfl⟩
    · refine X_throwSW (text := "range of serial numbers out of range") thr_IllegalArgumentException (by decide +kernel) rfl dX10_checkRange_22 dX10_checkRange_25 dX10_checkRange_26 dX10_checkRange_29 dX10_checkRange_32 (Nat.le_of_ble_eq_true rfl) (by decide) (by decide) (by decide) ?_
      first
        | exact ⟨rOK_f (by rw [bI_eq h1]; rfl), rfl⟩
        | exact ⟨rOK_f (by rw [bI_eq h2]; exact Bool.and_false _), rfl⟩
set_option maxRecDepth 20000 in
theorem c_checkCondition (a b : Int32) : XC G mX10_checkCondition 6 1 6 [.int a, .int b] w (fun r w' => r = rOK (btw a 0 3 && btw b 1 15) eIAE ∧ w' = w) := by
  refine XC.of (lo0 := [(0, .int a), (1, .int b)]) kmX10_checkCondition (Nat.le_of_ble_eq_true rfl) rfl ?_
  refine X_iload_n dX10_checkCondition_0 (i := 0) rfl rfl ?_
  refine X_iconst (v := 0) dX10_checkCondition_1 (by decide) ?_
  refine X_iconst (v := 3) dX10_checkCondition_2 (by decide) ?_
  refine X_callS (gc2 := 1) (gs2 := 6) (c_isBetween a 0 3) kmX10_isBetween rfl lX10_177 sX10_isBetween rfl rfl (Nat.le_of_ble_eq_true rfl) (by decide) dX10_checkCondition_3 (by decide) (by decide) (fun E w1 hq => nomatch hq.1) (fun v w1 hq => ?_)
  have hv := hq.1
  obtain rfl := hq.2.symm
  cases hv
  refine X_if_eq (tgt := 19) dX10_checkCondition_6 (by decide) (fun h1 => ?_) (fun h1 => ?_)
  · refine X_throwSW (text := "condition out of range") thr_IllegalArgumentException (by decide +kernel) rfl dX10_checkCondition_19 dX10_checkCondition_22 dX10_checkCondition_23 dX10_checkCondition_26 dX10_checkCondition_29 (Nat.le_of_ble_eq_true rfl) (by decide) (by decide) (by decide) ?_
    first
      | exact ⟨rOK_f (by rw [bI_eq h1]; rfl), rfl⟩
      | exact ⟨rOK_f (by rw [bI_eq h2]; exact Bool.and_false _), rfl⟩
  · refine X_iload_n dX10_checkCondition_9 (i := 1) rfl rfl ?_
    refine X_iconst (v := 1) dX10_checkCondition_10 (by decide) ?_
    refine X_bipush (v := 15) dX10_checkCondition_11 (by decide) ?_
    refine X_callS (gc2 := 1) (gs2 := 6) (c_isBetween b 1 15) kmX10_isBetween rfl lX10_177 sX10_isBetween rfl rfl (Nat.le_of_ble_eq_true rfl) (by decide) dX10_checkCondition_13 (by decide) (by decide) (fun E w1 hq => nomatch hq.1) (fun v w1 hq => ?_)
    have hv := hq.1
    obtain rfl := hq.2.symm
    cases hv
    refine X_if_ne (tgt := 30) dX10_checkCondition_16 (by decide) (fun h2 => ?_) (fun h2 => ?_)
    · refine X_vreturn dX10_checkCondition_30 rfl ?_
      exact ⟨rOK_t (by rw [bI_ne h1, bI_ne h2]; rfl), rfl⟩
    · refine X_throwSW (text := "condition out of range") thr_IllegalArgumentException (by decide +kernel) rfl dX10_checkCondition_19 dX10_checkCondition_22 dX10_checkCondition_23 dX10_checkCondition_26 dX10_checkCondition_29 (Nat.le_of_ble_eq_true rfl) (by decide) (by decide) (by decide) ?_
      first
        | exact ⟨rOK_f (by rw [bI_eq h1]; rfl), rfl⟩
        | exact ⟨rOK_f (by rw [bI_eq h2]; exact Bool.and_false _), rfl⟩
set_option maxRecDepth 20000 in
theorem c_checkPart {mp cf : Nat} {P : PSt} (p : Int32) (h0 : X0 w mp cf) (hB : XB w) (hP : XP G.2.2.1 w P) : XC G mX10_checkPart 6 1 6 [.ref (w.1 0), .int p] w (fun r w' => r = rOK (inP p (P.1)) eIOB ∧ w' = w) := by
  refine XC.of (lo0 := [(0, .ref (w.1 0)), (1, .int p)]) kmX10_checkPart (Nat.le_of_ble_eq_true rfl) rfl ?_
  refine X_iload_n dX10_checkPart_0 (i := 1) rfl rfl ?_
  refine X_if_lt (tgt := 18) dX10_checkPart_1 (by decide) (fun h1 => ?_) (fun h1 => ?_)
  · refine X_throwSW (text := "no such part") thr_IndexOutOfBoundsException (by decide +kernel) rfl dX10_checkPart_18 dX10_checkPart_21 dX10_checkPart_22 dX10_checkPart_25 dX10_checkPart_28 (Nat.le_of_ble_eq_true rfl) (by decide) (by decide) (by decide) ?_
    first
      | exact ⟨rOK_f (inP_f1 h1), rfl⟩
      | exact ⟨rOK_f (inP_f2 h2), rfl⟩
      | exact ⟨rOK_f (inP_f2 (Int32.not_lt.mpr h2)), rfl⟩
  · refine X_iload_n dX10_checkPart_4 (i := 1) rfl rfl ?_
    refine X_aload_n dX10_checkPart_5 (i := 0) rfl rfl ?_
    refine X_get (i := 0) h0 rfl (ci := 9) rfl in10 (k := 0) (by decide) fX10_10 rfl dX10_checkPart_6 ?_
    refine X_get (i := 1) hB rfl (ci := 0) rfl in0 (k := 0) (by decide) fX10_80 rfl dX10_checkPart_9 ?_
    refine X_get (i := 2) hP.1 rfl (ci := 6) rfl in7 (k := 3) (by decide) fX10_84 rfl dX10_checkPart_12 ?_
    refine X_icmp_lt (tgt := 29) dX10_checkPart_15 (by decide) (fun h2 => ?_) (fun h2 => ?_)
    · refine X_vreturn dX10_checkPart_29 rfl ?_
      first
        | exact ⟨rOK_t (inP_t h1 h2), rfl⟩
        | exact ⟨rOK_t (inP_t h1 (Int32.not_le.mp h2)), rfl⟩
    · refine X_throwSW (text := "no such part") thr_IndexOutOfBoundsException (by decide +kernel) rfl dX10_checkPart_18 dX10_checkPart_21 dX10_checkPart_22 dX10_checkPart_25 dX10_checkPart_28 (Nat.le_of_ble_eq_true rfl) (by decide) (by decide) (by decide) ?_
      first
        | exact ⟨rOK_f (inP_f1 h1), rfl⟩
        | exact ⟨rOK_f (inP_f2 h2), rfl⟩
        | exact ⟨rOK_f (inP_f2 (Int32.not_lt.mpr h2)), rfl⟩
set_option maxRecDepth 20000 in
theorem c_checkLine {mp cf : Nat} {L : LSt} (p : Int32) (h0 : X0 w mp cf) (hB : XB w) (hL : XL G.2.2.1 w L) : XC G mX10_checkLine 6 1 6 [.ref (w.1 0), .int p] w (fun r w' => r = rOK (inP p (ln L)) eIOB ∧ w' = w) := by
  refine XC.of (lo0 := [(0, .ref (w.1 0)), (1, .int p)]) kmX10_checkLine (Nat.le_of_ble_eq_true rfl) rfl ?_
  refine X_iload_n dX10_checkLine_0 (i := 1) rfl rfl ?_
  refine X_if_lt (tgt := 18) dX10_checkLine_1 (by decide) (fun h1 => ?_) (fun h1 => ?_)
  · refine X_throwSW (text := "no such line") thr_IndexOutOfBoundsException (by decide +kernel) rfl dX10_checkLine_18 dX10_checkLine_21 dX10_checkLine_22 dX10_checkLine_25 dX10_checkLine_28 (Nat.le_of_ble_eq_true rfl) (by decide) (by decide) (by decide) ?_
    first
      | exact ⟨rOK_f (inP_f1 h1), rfl⟩
      | exact ⟨rOK_f (inP_f2 h2), rfl⟩
      | exact ⟨rOK_f (inP_f2 (Int32.not_lt.mpr h2)), rfl⟩
  · refine X_iload_n dX10_checkLine_4 (i := 1) rfl rfl ?_
    refine X_aload_n dX10_checkLine_5 (i := 0) rfl rfl ?_
    refine X_get (i := 0) h0 rfl (ci := 9) rfl in10 (k := 0) (by decide) fX10_10 rfl dX10_checkLine_6 ?_
    refine X_get (i := 1) hB rfl (ci := 0) rfl in0 (k := 1) (by decide) fX10_137 rfl dX10_checkLine_9 ?_
    refine X_get (i := 6) hL.1 rfl (ci := 3) rfl in4 (k := 9) (by decide) fX10_186 rfl dX10_checkLine_12 ?_
    refine X_icmp_lt (tgt := 29) dX10_checkLine_15 (by decide) (fun h2 => ?_) (fun h2 => ?_)
    · refine X_vreturn dX10_checkLine_29 rfl ?_
      first
        | exact ⟨rOK_t (inP_t h1 h2), rfl⟩
        | exact ⟨rOK_t (inP_t h1 (Int32.not_le.mp h2)), rfl⟩
    · refine X_throwSW (text := "no such line") thr_IndexOutOfBoundsException (by decide +kernel) rfl dX10_checkLine_18 dX10_checkLine_21 dX10_checkLine_22 dX10_checkLine_25 dX10_checkLine_28 (Nat.le_of_ble_eq_true rfl) (by decide) (by decide) (by decide) ?_
      first
        | exact ⟨rOK_f (inP_f1 h1), rfl⟩
        | exact ⟨rOK_f (inP_f2 h2), rfl⟩
        | exact ⟨rOK_f (inP_f2 (Int32.not_lt.mpr h2)), rfl⟩
set_option maxRecDepth 20000 in
theorem c_checkOrder {mp cf : Nat} {O : OSt} (p : Int32) (h0 : X0 w mp cf) (hO : XO G.2.2.1 w O) : XC G mX10_checkOrder 6 1 6 [.ref (w.1 0), .int p] w (fun r w' => r = rOK (inP p (O.1)) eIOB ∧ w' = w) := by
  refine XC.of (lo0 := [(0, .ref (w.1 0)), (1, .int p)]) kmX10_checkOrder (Nat.le_of_ble_eq_true rfl) rfl ?_
  refine X_iload_n dX10_checkOrder_0 (i := 1) rfl rfl ?_
  refine X_if_lt (tgt := 15) dX10_checkOrder_1 (by decide) (fun h1 => ?_) (fun h1 => ?_)
  · refine X_throwSW (text := "no such order") thr_IndexOutOfBoundsException (by decide +kernel) rfl dX10_checkOrder_15 dX10_checkOrder_18 dX10_checkOrder_19 dX10_checkOrder_22 dX10_checkOrder_25 (Nat.le_of_ble_eq_true rfl) (by decide) (by decide) (by decide) ?_
    first
      | exact ⟨rOK_f (inP_f1 h1), rfl⟩
      | exact ⟨rOK_f (inP_f2 h2), rfl⟩
      | exact ⟨rOK_f (inP_f2 (Int32.not_lt.mpr h2)), rfl⟩
  · refine X_iload_n dX10_checkOrder_4 (i := 1) rfl rfl ?_
    refine X_aload_n dX10_checkOrder_5 (i := 0) rfl rfl ?_
    refine X_get (i := 0) h0 rfl (ci := 9) rfl in10 (k := 1) (by decide) fX10_19 rfl dX10_checkOrder_6 ?_
    refine X_get (i := 20) hO.1 rfl (ci := 4) rfl in5 (k := 5) (by decide) fX10_294 rfl dX10_checkOrder_9 ?_
    refine X_icmp_lt (tgt := 26) dX10_checkOrder_12 (by decide) (fun h2 => ?_) (fun h2 => ?_)
    · refine X_vreturn dX10_checkOrder_26 rfl ?_
      first
        | exact ⟨rOK_t (inP_t h1 h2), rfl⟩
        | exact ⟨rOK_t (inP_t h1 (Int32.not_le.mp h2)), rfl⟩
    · refine X_throwSW (text := "no such order") thr_IndexOutOfBoundsException (by decide +kernel) rfl dX10_checkOrder_15 dX10_checkOrder_18 dX10_checkOrder_19 dX10_checkOrder_22 dX10_checkOrder_25 (Nat.le_of_ble_eq_true rfl) (by decide) (by decide) (by decide) ?_
      first
        | exact ⟨rOK_f (inP_f1 h1), rfl⟩
        | exact ⟨rOK_f (inP_f2 h2), rfl⟩
        | exact ⟨rOK_f (inP_f2 (Int32.not_lt.mpr h2)), rfl⟩
set_option maxRecDepth 20000 in
theorem c_checkEntry {mp cf n cap : Nat} {a : Nat → Int32} {q : Nat → Int64} (p : Int32) (h0 : X0 w mp cf) (hD : XD G.2.2.1 w n cap a q) : XC G mX10_checkEntry 6 1 6 [.ref (w.1 0), .int p] w (fun r w' => r = rOK (inP p (n)) eNSE ∧ w' = w) := by
  refine XC.of (lo0 := [(0, .ref (w.1 0)), (1, .int p)]) kmX10_checkEntry (Nat.le_of_ble_eq_true rfl) rfl ?_
  refine X_iload_n dX10_checkEntry_0 (i := 1) rfl rfl ?_
  refine X_if_lt (tgt := 15) dX10_checkEntry_1 (by decide) (fun h1 => ?_) (fun h1 => ?_)
  · refine X_throwSWX (text := "no such entry") thr_NoSuchElementException (by decide +kernel) rfl dX10_checkEntry_15 dX10_checkEntry_18 dX10_checkEntry_19 dX10_checkEntry_22 dX10_checkEntry_25 (Nat.le_of_ble_eq_true rfl) (by decide) (by decide) (by decide) ?_
    first
      | exact ⟨rOK_f (inP_f1 h1), rfl⟩
      | exact ⟨rOK_f (inP_f2 h2), rfl⟩
      | exact ⟨rOK_f (inP_f2 (Int32.not_lt.mpr h2)), rfl⟩
  · refine X_iload_n dX10_checkEntry_4 (i := 1) rfl rfl ?_
    refine X_aload_n dX10_checkEntry_5 (i := 0) rfl rfl ?_
    refine X_get (i := 0) h0 rfl (ci := 9) rfl in10 (k := 5) (by decide) fX10_47 rfl dX10_checkEntry_6 ?_
    refine X_get (i := 33) hD.1 rfl (ci := 2) rfl in3 (k := 2) (by decide) fX10_205 rfl dX10_checkEntry_9 ?_
    refine X_icmp_lt (tgt := 26) dX10_checkEntry_12 (by decide) (fun h2 => ?_) (fun h2 => ?_)
    · refine X_vreturn dX10_checkEntry_26 rfl ?_
      first
        | exact ⟨rOK_t (inP_t h1 h2), rfl⟩
        | exact ⟨rOK_t (inP_t h1 (Int32.not_le.mp h2)), rfl⟩
    · refine X_throwSWX (text := "no such entry") thr_NoSuchElementException (by decide +kernel) rfl dX10_checkEntry_15 dX10_checkEntry_18 dX10_checkEntry_19 dX10_checkEntry_22 dX10_checkEntry_25 (Nat.le_of_ble_eq_true rfl) (by decide) (by decide) (by decide) ?_
      first
        | exact ⟨rOK_f (inP_f1 h1), rfl⟩
        | exact ⟨rOK_f (inP_f2 h2), rfl⟩
        | exact ⟨rOK_f (inP_f2 (Int32.not_lt.mpr h2)), rfl⟩
def cutOK (L : LSt) (j : Nat) (s : Int32) : Bool := decide (nI (fi L j) < s) && decide (s ≤ nI (la L j))
theorem cutOK_f1 {L : LSt} {j : Nat} {s : Int32} (h : s ≤ nI (fi L j)) : cutOK L j s = false := by
  rw [cutOK, decide_eq_false (Int32.not_lt.mpr h), Bool.false_and]
theorem cutOK_f2 {L : LSt} {j : Nat} {s : Int32} (h : ¬ s ≤ nI (la L j)) : cutOK L j s = false := by
  rw [cutOK, decide_eq_false h, Bool.and_false]
theorem cutOK_t {L : LSt} {j : Nat} {s : Int32} (h1 : ¬ s ≤ nI (fi L j)) (h2 : s ≤ nI (la L j)) : cutOK L j s = true := by
  rw [cutOK, decide_eq_true (Int32.not_le.mp h1), decide_eq_true h2, Bool.and_self]
set_option maxRecDepth 20000 in
theorem c_checkCut {mp cf : Nat} {L : LSt} (j : Nat) (s : Int32) (hj : j < 40) (h0 : X0 w mp cf) (hB : XB w) (hL : XL G.2.2.1 w L) : XC G mX10_checkCut 6 1 6 [.ref (w.1 0), .int (nI j), .int s] w (fun r w' => r = rOK (cutOK L j s) eIAE ∧ w' = w) := by
  refine XC.of (lo0 := [(0, .ref (w.1 0)), (1, .int (nI j)), (2, .int s)]) kmX10_checkCut (Nat.le_of_ble_eq_true rfl) rfl ?_
  refine X_iload_n dX10_checkCut_0 (i := 2) rfl rfl ?_
  refine X_aload_n dX10_checkCut_1 (i := 0) rfl rfl ?_
  refine X_get (i := 0) h0 rfl (ci := 9) rfl in10 (k := 0) (by decide) fX10_10 rfl dX10_checkCut_2 ?_
  refine X_get (i := 1) hB rfl (ci := 0) rfl in0 (k := 1) (by decide) fX10_137 rfl dX10_checkCut_5 ?_
  refine X_get (i := 6) hL.1 rfl (ci := 3) rfl in4 (k := 5) (by decide) fX10_351 rfl dX10_checkCut_8 ?_
  refine X_iload_n dX10_checkCut_11 (i := 1) rfl rfl ?_
  refine X_iald (i := 12) hL.2.2.2.2.2.2.1 rfl rfl hj (by decide) dX10_checkCut_12 ?_
  refine X_icmp_le (tgt := 32) dX10_checkCut_13 (by decide) (fun h1 => ?_) (fun h1 => ?_)
  · refine X_throwSW (text := "the line can't be cut at this serial number") thr_IllegalArgumentException (by decide +kernel) rfl dX10_checkCut_32 dX10_checkCut_35 dX10_checkCut_36 dX10_checkCut_39 dX10_checkCut_42 (Nat.le_of_ble_eq_true rfl) (by decide) (by decide) (by decide) ?_
    first
      | exact ⟨rOK_f (cutOK_f1 h1), rfl⟩
      | exact ⟨rOK_f (cutOK_f2 h2), rfl⟩
  · refine X_iload_n dX10_checkCut_16 (i := 2) rfl rfl ?_
    refine X_aload_n dX10_checkCut_17 (i := 0) rfl rfl ?_
    refine X_get (i := 0) h0 rfl (ci := 9) rfl in10 (k := 0) (by decide) fX10_10 rfl dX10_checkCut_18 ?_
    refine X_get (i := 1) hB rfl (ci := 0) rfl in0 (k := 1) (by decide) fX10_137 rfl dX10_checkCut_21 ?_
    refine X_get (i := 6) hL.1 rfl (ci := 3) rfl in4 (k := 6) (by decide) fX10_165 rfl dX10_checkCut_24 ?_
    refine X_iload_n dX10_checkCut_27 (i := 1) rfl rfl ?_
    refine X_iald (i := 13) hL.2.2.2.2.2.2.2.1 rfl rfl hj (by decide) dX10_checkCut_28 ?_
    refine X_icmp_le (tgt := 43) dX10_checkCut_29 (by decide) (fun h2 => ?_) (fun h2 => ?_)
    · refine X_vreturn dX10_checkCut_43 rfl ?_
      exact ⟨rOK_t (cutOK_t h1 h2), rfl⟩
    · refine X_throwSW (text := "the line can't be cut at this serial number") thr_IllegalArgumentException (by decide +kernel) rfl dX10_checkCut_32 dX10_checkCut_35 dX10_checkCut_36 dX10_checkCut_39 dX10_checkCut_42 (Nat.le_of_ble_eq_true rfl) (by decide) (by decide) (by decide) ?_
      first
        | exact ⟨rOK_f (cutOK_f1 h1), rfl⟩
        | exact ⟨rOK_f (cutOK_f2 h2), rfl⟩
end Leaf
