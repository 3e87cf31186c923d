/-! COSTS and weights of the reference (walks by gen/spec61.py) -/
section CostM
variable {G : Gx} {w : Wd} {t np nl no nm nw en : Nat}
theorem fcmp_self {x : UInt32} (h : vf_n32 x) : FP.fcmp x x = some .eq := ft_cmp_self (ft_nn_dec ft_gd32 (ft_nn32.mp h))
theorem dcmp_selfv {x : UInt64} (h : vf_n64 x) : FP.dcmp x x = some .eq := ft_dcmp_self h
set_option maxRecDepth 20000 in
theorem j_fnan (x : UInt32) (hx : vf_n32 x) : XC G mJxf58ca_isNaN_12338 0 0 0 [.float x] w (fun r w' => r = .inl (some (.int 0)) ∧ w' = w) := by
  refine XC.of (lo0 := [(0, .float x)]) kmJxf58ca_isNaN_12338 (Nat.le_of_ble_eq_true rfl) rfl ?_
  refine X_fload_n dJxf58ca_isNaN_12338_0 (i := 0) rfl rfl ?_
  refine X_fload_n dJxf58ca_isNaN_12338_1 (i := 0) rfl rfl ?_
  refine X_fcmp dJxf58ca_isNaN_12338_2 ?_
  refine X_if_eq (tgt := 10) dJxf58ca_isNaN_12338_3 (by decide) (fun h1 => ?_) (fun h1 => ?_)
  · refine X_iconst (v := 0) dJxf58ca_isNaN_12338_10 (by decide) ?_
    refine X_ireturn dJxf58ca_isNaN_12338_11 rfl rfl ?_
    exact ⟨rfl, rfl⟩
  · exact absurd (by rw [fcmp_self hx]; rfl) h1
set_option maxRecDepth 20000 in
theorem j_fbits (x : UInt32) (hx : vf_n32 x) : XC G mJxf58ca_floatToIntBits_5c35a 1 0 0 [.float x] w (fun r w' => r = .inl (some (.int x.toInt32)) ∧ w' = w) := by
  refine XC.of (lo0 := [(0, .float x)]) kmJxf58ca_floatToIntBits_5c35a (Nat.le_of_ble_eq_true rfl) rfl ?_
  refine X_fload_n dJxf58ca_floatToIntBits_5c35a_0 (i := 0) rfl rfl ?_
  refine X_callS (gc2 := 0) (gs2 := 0) (j_fnan x hx) kmJxf58ca_isNaN_12338 rfl lJxf58ca_59 sJxf58ca_isNaN_12338 rfl rfl (Nat.le_of_ble_eq_true rfl) (by decide) dJxf58ca_floatToIntBits_5c35a_1 (by decide) (by decide) (fun E w1 hq => nomatch hq.1) (fun v w1 hq => ?_)
  have hv := hq.1
  obtain rfl := hq.2.symm
  cases hv
  refine X_if_ne (tgt := 12) dJxf58ca_floatToIntBits_5c35a_4 (by decide) (fun h1 => ?_) (fun h1 => ?_)
  · exact absurd rfl h1
  · refine X_fload_n dJxf58ca_floatToIntBits_5c35a_7 (i := 0) rfl rfl ?_
    refine X_f2ib lJxf58ca_74 natjavalangFloat_floatToRawIntBitsFI sjavalangFloat_floatToRawIntBitsFI kmJxf58ca_floatToIntBits_5c35a.2.1 (Nat.le_of_ble_eq_true rfl) (by decide) dJxf58ca_floatToIntBits_5c35a_8 ?_
    refine X_ireturn dJxf58ca_floatToIntBits_5c35a_11 rfl rfl ?_
    exact ⟨rfl, rfl⟩
set_option maxRecDepth 20000 in
theorem j_dnan (x : UInt64) (hx : vf_n64 x) : XC G mJxe99ae_isNaN_b9ae7 0 0 0 [.double x] w (fun r w' => r = .inl (some (.int 0)) ∧ w' = w) := by
  refine XC.of (lo0 := [(0, .double x)]) kmJxe99ae_isNaN_b9ae7 (Nat.le_of_ble_eq_true rfl) rfl ?_
  refine X_dload_n dJxe99ae_isNaN_b9ae7_0 (i := 0) rfl rfl ?_
  refine X_dload_n dJxe99ae_isNaN_b9ae7_1 (i := 0) rfl rfl ?_
  refine X_dcmp dJxe99ae_isNaN_b9ae7_2 ?_
  refine X_if_eq (tgt := 10) dJxe99ae_isNaN_b9ae7_3 (by decide) (fun h1 => ?_) (fun h1 => ?_)
  · refine X_iconst (v := 0) dJxe99ae_isNaN_b9ae7_10 (by decide) ?_
    refine X_ireturn dJxe99ae_isNaN_b9ae7_11 rfl rfl ?_
    exact ⟨rfl, rfl⟩
  · exact absurd (by rw [dcmp_selfv hx]; rfl) h1
set_option maxRecDepth 20000 in
theorem j_dbits (x : UInt64) (hx : vf_n64 x) : XC G mJxe99ae_doubleToLongBits_ccdee 1 0 0 [.double x] w (fun r w' => r = .inl (some (.long x.toInt64)) ∧ w' = w) := by
  refine XC.of (lo0 := [(0, .double x)]) kmJxe99ae_doubleToLongBits_ccdee (Nat.le_of_ble_eq_true rfl) rfl ?_
  refine X_dload_n dJxe99ae_doubleToLongBits_ccdee_0 (i := 0) rfl rfl ?_
  refine X_callS (gc2 := 0) (gs2 := 0) (j_dnan x hx) kmJxe99ae_isNaN_b9ae7 rfl lJxe99ae_122 sJxe99ae_isNaN_b9ae7 rfl rfl (Nat.le_of_ble_eq_true rfl) (by decide) dJxe99ae_doubleToLongBits_ccdee_1 (by decide) (by decide) (fun E w1 hq => nomatch hq.1) (fun v w1 hq => ?_)
  have hv := hq.1
  obtain rfl := hq.2.symm
  cases hv
  refine X_if_ne (tgt := 12) dJxe99ae_doubleToLongBits_ccdee_4 (by decide) (fun h1 => ?_) (fun h1 => ?_)
  · exact absurd rfl h1
  · refine X_dload_n dJxe99ae_doubleToLongBits_ccdee_7 (i := 0) rfl rfl ?_
    refine X_d2lb lJxe99ae_134 natjavalangDouble_doubleToRawLongBitsDJ sjavalangDouble_doubleToRawLongBitsDJ kmJxe99ae_doubleToLongBits_ccdee.2.1 (Nat.le_of_ble_eq_true rfl) (by decide) dJxe99ae_doubleToLongBits_ccdee_8 ?_
    refine X_lreturn dJxe99ae_doubleToLongBits_ccdee_11 rfl ?_
    exact ⟨rfl, rfl⟩
end CostM
