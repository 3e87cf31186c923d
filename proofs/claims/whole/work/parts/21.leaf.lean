/-! LEAVES: number tests and refusals of the class (walks by gen/spec21.py) -/
section Leaf
variable {G : Gx} {w : Wd}
set_option maxRecDepth 20000 in
theorem c_isBetween (a b c : Int32) : XC G mX10_isBetween 0 0 0 [.int a, .int b, .int c] w (fun r w' => r = .inl (some (.int (bI (btw a b c)))) ∧ w' = w) := by
  refine XC.of (lo0 := [(0, .int a), (1, .int b), (2, .int c)]) kmX10_isBetween (Nat.le_of_ble_eq_true rfl) rfl ?_
  refine X_iload_n dX10_isBetween_0 (i := 0) rfl rfl ?_
  refine X_iload_n dX10_isBetween_1 (i := 1) rfl rfl ?_
  refine X_icmp_lt (tgt := 14) dX10_isBetween_2 (by decide) (fun h1 => ?_) (fun h1 => ?_)
  · refine X_iconst (v := 0) dX10_isBetween_14 (by decide) ?_
    refine X_ireturn dX10_isBetween_15 rfl rfl ?_
    first
      | exact ⟨rI (by rw [btw_t h1 h2]; rfl), rfl⟩
      | exact ⟨rI (by rw [btw_f2 h2]; rfl), rfl⟩
      | exact ⟨rI (by rw [btw_f1 h1]; rfl), rfl⟩
  · refine X_iload_n dX10_isBetween_5 (i := 0) rfl rfl ?_
    refine X_iload_n dX10_isBetween_6 (i := 2) rfl rfl ?_
    refine X_icmp_gt (tgt := 14) dX10_isBetween_7 (by decide) (fun h2 => ?_) (fun h2 => ?_)
    · refine X_iconst (v := 0) dX10_isBetween_14 (by decide) ?_
      refine X_ireturn dX10_isBetween_15 rfl rfl ?_
      first
        | exact ⟨rI (by rw [btw_t h1 h2]; rfl), rfl⟩
        | exact ⟨rI (by rw [btw_f2 h2]; rfl), rfl⟩
        | exact ⟨rI (by rw [btw_f1 h1]; rfl), rfl⟩
    · refine X_iconst (v := 1) dX10_isBetween_10 (by decide) ?_
      refine X_goto (tgt := 15) dX10_isBetween_11 (by decide) ?_
      refine X_ireturn dX10_isBetween_15 rfl rfl ?_
      first
        | exact ⟨rI (by rw [btw_t h1 h2]; rfl), rfl⟩
        | exact ⟨rI (by rw [btw_f2 h2]; rfl), rfl⟩
        | exact ⟨rI (by rw [btw_f1 h1]; rfl), rfl⟩
end Leaf
