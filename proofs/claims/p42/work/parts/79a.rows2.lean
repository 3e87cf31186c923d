/-! MORE ROWS: remainder, shift; the law's cell and pick; Math.max -/
section XRows3
variable {G : Gx} {μ : Mth} {d gc gs pc : Nat} {lo : List (Nat × Value)} {st : List Value} {w : Wd} {Q : XRes → Wd → Prop}
theorem X_irem {x y : Int32} (hd : decode μ.2.2.1 pc = .ok (.irem, 1)) (hne : ¬ y = 0) (k : XJ G μ d gc gs (pc + 1) lo (.int (x - x / y * y) :: st) w Q) : XJ G μ d gc gs pc lo (.int y :: .int x :: st) w Q :=
  XJ.step (fun hx hb hown ht hS ls hl kk => lv_irem hx hb hd hne kk) k
theorem X_iushr {x y v : Int32} (hd : decode μ.2.2.1 pc = .ok (.iushr, 1)) (hv : (x.toUInt32 >>> (y.toUInt32 &&& Int32.toUInt32 31)).toInt32 = v) (k : XJ G μ d gc gs (pc + 1) lo (.int v :: st) w Q) : XJ G μ d gc gs pc lo (.int y :: .int x :: st) w Q :=
  XJ.step (fun hx hb hown ht hS ls hl kk => lv_iushr hx hb hd hv kk) k
/-- the remainder of small numbers -/
theorem X_iremN {a b : Nat} (hd : decode μ.2.2.1 pc = .ok (.irem, 1)) (ha : a < 2 ^ 31) (hb : b < 2 ^ 31) (h0 : 0 < b) (k : XJ G μ d gc gs (pc + 1) lo (.int (nI (a % b)) :: st) w Q) : XJ G μ d gc gs pc lo (.int (nI b) :: .int (nI a) :: st) w Q := by
  refine X_irem hd (fun h => ?_) (XJ.top (v' := .int (nI (a % b))) (by rw [pk_rem ha h0 hb]) k)
  have h2 : b = 0 := (nI_eq hb (by decide)).mp h
  omega
theorem int_nI (x : Int32) : x = nI x.toBitVec.toNat := by
  apply Int32.toBitVec_inj.mp
  apply BitVec.eq_of_toNat_eq
  show x.toBitVec.toNat = (BitVec.ofNat 32 x.toBitVec.toNat).toNat
  rw [BitVec.toNat_ofNat]
  exact (Nat.mod_eq_of_lt x.toBitVec.isLt).symm
theorem ushr1 (x : Int32) : ∃ v, v < 2 ^ 31 ∧ (x.toUInt32 >>> ((1 : Int32).toUInt32 &&& Int32.toUInt32 31)).toInt32 = nI v := by
  refine ⟨x.toBitVec.toNat / 2 ^ 1, ?_, ?_⟩
  · have := x.toBitVec.isLt
    omega
  · have h := pk_ushrN (n := x.toBitVec.toNat) x.toBitVec.isLt 1 1 (by decide)
    rw [← int_nI x] at h
    exact h
theorem j_cell (hL : G.2.2.2.2.2.1 < 2 ^ 31) (j : Nat) (hj : j < 2 ^ 31) : XC G mL_cell 0 0 0 [.ref G.2.2.2.2.1, .int (nI j)] w (fun r w' => (∃ x : Int32, r = .inl (some (.int x))) ∧ w' = w) := by
  refine XC.of (lo0 := [(0, .ref G.2.2.2.2.1), (1, .int (nI j))]) kmL_cell (Nat.le_of_ble_eq_true rfl) rfl ?_
  refine X_iload_n dL_cell_0 (i := 1) rfl rfl ?_
  refine X_aload_n dL_cell_1 (i := 0) rfl rfl ?_
  refine X_slen dL_cell_2 ?_
  refine X_icmp_ge (tgt := 12) dL_cell_3 (by decide) (fun h1 => ?_) (fun h1 => ?_)
  · refine X_ldc dL_cell_12 kL_7 ?_
    refine X_iload_n dL_cell_14 (i := 1) rfl rfl ?_
    refine X_imul dL_cell_15 ?_
    refine X_ireturn dL_cell_16 rfl rfl ?_
    exact ⟨⟨_, rfl⟩, rfl⟩
  · have hlt : j < G.2.2.2.2.2.1 := by
      rcases Nat.lt_or_ge j G.2.2.2.2.2.1 with h | h
      · exact h
      · exact absurd ((nI_leI hL hj).mpr h) h1
    refine X_aload_n dL_cell_6 (i := 0) rfl rfl ?_
    refine X_iload_n dL_cell_7 (i := 1) rfl rfl ?_
    refine X_sld rfl hlt hL dL_cell_8 ?_
    refine X_goto (tgt := 16) dL_cell_9 (by decide) ?_
    refine X_ireturn dL_cell_16 rfl rfl ?_
    exact ⟨⟨_, rfl⟩, rfl⟩
theorem j_pick (hL : G.2.2.2.2.2.1 < 2 ^ 31) (j m : Nat) (hj : j < 2 ^ 31) (h0 : 0 < m) (hm : m < 2 ^ 31) : XC G mL_pick 1 0 0 [.ref G.2.2.2.2.1, .int (nI j), .int (nI m)] w (fun r w' => (∃ v, v < m ∧ r = .inl (some (.int (nI v)))) ∧ w' = w) := by
  refine XC.of (lo0 := [(0, .ref G.2.2.2.2.1), (1, .int (nI j)), (2, .int (nI m))]) kmL_pick (Nat.le_of_ble_eq_true rfl) rfl ?_
  refine X_aload_n dL_pick_0 (i := 0) rfl rfl ?_
  refine X_iload_n dL_pick_1 (i := 1) rfl rfl ?_
  refine X_callS (gc2 := 0) (gs2 := 0) (j_cell hL j hj) kmL_cell rfl lL_8 sL_cell rfl rfl (Nat.le_of_ble_eq_true rfl) (by decide) dL_pick_2 (by decide) (by decide) (fun E w1 hq => (by obtain ⟨⟨x, hx⟩, -⟩ := hq; cases hx)) (fun v w1 hq => ?_)
  obtain ⟨⟨x, hv⟩, hw⟩ := hq
  subst hw
  cases hv
  obtain ⟨u, hu, eu⟩ := ushr1 x
  refine X_iconst (v := 1) dL_pick_5 (by decide) ?_
  refine X_iushr (v := nI u) dL_pick_6 eu ?_
  refine X_iload_n dL_pick_7 (i := 2) rfl rfl ?_
  refine X_iremN dL_pick_8 hu hm h0 ?_
  refine X_ireturn dL_pick_9 rfl rfl ?_
  exact ⟨⟨_, Nat.mod_lt _ h0, rfl⟩, rfl⟩
theorem j_max (a b : Nat) (ha : a < 2 ^ 31) (hb : b < 2 ^ 31) : XC G mJ9_max_7cf53 0 0 0 [.int (nI a), .int (nI b)] w (fun r w' => r = .inl (some (.int (nI (max a b)))) ∧ w' = w) := by
  refine XC.of (lo0 := [(0, .int (nI a)), (1, .int (nI b))]) kmJ9_max_7cf53 (Nat.le_of_ble_eq_true rfl) rfl ?_
  refine X_iload_n dJ9_max_7cf53_0 (i := 0) rfl rfl ?_
  refine X_iload_n dJ9_max_7cf53_1 (i := 1) rfl rfl ?_
  refine X_icmp_lt (tgt := 9) dJ9_max_7cf53_2 (by decide) (fun h1 => ?_) (fun h1 => ?_)
  · have h2 := (nI_ltI ha hb).mp h1
    refine X_iload_n dJ9_max_7cf53_9 (i := 1) rfl rfl ?_
    refine X_ireturn dJ9_max_7cf53_10 rfl rfl ?_
    exact ⟨by rw [Nat.max_eq_right (by omega)], rfl⟩
  · have h2 : b ≤ a := Nat.le_of_not_lt (fun h => h1 ((nI_ltI ha hb).mpr h))
    refine X_iload_n dJ9_max_7cf53_5 (i := 0) rfl rfl ?_
    refine X_goto (tgt := 10) dJ9_max_7cf53_6 (by decide) ?_
    refine X_ireturn dJ9_max_7cf53_10 rfl rfl ?_
    exact ⟨by rw [Nat.max_eq_left h2], rfl⟩
end XRows3
