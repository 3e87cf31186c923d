/-! THE CLASS's text that grows -/
section Room
variable {G : Gx} {w : Wd}
/-- the text's row at another place -/
def relT (K : Nat → ClassId) (w : Wd) (q n cap : Nat) (t : Nat → Int32) : Wd := (fun j => bif Nat.beq j 37 then q else w.1 j, w.2.1, fun j => bif Nat.beq j 36 then oB 5 [.ref q, .int (nI n)] else bif Nat.beq j 37 then aC K cap t else w.2.2 j)
theorem relT_id {K : Nat → ClassId} {n cap : Nat} {t : Nat → Int32} (h : XT2 K w n cap t) : w = relT K w (w.1 37) n cap t := by
  refine wd_ext (fun j => ?_) rfl (fun j => ?_)
  · show w.1 j = bif Nat.beq j 37 then w.1 37 else w.1 j
    by_cases h1 : j = 37
    · subst h1; rfl
    · rw [beq_n h1]; rfl
  · show w.2.2 j = bif Nat.beq j 36 then _ else bif Nat.beq j 37 then _ else w.2.2 j
    by_cases h0 : j = 36
    · subst h0; exact h.1.2
    · by_cases h1 : j = 37
      · subst h1; exact h.2.2
      · rw [beq_n h0, beq_n h1]; rfl
theorem relT_relT {K : Nat → ClassId} {q n cap q' n' cap' : Nat} {t t' : Nat → Int32} : relT K (relT K w q n cap t) q' n' cap' t' = relT K w q' n' cap' t' := by
  refine wd_ext (fun j => ?_) rfl (fun j => ?_)
  · show (bif Nat.beq j 37 then q' else bif Nat.beq j 37 then q else w.1 j) = bif Nat.beq j 37 then q' else w.1 j
    cases Nat.beq j 37 <;> rfl
  · show (bif Nat.beq j 36 then _ else bif Nat.beq j 37 then _ else bif Nat.beq j 36 then _ else bif Nat.beq j 37 then _ else w.2.2 j) = bif Nat.beq j 36 then _ else bif Nat.beq j 37 then _ else w.2.2 j
    cases Nat.beq j 36 <;> cases Nat.beq j 37 <;> rfl
theorem relT_t {K : Nat → ClassId} {q n cap : Nat} {t t' : Nat → Int32} : setM (relT K w q n cap t) 37 (aC K cap t') = relT K w q n cap t' := by
  refine wd_ext (fun j => rfl) rfl (fun j => ?_)
  show (bif Nat.beq j 37 then _ else bif Nat.beq j 36 then _ else bif Nat.beq j 37 then _ else w.2.2 j) = bif Nat.beq j 36 then _ else bif Nat.beq j 37 then _ else w.2.2 j
  by_cases h0 : j = 36
  · subst h0; rfl
  · by_cases h1 : j = 37
    · subst h1; rfl
    · rw [beq_n h0, beq_n h1]; rfl
theorem relT_n {K : Nat → ClassId} {q n cap n' : Nat} {t : Nat → Int32} : setM (relT K w q n cap t) 36 (oB 5 [.ref q, .int (nI n')]) = relT K w q n' cap t := by
  refine wd_ext (fun j => rfl) rfl (fun j => ?_)
  show (bif Nat.beq j 36 then _ else bif Nat.beq j 36 then _ else bif Nat.beq j 37 then _ else w.2.2 j) = bif Nat.beq j 36 then _ else bif Nat.beq j 37 then _ else w.2.2 j
  cases Nat.beq j 36 <;> rfl
theorem fits_ch {n : Nat} (h : n < 65536) : fits .char (.int (nI n)) = true := by
  show (decide ((0 : Int32) ≤ nI n) && decide (nI n ≤ (65535 : Int32))) = true
  rw [show (65535 : Int32) = nI 65535 from rfl, show (0 : Int32) = nI 0 from rfl, decide_eq_true ((nI_leI (by decide) (by omega)).mpr (Nat.zero_le n)), decide_eq_true ((nI_leI (by omega) (by decide)).mpr (show n ≤ 65535 by omega))]
  rfl
def capT (n cap k : Nat) : Nat := if cap < n + k then 2 * (n + k) else cap
theorem capT_ge {n cap k : Nat} : cap ≤ capT n cap k ∧ n + k ≤ capT n cap k := by unfold capT; split <;> omega
/-- the row holds the text -/
def TC (t : Nat → Int32) (T : List Nat) : Prop := ∀ j, j < T.length → t j = nI (T.getD j 0)
set_option maxRecDepth 20000 in
theorem c_makeRoom {cap : Nat} {t : Nat → Int32} {T : List Nat} (hT : XT2 G.2.2.1 w T.length cap t) (hn : T.length ≤ cap) (hcap : cap < 2 ^ 20) (hc : TC t T) (hch : ∀ c ∈ T, c < 128) (k : Nat) (hk : k < 2 ^ 10) : XC G mX6_makeRoom 1 (capT T.length cap k - cap) (2 * (capT T.length cap k - cap)) [.ref (w.1 36), .int (nI k)] w (fun r w' => r = .inl none ∧ ∃ q t1, w' = relT G.2.2.1 w q T.length (capT T.length cap k) t1 ∧ TC t1 T) := by
  refine XC.of (lo0 := [(0, .ref (w.1 36)), (1, .int (nI k))]) kmX6_makeRoom (Nat.le_of_ble_eq_true rfl) rfl ?_
  have g36 := hT.1.1
  have g37 := hT.2.1
  refine X_aload_n dX6_makeRoom_0 (i := 0) rfl rfl ?_
  refine X_get (i := 36) hT.1 rfl (ci := 5) rfl in6 (k := 1) (by decide) fX6_15 rfl dX6_makeRoom_1 ?_
  refine X_iload_n dX6_makeRoom_4 (i := 1) rfl rfl ?_
  refine X_iadd dX6_makeRoom_5 ?_
  refine XJ.top (v' := .int (nI (T.length + k))) (by rw [nI_add]) ?_
  refine X_aload_n dX6_makeRoom_6 (i := 0) rfl rfl ?_
  refine X_get (i := 36) hT.1 rfl (ci := 5) rfl in6 (k := 0) (by decide) fX6_9 rfl dX6_makeRoom_7 ?_
  refine X_alen (n := 0) (i := 37) (t := 1) (v := nI cap) hT.2 rfl rfl rfl dX6_makeRoom_10 ?_
  refine X_icmp_le (tgt := 44) dX6_makeRoom_11 (by decide) (fun h1 => ?_) (fun h1 => ?_)
  · have h2 : T.length + k ≤ cap := ge_nI (by omega) (by omega) h1
    refine X_vreturn dX6_makeRoom_44 rfl ?_
    refine ⟨rfl, w.1 37, t, ?_, hc⟩
    rw [show capT T.length cap k = cap from if_neg (by omega)]
    exact relT_id hT
  · have h2 : cap < T.length + k := nge_nI (by omega) (by omega) h1
    have hcs : capT T.length cap k = 2 * (T.length + k) := if_pos h2
    refine X_iconst (v := 2) dX6_makeRoom_14 (by decide) ?_
    refine X_aload_n dX6_makeRoom_15 (i := 0) rfl rfl ?_
    refine X_get (i := 36) hT.1 rfl (ci := 5) rfl in6 (k := 1) (by decide) fX6_15 rfl dX6_makeRoom_16 ?_
    refine X_iload_n dX6_makeRoom_19 (i := 1) rfl rfl ?_
    refine X_iadd dX6_makeRoom_20 ?_
    refine X_imul dX6_makeRoom_21 ?_
    refine XJ.top (v' := .int (nI (2 * (T.length + k)))) (by rw [show (2 : Int32) = nI 2 from rfl, nI_add, nI_mulx]) ?_
    refine X_newa (atype := .char) (t := 1) (N' := 2 * (T.length + k)) (ty := .char) (a0 := (2 * (T.length + k), .inl (fun _ => 0))) rfl rfl (fun C h => nomatch h) arr_char (fun cA => rfl) rfl (by show 2 * (T.length + k) * 2 ≤ _; omega) (by omega) (by omega) (by omega) dX6_makeRoom_22 (fun q1 => ?_)
    have r36 : (addM w q1 (.inl (G.2.2.1 1, 2 * (T.length + k), .inl (fun _ => 0)))).1 36 = w.1 36 := addM_1 g36
    have r37 : (addM w q1 (.inl (G.2.2.1 1, 2 * (T.length + k), .inl (fun _ => 0)))).1 37 = w.1 37 := addM_1 g37
    have rN : (addM w q1 (.inl (G.2.2.1 1, 2 * (T.length + k), .inl (fun _ => 0)))).1 w.2.1 = q1 := addM_n
    refine X_astore_n (i := 2) (lo' := [(2, _), (0, _), (1, _)]) dX6_makeRoom_24 rfl (by decide) rfl ?_
    refine X_aload_n dX6_makeRoom_25 (i := 0) rfl rfl ?_
    refine X_get (i := 36) hT.1.add r36 (ci := 5) rfl in6 (k := 0) (by decide) fX6_9 rfl dX6_makeRoom_26 ?_
    refine X_iconst (v := 0) dX6_makeRoom_29 (by decide) ?_
    refine X_aload_n dX6_makeRoom_30 (i := 2) rfl rfl ?_
    refine X_iconst (v := 0) dX6_makeRoom_31 (by decide) ?_
    refine X_aload_n dX6_makeRoom_32 (i := 0) rfl rfl ?_
    refine X_get (i := 36) hT.1.add r36 (ci := 5) rfl in6 (k := 1) (by decide) fX6_15 rfl dX6_makeRoom_33 ?_
    refine X_copyi (i0 := 37) (i1 := w.2.1) (t := 1) (ty := .char) hT.2.add cel.new r37 rN rfl rfl lX6_31 natjavalangSystem_arraycopyLjavalangObjectILjavalangObjectIIV sjavalangSystem_arraycopyLjavalangObjectILjavalangObjectIIV iniJ10 (by omega) hn (by omega) (fun i hi => by rw [hc i hi]; exact fits_ch (Nat.lt_trans (hch _ (getD_mem hi)) (by decide))) (Nat.le_of_ble_eq_true rfl) (by decide) dX6_makeRoom_36 ?_
    refine X_aload_n dX6_makeRoom_39 (i := 0) rfl rfl ?_
    refine X_aload_n dX6_makeRoom_40 (i := 2) rfl rfl ?_
    refine X_put tyX6 tyX6_ok nmX6 (i := 36) (cel.ne (by omega) hT.1.add) r36 (ci := 5) rfl in6 (k := 0) (by decide) fX6_9 rfl rfl rfl (Nat.le_of_ble_eq_true rfl) dX6_makeRoom_41 (fun hc1 => ?_)
    refine XJ.by (w' := relT G.2.2.1 w q1 T.length (2 * (T.length + k)) (va_cpy t (fun _ => 0) 0 0 T.length)) (fun i => if i = 37 then w.2.1 else i) ?_ ?_ ?_
    · intro i hi
      have hi' : i < w.2.1 := hi
      by_cases h3 : i = 37
      · subst h3
        refine ⟨?_, ?_, ?_⟩
        · show w.2.1 < w.2.1 + 1; omega
        · exact rN
        · show (bif Nat.beq w.2.1 36 then _ else bif Nat.beq w.2.1 w.2.1 then _ else _) = aC G.2.2.1 (2 * (T.length + k)) _
          rw [beq_n (show w.2.1 ≠ 36 by omega), Nat.beq_refl]
          rfl
      · show (if i = 37 then w.2.1 else i) < w.2.1 + 1 ∧ _ ∧ _
        rw [if_neg h3]
        refine ⟨by omega, ?_, ?_⟩
        · show (addM w q1 (.inl (G.2.2.1 1, 2 * (T.length + k), .inl (fun _ => 0)))).1 i = bif Nat.beq i 37 then q1 else w.1 i
          rw [addM_1 hi', beq_n h3]
          rfl
        · by_cases h0 : i = 36
          · subst h0; exact hc1.2
          · show (bif Nat.beq i 36 then _ else bif Nat.beq i w.2.1 then _ else bif Nat.beq i w.2.1 then _ else w.2.2 i) = bif Nat.beq i 36 then _ else bif Nat.beq i 37 then _ else w.2.2 i
            rw [beq_n h0, beq_n h3, beq_n (show i ≠ w.2.1 by omega)]
            rfl
    · intro i j hi hj
      have hi' : i < w.2.1 := hi
      have hj' : j < w.2.1 := hj
      show (if i = 37 then w.2.1 else i) = (if j = 37 then w.2.1 else j) → i = j
      split <;> split <;> omega
    · refine X_vreturn dX6_makeRoom_44 rfl ?_
      refine ⟨rfl, q1, _, by rw [hcs], fun j hj => ?_⟩
      rw [cpy_lt hj]
      exact hc j hj
end Room
