/-! PARTS of the class (walks by gen/spec23.py) -/
section PartsX
variable {G : Gx} {w : Wd}
set_option maxRecDepth 20000 in
theorem c_setPrice {mp cf : Nat} {P : PSt} (h0 : X0 w mp cf) (hB : XB w) (hP : XP G.2.2.1 w P) (hn : P.1 ≤ 16) (p c : Int32) : XC G mX10_setPrice 7 2 12 [.ref (w.1 0), .int p, .int c] w (fun r w' => r = xr (cdPC p c P.1) [eIOB, eIAE] (.int (nI (P.2.2.1 (idx p)))) ∧ w' = setM w 4 (aI G.2.2.1 16 (nf (upIf (cdPC p c P.1) (P.2.2.1) (idx p) (idx c))))) := by
  refine XC.of (lo0 := [(0, .ref (w.1 0)), (1, .int p), (2, .int c)]) kmX10_setPrice (Nat.le_of_ble_eq_true rfl) rfl ?_
  refine X_aload_n dX10_setPrice_0 (i := 0) rfl rfl ?_
  refine X_iload_n dX10_setPrice_1 (i := 1) rfl rfl ?_
  refine X_callV (gc2 := 1) (gs2 := 6) (c_checkPart p h0 hB hP) (i := 0) h0 rfl rfl kmX10_checkPart rfl lX10_100 iX10_checkPart vX10_checkPart rfl rfl (Nat.le_of_ble_eq_true rfl) (by decide) dX10_setPrice_2 (by decide) (by decide) (fun E w1 hq => XT.out rfl (by
      have hv := hq.1
      obtain rfl := hq.2.symm
      obtain ⟨hp, rfl⟩ := rOK_inr hv
      have hcd := cdPC_1 (c := c) hp
      exact ⟨by rw [hcd]; rfl, by rw [upIf_n (by rw [hcd]; decide)]; exact (celId hP.2.2.1).symm⟩)) (fun v w1 hq => ?_)
  have hv := hq.1
  obtain rfl := hq.2.symm
  obtain ⟨hp, rfl⟩ := rOK_inl hv
  refine X_iload_n dX10_setPrice_5 (i := 2) rfl rfl ?_
  refine X_callS (gc2 := 0) (gs2 := 0) (c_checkCents c) kmX10_checkCents rfl lX10_73 sX10_checkCents rfl rfl (Nat.le_of_ble_eq_true rfl) (by decide) dX10_setPrice_6 (by decide) (by decide) (fun E w1 hq => XT.out rfl (by
      have hv := hq.1
      obtain rfl := hq.2.symm
      obtain ⟨hc, rfl⟩ := rOK_inr hv
      have hcd := cdPC_2 hp hc
      exact ⟨by rw [hcd]; rfl, by rw [upIf_n (by rw [hcd]; decide)]; exact (celId hP.2.2.1).symm⟩)) (fun v w1 hq => ?_)
  have hv := hq.1
  obtain rfl := hq.2.symm
  obtain ⟨hc, rfl⟩ := rOK_inl hv
  have hcd := cdPC_0 hp hc
  obtain ⟨j, hj, rfl⟩ := inP_of (by omega) hp
  obtain ⟨cN, hcN, rfl⟩ := btw_price hc
  refine X_aload_n dX10_setPrice_9 (i := 0) rfl rfl ?_
  refine X_get (i := 0) h0 rfl (ci := 9) rfl in10 (k := 0) (by decide) fX10_10 rfl dX10_setPrice_10 ?_
  refine X_get (i := 1) hB rfl (ci := 0) rfl in0 (k := 0) (by decide) fX10_80 rfl dX10_setPrice_13 ?_
  refine X_get (i := 2) hP.1 rfl (ci := 6) rfl in7 (k := 1) (by decide) fX10_103 rfl dX10_setPrice_16 ?_
  refine X_iload_n dX10_setPrice_19 (i := 1) rfl rfl ?_
  refine X_iald (i := 4) hP.2.2.1 rfl rfl (by omega) (by decide) dX10_setPrice_20 ?_
  refine X_istore_n (i := 3) (lo' := [(3, _), (0, _), (1, _), (2, _)]) dX10_setPrice_21 rfl (by decide) rfl ?_
  refine X_aload_n dX10_setPrice_22 (i := 0) rfl rfl ?_
  refine X_get (i := 0) h0 rfl (ci := 9) rfl in10 (k := 0) (by decide) fX10_10 rfl dX10_setPrice_23 ?_
  refine X_get (i := 1) hB rfl (ci := 0) rfl in0 (k := 0) (by decide) fX10_80 rfl dX10_setPrice_26 ?_
  refine X_get (i := 2) hP.1 rfl (ci := 6) rfl in7 (k := 1) (by decide) fX10_103 rfl dX10_setPrice_29 ?_
  refine X_iload_n dX10_setPrice_32 (i := 1) rfl rfl ?_
  refine X_iload_n dX10_setPrice_33 (i := 2) rfl rfl ?_
  refine X_iast (i := 4) hP.2.2.1 rfl rfl (by omega) (by decide) dX10_setPrice_34 (fun hc_34 => ?_)
  refine X_iload_n dX10_setPrice_35 (i := 3) rfl rfl ?_
  refine X_ireturn dX10_setPrice_36 rfl rfl ?_
  exact ⟨by rw [hcd, idx_nI (by omega)]; rfl, setM_e (by rw [upIf_0 hcd, idx_nI (by omega), idx_nI (by omega), ← nf_up])⟩
set_option maxRecDepth 20000 in
theorem c_kind {mp cf : Nat} {P : PSt} (h0 : X0 w mp cf) (hB : XB w) (hP : XP G.2.2.1 w P) (hn : P.1 ≤ 16) (hk16 : ∀ j, P.2.1 j < 65536) (p : Int32) : XC G mX10_kind 7 1 6 [.ref (w.1 0), .int p] w (fun r w' => r = xr (cdP p P.1) [eIOB] (.int (nI (P.2.1 (idx p)))) ∧ w' = w) := by
  refine XC.of (lo0 := [(0, .ref (w.1 0)), (1, .int p)]) kmX10_kind (Nat.le_of_ble_eq_true rfl) rfl ?_
  refine X_aload_n dX10_kind_0 (i := 0) rfl rfl ?_
  refine X_iload_n dX10_kind_1 (i := 1) rfl rfl ?_
  refine X_callV (gc2 := 0) (gs2 := 0) (c_checkPart p h0 hB hP) (i := 0) h0 rfl rfl kmX10_checkPart rfl lX10_100 iX10_checkPart vX10_checkPart rfl rfl (Nat.le_of_ble_eq_true rfl) (by decide) dX10_kind_2 (by decide) (by decide) (fun E w1 hq => XT.out rfl (by
      have hv := hq.1
      obtain rfl := hq.2.symm
      obtain ⟨hp, rfl⟩ := rOK_inr hv
      have hcd := cdP_1 hp
      exact ⟨by rw [hcd]; rfl, rfl⟩)) (fun v w1 hq => ?_)
  have hv := hq.1
  obtain rfl := hq.2.symm
  obtain ⟨hp, rfl⟩ := rOK_inl hv
  have hcd := cdP_0 hp
  obtain ⟨j, hj, rfl⟩ := inP_of (by omega) hp
  refine X_aload_n dX10_kind_5 (i := 0) rfl rfl ?_
  refine X_get (i := 0) h0 rfl (ci := 9) rfl in10 (k := 0) (by decide) fX10_10 rfl dX10_kind_6 ?_
  refine X_get (i := 1) hB rfl (ci := 0) rfl in0 (k := 0) (by decide) fX10_80 rfl dX10_kind_9 ?_
  refine X_get (i := 2) hP.1 rfl (ci := 6) rfl in7 (k := 0) (by decide) fX10_110 rfl dX10_kind_12 ?_
  refine X_iload_n dX10_kind_15 (i := 1) rfl rfl ?_
  refine X_cald (i := 3) hP.2.1 rfl rfl (by omega) (by decide) dX10_kind_16 ?_
  refine X_ireturn dX10_kind_17 rfl (narrow_c (hk16 j)) ?_
  exact ⟨by rw [hcd, idx_nI (by omega)]; rfl, rfl⟩
def setXP (K : Nat → ClassId) (w : Wd) (P : PSt) : Wd := setM (setM (setM (setM w 3 (aC K 16 (nf P.2.1))) 4 (aI K 16 (nf P.2.2.1))) 5 (aI K 16 (nf P.2.2.2))) 2 (oB 6 [.ref (w.1 3), .ref (w.1 4), .ref (w.1 5), .int (nI P.1)])
theorem setXP_id {K : Nat → ClassId} {P : PSt} (h : XP K w P) : setXP K w P = w := by
  unfold setXP
  rw [celId h.2.1, celId h.2.2.1, celId h.2.2.2, celId h.1]
def addP (P : PSt) (cd : Nat) (k c g : Nat) : PSt := (addN cd P.1, upIf cd P.2.1 P.1 k, upIf cd P.2.2.1 P.1 c, upIf cd P.2.2.2 P.1 g)
theorem addP_n {P : PSt} {cd k c g : Nat} (h : cd ≠ 0) : addP P cd k c g = P := by
  unfold addP addN
  rw [upIf_n h, upIf_n h, upIf_n h, if_neg h]
theorem setXP_add {K : Nat → ClassId} {P : PSt} {k c g : Nat} : setXP K w (addP P 0 k c g) = setM (setM (setM (setM w 3 (aC K 16 (va_up (nf P.2.1) P.1 (nI k)))) 4 (aI K 16 (va_up (nf P.2.2.1) P.1 (nI c)))) 5 (aI K 16 (va_up (nf P.2.2.2) P.1 (nI g)))) 2 (oB 6 [.ref (w.1 3), .ref (w.1 4), .ref (w.1 5), .int (nI (P.1 + 1))]) := by
  unfold setXP addP addN
  rw [upIf_0 rfl, upIf_0 rfl, upIf_0 rfl, if_pos rfl]
  simp only [nf_up]
set_option maxRecDepth 20000 in
theorem c_PT_add {P : PSt} (hP : XP G.2.2.1 w P) (hn : P.1 < 16) (k c g : Nat) (hk : k < 65536) : XC G mX7_add 0 0 0 [.ref (w.1 2), .int (nI k), .int (nI c), .int (nI g)] w (fun r w' => r = .inl (some (.int (nI P.1))) ∧ w' = setXP G.2.2.1 w (addP P 0 k c g)) := by
  refine XC.of (lo0 := [(0, .ref (w.1 2)), (1, .int (nI k)), (2, .int (nI c)), (3, .int (nI g))]) kmX7_add (Nat.le_of_ble_eq_true rfl) rfl ?_
  refine X_aload_n dX7_add_0 (i := 0) rfl rfl ?_
  refine X_get (i := 2) hP.1 rfl (ci := 6) rfl in7 (k := 3) (by decide) fX7_22 rfl dX7_add_1 ?_
  refine X_istore (i := 4) (lo' := [(4, _), (0, _), (1, _), (2, _), (3, _)]) dX7_add_4 (by decide) rfl ?_
  refine X_aload_n dX7_add_6 (i := 0) rfl rfl ?_
  refine X_get (i := 2) hP.1 rfl (ci := 6) rfl in7 (k := 0) (by decide) fX7_9 rfl dX7_add_7 ?_
  refine X_iload dX7_add_10 (i := 4) rfl ?_
  refine X_iload_n dX7_add_12 (i := 1) rfl rfl ?_
  refine X_cast (i := 3) hP.2.1 rfl rfl (by omega) (by decide) dX7_add_13 (fun hc_13 => ?_)
  refine X_aload_n dX7_add_14 (i := 0) rfl rfl ?_
  refine X_get (i := 2) hP.1 rfl (ci := 6) rfl in7 (k := 1) (by decide) fX7_15 rfl dX7_add_15 ?_
  refine X_iload dX7_add_18 (i := 4) rfl ?_
  refine X_iload_n dX7_add_20 (i := 2) rfl rfl ?_
  refine X_iast (i := 4) hP.2.2.1 rfl rfl (by omega) (by decide) dX7_add_21 (fun hc_21 => ?_)
  refine X_aload_n dX7_add_22 (i := 0) rfl rfl ?_
  refine X_get (i := 2) hP.1 rfl (ci := 6) rfl in7 (k := 2) (by decide) fX7_19 rfl dX7_add_23 ?_
  refine X_iload dX7_add_26 (i := 4) rfl ?_
  refine X_iload_n dX7_add_28 (i := 3) rfl rfl ?_
  refine X_iast (i := 5) hP.2.2.2 rfl rfl (by omega) (by decide) dX7_add_29 (fun hc_29 => ?_)
  refine X_aload_n dX7_add_30 (i := 0) rfl rfl ?_
  refine X_iload dX7_add_31 (i := 4) rfl ?_
  refine X_iconst (v := 1) dX7_add_33 (by decide) ?_
  refine X_iadd dX7_add_34 ?_
  refine XJ.top (v' := .int (nI (P.1 + 1))) (by rw [← nI_1]) ?_
  refine X_put tyX7 tyX7_ok nmX7 (i := 2) hP.1 rfl (ci := 6) rfl in7 (k := 3) (by decide) fX7_22 rfl rfl rfl (Nat.le_of_ble_eq_true rfl) dX7_add_35 (fun hc_35 => ?_)
  refine X_iload dX7_add_38 (i := 4) rfl ?_
  refine X_ireturn dX7_add_40 rfl rfl ?_
  exact ⟨rfl, by rw [setXP_add, nar_char hk]; rfl⟩
theorem cdAdd_k {k c g : Int32} {n : Nat} (h : isK k = false) : cdAdd k c g n = 1 := by simp [cdAdd, h]
theorem cdAdd_c {k c g : Int32} {n : Nat} (h : btw c 0 99999 = false) : cdAdd k c g n = 1 := by simp [cdAdd, h]
theorem cdAdd_g {k c g : Int32} {n : Nat} (h : btw g 0 99999 = false) : cdAdd k c g n = 1 := by simp [cdAdd, h]
theorem cdAdd_2 {k c g : Int32} {n : Nat} (h1 : isK k = true) (h2 : btw c 0 99999 = true) (h3 : btw g 0 99999 = true) (h : n = 16) : cdAdd k c g n = 2 := by simp [cdAdd, h1, h2, h3, h]
theorem cdAdd_0 {k c g : Int32} {n : Nat} (h1 : isK k = true) (h2 : btw c 0 99999 = true) (h3 : btw g 0 99999 = true) (h : n ≠ 16) : cdAdd k c g n = 0 := by simp [cdAdd, h1, h2, h3, h]
set_option maxRecDepth 20000 in
theorem c_addPart {mp cf : Nat} {P : PSt} (h0 : X0 w mp cf) (hB : XB w) (hP : XP G.2.2.1 w P) (hn : P.1 ≤ 16) (k : Nat) (hk : k < 65536) (c g : Int32) : XC G mX10_addPart 7 4 24 [.ref (w.1 0), .int (nI k), .int c, .int g] w (fun r w' => r = xr (cdAdd (nI k) c g P.1) [eIAE, eISE] (.int (nI P.1)) ∧ w' = setXP G.2.2.1 w (addP P (cdAdd (nI k) c g P.1) k (idx c) (idx g))) := by
  refine XC.of (lo0 := [(0, .ref (w.1 0)), (1, .int (nI k)), (2, .int c), (3, .int g)]) kmX10_addPart (Nat.le_of_ble_eq_true rfl) rfl ?_
  refine X_iload_n dX10_addPart_0 (i := 1) rfl rfl ?_
  refine X_callS (gc2 := 3) (gs2 := 18) (c_checkKind (nI k)) kmX10_checkKind rfl lX10_69 sX10_checkKind rfl rfl (Nat.le_of_ble_eq_true rfl) (by decide) dX10_addPart_1 (by decide) (by decide) (fun E w1 hq => XT.out rfl (by
      have hv := hq.1
      obtain rfl := hq.2.symm
      obtain ⟨hkk, rfl⟩ := rOK_inr hv
      have hcd := cdAdd_k (c := c) (g := g) (n := P.1) hkk
      exact ⟨by rw [hcd]; rfl, by rw [addP_n (by rw [hcd]; decide)]; exact (setXP_id hP).symm⟩)) (fun v w1 hq => ?_)
  have hv := hq.1
  obtain rfl := hq.2.symm
  obtain ⟨hkk, rfl⟩ := rOK_inl hv
  refine X_iload_n dX10_addPart_4 (i := 2) rfl rfl ?_
  refine X_callS (gc2 := 2) (gs2 := 12) (c_checkCents c) kmX10_checkCents rfl lX10_73 sX10_checkCents rfl rfl (Nat.le_of_ble_eq_true rfl) (by decide) dX10_addPart_5 (by decide) (by decide) (fun E w1 hq => XT.out rfl (by
      have hv := hq.1
      obtain rfl := hq.2.symm
      obtain ⟨hc, rfl⟩ := rOK_inr hv
      have hcd := cdAdd_c (k := nI k) (g := g) (n := P.1) hc
      exact ⟨by rw [hcd]; rfl, by rw [addP_n (by rw [hcd]; decide)]; exact (setXP_id hP).symm⟩)) (fun v w1 hq => ?_)
  have hv := hq.1
  obtain rfl := hq.2.symm
  obtain ⟨hc, rfl⟩ := rOK_inl hv
  refine X_iload_n dX10_addPart_8 (i := 3) rfl rfl ?_
  refine X_callS (gc2 := 1) (gs2 := 6) (c_checkGrams g) kmX10_checkGrams rfl lX10_77 sX10_checkGrams rfl rfl (Nat.le_of_ble_eq_true rfl) (by decide) dX10_addPart_9 (by decide) (by decide) (fun E w1 hq => XT.out rfl (by
      have hv := hq.1
      obtain rfl := hq.2.symm
      obtain ⟨hg, rfl⟩ := rOK_inr hv
      have hcd := cdAdd_g (k := nI k) (c := c) (n := P.1) hg
      exact ⟨by rw [hcd]; rfl, by rw [addP_n (by rw [hcd]; decide)]; exact (setXP_id hP).symm⟩)) (fun v w1 hq => ?_)
  have hv := hq.1
  obtain rfl := hq.2.symm
  obtain ⟨hg, rfl⟩ := rOK_inl hv
  refine X_aload_n dX10_addPart_12 (i := 0) rfl rfl ?_
  refine X_get (i := 0) h0 rfl (ci := 9) rfl in10 (k := 0) (by decide) fX10_10 rfl dX10_addPart_13 ?_
  refine X_get (i := 1) hB rfl (ci := 0) rfl in0 (k := 0) (by decide) fX10_80 rfl dX10_addPart_16 ?_
  refine X_get (i := 2) hP.1 rfl (ci := 6) rfl in7 (k := 3) (by decide) fX10_84 rfl dX10_addPart_19 ?_
  refine X_bipush (v := 16) dX10_addPart_22 (by decide) ?_
  refine X_icmp_lt (tgt := 37) dX10_addPart_24 (by decide) (fun hb => ?_) (fun hb => ?_)
  · have hn2 : P.1 < 16 := (nI_ltI (by omega) (by decide)).mp hb
    have hcd := cdAdd_0 hkk hc hg (show P.1 ≠ 16 by omega)
    obtain ⟨cN, hcN, rfl⟩ := btw_price hc
    obtain ⟨gN, hgN, rfl⟩ := btw_price hg
    refine X_aload_n dX10_addPart_37 (i := 0) rfl rfl ?_
    refine X_get (i := 0) h0 rfl (ci := 9) rfl in10 (k := 0) (by decide) fX10_10 rfl dX10_addPart_38 ?_
    refine X_get (i := 1) hB rfl (ci := 0) rfl in0 (k := 0) (by decide) fX10_80 rfl dX10_addPart_41 ?_
    refine X_iload_n dX10_addPart_44 (i := 1) rfl rfl ?_
    refine X_iload_n dX10_addPart_45 (i := 2) rfl rfl ?_
    refine X_iload_n dX10_addPart_46 (i := 3) rfl rfl ?_
    refine X_callV (gc2 := 1) (gs2 := 6) (c_PT_add hP hn2 k cN gN hk) (i := 2) hP.1 rfl rfl kmX7_add rfl lX10_96 iX7_add vX7_add rfl rfl (Nat.le_of_ble_eq_true rfl) (by decide) dX10_addPart_47 (by decide) (by decide) (fun E w1 hq => nomatch hq.1) (fun v w1 hq => ?_)
    have hv := hq.1
    obtain rfl := hq.2.symm
    cases hv
    refine X_ireturn dX10_addPart_50 rfl rfl ?_
    exact ⟨by rw [hcd]; rfl, by rw [hcd, idx_nI (by omega), idx_nI (by omega)]⟩
  · have hcd := cdAdd_2 hkk hc hg (show P.1 = 16 by have h9 : ¬ P.1 < 16 := fun h => hb (nI_lt h (by decide)); omega)
    refine X_throwS (text := "there are 16 parts") thr_IllegalStateException (by decide +kernel) rfl dX10_addPart_27 dX10_addPart_30 dX10_addPart_31 dX10_addPart_33 dX10_addPart_36 (Nat.le_of_ble_eq_true rfl) (by decide) (by decide) (by decide) ?_
    exact ⟨by rw [hcd]; rfl, by rw [addP_n (by rw [hcd]; decide)]; exact (setXP_id hP).symm⟩
end PartsX
