/-! TEXT of the class: the calls (walks by gen/spec46c.py) -/
section TextR
variable {G : Gx} {w : Wd}
def txX (K : Nat → ClassId) (w : Wd) (P : PSt) (L : LSt) (pr : Nat → Nat) (cap tc : Nat) (a s : Int32) (cd : Nat) (w' : Wd) : Prop := if cd = 0 then ∃ q1 q2 a1 b1 q t1, w' = relT K (relD K (selW K w L pr (idx s)) q1 q2 (listN P.2.1 L pr (idx s) 5 (idx a) 1).length (capL 0 cap (listN P.2.1 L pr (idx s) 5 (idx a) 1).length) a1 b1) q (lstT false (listN P.2.1 L pr (idx s) 5 (idx a) 1)).length (capF 0 tc (lstP false (listN P.2.1 L pr (idx s) 5 (idx a) 1))) t1 ∧ DC a1 b1 (listN P.2.1 L pr (idx s) 5 (idx a) 1) ∧ TC t1 (lstT false (listN P.2.1 L pr (idx s) 5 (idx a) 1)) else w' = w
theorem relT_clear {K : Nat → ClassId} {n cap : Nat} {t : Nat → Int32} (h : XT2 K w n cap t) : setM w 36 (oB 5 [.ref (w.1 37), .int (nI 0)]) = relT K w (w.1 37) 0 cap t := (congrArg (fun z => setM z 36 (oB 5 [.ref (w.1 37), .int (nI 0)])) (relT_id h)).trans relT_n
set_option maxRecDepth 20000 in
theorem c_writeList {mp np n cap : Nat} {P : PSt} {L : LSt} {pr : Nat → Nat} {hc hl : Nat → Int32} {da : Nat → Int32} {db : Nat → Int64} (h0 : X0 w mp (cfg pr)) (hB : XB w) (hP : XP G.2.2.1 w P) (hL : XL G.2.2.1 w L) (hS : XSel G.2.2.1 w hc hl) (hnp : P.1 = np) (hI : LI np L) (hpr : ∀ i, i < 4 → pr i < 4) (hN : NC5 L) (hk16 : ∀ j, P.2.1 j < 65536) (hD : XD G.2.2.1 w n cap da db) (hc16 : 16 ≤ cap) (hcap : cap < 2 ^ 19) {tn tc : Nat} {tt : Nat → Int32} (hT : XT2 G.2.2.1 w tn tc tt) (htcap : tc < 2 ^ 19) (a s : Int32) : XC G mX10_writeList 9 (2 + (capL 0 cap (listN P.2.1 L pr (idx s) 5 (idx a) 1).length - cap) + ((capF 0 tc (lstP false (listN P.2.1 L pr (idx s) 5 (idx a) 1))) - tc)) (12 + 4 * (capL 0 cap (listN P.2.1 L pr (idx s) 5 (idx a) 1).length - cap) + 2 * ((capF 0 tc (lstP false (listN P.2.1 L pr (idx s) 5 (idx a) 1))) - tc)) [.ref (w.1 0), .int a, .int s] w (fun r w' => r = xr (cdA a s np) [eIOB, eIAE] (.int (nI (lstT false (listN P.2.1 L pr (idx s) 5 (idx a) 1)).length)) ∧ txX G.2.2.1 w P L pr cap tc a s (cdA a s np) w') := by
  have h16 := hI.1
  have h40 := hI.2.1
  refine XC.of (lo0 := [(0, .ref (w.1 0)), (1, .int a), (2, .int s)]) kmX10_writeList (Nat.le_of_ble_eq_true rfl) rfl ?_
  refine X_aload_n dX10_writeList_0 (i := 0) rfl rfl ?_
  refine X_iload_n dX10_writeList_1 (i := 1) rfl rfl ?_
  refine X_iload_n dX10_writeList_2 (i := 2) rfl rfl ?_
  refine X_callV (gc2 := ((capF 0 tc (lstP false (listN P.2.1 L pr (idx s) 5 (idx a) 1))) - tc)) (gs2 := 2 * ((capF 0 tc (lstP false (listN P.2.1 L pr (idx s) 5 (idx a) 1))) - tc)) (c_mkList h0 hB hP hL hS hnp hI hpr hN hk16 hD hc16 hcap a s) (i := 0) h0 rfl rfl kmX10_makeDirectList rfl lX10_202 iX10_makeDirectList vX10_makeDirectList rfl rfl (Nat.le_of_ble_eq_true rfl) (by decide) dX10_writeList_3 (by omega) (by omega) (fun E w1 hq => XT.out rfl ⟨(xv_inr hq.1).1, by have h1 := hq.2; rw [lstX, if_neg (xv_inr (v := .int 0) (es := []) hq.1).2] at h1; rw [txX, if_neg (xv_inr (v := .int 0) (es := []) hq.1).2]; exact h1⟩) (fun v w1 hq => ?_)
  obtain ⟨rfl, hcd⟩ := xv_inl hq.1
  have hw1 := hq.2
  rw [lstX, if_pos hcd] at hw1
  obtain ⟨q1, q2, a1, b1, hw2, hd2⟩ := hw1
  subst hw2
  have kD : XD G.2.2.1 (relD G.2.2.1 (selW G.2.2.1 w L pr (idx s)) q1 q2 (listN P.2.1 L pr (idx s) 5 (idx a) 1).length (capL 0 cap (listN P.2.1 L pr (idx s) 5 (idx a) 1).length) a1 b1) (listN P.2.1 L pr (idx s) 5 (idx a) 1).length (capL 0 cap (listN P.2.1 L pr (idx s) 5 (idx a) 1).length) a1 b1 := ⟨⟨hD.1.1, rfl⟩, ⟨hD.2.1.1, rfl⟩, ⟨hD.2.2.1, rfl⟩⟩
  have kT : XT2 G.2.2.1 (relD G.2.2.1 (selW G.2.2.1 w L pr (idx s)) q1 q2 (listN P.2.1 L pr (idx s) 5 (idx a) 1).length (capL 0 cap (listN P.2.1 L pr (idx s) 5 (idx a) 1).length) a1 b1) tn tc tt := hT
  have kX : X0 (relD G.2.2.1 (selW G.2.2.1 w L pr (idx s)) q1 q2 (listN P.2.1 L pr (idx s) 5 (idx a) 1).length (capL 0 cap (listN P.2.1 L pr (idx s) 5 (idx a) 1).length) a1 b1) mp (cfg pr) := h0
  have hxl : (listN P.2.1 L pr (idx s) 5 (idx a) 1).length ≤ 1296 := xsN_len hN
  have hxb : ∀ x ∈ (listN P.2.1 L pr (idx s) 5 (idx a) 1), x.1 < 100 ∧ x.2 < 10 ^ 7 := fun x hx => by have := listN_mem hI hx; have e : (20 : Nat) ^ 5 = 3200000 := (by decide); have e2 : (10 : Nat) ^ 7 = 10000000 := (by decide); omega
  have hcl : (listN P.2.1 L pr (idx s) 5 (idx a) 1).length ≤ capL 0 cap (listN P.2.1 L pr (idx s) 5 (idx a) 1).length ∧ capL 0 cap (listN P.2.1 L pr (idx s) 5 (idx a) 1).length < 2 ^ 19 := by have c1 := capL_ge (n := 0) (cap := cap) (k := (listN P.2.1 L pr (idx s) 5 (idx a) 1).length) (by omega) (by omega); have c2 := capL_le (n := 0) (cap := cap) (b := 2 ^ 19 - 1) (k := (listN P.2.1 L pr (idx s) 5 (idx a) 1).length) (by omega) (by omega) (by omega); omega
  refine X_aload_n dX10_writeList_6 (i := 0) rfl rfl ?_
  refine X_get (i := 0) kX rfl (ci := 9) rfl in10 (k := 6) (by decide) fX10_54 rfl dX10_writeList_7 ?_
  refine X_callV (gc2 := ((capF 0 tc (lstP false (listN P.2.1 L pr (idx s) 5 (idx a) 1))) - tc)) (gs2 := 2 * ((capF 0 tc (lstP false (listN P.2.1 L pr (idx s) 5 (idx a) 1))) - tc)) (c_OLclear kT) (i := 36) kT.1 rfl rfl kmX6_clear rfl lX10_218 iX6_clear vX6_clear rfl rfl (Nat.le_of_ble_eq_true rfl) (by decide) dX10_writeList_10 (by omega) (by omega) (fun E w1 hq => nomatch hq.1) (fun v w1 hq => ?_)
  have hv := hq.1
  obtain rfl := hq.2.symm
  cases hv
  refine X_iconst (v := 0) dX10_writeList_13 (by decide) ?_
  refine X_istore_n (i := 3) (lo' := [(3, _), (0, _), (1, _), (2, _)]) dX10_writeList_14 rfl (by decide) rfl ?_
  refine XJ.wd (w' := relT G.2.2.1 (relD G.2.2.1 (selW G.2.2.1 w L pr (idx s)) q1 q2 (listN P.2.1 L pr (idx s) 5 (idx a) 1).length (capL 0 cap (listN P.2.1 L pr (idx s) 5 (idx a) 1).length) a1 b1) (w.1 37) 0 tc tt) (relT_clear kT) ?_
  refine XJ.mono (fun r w' h => ?_) (XJ.less (gc' := (capF 0 tc (lstP false (listN P.2.1 L pr (idx s) 5 (idx a) 1))) - tc) (gs' := 2 * ((capF 0 tc (lstP false (listN P.2.1 L pr (idx s) 5 (idx a) 1))) - tc)) (Nat.le_refl _) (Nat.le_refl _) (XJ.lcs (lo' := [(0, .ref (w.1 0)), (3, .int (nI 0))]) ⟨rfl, rfl, trivial⟩ (c_wlloop kX kD hd2 hcl.1 hcl.2 kT htcap hxb hxl ((listN P.2.1 L pr (idx s) 5 (idx a) 1).length + 1) 0 (w.1 37) tt (by omega) (by omega) (fun j hj => absurd hj (Nat.not_lt_zero _)))))
  obtain ⟨hr, q, t1, hw, ht⟩ := h
  exact ⟨by rw [hcd]; exact hr, by rw [txX, if_pos hcd]; exact ⟨q1, q2, a1, b1, q, t1, hw, hd2, ht⟩⟩
set_option maxRecDepth 20000 in
theorem c_charAt {mp cf tc : Nat} {tt : Nat → Int32} {T : List Nat} (h0 : X0 w mp cf) (hT : XT2 G.2.2.1 w T.length tc tt) (hn : T.length ≤ tc) (htc : tc < 2 ^ 19) (hc : TC tt T) (hch : ∀ c ∈ T, c < 128) (i : Int32) : XC G mX10_charAt 7 1 6 [.ref (w.1 0), .int i] w (fun r w' => r = xr (cdP i T.length) [eIOB] (.int (nI (T.getD (idx i) 0))) ∧ w' = w) := by
  refine XC.of (lo0 := [(0, .ref (w.1 0)), (1, .int i)]) kmX10_charAt (Nat.le_of_ble_eq_true rfl) rfl ?_
  refine X_iload_n dX10_charAt_0 (i := 1) rfl rfl ?_
  refine X_if_lt (tgt := 15) dX10_charAt_1 (by decide) (fun h1 => ?_) (fun h1 => ?_)
  · have hp : inP i T.length = false := inP_f1 h1
    refine X_throwS (text := "no such character") thr_IndexOutOfBoundsException (by decide +kernel) rfl dX10_charAt_15 dX10_charAt_18 dX10_charAt_19 dX10_charAt_21 dX10_charAt_24 (Nat.le_of_ble_eq_true rfl) (by decide) (by decide) (by decide) ?_
    exact ⟨by rw [cdP_1 hp]; rfl, rfl⟩
  · refine X_iload_n dX10_charAt_4 (i := 1) rfl rfl ?_
    refine X_aload_n dX10_charAt_5 (i := 0) rfl rfl ?_
    refine X_get (i := 0) h0 rfl (ci := 9) rfl in10 (k := 6) (by decide) fX10_54 rfl dX10_charAt_6 ?_
    refine X_get (i := 36) hT.1 rfl (ci := 5) rfl in6 (k := 1) (by decide) fX10_228 rfl dX10_charAt_9 ?_
    refine X_icmp_lt (tgt := 25) dX10_charAt_12 (by decide) (fun h2 => ?_) (fun h2 => ?_)
    · have hp : inP i T.length = true := inP_t h1 h2
      obtain ⟨j, hj, rfl⟩ := inP_of (by omega) hp
      have hcc := hch _ (getD_mem (z := 0) hj)
      refine X_aload_n dX10_charAt_25 (i := 0) rfl rfl ?_
      refine X_get (i := 0) h0 rfl (ci := 9) rfl in10 (k := 6) (by decide) fX10_54 rfl dX10_charAt_26 ?_
      refine X_get (i := 36) hT.1 rfl (ci := 5) rfl in6 (k := 0) (by decide) fX10_234 rfl dX10_charAt_29 ?_
      refine X_iload_n dX10_charAt_32 (i := 1) rfl rfl ?_
      refine X_cald (i := 37) hT.2 rfl rfl (by omega) (by omega) dX10_charAt_33 ?_
      refine XJ.top (v' := .int (nI (T.getD j 0))) (by rw [hc j hj]) ?_
      refine X_ireturn dX10_charAt_34 rfl (narrow_c (by omega)) ?_
      exact ⟨by rw [cdP_0 hp, idx_nI (by omega)]; rfl, rfl⟩
    · have hp : inP i T.length = false := inP_f2 h2
      refine X_throwS (text := "no such character") thr_IndexOutOfBoundsException (by decide +kernel) rfl dX10_charAt_15 dX10_charAt_18 dX10_charAt_19 dX10_charAt_21 dX10_charAt_24 (Nat.le_of_ble_eq_true rfl) (by decide) (by decide) (by decide) ?_
      exact ⟨by rw [cdP_1 hp]; rfl, rfl⟩
end TextR
