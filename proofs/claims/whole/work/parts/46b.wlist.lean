/-! TEXT of the class: writeList (walks by gen/spec46b.py) -/
section TextQ
variable {G : Gx} {w : Wd}
theorem c_putNumber7 {cap : Nat} {t : Nat → Int32} {T : List Nat} (hT : XT2 G.2.2.1 w T.length cap t) (hn : T.length ≤ cap) (hcap : cap < 2 ^ 20) (hc : TC t T) (hch : ∀ c ∈ T, c < 128) (v : Nat) (hv : v < 10 ^ 7) : XC G mX6_putNumber 2 (capT T.length cap (digN 7 v).length - cap) (2 * (capT T.length cap (digN 7 v).length - cap)) [.ref (w.1 36), .long (nL v)] w (fun r w' => r = .inl none ∧ ∃ q t1, w' = relT G.2.2.1 w q (T ++ digN 7 v).length (capT T.length cap (digN 7 v).length) t1 ∧ TC t1 (T ++ digN 7 v)) := c_putNumber (f0 := 6) hT hn hcap hc hch (by decide) v hv
set_option maxRecDepth 20000 in
theorem c_wlloop {mp cf dcap tc tn : Nat} {xs : List (Nat × Nat)} {da : Nat → Int32} {db : Nat → Int64} {tt : Nat → Int32} (h0 : X0 w mp cf) (hD : XD G.2.2.1 w xs.length dcap da db) (hdc : DC da db xs) (hdn : xs.length ≤ dcap) (hdcap : dcap < 2 ^ 19) (hT0 : XT2 G.2.2.1 w tn tc tt) (htcap : tc < 2 ^ 19) (hxb : ∀ x ∈ xs, x.1 < 100 ∧ x.2 < 10 ^ 7) (hxl : xs.length ≤ 1296) : ∀ (n k q : Nat) (t : Nat → Int32), xs.length - k < n → k ≤ xs.length → TC t (lstT false (xs.take k)) → XJ G mX10_writeList 9 ((capF 0 tc (lstP false xs)) - (capF 0 tc (lstP false (xs.take k)))) (2 * ((capF 0 tc (lstP false xs)) - (capF 0 tc (lstP false (xs.take k))))) 15 [(0, .ref (w.1 0)), (3, .int (nI k))] [] (relT G.2.2.1 w q (lstT false (xs.take k)).length (capF 0 tc (lstP false (xs.take k))) t) (fun r w' => r = .inl (some (.int (nI (lstT false xs).length))) ∧ ∃ q1 t1, w' = relT G.2.2.1 w q1 (lstT false xs).length (capF 0 tc (lstP false xs)) t1 ∧ TC t1 (lstT false xs)) := by
  have g36 := hT0.1.1
  have g37 := hT0.2.1
  have hloop : ∀ (n : Nat) (k q : Nat) (t : Nat → Int32), xs.length - k < n → k ≤ xs.length → TC t (lstT false (xs.take k)) → XJ G mX10_writeList 9 ((capF 0 tc (lstP false xs)) - (capF 0 tc (lstP false (xs.take k)))) (2 * ((capF 0 tc (lstP false xs)) - (capF 0 tc (lstP false (xs.take k))))) 15 [(0, .ref (w.1 0)), (3, .int (nI k))] [] (relT G.2.2.1 w q (lstT false (xs.take k)).length (capF 0 tc (lstP false (xs.take k))) t) (fun r w' => r = .inl (some (.int (nI (lstT false xs).length))) ∧ ∃ q1 t1, w' = relT G.2.2.1 w q1 (lstT false xs).length (capF 0 tc (lstP false xs)) t1 ∧ TC t1 (lstT false xs)) := by
    intro n
    induction n with
    | zero => intro k q t hm hk htc; exact absurd hm (Nat.not_lt_zero _)
    | succ n ih =>
      intro k q t hm hk htc
      have kk : XT2 G.2.2.1 (relT G.2.2.1 w q (lstT false (xs.take k)).length (capF 0 tc (lstP false (xs.take k))) t) (lstT false (xs.take k)).length (capF 0 tc (lstP false (xs.take k))) t := ⟨⟨g36, rfl⟩, ⟨g37, rfl⟩⟩
      refine X_iload_n dX10_writeList_15 (i := 3) rfl rfl ?_
      refine X_aload_n dX10_writeList_16 (i := 0) rfl rfl ?_
      refine X_get (i := 0) h0 rfl (ci := 9) rfl in10 (k := 5) (by decide) fX10_47 rfl dX10_writeList_17 ?_
      refine X_get (i := 33) hD.1 rfl (ci := 2) rfl in3 (k := 2) (by decide) fX10_205 rfl dX10_writeList_20 ?_
      refine X_icmp_ge (tgt := 87) dX10_writeList_23 (by decide) (fun h1 => ?_) (fun h1 => ?_)
      · have h5 : k = xs.length := by have := ge_nI (a := xs.length) (by omega) (by omega) h1; omega
        subst h5
        refine X_aload_n dX10_writeList_87 (i := 0) rfl rfl ?_
        refine X_get (i := 0) h0 rfl (ci := 9) rfl in10 (k := 6) (by decide) fX10_54 rfl dX10_writeList_88 ?_
        refine X_get (i := 36) kk.1 rfl (ci := 5) rfl in6 (k := 1) (by decide) fX10_228 rfl dX10_writeList_91 ?_
        refine X_ireturn dX10_writeList_94 rfl rfl ?_
        refine ⟨by rw [List.take_length], q, t, ?_, ?_⟩
        · rw [List.take_length]
        · rw [List.take_length] at htc; exact htc
      · have h5 : k < xs.length := nge_nI (a := xs.length) (by omega) (by omega) h1
        have hT := lstT_len (xs := xs.take k) (c := false) (fun y hy => hxb y (List.mem_of_mem_take hy))
        rw [List.length_take, Nat.min_eq_left (by omega)] at hT
        have hx := hxb (xs.getD k (0, 0)) (getD_mem h5)
        have e1 := digN_len (f := 7) (k := 6) (v := (xs.getD k (0, 0)).2) hx.2
        have e2 := digN_len (f := 7) (k := 6) (v := (xs.getD k (0, 0)).1) (by omega)
        have hsk : (lstP false (xs.take k)).sum = (lstT false (xs.take k)).length := lstP_sum
        have hck : (lstT false (xs.take k)).length ≤ (capF 0 tc (lstP false (xs.take k))) := by have := (capF_ge (a := lstP false (xs.take k)) (n := 0) (cap := tc) (Nat.zero_le _)).2; omega
        have hcE : (capF 0 tc (lstP false (xs.take (k + 1)))) ≤ (capF 0 tc (lstP false xs)) := by obtain ⟨r, hr⟩ := lstP_pre (xs := xs) (k := k + 1); rw [hr, capF_app]; exact (capF_ge (by have := (capF_ge (a := lstP false (xs.take (k + 1))) (n := 0) (cap := tc) (Nat.zero_le _)).2; exact this)).1
        have hcE2 : (capF 0 tc (lstP false xs)) < 2 ^ 19 + 1 := Nat.lt_succ_of_le (capF_le (by omega) (by rw [lstP_sum]; have := lstT_len (c := false) hxb; omega))
        have htail : ∀ (q0 c0 : Nat) (A0 : List Nat) (t0 : Nat → Int32), TC t0 A0 → A0.length ≤ c0 → (∀ c ∈ A0, c < 128) → A0.length < 2 ^ 17 → (A0 ++ (digN 7 (xs.getD k (0, 0)).2) ++ [120] ++ (digN 7 (xs.getD k (0, 0)).1)) = (lstT false (xs.take (k + 1))) → (capT (A0 ++ (digN 7 (xs.getD k (0, 0)).2) ++ [120]).length (capT (A0 ++ (digN 7 (xs.getD k (0, 0)).2)).length (capT A0.length c0 (digN 7 (xs.getD k (0, 0)).2).length) 1) (digN 7 (xs.getD k (0, 0)).1).length) = (capF 0 tc (lstP false (xs.take (k + 1)))) → XJ G mX10_writeList 9 ((capF 0 tc (lstP false xs)) - c0) (2 * ((capF 0 tc (lstP false xs)) - c0)) 39 [(0, .ref (w.1 0)), (3, .int (nI k))] [] (relT G.2.2.1 w q0 A0.length c0 t0) (fun r w' => r = .inl (some (.int (nI (lstT false xs).length))) ∧ ∃ q1 t1, w' = relT G.2.2.1 w q1 (lstT false xs).length (capF 0 tc (lstP false xs)) t1 ∧ TC t1 (lstT false xs)) := by
          intro q0 c0 A0 t0 tc0 n0 ch0 hA hA3 hc3
          have k0 : XT2 G.2.2.1 (relT G.2.2.1 w q0 A0.length c0 t0) A0.length c0 t0 := ⟨⟨g36, rfl⟩, ⟨g37, rfl⟩⟩
          have z1 := capT_ge (n := A0.length) (cap := c0) (k := (digN 7 (xs.getD k (0, 0)).2).length)
          have z2 := capT_ge (n := (A0 ++ (digN 7 (xs.getD k (0, 0)).2)).length) (cap := (capT A0.length c0 (digN 7 (xs.getD k (0, 0)).2).length)) (k := 1)
          have z3 := capT_ge (n := (A0 ++ (digN 7 (xs.getD k (0, 0)).2) ++ [120]).length) (cap := (capT (A0 ++ (digN 7 (xs.getD k (0, 0)).2)).length (capT A0.length c0 (digN 7 (xs.getD k (0, 0)).2).length) 1)) (k := (digN 7 (xs.getD k (0, 0)).1).length)
          have y1 : (A0 ++ (digN 7 (xs.getD k (0, 0)).2)).length = A0.length + (digN 7 (xs.getD k (0, 0)).2).length := List.length_append
          have y2 : (A0 ++ (digN 7 (xs.getD k (0, 0)).2) ++ [120]).length = (A0 ++ (digN 7 (xs.getD k (0, 0)).2)).length + 1 := List.length_append
          refine X_aload_n dX10_writeList_39 (i := 0) rfl rfl ?_
          refine X_get (i := 0) h0 rfl (ci := 9) rfl in10 (k := 6) (by decide) fX10_54 rfl dX10_writeList_40 ?_
          refine X_aload_n dX10_writeList_43 (i := 0) rfl rfl ?_
          refine X_get (i := 0) h0 rfl (ci := 9) rfl in10 (k := 5) (by decide) fX10_47 rfl dX10_writeList_44 ?_
          refine X_get (i := 33) hD.1 rfl (ci := 2) rfl in3 (k := 1) (by decide) fX10_214 rfl dX10_writeList_47 ?_
          refine X_iload_n dX10_writeList_50 (i := 3) rfl rfl ?_
          refine X_lald (i := 35) hD.2.2 rfl rfl (by omega) (by omega) dX10_writeList_51 ?_
          refine XJ.top (v' := .long (nL (xs.getD k (0, 0)).2)) (by rw [(hdc k h5).2]; rfl) ?_
          refine X_callV (gc2 := ((capF 0 tc (lstP false xs)) - (capT A0.length c0 (digN 7 (xs.getD k (0, 0)).2).length))) (gs2 := (2 * ((capF 0 tc (lstP false xs)) - (capT A0.length c0 (digN 7 (xs.getD k (0, 0)).2).length)))) (c_putNumber7 (w := (relT G.2.2.1 w q0 A0.length c0 t0)) k0 n0 (by omega) tc0 ch0 (xs.getD k (0, 0)).2 hx.2) (i := 36) k0.1 rfl rfl kmX6_putNumber rfl lX10_224 iX6_putNumber vX6_putNumber rfl rfl (Nat.le_of_ble_eq_true rfl) (by decide) dX10_writeList_52 (by omega) (by omega) (fun E w1 hq => nomatch hq.1) (fun v w1 hq => ?_)
          have hv := hq.1
          obtain ⟨q3, t3, hw2, hd1⟩ := hq.2
          subst hw2
          cases hv
          rw [relT_relT]
          have k1 : XT2 G.2.2.1 (relT G.2.2.1 w q3 (A0 ++ (digN 7 (xs.getD k (0, 0)).2)).length (capT A0.length c0 (digN 7 (xs.getD k (0, 0)).2).length) t3) (A0 ++ (digN 7 (xs.getD k (0, 0)).2)).length (capT A0.length c0 (digN 7 (xs.getD k (0, 0)).2).length) t3 := ⟨⟨g36, rfl⟩, ⟨g37, rfl⟩⟩
          refine X_aload_n dX10_writeList_55 (i := 0) rfl rfl ?_
          refine X_get (i := 0) h0 rfl (ci := 9) rfl in10 (k := 6) (by decide) fX10_54 rfl dX10_writeList_56 ?_
          refine X_bipush (v := 120) dX10_writeList_59 (by decide) ?_
          refine X_callV (gc2 := ((capF 0 tc (lstP false xs)) - (capT (A0 ++ (digN 7 (xs.getD k (0, 0)).2)).length (capT A0.length c0 (digN 7 (xs.getD k (0, 0)).2).length) 1))) (gs2 := (2 * ((capF 0 tc (lstP false xs)) - (capT (A0 ++ (digN 7 (xs.getD k (0, 0)).2)).length (capT A0.length c0 (digN 7 (xs.getD k (0, 0)).2).length) 1)))) (c_put (w := (relT G.2.2.1 w q3 (A0 ++ (digN 7 (xs.getD k (0, 0)).2)).length (capT A0.length c0 (digN 7 (xs.getD k (0, 0)).2).length) t3)) k1 (by omega) (by omega) hd1 (ch_app ch0 digN_ch) 120 120 rfl (by decide)) (i := 36) k1.1 rfl rfl kmX6_put rfl lX10_221 iX6_put vX6_put rfl rfl (Nat.le_of_ble_eq_true rfl) (by decide) dX10_writeList_61 (by omega) (by omega) (fun E w1 hq => nomatch hq.1) (fun v w1 hq => ?_)
          have hv := hq.1
          obtain ⟨q4, t4, hw2, hd2⟩ := hq.2
          subst hw2
          cases hv
          rw [relT_relT]
          have k2 : XT2 G.2.2.1 (relT G.2.2.1 w q4 (A0 ++ (digN 7 (xs.getD k (0, 0)).2) ++ [120]).length (capT (A0 ++ (digN 7 (xs.getD k (0, 0)).2)).length (capT A0.length c0 (digN 7 (xs.getD k (0, 0)).2).length) 1) t4) (A0 ++ (digN 7 (xs.getD k (0, 0)).2) ++ [120]).length (capT (A0 ++ (digN 7 (xs.getD k (0, 0)).2)).length (capT A0.length c0 (digN 7 (xs.getD k (0, 0)).2).length) 1) t4 := ⟨⟨g36, rfl⟩, ⟨g37, rfl⟩⟩
          refine X_aload_n dX10_writeList_64 (i := 0) rfl rfl ?_
          refine X_get (i := 0) h0 rfl (ci := 9) rfl in10 (k := 6) (by decide) fX10_54 rfl dX10_writeList_65 ?_
          refine X_aload_n dX10_writeList_68 (i := 0) rfl rfl ?_
          refine X_get (i := 0) h0 rfl (ci := 9) rfl in10 (k := 5) (by decide) fX10_47 rfl dX10_writeList_69 ?_
          refine X_get (i := 33) hD.1 rfl (ci := 2) rfl in3 (k := 0) (by decide) fX10_211 rfl dX10_writeList_72 ?_
          refine X_iload_n dX10_writeList_75 (i := 3) rfl rfl ?_
          refine X_iald (i := 34) hD.2.1 rfl rfl (by omega) (by omega) dX10_writeList_76 ?_
          refine XJ.top (v' := .int (nI (xs.getD k (0, 0)).1)) (by rw [(hdc k h5).1]; rfl) ?_
          refine X_i2l dX10_writeList_77 rfl ?_
          refine XJ.top (v' := .long (nL (xs.getD k (0, 0)).1)) (by rw [nL_i2l (by omega)]) ?_
          refine X_callV (gc2 := ((capF 0 tc (lstP false xs)) - (capT (A0 ++ (digN 7 (xs.getD k (0, 0)).2) ++ [120]).length (capT (A0 ++ (digN 7 (xs.getD k (0, 0)).2)).length (capT A0.length c0 (digN 7 (xs.getD k (0, 0)).2).length) 1) (digN 7 (xs.getD k (0, 0)).1).length))) (gs2 := (2 * ((capF 0 tc (lstP false xs)) - (capT (A0 ++ (digN 7 (xs.getD k (0, 0)).2) ++ [120]).length (capT (A0 ++ (digN 7 (xs.getD k (0, 0)).2)).length (capT A0.length c0 (digN 7 (xs.getD k (0, 0)).2).length) 1) (digN 7 (xs.getD k (0, 0)).1).length)))) (c_putNumber7 (w := (relT G.2.2.1 w q4 (A0 ++ (digN 7 (xs.getD k (0, 0)).2) ++ [120]).length (capT (A0 ++ (digN 7 (xs.getD k (0, 0)).2)).length (capT A0.length c0 (digN 7 (xs.getD k (0, 0)).2).length) 1) t4)) k2 (by omega) (by omega) hd2 (ch_app (ch_app ch0 digN_ch) (ch_one (by decide))) (xs.getD k (0, 0)).1 (by omega)) (i := 36) k2.1 rfl rfl kmX6_putNumber rfl lX10_224 iX6_putNumber vX6_putNumber rfl rfl (Nat.le_of_ble_eq_true rfl) (by decide) dX10_writeList_78 (by omega) (by omega) (fun E w1 hq => nomatch hq.1) (fun v w1 hq => ?_)
          have hv := hq.1
          obtain ⟨q5, t5, hw2, hd3⟩ := hq.2
          subst hw2
          cases hv
          rw [relT_relT]
          have k3 : XT2 G.2.2.1 (relT G.2.2.1 w q5 (A0 ++ (digN 7 (xs.getD k (0, 0)).2) ++ [120] ++ (digN 7 (xs.getD k (0, 0)).1)).length (capT (A0 ++ (digN 7 (xs.getD k (0, 0)).2) ++ [120]).length (capT (A0 ++ (digN 7 (xs.getD k (0, 0)).2)).length (capT A0.length c0 (digN 7 (xs.getD k (0, 0)).2).length) 1) (digN 7 (xs.getD k (0, 0)).1).length) t5) (A0 ++ (digN 7 (xs.getD k (0, 0)).2) ++ [120] ++ (digN 7 (xs.getD k (0, 0)).1)).length (capT (A0 ++ (digN 7 (xs.getD k (0, 0)).2) ++ [120]).length (capT (A0 ++ (digN 7 (xs.getD k (0, 0)).2)).length (capT A0.length c0 (digN 7 (xs.getD k (0, 0)).2).length) 1) (digN 7 (xs.getD k (0, 0)).1).length) t5 := ⟨⟨g36, rfl⟩, ⟨g37, rfl⟩⟩
          refine X_iinc (i := 3) (v := nI (k + 1)) (lo' := [(3, _), (0, _)]) dX10_writeList_81 rfl (nI_inc k) (by decide) rfl ?_
          refine X_goto (tgt := 15) dX10_writeList_84 (by decide) ?_
          rw [hA3] at hd3
          refine XJ.wd (w' := (relT G.2.2.1 w q5 (lstT false (xs.take (k + 1))).length (capF 0 tc (lstP false (xs.take (k + 1)))) t5)) (by rw [hA3, hc3]) ?_
          rw [hc3]
          exact XJ.lcs (lo' := [(0, .ref (w.1 0)), (3, .int (nI (k + 1)))]) ⟨rfl, rfl, trivial⟩ (ih (k + 1) q5 t5 (by omega) (by omega) hd3)
        refine X_iload_n dX10_writeList_26 (i := 3) rfl rfl ?_
        refine X_if_le (tgt := 39) dX10_writeList_27 (by decide) (fun h2 => ?_) (fun h2 => ?_)
        · have h6 : k = 0 := by have := ge_nI (a := k) (b := 0) (by omega) (by omega) h2; omega
          have hdz : decide (0 < k) = false := decide_eq_false (by omega)
          first
            | exact (XJ.lcs (lo' := [(0, .ref (w.1 0)), (3, .int (nI k))]) ⟨rfl, rfl, trivial⟩ (htail q _ _ t htc hck lstT_ch (by omega) (by rw [lstT_take h5, hdz]; simp [entT]) (by rw [lstP_take h5, capF_app, Nat.zero_add, hsk, hdz, List.length_append, List.length_append]; rfl)))
            | exact (XJ.lcs (lo' := [(0, .ref (w.1 0)), (3, .int (nI k))]) ⟨rfl, rfl, trivial⟩ (htail q2 _ _ t2 hd2 (by rw [List.length_append]; exact w1.2) (ch_app lstT_ch (ch_one (by decide))) (by rw [List.length_append]; show _ + 1 < _; omega) (by rw [lstT_take h5, hdz]; simp [entT]) (by rw [← hcc, List.length_append, List.length_append, List.length_append]; rfl)))
        · have h6 : 0 < k := by have := nge_nI (a := k) (b := 0) (by omega) (by omega) h2; omega
          have hdz : decide (0 < k) = true := decide_eq_true h6
          have w1 := capT_ge (n := (lstT false (xs.take k)).length) (cap := (capF 0 tc (lstP false (xs.take k)))) (k := 1)
          have hcc : capF (lstT false (xs.take k)).length (capF 0 tc (lstP false (xs.take k))) [1, (digN 7 (xs.getD k (0, 0)).2).length, 1, (digN 7 (xs.getD k (0, 0)).1).length] = (capF 0 tc (lstP false (xs.take (k + 1)))) := by rw [lstP_take h5, capF_app, Nat.zero_add, hsk, hdz]; rfl
          have hcm := (capF_ge (a := [(digN 7 (xs.getD k (0, 0)).2).length, 1, (digN 7 (xs.getD k (0, 0)).1).length]) (n := (lstT false (xs.take k)).length + 1) (cap := capT (lstT false (xs.take k)).length (capF 0 tc (lstP false (xs.take k))) 1) w1.2).1
          have hcm2 : capT (lstT false (xs.take k)).length (capF 0 tc (lstP false (xs.take k))) 1 ≤ (capF 0 tc (lstP false (xs.take (k + 1)))) := hcc ▸ hcm
          refine X_aload_n dX10_writeList_30 (i := 0) rfl rfl ?_
          refine X_get (i := 0) h0 rfl (ci := 9) rfl in10 (k := 6) (by decide) fX10_54 rfl dX10_writeList_31 ?_
          refine X_bipush (v := 44) dX10_writeList_34 (by decide) ?_
          refine X_callV (gc2 := ((capF 0 tc (lstP false xs)) - (capT (lstT false (xs.take k)).length (capF 0 tc (lstP false (xs.take k))) 1))) (gs2 := (2 * ((capF 0 tc (lstP false xs)) - (capT (lstT false (xs.take k)).length (capF 0 tc (lstP false (xs.take k))) 1)))) (c_put (w := (relT G.2.2.1 w q (lstT false (xs.take k)).length (capF 0 tc (lstP false (xs.take k))) t)) kk hck (by omega) htc lstT_ch 44 44 rfl (by decide)) (i := 36) kk.1 rfl rfl kmX6_put rfl lX10_221 iX6_put vX6_put rfl rfl (Nat.le_of_ble_eq_true rfl) (by decide) dX10_writeList_36 (by omega) (by omega) (fun E w1 hq => nomatch hq.1) (fun v w1 hq => ?_)
          have hv := hq.1
          obtain ⟨q2, t2, hw2, hd2⟩ := hq.2
          subst hw2
          cases hv
          rw [relT_relT]
          first
            | exact (XJ.lcs (lo' := [(0, .ref (w.1 0)), (3, .int (nI k))]) ⟨rfl, rfl, trivial⟩ (htail q _ _ t htc hck lstT_ch (by omega) (by rw [lstT_take h5, hdz]; simp [entT]) (by rw [lstP_take h5, capF_app, Nat.zero_add, hsk, hdz, List.length_append, List.length_append]; rfl)))
            | exact (XJ.lcs (lo' := [(0, .ref (w.1 0)), (3, .int (nI k))]) ⟨rfl, rfl, trivial⟩ (htail q2 _ _ t2 hd2 (by rw [List.length_append]; exact w1.2) (ch_app lstT_ch (ch_one (by decide))) (by rw [List.length_append]; show _ + 1 < _; omega) (by rw [lstT_take h5, hdz]; simp [entT]) (by rw [← hcc, List.length_append, List.length_append, List.length_append]; rfl)))
  exact hloop
end TextQ
