/-! THE LAW'S HELPERS (walks by gen/spec71.py) -/
section LawL
variable {G : Gx} {w : Wd}
theorem int_nI (x : Int32) : x = nI x.toBitVec.toNat := by
  apply Int32.toBitVec_inj.mp
  apply BitVec.eq_of_toNat_eq
  show x.toBitVec.toNat = (BitVec.ofNat 32 x.toBitVec.toNat).toNat
  rw [BitVec.toNat_ofNat]
  exact (Nat.mod_eq_of_lt x.toBitVec.isLt).symm
theorem and63 (x : Int32) : ∃ m, m < 64 ∧ x &&& 63 = nI m := by
  refine ⟨x.toBitVec.toNat &&& 63, ?_, ?_⟩
  · have := Nat.and_le_right (n := x.toBitVec.toNat) (m := 63)
    omega
  · have e := int_nI x
    calc x &&& 63 = nI x.toBitVec.toNat &&& nI 63 := by rw [← e]; rfl
      _ = nI (x.toBitVec.toNat &&& 63) := nI_and _ _
theorem ch_lt (x : UInt32) : (x % 65536).toNat < 65536 := by
  rw [UInt32.toNat_mod]
  exact Nat.mod_lt _ (by decide)
theorem loop_go {a n : Nat} (hn : n ≤ 3584) (ha : a ≤ 3584) (h : ¬ (nI n - 7 < nI a)) : a + 7 ≤ n := by
  by_cases h7 : 7 ≤ n
  · obtain ⟨k, rfl⟩ : ∃ k, n = k + 7 := ⟨n - 7, by omega⟩
    have e : nI (k + 7) - 7 = nI k := by
      rw [← nI_add, show nI 7 = (7 : Int32) from rfl]
      exact Int32.add_sub_cancel _ _
    rw [e] at h
    have h : ¬ k < a := fun h2 => h (nI_lt h2 (by omega))
    omega
  · exfalso
    apply h
    rw [Int32.lt_iff_toInt_lt, nI_toInt (show a < 2 ^ 31 by omega)]
    have : n = 0 ∨ n = 1 ∨ n = 2 ∨ n = 3 ∨ n = 4 ∨ n = 5 ∨ n = 6 := by omega
    have e : (nI n - 7).toInt < 0 := by rcases this with rfl | rfl | rfl | rfl | rfl | rfl | rfl <;> decide
    omega
theorem cap_dc {P : PSt} {L : LSt} {pr : Nat → Nat} {O : OSt} {mp : Nat} {mk : Nat → UInt32} {T : List Nat} {dc : Nat} (hIP : IP P L pr O mp mk T) (h1 : 16 ≤ dc) (h2 : dc ≤ 2592) (a s : Int32) : dc ≤ (if cdA a s P.1 = 0 then capL 0 dc (listN P.2.1 L pr (idx s) 5 (idx a) 1).length else dc) ∧ (if cdA a s P.1 = 0 then capL 0 dc (listN P.2.1 L pr (idx s) 5 (idx a) 1).length else dc) ≤ 2592 := by
  have hlen : (listN P.2.1 L pr (idx s) 5 (idx a) 1).length ≤ 1296 := xsN_len hIP.2.2.1.2.2
  have cg := capL_ge (n := 0) (cap := dc) (k := (listN P.2.1 L pr (idx s) 5 (idx a) 1).length) (by omega) (by omega)
  have cl := capL_le (n := 0) (cap := dc) (b := 2592) (k := (listN P.2.1 L pr (idx s) 5 (idx a) 1).length) (by omega) h2 (by omega)
  split <;> omega
theorem cap_tc {P : PSt} {L : LSt} {pr : Nat → Nat} {O : OSt} {mp : Nat} {mk : Nat → UInt32} {T : List Nat} {tc : Nat} (hIP : IP P L pr O mp mk T) (h2 : tc ≤ 40000) (a s : Int32) : tc ≤ (if cdA a s P.1 = 0 then capF 0 tc (lstP false (listN P.2.1 L pr (idx s) 5 (idx a) 1)) else tc) ∧ (if cdA a s P.1 = 0 then capF 0 tc (lstP false (listN P.2.1 L pr (idx s) 5 (idx a) 1)) else tc) ≤ 40000 := by
  have hlen : (listN P.2.1 L pr (idx s) 5 (idx a) 1).length ≤ 1296 := xsN_len hIP.2.2.1.2.2
  have hxb : ∀ x ∈ (listN P.2.1 L pr (idx s) 5 (idx a) 1), x.1 < 100 ∧ x.2 < 10 ^ 7 := fun x hx => by have := listN_mem hIP.2.2.1.1 hx; have h16 := hIP.2.2.1.1.1; omega
  have hTl := lstT_len (xs := (listN P.2.1 L pr (idx s) 5 (idx a) 1)) (c := false) hxb
  have hsum : (lstP false (listN P.2.1 L pr (idx s) 5 (idx a) 1)).sum = (lstT false (listN P.2.1 L pr (idx s) 5 (idx a) 1)).length := lstP_sum
  have fg := capF_ge (a := lstP false (listN P.2.1 L pr (idx s) 5 (idx a) 1)) (n := 0) (cap := tc) (by omega)
  have fl := capF_le (a := lstP false (listN P.2.1 L pr (idx s) 5 (idx a) 1)) (n := 0) (cap := tc) (b := 40000) h2 (by omega)
  split <;> omega
set_option maxRecDepth 20000 in
set_option maxHeartbeats 8000000 in
theorem law_loop {a0 a39 a63 a64 : Nat} {nm : String} {hh : List (Nat × Nat × Nat × Nat)} (hL : G.2.2.2.2.2.1 ≤ 3584) : ∀ (n j : Nat) (w : Wd) (P : PSt) (L : LSt) (pr : Nat → Nat) (O : OSt) (mp : Nat) (mk : Nat → UInt32) (T : List Nat) (dc tc t : Nat), 512 - j < n → 7 * j ≤ 3584 → AD w a0 a39 a63 a64 → IX G.2.2.1 w P L pr O mp mk T dc tc → IM G.2.2.1 w P L pr O mp mk T t → (∃ ou ov, OUTS G.2.2.1 w ou ov) → IP P L pr O mp mk T → XJ G (mLaw nm hh) 20 (10 * (512 - j) + (2592 - dc) + (40000 - tc)) (60 * (512 - j) + 4 * (2592 - dc) + 2 * (40000 - tc)) 28 [(0, .ref G.2.2.2.2.1), (1, .ref a0), (2, .ref a39), (3, .ref a63), (4, .ref a64), (5, .int (nI (7 * j)))] [] w QL := by
  intro n
  induction n with
  | zero => intro j w P L pr O mp mk T dc tc t hm; exact absurd hm (Nat.not_lt_zero _)
  | succ n ih =>
    intro j w P L pr O mp mk T dc tc t hm hj hA hIX hM hOO hIP
    obtain ⟨ou, ov, hO⟩ := hOO
    have hb := hIX.2.2.2.2.2.2.2.2.2.2.2.2.2
    have hLn : G.2.2.2.2.2.1 < 2 ^ 31 := by omega
    refine X_iload dL_law_28 (i := 5) rfl ?_
    refine X_aload_n dL_law_30 (i := 0) rfl rfl ?_
    refine X_slen dL_law_31 ?_
    refine X_bipush (v := 7) dL_law_32 (by decide) ?_
    refine X_isub dL_law_34 ?_
    refine X_icmp_gt (tgt := 2924) dL_law_35 (by decide) (fun _ => ?_) (fun h1 => ?_)
    · refine X_iconst (v := 1) dL_law_2924 (by decide) ?_
      refine X_ireturn dL_law_2925 rfl rfl ?_
      exact rfl
    · have hgo : 7 * j + 7 ≤ G.2.2.2.2.2.1 := loop_go hL hj h1
      refine X_aload_n dL_law_38 (i := 0) rfl rfl ?_
      refine X_iload dL_law_39 (i := 5) rfl ?_
      refine X_sld rfl (by omega) hLn dL_law_41 ?_
      refine X_bipush (v := 63) dL_law_42 (by decide) ?_
      refine X_iand dL_law_44 ?_
      obtain ⟨m, hm64, em⟩ := and63 (G.2.2.2.2.2.2 (7 * j))
      refine XJ.top (v' := .int (nI m)) (by rw [em]) ?_
      have hnext : ∀ (P' : PSt) (L' : LSt) (pr' : Nat → Nat) (O' : OSt) (mp' : Nat) (mk' : Nat → UInt32) (T' : List Nat) (dc' tc' t' : Nat), IP P' L' pr' O' mp' mk' T' → ∀ w', AD w' a0 a39 a63 a64 → IX G.2.2.1 w' P' L' pr' O' mp' mk' T' dc' tc' → IM G.2.2.1 w' P' L' pr' O' mp' mk' T' t' → (∃ ou ov, OUTS G.2.2.1 w' ou ov) → XJ G (mLaw nm hh) 20 (10 * (512 - (j + 1)) + (2592 - dc') + (40000 - tc')) (60 * (512 - (j + 1)) + 4 * (2592 - dc') + 2 * (40000 - tc')) 2918 [(0, .ref G.2.2.2.2.1), (1, .ref a0), (2, .ref a39), (3, .ref a63), (4, .ref a64), (5, .int (nI (7 * j)))] [] w' QL := by
        intro P' L' pr' O' mp' mk' T' dc' tc' t' k0 w' k1 k2 k3 k4
        refine X_iinc (i := 5) (v := nI (7 * (j + 1))) (lo' := [(5, _), (0, _), (1, _), (2, _), (3, _), (4, _)]) dL_law_2918 rfl (by rw [show Int32.ofInt 7 = nI 7 from rfl, nI_add]; rfl) (Nat.le_of_ble_eq_true rfl) rfl ?_
        refine X_goto (tgt := 28) dL_law_2921 (by decide) ?_
        exact XJ.lcs (lo' := [(0, .ref G.2.2.2.2.1), (1, .ref a0), (2, .ref a39), (3, .ref a63), (4, .ref a64), (5, .int (nI (7 * (j + 1))))]) ⟨rfl, rfl, rfl, rfl, rfl, rfl, trivial⟩ (ih (j + 1) w' P' L' pr' O' mp' mk' T' dc' tc' t' (by omega) (by omega) k1 k2 k3 k4 k0)
      by_cases hm39 : m < 39
      · rcases (show m = 0 ∨ m = 1 ∨ m = 2 ∨ m = 3 ∨ m = 4 ∨ m = 5 ∨ m = 6 ∨ m = 7 ∨ m = 8 ∨ m = 9 ∨ m = 10 ∨ m = 11 ∨ m = 12 ∨ m = 13 ∨ m = 14 ∨ m = 15 ∨ m = 16 ∨ m = 17 ∨ m = 18 ∨ m = 19 ∨ m = 20 ∨ m = 21 ∨ m = 22 ∨ m = 23 ∨ m = 24 ∨ m = 25 ∨ m = 26 ∨ m = 27 ∨ m = 28 ∨ m = 29 ∨ m = 30 ∨ m = 31 ∨ m = 32 ∨ m = 33 ∨ m = 34 ∨ m = 35 ∨ m = 36 ∨ m = 37 ∨ m = 38 by omega) with rfl | rfl | rfl | rfl | rfl | rfl | rfl | rfl | rfl | rfl | rfl | rfl | rfl | rfl | rfl | rfl | rfl | rfl | rfl | rfl | rfl | rfl | rfl | rfl | rfl | rfl | rfl | rfl | rfl | rfl | rfl | rfl | rfl | rfl | rfl | rfl | rfl | rfl | rfl
        · refine X_tableIn (off := 171) (tgt := 216) dL_law_45 (by decide) (by decide) (by decide) (by decide) ?_
          exact XJ.less (by omega) (by omega) (law_addPart hA hIX hM hO hIP hLn hgo (((G.2.2.2.2.2.2 (7 * j + 1)).toUInt32 % 65536).toNat) (ch_lt _) (G.2.2.2.2.2.2 (7 * j + 2)) (G.2.2.2.2.2.2 (7 * j + 3)) (u32_nI _) rfl rfl (hnext _ _ _ _ _ _ _ _ _ _ (ip_addPart hIP (((G.2.2.2.2.2.2 (7 * j + 1)).toUInt32 % 65536).toNat) (ch_lt _) (G.2.2.2.2.2.2 (7 * j + 2)) (G.2.2.2.2.2.2 (7 * j + 3)))))
        · refine X_tableIn (off := 253) (tgt := 298) dL_law_45 (by decide) (by decide) (by decide) (by decide) ?_
          exact XJ.less (by omega) (by omega) (law_setPrice hA hIX hM hO hIP hLn hgo (G.2.2.2.2.2.2 (7 * j + 1)) (G.2.2.2.2.2.2 (7 * j + 2)) rfl rfl (hnext _ _ _ _ _ _ _ _ _ _ (ip_setPrice hIP (G.2.2.2.2.2.2 (7 * j + 1)) (G.2.2.2.2.2.2 (7 * j + 2)))))
        · refine X_tableIn (off := 321) (tgt := 366) dL_law_45 (by decide) (by decide) (by decide) (by decide) ?_
          exact XJ.less (by omega) (by omega) (law_setGrams hA hIX hM hO hIP hLn hgo (G.2.2.2.2.2.2 (7 * j + 1)) (G.2.2.2.2.2.2 (7 * j + 2)) rfl rfl (hnext _ _ _ _ _ _ _ _ _ _ (ip_setGrams hIP (G.2.2.2.2.2.2 (7 * j + 1)) (G.2.2.2.2.2.2 (7 * j + 2)))))
        · refine X_tableIn (off := 389) (tgt := 434) dL_law_45 (by decide) (by decide) (by decide) (by decide) ?_
          exact XJ.less (by omega) (by omega) (law_setKind hA hIX hM hO hIP hLn hgo (G.2.2.2.2.2.2 (7 * j + 1)) (((G.2.2.2.2.2.2 (7 * j + 2)).toUInt32 % 65536).toNat) (ch_lt _) rfl (u32_nI _) (hnext _ _ _ _ _ _ _ _ _ _ (ip_setKind hIP (G.2.2.2.2.2.2 (7 * j + 1)) (((G.2.2.2.2.2.2 (7 * j + 2)).toUInt32 % 65536).toNat) (ch_lt _))))
        · refine X_tableIn (off := 459) (tgt := 504) dL_law_45 (by decide) (by decide) (by decide) (by decide) ?_
          exact XJ.less (by omega) (by omega) (law_parts hA hIX hM hO hIP hLn hgo   (hnext _ _ _ _ _ _ _ _ _ _ hIP))
        · refine X_tableIn (off := 472) (tgt := 517) dL_law_45 (by decide) (by decide) (by decide) (by decide) ?_
          exact XJ.less (by omega) (by omega) (law_kind hA hIX hM hO hIP hLn hgo (G.2.2.2.2.2.2 (7 * j + 1)) rfl (hnext _ _ _ _ _ _ _ _ _ _ (ip_kind hIP (G.2.2.2.2.2.2 (7 * j + 1)))))
        · refine X_tableIn (off := 528) (tgt := 573) dL_law_45 (by decide) (by decide) (by decide) (by decide) ?_
          exact XJ.less (by omega) (by omega) (law_addLine hA hIX hM hO hIP hLn hgo (G.2.2.2.2.2.2 (7 * j + 1)) (G.2.2.2.2.2.2 (7 * j + 2)) (G.2.2.2.2.2.2 (7 * j + 3)) (G.2.2.2.2.2.2 (7 * j + 4)) (G.2.2.2.2.2.2 (7 * j + 5)) (G.2.2.2.2.2.2 (7 * j + 6)) rfl rfl rfl rfl rfl rfl (hnext _ _ _ _ _ _ _ _ _ _ (ip_addLine hIP (G.2.2.2.2.2.2 (7 * j + 1)) (G.2.2.2.2.2.2 (7 * j + 2)) (G.2.2.2.2.2.2 (7 * j + 3)) (G.2.2.2.2.2.2 (7 * j + 4)) (G.2.2.2.2.2.2 (7 * j + 5)) (G.2.2.2.2.2.2 (7 * j + 6)))))
        · refine X_tableIn (off := 646) (tgt := 691) dL_law_45 (by decide) (by decide) (by decide) (by decide) ?_
          exact XJ.less (by omega) (by omega) (law_addVariant hA hIX hM hO hIP hLn hgo (G.2.2.2.2.2.2 (7 * j + 1)) (G.2.2.2.2.2.2 (7 * j + 2)) (G.2.2.2.2.2.2 (7 * j + 3)) (G.2.2.2.2.2.2 (7 * j + 4)) (G.2.2.2.2.2.2 (7 * j + 5)) (G.2.2.2.2.2.2 (7 * j + 6)) rfl rfl rfl rfl rfl rfl (hnext _ _ _ _ _ _ _ _ _ _ (ip_addVariant hIP (G.2.2.2.2.2.2 (7 * j + 1)) (G.2.2.2.2.2.2 (7 * j + 2)) (G.2.2.2.2.2.2 (7 * j + 3)) (G.2.2.2.2.2.2 (7 * j + 4)) (G.2.2.2.2.2.2 (7 * j + 5)) (G.2.2.2.2.2.2 (7 * j + 6)))))
        · refine X_tableIn (off := 764) (tgt := 809) dL_law_45 (by decide) (by decide) (by decide) (by decide) ?_
          exact XJ.less (by omega) (by omega) (law_replaceFrom hA hIX hM hO hIP hLn hgo (G.2.2.2.2.2.2 (7 * j + 1)) (G.2.2.2.2.2.2 (7 * j + 2)) (G.2.2.2.2.2.2 (7 * j + 3)) (G.2.2.2.2.2.2 (7 * j + 4)) rfl rfl rfl rfl (hnext _ _ _ _ _ _ _ _ _ _ (ip_replaceFrom hIP (G.2.2.2.2.2.2 (7 * j + 1)) (G.2.2.2.2.2.2 (7 * j + 2)) (G.2.2.2.2.2.2 (7 * j + 3)) (G.2.2.2.2.2.2 (7 * j + 4)))))
        · refine X_tableIn (off := 856) (tgt := 901) dL_law_45 (by decide) (by decide) (by decide) (by decide) ?_
          exact XJ.less (by omega) (by omega) (law_endBefore hA hIX hM hO hIP hLn hgo (G.2.2.2.2.2.2 (7 * j + 1)) (G.2.2.2.2.2.2 (7 * j + 2)) rfl rfl (hnext _ _ _ _ _ _ _ _ _ _ (ip_endBefore hIP (G.2.2.2.2.2.2 (7 * j + 1)) (G.2.2.2.2.2.2 (7 * j + 2)))))
        · refine X_tableIn (off := 924) (tgt := 969) dL_law_45 (by decide) (by decide) (by decide) (by decide) ?_
          exact XJ.less (by omega) (by omega) (law_setScrap hA hIX hM hO hIP hLn hgo (G.2.2.2.2.2.2 (7 * j + 1)) (G.2.2.2.2.2.2 (7 * j + 2)) rfl rfl (hnext _ _ _ _ _ _ _ _ _ _ (ip_setScrap hIP (G.2.2.2.2.2.2 (7 * j + 1)) (G.2.2.2.2.2.2 (7 * j + 2)))))
        · refine X_tableIn (off := 992) (tgt := 1037) dL_law_45 (by decide) (by decide) (by decide) (by decide) ?_
          exact XJ.less (by omega) (by omega) (law_lines hA hIX hM hO hIP hLn hgo   (hnext _ _ _ _ _ _ _ _ _ _ hIP))
        · refine X_tableIn (off := 1005) (tgt := 1050) dL_law_45 (by decide) (by decide) (by decide) (by decide) ?_
          exact XJ.less (by omega) (by omega) (law_lastSerial hA hIX hM hO hIP hLn hgo (G.2.2.2.2.2.2 (7 * j + 1)) rfl (hnext _ _ _ _ _ _ _ _ _ _ (ip_lastSerial hIP (G.2.2.2.2.2.2 (7 * j + 1)))))
        · refine X_tableIn (off := 1061) (tgt := 1106) dL_law_45 (by decide) (by decide) (by decide) (by decide) ?_
          exact XJ.less (by omega) (by omega) (law_holds hA hIX hM hO hIP hLn hgo (G.2.2.2.2.2.2 (7 * j + 1)) (G.2.2.2.2.2.2 (7 * j + 2)) rfl rfl (hnext _ _ _ _ _ _ _ _ _ _ (ip_holds hIP (G.2.2.2.2.2.2 (7 * j + 1)) (G.2.2.2.2.2.2 (7 * j + 2)))))
        · refine X_tableIn (off := 1136) (tgt := 1181) dL_law_45 (by decide) (by decide) (by decide) (by decide) ?_
          exact XJ.less (by omega) (by omega) (law_setChoice hA hIX hM hO hIP hLn hgo (G.2.2.2.2.2.2 (7 * j + 1)) (G.2.2.2.2.2.2 (7 * j + 2)) rfl rfl (hnext _ _ _ _ _ _ _ _ _ _ (ip_setChoice hIP (G.2.2.2.2.2.2 (7 * j + 1)) (G.2.2.2.2.2.2 (7 * j + 2)))))
        · refine X_tableIn (off := 1204) (tgt := 1249) dL_law_45 (by decide) (by decide) (by decide) (by decide) ?_
          exact XJ.less (by omega) (by omega) (law_choice hA hIX hM hO hIP hLn hgo (G.2.2.2.2.2.2 (7 * j + 1)) rfl (hnext _ _ _ _ _ _ _ _ _ _ (ip_choice hIP (G.2.2.2.2.2.2 (7 * j + 1)))))
        · refine X_tableIn (off := 1260) (tgt := 1305) dL_law_45 (by decide) (by decide) (by decide) (by decide) ?_
          have hdc' := cap_dc hIP hb.1 hb.2.1 (G.2.2.2.2.2.2 (7 * j + 1)) (G.2.2.2.2.2.2 (7 * j + 2))
          exact XJ.less (by omega) (by omega) (law_listSize hA hIX hM hO hIP hLn hgo (G.2.2.2.2.2.2 (7 * j + 1)) (G.2.2.2.2.2.2 (7 * j + 2)) rfl rfl (hnext _ _ _ _ _ _ _ _ _ _ (ip_listSize hIP (G.2.2.2.2.2.2 (7 * j + 1)) (G.2.2.2.2.2.2 (7 * j + 2)))))
        · refine X_tableIn (off := 1328) (tgt := 1373) dL_law_45 (by decide) (by decide) (by decide) (by decide) ?_
          have hdc' := cap_dc hIP hb.1 hb.2.1 (G.2.2.2.2.2.2 (7 * j + 1)) (G.2.2.2.2.2.2 (7 * j + 2))
          exact XJ.less (by omega) (by omega) (law_listPart hA hIX hM hO hIP hLn hgo (G.2.2.2.2.2.2 (7 * j + 1)) (G.2.2.2.2.2.2 (7 * j + 2)) (G.2.2.2.2.2.2 (7 * j + 3)) rfl rfl rfl (hnext _ _ _ _ _ _ _ _ _ _ (ip_listPart hIP (G.2.2.2.2.2.2 (7 * j + 1)) (G.2.2.2.2.2.2 (7 * j + 2)) (G.2.2.2.2.2.2 (7 * j + 3)))))
        · refine X_tableIn (off := 1408) (tgt := 1453) dL_law_45 (by decide) (by decide) (by decide) (by decide) ?_
          have hdc' := cap_dc hIP hb.1 hb.2.1 (G.2.2.2.2.2.2 (7 * j + 1)) (G.2.2.2.2.2.2 (7 * j + 2))
          exact XJ.less (by omega) (by omega) (law_listQuantity hA hIX hM hO hIP hLn hgo (G.2.2.2.2.2.2 (7 * j + 1)) (G.2.2.2.2.2.2 (7 * j + 2)) (G.2.2.2.2.2.2 (7 * j + 3)) rfl rfl rfl (hnext _ _ _ _ _ _ _ _ _ _ (ip_listQuantity hIP (G.2.2.2.2.2.2 (7 * j + 1)) (G.2.2.2.2.2.2 (7 * j + 2)) (G.2.2.2.2.2.2 (7 * j + 3)))))
        · refine X_tableIn (off := 1487) (tgt := 1532) dL_law_45 (by decide) (by decide) (by decide) (by decide) ?_
          have hdc' := cap_dc hIP hb.1 hb.2.1 (G.2.2.2.2.2.2 (7 * j + 1)) (G.2.2.2.2.2.2 (7 * j + 2))
          have htc' := cap_tc hIP hb.2.2.2 (G.2.2.2.2.2.2 (7 * j + 1)) (G.2.2.2.2.2.2 (7 * j + 2))
          exact XJ.less (by omega) (by omega) (law_writeList hA hIX hM hO hIP hLn hgo (G.2.2.2.2.2.2 (7 * j + 1)) (G.2.2.2.2.2.2 (7 * j + 2)) rfl rfl (hnext _ _ _ _ _ _ _ _ _ _ (ip_writeList hIP (G.2.2.2.2.2.2 (7 * j + 1)) (G.2.2.2.2.2.2 (7 * j + 2)))))
        · refine X_tableIn (off := 1555) (tgt := 1600) dL_law_45 (by decide) (by decide) (by decide) (by decide) ?_
          exact XJ.less (by omega) (by omega) (law_charAt hA hIX hM hO hIP hLn hgo (G.2.2.2.2.2.2 (7 * j + 1)) rfl (hnext _ _ _ _ _ _ _ _ _ _ (ip_charAt hIP (G.2.2.2.2.2.2 (7 * j + 1)))))
        · refine X_tableIn (off := 1611) (tgt := 1656) dL_law_45 (by decide) (by decide) (by decide) (by decide) ?_
          exact XJ.less (by omega) (by omega) (law_quantity hA hIX hM hO hIP hLn hgo (G.2.2.2.2.2.2 (7 * j + 1)) (G.2.2.2.2.2.2 (7 * j + 2)) (G.2.2.2.2.2.2 (7 * j + 3)) rfl rfl rfl (hnext _ _ _ _ _ _ _ _ _ _ (ip_quantity hIP (G.2.2.2.2.2.2 (7 * j + 1)) (G.2.2.2.2.2.2 (7 * j + 2)) (G.2.2.2.2.2.2 (7 * j + 3)))))
        · refine X_tableIn (off := 1690) (tgt := 1735) dL_law_45 (by decide) (by decide) (by decide) (by decide) ?_
          exact XJ.less (by omega) (by omega) (law_quantityByWalking hA hIX hM hO hIP hLn hgo (G.2.2.2.2.2.2 (7 * j + 1)) (G.2.2.2.2.2.2 (7 * j + 2)) (G.2.2.2.2.2.2 (7 * j + 3)) rfl rfl rfl (hnext _ _ _ _ _ _ _ _ _ _ (ip_quantityByWalking hIP (G.2.2.2.2.2.2 (7 * j + 1)) (G.2.2.2.2.2.2 (7 * j + 2)) (G.2.2.2.2.2.2 (7 * j + 3)))))
        · refine X_tableIn (off := 1769) (tgt := 1814) dL_law_45 (by decide) (by decide) (by decide) (by decide) ?_
          exact XJ.less (by omega) (by omega) (law_whereUsed hA hIX hM hO hIP hLn hgo (G.2.2.2.2.2.2 (7 * j + 1)) (G.2.2.2.2.2.2 (7 * j + 2)) rfl rfl (hnext _ _ _ _ _ _ _ _ _ _ (ip_whereUsed hIP (G.2.2.2.2.2.2 (7 * j + 1)) (G.2.2.2.2.2.2 (7 * j + 2)))))
        · refine X_tableIn (off := 1837) (tgt := 1882) dL_law_45 (by decide) (by decide) (by decide) (by decide) ?_
          exact XJ.less (by omega) (by omega) (law_levels hA hIX hM hO hIP hLn hgo (G.2.2.2.2.2.2 (7 * j + 1)) (G.2.2.2.2.2.2 (7 * j + 2)) rfl rfl (hnext _ _ _ _ _ _ _ _ _ _ (ip_levels hIP (G.2.2.2.2.2.2 (7 * j + 1)) (G.2.2.2.2.2.2 (7 * j + 2)))))
        · refine X_tableIn (off := 1905) (tgt := 1950) dL_law_45 (by decide) (by decide) (by decide) (by decide) ?_
          exact XJ.less (by omega) (by omega) (law_cost hA hIX hM hO hIP hLn hgo (G.2.2.2.2.2.2 (7 * j + 1)) (G.2.2.2.2.2.2 (7 * j + 2)) rfl rfl (hnext _ _ _ _ _ _ _ _ _ _ (ip_cost hIP (G.2.2.2.2.2.2 (7 * j + 1)) (G.2.2.2.2.2.2 (7 * j + 2)))))
        · refine X_tableIn (off := 1995) (tgt := 2040) dL_law_45 (by decide) (by decide) (by decide) (by decide) ?_
          exact XJ.less (by omega) (by omega) (law_costByWalking hA hIX hM hO hIP hLn hgo (G.2.2.2.2.2.2 (7 * j + 1)) (G.2.2.2.2.2.2 (7 * j + 2)) rfl rfl (hnext _ _ _ _ _ _ _ _ _ _ (ip_costByWalking hIP (G.2.2.2.2.2.2 (7 * j + 1)) (G.2.2.2.2.2.2 (7 * j + 2)))))
        · refine X_tableIn (off := 2085) (tgt := 2130) dL_law_45 (by decide) (by decide) (by decide) (by decide) ?_
          exact XJ.less (by omega) (by omega) (law_costBits hA hIX hM hO hIP hLn hgo (G.2.2.2.2.2.2 (7 * j + 1)) (G.2.2.2.2.2.2 (7 * j + 2)) rfl rfl (hnext _ _ _ _ _ _ _ _ _ _ (ip_costBits hIP (G.2.2.2.2.2.2 (7 * j + 1)) (G.2.2.2.2.2.2 (7 * j + 2)))))
        · refine X_tableIn (off := 2153) (tgt := 2198) dL_law_45 (by decide) (by decide) (by decide) (by decide) ?_
          exact XJ.less (by omega) (by omega) (law_costCents hA hIX hM hO hIP hLn hgo (G.2.2.2.2.2.2 (7 * j + 1)) (G.2.2.2.2.2.2 (7 * j + 2)) rfl rfl (hnext _ _ _ _ _ _ _ _ _ _ (ip_costCents hIP (G.2.2.2.2.2.2 (7 * j + 1)) (G.2.2.2.2.2.2 (7 * j + 2)))))
        · refine X_tableIn (off := 2221) (tgt := 2266) dL_law_45 (by decide) (by decide) (by decide) (by decide) ?_
          exact XJ.less (by omega) (by omega) (law_dearest hA hIX hM hO hIP hLn hgo (G.2.2.2.2.2.2 (7 * j + 1)) (G.2.2.2.2.2.2 (7 * j + 2)) rfl rfl (hnext _ _ _ _ _ _ _ _ _ _ (ip_dearest hIP (G.2.2.2.2.2.2 (7 * j + 1)) (G.2.2.2.2.2.2 (7 * j + 2)))))
        · refine X_tableIn (off := 2289) (tgt := 2334) dL_law_45 (by decide) (by decide) (by decide) (by decide) ?_
          exact XJ.less (by omega) (by omega) (law_weight hA hIX hM hO hIP hLn hgo (G.2.2.2.2.2.2 (7 * j + 1)) (G.2.2.2.2.2.2 (7 * j + 2)) rfl rfl (hnext _ _ _ _ _ _ _ _ _ _ (ip_weight hIP (G.2.2.2.2.2.2 (7 * j + 1)) (G.2.2.2.2.2.2 (7 * j + 2)))))
        · refine X_tableIn (off := 2378) (tgt := 2423) dL_law_45 (by decide) (by decide) (by decide) (by decide) ?_
          exact XJ.less (by omega) (by omega) (law_weightBits hA hIX hM hO hIP hLn hgo (G.2.2.2.2.2.2 (7 * j + 1)) (G.2.2.2.2.2.2 (7 * j + 2)) rfl rfl (hnext _ _ _ _ _ _ _ _ _ _ (ip_weightBits hIP (G.2.2.2.2.2.2 (7 * j + 1)) (G.2.2.2.2.2.2 (7 * j + 2)))))
        · refine X_tableIn (off := 2445) (tgt := 2490) dL_law_45 (by decide) (by decide) (by decide) (by decide) ?_
          exact XJ.less (by omega) (by omega) (law_markCosts hA hIX hM hO hIP hLn hgo (G.2.2.2.2.2.2 (7 * j + 1)) rfl (hnext _ _ _ _ _ _ _ _ _ _ (ip_markCosts hIP (G.2.2.2.2.2.2 (7 * j + 1)))))
        · refine X_tableIn (off := 2501) (tgt := 2546) dL_law_45 (by decide) (by decide) (by decide) (by decide) ?_
          exact XJ.less (by omega) (by omega) (law_costChange hA hIX hM hO hIP hLn hgo (G.2.2.2.2.2.2 (7 * j + 1)) (G.2.2.2.2.2.2 (7 * j + 2)) rfl rfl (hnext _ _ _ _ _ _ _ _ _ _ (ip_costChange hIP (G.2.2.2.2.2.2 (7 * j + 1)) (G.2.2.2.2.2.2 (7 * j + 2)))))
        · refine X_tableIn (off := 2591) (tgt := 2636) dL_law_45 (by decide) (by decide) (by decide) (by decide) ?_
          exact XJ.less (by omega) (by omega) (law_order hA hIX hM hO hIP hLn hgo (G.2.2.2.2.2.2 (7 * j + 1)) (G.2.2.2.2.2.2 (7 * j + 2)) (G.2.2.2.2.2.2 (7 * j + 3)) rfl rfl rfl (hnext _ _ _ _ _ _ _ _ _ _ (ip_order hIP (G.2.2.2.2.2.2 (7 * j + 1)) (G.2.2.2.2.2.2 (7 * j + 2)) (G.2.2.2.2.2.2 (7 * j + 3)))))
        · refine X_tableIn (off := 2671) (tgt := 2716) dL_law_45 (by decide) (by decide) (by decide) (by decide) ?_
          exact XJ.less (by omega) (by omega) (law_cancel hA hIX hM hO hIP hLn hgo (G.2.2.2.2.2.2 (7 * j + 1)) rfl (hnext _ _ _ _ _ _ _ _ _ _ (ip_cancel hIP (G.2.2.2.2.2.2 (7 * j + 1)))))
        · refine X_tableIn (off := 2727) (tgt := 2772) dL_law_45 (by decide) (by decide) (by decide) (by decide) ?_
          exact XJ.less (by omega) (by omega) (law_orderCost hA hIX hM hO hIP hLn hgo (G.2.2.2.2.2.2 (7 * j + 1)) rfl (hnext _ _ _ _ _ _ _ _ _ _ (ip_orderCost hIP (G.2.2.2.2.2.2 (7 * j + 1)))))
        · refine X_tableIn (off := 2805) (tgt := 2850) dL_law_45 (by decide) (by decide) (by decide) (by decide) ?_
          exact XJ.less (by omega) (by omega) (law_need hA hIX hM hO hIP hLn hgo (G.2.2.2.2.2.2 (7 * j + 1)) rfl (hnext _ _ _ _ _ _ _ _ _ _ (ip_need hIP (G.2.2.2.2.2.2 (7 * j + 1)))))
        · refine X_tableIn (off := 2860) (tgt := 2905) dL_law_45 (by decide) (by decide) (by decide) (by decide) ?_
          exact XJ.less (by omega) (by omega) (law_isConsistent hA hIX hM hO hIP hLn hgo   (hnext _ _ _ _ _ _ _ _ _ _ hIP))
      · refine X_tableOut (tgt := 2918) dL_law_45 (Or.inr (by rw [nI_toInt (show m < 2 ^ 31 by omega)]; omega)) (by decide) ?_
        exact XJ.less (by omega) (by omega) (hnext _ _ _ _ _ _ _ _ _ _ hIP w hA hIX hM ⟨_, _, hO⟩)
end LawL
