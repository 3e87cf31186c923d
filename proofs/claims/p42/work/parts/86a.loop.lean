/-! THE LAW, its loop (walks by gen/spec86.py) -/
section LoopQ
variable {G : Gx} {w : Wd}
theorem q_cons {P : PSt} {L : LSt} {pr : Nat → Nat} {O : OSt} {mp : Nat} {mk : Nat → UInt32} {a0 nn : Nat} (ha : w.1 0 = a0) (hS : ST nn G.2.2.1 w P L pr O mp mk) (hIP : IP P L pr O mp mk []) : XC G mX10_isConsistent 7 0 0 [.ref a0] w (fun r w' => r = .inl (some (.int 1)) ∧ w' = w) := by
  subst ha
  obtain ⟨dc, hn0, hc1, hc2, hIX⟩ := hS
  exact c_isConsistent hIX.1 hIX.2.1 hIX.2.2.1 hIX.2.2.2.1 hIX.2.2.2.2.1 hIX.2.2.2.2.2.2.1 rfl hIP.1 hIP.2.2.1.1 hIP.2.2.1.2.1 hIP.2.2.1.2.2 hIP.2.2.2.1 hIP.2.2.2.2.1 hIP.2.2.2.2.2.1
set_option maxRecDepth 20000 in
theorem law_tail {nm : String} {hh : List (Nat × Nat × Nat × Nat)} {P : PSt} {L : LSt} {pr : Nat → Nat} {O : OSt} {mp : Nat} {mk : Nat → UInt32} {a0 a1 a2 a3 a4 : Nat} {f1 f2 f3 f4 : Nat → Int32} (hIP : IP P L pr O mp mk []) (h6 : P.1 = 6) (hk : KD P) (hag : AG L f1 f2 f3 f4) {av k n : Nat} {t : Int32} {x : Int64} (hn79 : n < 80) (hav : 1 ≤ av ∧ av ≤ 30) (hsm : t < 0 → smV P L pr O av 4 = x) (hn : ∀ w2, ST 0 G.2.2.1 w2 P L pr O mp mk → LR 43 G.2.2.1 w2 a0 a1 a2 a3 a4 f1 f2 f3 f4 → XJ G (mLaw nm hh) 40 (1641 * (80 - (n + 1)) + 18969 * (10 - (n + 1) / 8) + 18969) (8278 * (80 - (n + 1)) + 112282 * (10 - (n + 1) / 8) + 112282) 127 [(0, .ref G.2.2.2.2.1), (1, .ref a0), (2, .ref a1), (3, .ref a2), (4, .ref a3), (5, .ref a4), (6, .int (nI (ln L))), (7, .int (nI O.1)), (8, .int 1), (9, .int (nI (k + 6))), (10, .int (nI (n + 1)))] [] w2 QL) {w1 : Wd} (hS : ST 0 G.2.2.1 w1 P L pr O mp mk) (hR : LR 43 G.2.2.1 w1 a0 a1 a2 a3 a4 f1 f2 f3 f4) : XJ G (mLaw nm hh) 40 (814 + (1641 * (79 - n) + 18969 * (10 - n / 8) + 18969)) (4100 + (8278 * (79 - n) + 112282 * (10 - n / 8) + 112282)) 923 [(0, .ref G.2.2.2.2.1), (1, .ref a0), (2, .ref a1), (3, .ref a2), (4, .ref a3), (5, .ref a4), (6, .int (nI (ln L))), (7, .int (nI O.1)), (8, .int 1), (9, .int (nI k)), (10, .int (nI n)), (12, .int (nI av)), (13, .long x), (22, .int t)] [] w1 QL := by
  refine X_iinc (i := 9) (v := nI (k + 6)) (lo' := [(9, _), (0, _), (1, _), (2, _), (3, _), (4, _), (5, _), (6, _), (7, _), (8, _), (10, _), (12, _), (13, _), (22, _)]) dL_law_923 rfl (by rw [show Int32.ofInt 6 = nI 6 from rfl, nI_add]) (Nat.le_of_ble_eq_true rfl) rfl ?_
  refine X_iload dL_law_926 (i := 8) rfl ?_
  refine X_iload dL_law_928 (i := 22) rfl ?_
  refine X_if_ge (tgt := 945) dL_law_930 (by decide) (fun h930 => ?_) (fun h930 => ?_)
  · refine X_aload_n dL_law_945 (i := 1) rfl rfl ?_
    refine X_callV (gc2 := (1641 * (79 - n) + 18969 * (10 - n / 8) + 18969)) (gs2 := (8278 * (79 - n) + 112282 * (10 - n / 8) + 112282)) (q_lines hR.e0 hS) (i := 0) hS.c0 hR.e0 rfl kmX10_lines rfl lL_201 iX10_lines vX10_lines rfl rfl (Nat.le_of_ble_eq_true rfl) (by decide) dL_law_946 (by omega) (by omega) (fun E w1 hq => nomatch hq.1) (fun v w1 hq => ?_)
    have hvv := hq.1
    obtain rfl := hq.2.symm
    cases hvv
    refine X_iload dL_law_949 (i := 6) rfl ?_
    refine X_icmp_ne (tgt := 985) dL_law_951 (by decide) (fun h951 => ?_) (fun h951 => ?_)
    · exact absurd rfl h951
    refine X_iload dL_law_954 (i := 10) rfl ?_
    refine X_bipush (v := 8) dL_law_956 (by decide) ?_
    refine X_iremN (a := n) (b := 8) dL_law_958 (by omega) (by omega) (by omega) ?_
    refine X_bipush (v := 7) dL_law_959 (by decide) ?_
    refine X_icmp_lt (tgt := 981) dL_law_961 (by decide) (fun h961 => ?_) (fun h961 => ?_)
    · refine X_iconst (v := 1) dL_law_981 (by decide) ?_
      refine X_goto (tgt := 986) dL_law_982 (by decide) ?_
      refine X_iand dL_law_986 ?_
      refine XJ.top (v' := .int 1) (by decide) ?_
      refine X_istore (i := 8) (lo' := [(8, _), (9, _), (0, _), (1, _), (2, _), (3, _), (4, _), (5, _), (6, _), (7, _), (10, _), (12, _), (13, _), (22, _)]) dL_law_987 (Nat.le_of_ble_eq_true rfl) rfl ?_
      refine X_iinc (i := 10) (v := nI (n + 1)) (lo' := [(10, _), (8, _), (9, _), (0, _), (1, _), (2, _), (3, _), (4, _), (5, _), (6, _), (7, _), (12, _), (13, _), (22, _)]) dL_law_989 rfl (nI_inc n) (Nat.le_of_ble_eq_true rfl) rfl ?_
      refine X_goto (tgt := 127) dL_law_992 (by decide) ?_
      exact XJ.less (by omega) (by omega) (XJ.lcs (lo' := [(0, .ref G.2.2.2.2.1), (1, .ref a0), (2, .ref a1), (3, .ref a2), (4, .ref a3), (5, .ref a4), (6, .int (nI (ln L))), (7, .int (nI O.1)), (8, .int 1), (9, .int (nI (k + 6))), (10, .int (nI (n + 1)))]) ⟨rfl, rfl, rfl, rfl, rfl, rfl, rfl, rfl, rfl, rfl, rfl, trivial⟩ (hn _ hS hR))
    · have h7 : 7 ≤ n % 8 := by
        rcases Nat.lt_or_ge (n % 8) 7 with h | h
        · exact absurd ((nI_ltI (b := 7) (by omega) (by decide)).mpr h) h961
        · exact h
      refine X_aload_n dL_law_964 (i := 1) rfl rfl ?_
      refine X_iload dL_law_965 (i := 12) rfl ?_
      refine X_iload dL_law_967 (i := 6) rfl ?_
      refine X_aload_n dL_law_969 (i := 2) rfl rfl ?_
      refine X_aload_n dL_law_970 (i := 3) rfl rfl ?_
      refine X_aload dL_law_971 (i := 4) rfl ?_
      refine X_aload dL_law_973 (i := 5) rfl ?_
      refine X_callS (gc2 := (1641 * (80 - (n + 1)) + 18969 * (10 - (n + 1) / 8) + 18969)) (gs2 := (8278 * (80 - (n + 1)) + 112282 * (10 - (n + 1) / 8) + 112282)) (m_areRight hIP h6 hav.1 (by omega) hk hag hS hR) kmL_areRight rfl lL_205 sL_areRight rfl rfl (Nat.le_of_ble_eq_true rfl) (by decide) dL_law_975 (by omega) (by omega) (fun E w1 hq => nomatch hq.1) (fun v w1 hq => ?_)
      have hvv := hq.1
      have hS := hq.2.1
      have hR := hq.2.2
      cases hvv
      refine X_if_eq (tgt := 985) dL_law_978 (by decide) (fun h978 => ?_) (fun h978 => ?_)
      · exact absurd h978 (by decide)
      refine X_iconst (v := 1) dL_law_981 (by decide) ?_
      refine X_goto (tgt := 986) dL_law_982 (by decide) ?_
      refine X_iand dL_law_986 ?_
      refine XJ.top (v' := .int 1) (by decide) ?_
      refine X_istore (i := 8) (lo' := [(8, _), (9, _), (0, _), (1, _), (2, _), (3, _), (4, _), (5, _), (6, _), (7, _), (10, _), (12, _), (13, _), (22, _)]) dL_law_987 (Nat.le_of_ble_eq_true rfl) rfl ?_
      refine X_iinc (i := 10) (v := nI (n + 1)) (lo' := [(10, _), (8, _), (9, _), (0, _), (1, _), (2, _), (3, _), (4, _), (5, _), (6, _), (7, _), (12, _), (13, _), (22, _)]) dL_law_989 rfl (nI_inc n) (Nat.le_of_ble_eq_true rfl) rfl ?_
      refine X_goto (tgt := 127) dL_law_992 (by decide) ?_
      exact XJ.less (by omega) (by omega) (XJ.lcs (lo' := [(0, .ref G.2.2.2.2.1), (1, .ref a0), (2, .ref a1), (3, .ref a2), (4, .ref a3), (5, .ref a4), (6, .int (nI (ln L))), (7, .int (nI O.1)), (8, .int 1), (9, .int (nI (k + 6))), (10, .int (nI (n + 1)))]) ⟨rfl, rfl, rfl, rfl, rfl, rfl, rfl, rfl, rfl, rfl, rfl, trivial⟩ (hn _ hS hR))
  · have hlt : t < 0 := Int32.not_le.mp h930
    refine X_aload_n dL_law_933 (i := 1) rfl rfl ?_
    refine X_iload dL_law_934 (i := 12) rfl ?_
    refine X_callS (gc2 := (1641 * (79 - n) + 18969 * (10 - n / 8) + 18969)) (gs2 := (8278 * (79 - n) + 112282 * (10 - n / 8) + 112282)) (m_sum hR.e0 hIP h6 hav.1 (by omega) (len_36 hIP h6 hk) hS) kmL_sum rfl lL_158 sL_sum rfl rfl (Nat.le_of_ble_eq_true rfl) (by decide) dL_law_936 (by omega) (by omega) (fun E w1 hq => nomatch hq.1) (fun v w1 hq => ?_)
    have hvv := hq.1
    have hS := hq.2.1
    have hR := hR.fx hq.2.2
    cases hvv
    refine XJ.top (v' := .long x) (by rw [hsm hlt]) ?_
    refine X_lload dL_law_939 (i := 13) rfl ?_
    refine X_lcmp dL_law_941 ?_
    refine X_if_ne (tgt := 985) dL_law_942 (by decide) (fun h942 => ?_) (fun h942 => ?_)
    · exact absurd (lcmp_s _) h942
    refine X_aload_n dL_law_945 (i := 1) rfl rfl ?_
    refine X_callV (gc2 := (1641 * (79 - n) + 18969 * (10 - n / 8) + 18969)) (gs2 := (8278 * (79 - n) + 112282 * (10 - n / 8) + 112282)) (q_lines hR.e0 hS) (i := 0) hS.c0 hR.e0 rfl kmX10_lines rfl lL_201 iX10_lines vX10_lines rfl rfl (Nat.le_of_ble_eq_true rfl) (by decide) dL_law_946 (by omega) (by omega) (fun E w1 hq => nomatch hq.1) (fun v w1 hq => ?_)
    have hvv := hq.1
    obtain rfl := hq.2.symm
    cases hvv
    refine X_iload dL_law_949 (i := 6) rfl ?_
    refine X_icmp_ne (tgt := 985) dL_law_951 (by decide) (fun h951 => ?_) (fun h951 => ?_)
    · exact absurd rfl h951
    refine X_iload dL_law_954 (i := 10) rfl ?_
    refine X_bipush (v := 8) dL_law_956 (by decide) ?_
    refine X_iremN (a := n) (b := 8) dL_law_958 (by omega) (by omega) (by omega) ?_
    refine X_bipush (v := 7) dL_law_959 (by decide) ?_
    refine X_icmp_lt (tgt := 981) dL_law_961 (by decide) (fun h961 => ?_) (fun h961 => ?_)
    · refine X_iconst (v := 1) dL_law_981 (by decide) ?_
      refine X_goto (tgt := 986) dL_law_982 (by decide) ?_
      refine X_iand dL_law_986 ?_
      refine XJ.top (v' := .int 1) (by decide) ?_
      refine X_istore (i := 8) (lo' := [(8, _), (9, _), (0, _), (1, _), (2, _), (3, _), (4, _), (5, _), (6, _), (7, _), (10, _), (12, _), (13, _), (22, _)]) dL_law_987 (Nat.le_of_ble_eq_true rfl) rfl ?_
      refine X_iinc (i := 10) (v := nI (n + 1)) (lo' := [(10, _), (8, _), (9, _), (0, _), (1, _), (2, _), (3, _), (4, _), (5, _), (6, _), (7, _), (12, _), (13, _), (22, _)]) dL_law_989 rfl (nI_inc n) (Nat.le_of_ble_eq_true rfl) rfl ?_
      refine X_goto (tgt := 127) dL_law_992 (by decide) ?_
      exact XJ.less (by omega) (by omega) (XJ.lcs (lo' := [(0, .ref G.2.2.2.2.1), (1, .ref a0), (2, .ref a1), (3, .ref a2), (4, .ref a3), (5, .ref a4), (6, .int (nI (ln L))), (7, .int (nI O.1)), (8, .int 1), (9, .int (nI (k + 6))), (10, .int (nI (n + 1)))]) ⟨rfl, rfl, rfl, rfl, rfl, rfl, rfl, rfl, rfl, rfl, rfl, trivial⟩ (hn _ hS hR))
    · have h7 : 7 ≤ n % 8 := by
        rcases Nat.lt_or_ge (n % 8) 7 with h | h
        · exact absurd ((nI_ltI (b := 7) (by omega) (by decide)).mpr h) h961
        · exact h
      refine X_aload_n dL_law_964 (i := 1) rfl rfl ?_
      refine X_iload dL_law_965 (i := 12) rfl ?_
      refine X_iload dL_law_967 (i := 6) rfl ?_
      refine X_aload_n dL_law_969 (i := 2) rfl rfl ?_
      refine X_aload_n dL_law_970 (i := 3) rfl rfl ?_
      refine X_aload dL_law_971 (i := 4) rfl ?_
      refine X_aload dL_law_973 (i := 5) rfl ?_
      refine X_callS (gc2 := (1641 * (80 - (n + 1)) + 18969 * (10 - (n + 1) / 8) + 18969)) (gs2 := (8278 * (80 - (n + 1)) + 112282 * (10 - (n + 1) / 8) + 112282)) (m_areRight hIP h6 hav.1 (by omega) hk hag hS hR) kmL_areRight rfl lL_205 sL_areRight rfl rfl (Nat.le_of_ble_eq_true rfl) (by decide) dL_law_975 (by omega) (by omega) (fun E w1 hq => nomatch hq.1) (fun v w1 hq => ?_)
      have hvv := hq.1
      have hS := hq.2.1
      have hR := hq.2.2
      cases hvv
      refine X_if_eq (tgt := 985) dL_law_978 (by decide) (fun h978 => ?_) (fun h978 => ?_)
      · exact absurd h978 (by decide)
      refine X_iconst (v := 1) dL_law_981 (by decide) ?_
      refine X_goto (tgt := 986) dL_law_982 (by decide) ?_
      refine X_iand dL_law_986 ?_
      refine XJ.top (v' := .int 1) (by decide) ?_
      refine X_istore (i := 8) (lo' := [(8, _), (9, _), (0, _), (1, _), (2, _), (3, _), (4, _), (5, _), (6, _), (7, _), (10, _), (12, _), (13, _), (22, _)]) dL_law_987 (Nat.le_of_ble_eq_true rfl) rfl ?_
      refine X_iinc (i := 10) (v := nI (n + 1)) (lo' := [(10, _), (8, _), (9, _), (0, _), (1, _), (2, _), (3, _), (4, _), (5, _), (6, _), (7, _), (12, _), (13, _), (22, _)]) dL_law_989 rfl (nI_inc n) (Nat.le_of_ble_eq_true rfl) rfl ?_
      refine X_goto (tgt := 127) dL_law_992 (by decide) ?_
      exact XJ.less (by omega) (by omega) (XJ.lcs (lo' := [(0, .ref G.2.2.2.2.1), (1, .ref a0), (2, .ref a1), (3, .ref a2), (4, .ref a3), (5, .ref a4), (6, .int (nI (ln L))), (7, .int (nI O.1)), (8, .int 1), (9, .int (nI (k + 6))), (10, .int (nI (n + 1)))]) ⟨rfl, rfl, rfl, rfl, rfl, rfl, rfl, rfl, rfl, rfl, rfl, trivial⟩ (hn _ hS hR))
set_option maxRecDepth 20000 in
theorem law_292 {nm : String} {hh : List (Nat × Nat × Nat × Nat)} {P : PSt} {L : LSt} {pr : Nat → Nat} {O : OSt} {mp : Nat} {mk : Nat → UInt32} {a0 a1 a2 a3 a4 : Nat} {f1 f2 f3 f4 : Nat → Int32} (hIP : IP P L pr O mp mk []) (h6 : P.1 = 6) (hk : KD P) (hag : AG L f1 f2 f3 f4) {k : Nat} (hL : G.2.2.2.2.2.1 < 2 ^ 31) (hkn : k ≤ 1000) {sv av p c m l kd n gA gB : Nat} (hsv : sv ≤ 30) (hav : 1 ≤ av ∧ av ≤ 30) (hp : p ≤ 6) (hc : c ≤ 6) (hm : m < 1000) (hl : l ≤ ln L) (hn : ∀ (t : Int32) (P' : PSt) (L' : LSt) (pr' : Nat → Nat) (O' : OSt) (mp' : Nat) (mk' : Nat → UInt32) (g1 g2 g3 g4 : Nat → Int32) (w2 : Wd), IP P' L' pr' O' mp' mk' [] → P'.1 = 6 → KD P' → AG L' g1 g2 g3 g4 → ST 0 G.2.2.1 w2 P' L' pr' O' mp' mk' → LR 43 G.2.2.1 w2 a0 a1 a2 a3 a4 g1 g2 g3 g4 → (t < 0 → smV P' L' pr' O' av 4 = (smV P L pr O av 4)) → XJ G (mLaw nm hh) 40 gA gB 923 [(0, .ref G.2.2.2.2.1), (1, .ref a0), (2, .ref a1), (3, .ref a2), (4, .ref a3), (5, .ref a4), (6, .int (nI (ln L'))), (7, .int (nI O'.1)), (8, .int 1), (9, .int (nI k)), (10, .int (nI n)), (12, .int (nI av)), (13, .long (smV P L pr O av 4)), (22, .int t)] [] w2 QL) {w1 : Wd} (hS : ST 0 G.2.2.1 w1 P L pr O mp mk) (hR : LR 43 G.2.2.1 w1 a0 a1 a2 a3 a4 f1 f2 f3 f4) : XJ G (mLaw nm hh) 40 (13 + gA) (78 + gB) 292 [(0, .ref G.2.2.2.2.1), (1, .ref a0), (2, .ref a1), (3, .ref a2), (4, .ref a3), (5, .ref a4), (6, .int (nI (ln L))), (7, .int (nI O.1)), (8, .int 1), (9, .int (nI k)), (10, .int (nI n)), (11, .int (nI sv)), (12, .int (nI av)), (13, .long (smV P L pr O av 4)), (15, .int (nI kd)), (16, .int (nI p)), (17, .int (nI c)), (18, .int (nI m))] [.int (nI l)] w1 QL := by
  refine X_istore (i := 19) (lo' := [(19, _), (0, _), (1, _), (2, _), (3, _), (4, _), (5, _), (6, _), (7, _), (8, _), (9, _), (10, _), (11, _), (12, _), (13, _), (15, _), (16, _), (17, _), (18, _)]) dL_law_292 (Nat.le_of_ble_eq_true rfl) rfl ?_
  refine X_iconst (v := 1) dL_law_294 (by decide) ?_
  refine X_aload_n dL_law_295 (i := 0) rfl rfl ?_
  refine X_iload dL_law_296 (i := 9) rfl ?_
  refine X_iconst (v := 4) dL_law_298 (by decide) ?_
  refine X_iadd dL_law_299 ?_
  refine XJ.top (v' := .int (nI (k + 4))) (congrArg Value.int (nI_add k 4)) ?_
  refine X_bipush (v := 6) dL_law_300 (by decide) ?_
  refine X_callS (gc2 := (13 + gA)) (gs2 := (78 + gB)) (j_pick hL (k + 4) 6 (by omega) (by decide) (by decide)) kmL_pick rfl lL_146 sL_pick rfl rfl (Nat.le_of_ble_eq_true rfl) (by decide) dL_law_302 (by omega) (by omega) (fun E w1 hq => (by obtain ⟨⟨_, _, hx⟩, -⟩ := hq; cases hx)) (fun v w1 hq => ?_)
  obtain ⟨⟨v, hv, hvv⟩, hww⟩ := hq
  subst hww
  cases hvv
  refine X_iadd dL_law_305 ?_
  refine XJ.top (v' := .int (nI (1 + v))) (congrArg Value.int (nI_add 1 v)) ?_
  refine X_istore (i := 20) (lo' := [(20, _), (19, _), (0, _), (1, _), (2, _), (3, _), (4, _), (5, _), (6, _), (7, _), (8, _), (9, _), (10, _), (11, _), (12, _), (13, _), (15, _), (16, _), (17, _), (18, _)]) dL_law_306 (Nat.le_of_ble_eq_true rfl) rfl ?_
  refine X_iload dL_law_308 (i := 18) rfl ?_
  refine X_bipush (v := 22) dL_law_310 (by decide) ?_
  refine X_iremN (a := m) (b := 22) dL_law_312 (by omega) (by omega) (by omega) ?_
  refine X_istore (i := 21) (lo' := [(21, _), (20, _), (19, _), (0, _), (1, _), (2, _), (3, _), (4, _), (5, _), (6, _), (7, _), (8, _), (9, _), (10, _), (11, _), (12, _), (13, _), (15, _), (16, _), (17, _), (18, _)]) dL_law_313 (Nat.le_of_ble_eq_true rfl) rfl ?_
  refine X_iconst (v := 0) dL_law_315 (by decide) ?_
  refine X_istore (i := 22) (lo' := [(22, _), (21, _), (20, _), (19, _), (0, _), (1, _), (2, _), (3, _), (4, _), (5, _), (6, _), (7, _), (8, _), (9, _), (10, _), (11, _), (12, _), (13, _), (15, _), (16, _), (17, _), (18, _)]) dL_law_316 (Nat.le_of_ble_eq_true rfl) rfl ?_
  exact XJ.lcs (lo' := [(0, .ref G.2.2.2.2.1), (1, .ref a0), (2, .ref a1), (3, .ref a2), (4, .ref a3), (5, .ref a4), (6, .int (nI (ln L))), (7, .int (nI O.1)), (8, .int 1), (9, .int (nI k)), (10, .int (nI n)), (11, .int (nI sv)), (12, .int (nI av)), (13, .long (smV P L pr O av 4)), (15, .int (nI kd)), (16, .int (nI p)), (17, .int (nI c)), (18, .int (nI m)), (19, .int (nI l)), (20, .int (nI (1 + v))), (21, .int (nI (m % 22))), (22, .int 0)]) ⟨rfl, rfl, rfl, rfl, rfl, rfl, rfl, rfl, rfl, rfl, rfl, rfl, rfl, rfl, rfl, rfl, rfl, rfl, rfl, rfl, rfl, rfl, trivial⟩ (law_dis hIP h6 hk hag hsv hav hp hc hm hl (by omega) hn hS hR)
set_option maxRecDepth 20000 in
theorem law_254 {nm : String} {hh : List (Nat × Nat × Nat × Nat)} {P : PSt} {L : LSt} {pr : Nat → Nat} {O : OSt} {mp : Nat} {mk : Nat → UInt32} {a0 a1 a2 a3 a4 : Nat} {f1 f2 f3 f4 : Nat → Int32} (hIP : IP P L pr O mp mk []) (h6 : P.1 = 6) (hk : KD P) (hag : AG L f1 f2 f3 f4) {k : Nat} (hL : G.2.2.2.2.2.1 < 2 ^ 31) (hkn : k ≤ 1000) {sv av p c kd n gA gB : Nat} (hsv : sv ≤ 30) (hav : 1 ≤ av ∧ av ≤ 30) (hp : p ≤ 6) (hc : c ≤ 6) (hn : ∀ (t : Int32) (P' : PSt) (L' : LSt) (pr' : Nat → Nat) (O' : OSt) (mp' : Nat) (mk' : Nat → UInt32) (g1 g2 g3 g4 : Nat → Int32) (w2 : Wd), IP P' L' pr' O' mp' mk' [] → P'.1 = 6 → KD P' → AG L' g1 g2 g3 g4 → ST 0 G.2.2.1 w2 P' L' pr' O' mp' mk' → LR 43 G.2.2.1 w2 a0 a1 a2 a3 a4 g1 g2 g3 g4 → (t < 0 → smV P' L' pr' O' av 4 = (smV P L pr O av 4)) → XJ G (mLaw nm hh) 40 gA gB 923 [(0, .ref G.2.2.2.2.1), (1, .ref a0), (2, .ref a1), (3, .ref a2), (4, .ref a3), (5, .ref a4), (6, .int (nI (ln L'))), (7, .int (nI O'.1)), (8, .int 1), (9, .int (nI k)), (10, .int (nI n)), (12, .int (nI av)), (13, .long (smV P L pr O av 4)), (22, .int t)] [] w2 QL) {w1 : Wd} (hS : ST 0 G.2.2.1 w1 P L pr O mp mk) (hR : LR 43 G.2.2.1 w1 a0 a1 a2 a3 a4 f1 f2 f3 f4) : XJ G (mLaw nm hh) 40 (13 + gA) (78 + gB) 254 [(0, .ref G.2.2.2.2.1), (1, .ref a0), (2, .ref a1), (3, .ref a2), (4, .ref a3), (5, .ref a4), (6, .int (nI (ln L))), (7, .int (nI O.1)), (8, .int 1), (9, .int (nI k)), (10, .int (nI n)), (11, .int (nI sv)), (12, .int (nI av)), (13, .long (smV P L pr O av 4)), (15, .int (nI kd)), (16, .int (nI p))] [.int (nI c)] w1 QL := by
  refine X_istore (i := 17) (lo' := [(17, _), (0, _), (1, _), (2, _), (3, _), (4, _), (5, _), (6, _), (7, _), (8, _), (9, _), (10, _), (11, _), (12, _), (13, _), (15, _), (16, _)]) dL_law_254 (Nat.le_of_ble_eq_true rfl) rfl ?_
  refine X_aload_n dL_law_256 (i := 0) rfl rfl ?_
  refine X_iload dL_law_257 (i := 9) rfl ?_
  refine X_iconst (v := 3) dL_law_259 (by decide) ?_
  refine X_iadd dL_law_260 ?_
  refine XJ.top (v' := .int (nI (k + 3))) (congrArg Value.int (nI_add k 3)) ?_
  refine X_sipush (v := 1000) dL_law_261 (by decide) ?_
  refine XJ.top (v' := .int (nI 1000)) (congrArg Value.int (by decide)) ?_
  refine X_callS (gc2 := (13 + gA)) (gs2 := (78 + gB)) (j_pick hL (k + 3) 1000 (by omega) (by decide) (by decide)) kmL_pick rfl lL_146 sL_pick rfl rfl (Nat.le_of_ble_eq_true rfl) (by decide) dL_law_264 (by omega) (by omega) (fun E w1 hq => (by obtain ⟨⟨_, _, hx⟩, -⟩ := hq; cases hx)) (fun v w1 hq => ?_)
  obtain ⟨⟨m, hm, hvv⟩, hww⟩ := hq
  subst hww
  cases hvv
  refine X_istore (i := 18) (lo' := [(18, _), (17, _), (0, _), (1, _), (2, _), (3, _), (4, _), (5, _), (6, _), (7, _), (8, _), (9, _), (10, _), (11, _), (12, _), (13, _), (15, _), (16, _)]) dL_law_267 (Nat.le_of_ble_eq_true rfl) rfl ?_
  have h40 := hIP.2.2.1.1.2.1
  refine X_iload dL_law_269 (i := 6) rfl ?_
  refine X_if_eq (tgt := 282) dL_law_271 (by decide) (fun h271 => ?_) (fun h271 => ?_)
  · refine X_iload dL_law_282 (i := 6) rfl ?_
    refine X_goto (tgt := 292) dL_law_284 (by decide) ?_
    exact XJ.lcs (lo' := [(0, .ref G.2.2.2.2.1), (1, .ref a0), (2, .ref a1), (3, .ref a2), (4, .ref a3), (5, .ref a4), (6, .int (nI (ln L))), (7, .int (nI O.1)), (8, .int 1), (9, .int (nI k)), (10, .int (nI n)), (11, .int (nI sv)), (12, .int (nI av)), (13, .long (smV P L pr O av 4)), (15, .int (nI kd)), (16, .int (nI p)), (17, .int (nI c)), (18, .int (nI m))]) ⟨rfl, rfl, rfl, rfl, rfl, rfl, rfl, rfl, rfl, rfl, rfl, rfl, rfl, rfl, rfl, rfl, rfl, rfl, trivial⟩ (law_292 hIP h6 hk hag hL hkn hsv hav hp hc hm (by omega) hn hS hR)
  · have h0 : 0 < ln L := by
      rcases Nat.eq_zero_or_pos (ln L) with h | h
      · exact absurd (by rw [h]; rfl) h271
      · exact h
    refine X_iload dL_law_274 (i := 18) rfl ?_
    refine X_bipush (v := 29) dL_law_276 (by decide) ?_
    refine X_iremN (a := m) (b := 29) dL_law_278 (by omega) (by omega) (by omega) ?_
    refine X_if_ne (tgt := 287) dL_law_279 (by decide) (fun h279 => ?_) (fun h279 => ?_)
    · have hml : m % ln L < ln L := Nat.mod_lt _ h0
      refine X_iload dL_law_287 (i := 18) rfl ?_
      refine X_iload dL_law_289 (i := 6) rfl ?_
      refine X_iremN (a := m) (b := ln L) dL_law_291 (by omega) (by omega) (by omega) ?_
      exact XJ.lcs (lo' := [(0, .ref G.2.2.2.2.1), (1, .ref a0), (2, .ref a1), (3, .ref a2), (4, .ref a3), (5, .ref a4), (6, .int (nI (ln L))), (7, .int (nI O.1)), (8, .int 1), (9, .int (nI k)), (10, .int (nI n)), (11, .int (nI sv)), (12, .int (nI av)), (13, .long (smV P L pr O av 4)), (15, .int (nI kd)), (16, .int (nI p)), (17, .int (nI c)), (18, .int (nI m))]) ⟨rfl, rfl, rfl, rfl, rfl, rfl, rfl, rfl, rfl, rfl, rfl, rfl, rfl, rfl, rfl, rfl, rfl, rfl, trivial⟩ (law_292 hIP h6 hk hag hL hkn hsv hav hp hc hm (by omega) hn hS hR)
    · refine X_iload dL_law_282 (i := 6) rfl ?_
      refine X_goto (tgt := 292) dL_law_284 (by decide) ?_
      exact XJ.lcs (lo' := [(0, .ref G.2.2.2.2.1), (1, .ref a0), (2, .ref a1), (3, .ref a2), (4, .ref a3), (5, .ref a4), (6, .int (nI (ln L))), (7, .int (nI O.1)), (8, .int 1), (9, .int (nI k)), (10, .int (nI n)), (11, .int (nI sv)), (12, .int (nI av)), (13, .long (smV P L pr O av 4)), (15, .int (nI kd)), (16, .int (nI p)), (17, .int (nI c)), (18, .int (nI m))]) ⟨rfl, rfl, rfl, rfl, rfl, rfl, rfl, rfl, rfl, rfl, rfl, rfl, rfl, rfl, rfl, rfl, rfl, rfl, trivial⟩ (law_292 hIP h6 hk hag hL hkn hsv hav hp hc hm (by omega) hn hS hR)
set_option maxRecDepth 20000 in
theorem law_224 {nm : String} {hh : List (Nat × Nat × Nat × Nat)} {P : PSt} {L : LSt} {pr : Nat → Nat} {O : OSt} {mp : Nat} {mk : Nat → UInt32} {a0 a1 a2 a3 a4 : Nat} {f1 f2 f3 f4 : Nat → Int32} (hIP : IP P L pr O mp mk []) (h6 : P.1 = 6) (hk : KD P) (hag : AG L f1 f2 f3 f4) {k : Nat} (hL : G.2.2.2.2.2.1 < 2 ^ 31) (hkn : k ≤ 1000) {sv av p kd n gA gB : Nat} (hsv : sv ≤ 30) (hav : 1 ≤ av ∧ av ≤ 30) (hp : p ≤ 6) (hn : ∀ (t : Int32) (P' : PSt) (L' : LSt) (pr' : Nat → Nat) (O' : OSt) (mp' : Nat) (mk' : Nat → UInt32) (g1 g2 g3 g4 : Nat → Int32) (w2 : Wd), IP P' L' pr' O' mp' mk' [] → P'.1 = 6 → KD P' → AG L' g1 g2 g3 g4 → ST 0 G.2.2.1 w2 P' L' pr' O' mp' mk' → LR 43 G.2.2.1 w2 a0 a1 a2 a3 a4 g1 g2 g3 g4 → (t < 0 → smV P' L' pr' O' av 4 = (smV P L pr O av 4)) → XJ G (mLaw nm hh) 40 gA gB 923 [(0, .ref G.2.2.2.2.1), (1, .ref a0), (2, .ref a1), (3, .ref a2), (4, .ref a3), (5, .ref a4), (6, .int (nI (ln L'))), (7, .int (nI O'.1)), (8, .int 1), (9, .int (nI k)), (10, .int (nI n)), (12, .int (nI av)), (13, .long (smV P L pr O av 4)), (22, .int t)] [] w2 QL) {w1 : Wd} (hS : ST 0 G.2.2.1 w1 P L pr O mp mk) (hR : LR 43 G.2.2.1 w1 a0 a1 a2 a3 a4 f1 f2 f3 f4) : XJ G (mLaw nm hh) 40 (13 + gA) (78 + gB) 224 [(0, .ref G.2.2.2.2.1), (1, .ref a0), (2, .ref a1), (3, .ref a2), (4, .ref a3), (5, .ref a4), (6, .int (nI (ln L))), (7, .int (nI O.1)), (8, .int 1), (9, .int (nI k)), (10, .int (nI n)), (11, .int (nI sv)), (12, .int (nI av)), (13, .long (smV P L pr O av 4)), (15, .int (nI kd))] [.int (nI p)] w1 QL := by
  refine X_istore (i := 16) (lo' := [(16, _), (0, _), (1, _), (2, _), (3, _), (4, _), (5, _), (6, _), (7, _), (8, _), (9, _), (10, _), (11, _), (12, _), (13, _), (15, _)]) dL_law_224 (Nat.le_of_ble_eq_true rfl) rfl ?_
  refine X_aload_n dL_law_226 (i := 0) rfl rfl ?_
  refine X_iload dL_law_227 (i := 9) rfl ?_
  refine X_iconst (v := 2) dL_law_229 (by decide) ?_
  refine X_iadd dL_law_230 ?_
  refine XJ.top (v' := .int (nI (k + 2))) (congrArg Value.int (nI_add k 2)) ?_
  refine X_bipush (v := 40) dL_law_231 (by decide) ?_
  refine X_callS (gc2 := (13 + gA)) (gs2 := (78 + gB)) (j_pick hL (k + 2) 40 (by omega) (by decide) (by decide)) kmL_pick rfl lL_146 sL_pick rfl rfl (Nat.le_of_ble_eq_true rfl) (by decide) dL_law_233 (by omega) (by omega) (fun E w1 hq => (by obtain ⟨⟨_, _, hx⟩, -⟩ := hq; cases hx)) (fun v w1 hq => ?_)
  obtain ⟨⟨va, hva, hvv⟩, hww⟩ := hq
  subst hww
  cases hvv
  refine X_if_ne (tgt := 244) dL_law_236 (by decide) (fun h236 => ?_) (fun h236 => ?_)
  · refine X_aload_n dL_law_244 (i := 0) rfl rfl ?_
    refine X_iload dL_law_245 (i := 9) rfl ?_
    refine X_iconst (v := 2) dL_law_247 (by decide) ?_
    refine X_iadd dL_law_248 ?_
    refine XJ.top (v' := .int (nI (k + 2))) (congrArg Value.int (nI_add k 2)) ?_
    refine X_bipush (v := 6) dL_law_249 (by decide) ?_
    refine X_callS (gc2 := (13 + gA)) (gs2 := (78 + gB)) (j_pick hL (k + 2) 6 (by omega) (by decide) (by decide)) kmL_pick rfl lL_146 sL_pick rfl rfl (Nat.le_of_ble_eq_true rfl) (by decide) dL_law_251 (by omega) (by omega) (fun E w1 hq => (by obtain ⟨⟨_, _, hx⟩, -⟩ := hq; cases hx)) (fun v w1 hq => ?_)
    obtain ⟨⟨vb, hvb, hvv⟩, hww⟩ := hq
    subst hww
    cases hvv
    exact XJ.lcs (lo' := [(0, .ref G.2.2.2.2.1), (1, .ref a0), (2, .ref a1), (3, .ref a2), (4, .ref a3), (5, .ref a4), (6, .int (nI (ln L))), (7, .int (nI O.1)), (8, .int 1), (9, .int (nI k)), (10, .int (nI n)), (11, .int (nI sv)), (12, .int (nI av)), (13, .long (smV P L pr O av 4)), (15, .int (nI kd)), (16, .int (nI p))]) ⟨rfl, rfl, rfl, rfl, rfl, rfl, rfl, rfl, rfl, rfl, rfl, rfl, rfl, rfl, rfl, rfl, trivial⟩ (law_254 (c := vb) hIP h6 hk hag hL hkn hsv hav hp (by omega) hn hS hR)
  · refine X_bipush (v := 6) dL_law_239 (by decide) ?_
    refine X_goto (tgt := 254) dL_law_241 (by decide) ?_
    exact XJ.lcs (lo' := [(0, .ref G.2.2.2.2.1), (1, .ref a0), (2, .ref a1), (3, .ref a2), (4, .ref a3), (5, .ref a4), (6, .int (nI (ln L))), (7, .int (nI O.1)), (8, .int 1), (9, .int (nI k)), (10, .int (nI n)), (11, .int (nI sv)), (12, .int (nI av)), (13, .long (smV P L pr O av 4)), (15, .int (nI kd)), (16, .int (nI p))]) ⟨rfl, rfl, rfl, rfl, rfl, rfl, rfl, rfl, rfl, rfl, rfl, rfl, rfl, rfl, rfl, rfl, trivial⟩ (law_254 (c := 6) hIP h6 hk hag hL hkn hsv hav hp (by omega) hn hS hR)
set_option maxRecDepth 20000 in
theorem law_168 {nm : String} {hh : List (Nat × Nat × Nat × Nat)} {P : PSt} {L : LSt} {pr : Nat → Nat} {O : OSt} {mp : Nat} {mk : Nat → UInt32} {a0 a1 a2 a3 a4 : Nat} {f1 f2 f3 f4 : Nat → Int32} (hIP : IP P L pr O mp mk []) (h6 : P.1 = 6) (hk : KD P) (hag : AG L f1 f2 f3 f4) {k : Nat} (hL : G.2.2.2.2.2.1 < 2 ^ 31) (hkn : k ≤ 1000) {sv n gA gB : Nat} (hsv : sv ≤ 30) (hn : ∀ (av : Nat), 1 ≤ av ∧ av ≤ 30 → ∀ (t : Int32) (P' : PSt) (L' : LSt) (pr' : Nat → Nat) (O' : OSt) (mp' : Nat) (mk' : Nat → UInt32) (g1 g2 g3 g4 : Nat → Int32) (w2 : Wd), IP P' L' pr' O' mp' mk' [] → P'.1 = 6 → KD P' → AG L' g1 g2 g3 g4 → ST 0 G.2.2.1 w2 P' L' pr' O' mp' mk' → LR 43 G.2.2.1 w2 a0 a1 a2 a3 a4 g1 g2 g3 g4 → (t < 0 → smV P' L' pr' O' av 4 = (smV P L pr O av 4)) → XJ G (mLaw nm hh) 40 gA gB 923 [(0, .ref G.2.2.2.2.1), (1, .ref a0), (2, .ref a1), (3, .ref a2), (4, .ref a3), (5, .ref a4), (6, .int (nI (ln L'))), (7, .int (nI O'.1)), (8, .int 1), (9, .int (nI k)), (10, .int (nI n)), (12, .int (nI av)), (13, .long (smV P L pr O av 4)), (22, .int t)] [] w2 QL) {w1 : Wd} (hS : ST 0 G.2.2.1 w1 P L pr O mp mk) (hR : LR 43 G.2.2.1 w1 a0 a1 a2 a3 a4 f1 f2 f3 f4) : XJ G (mLaw nm hh) 40 (827 + gA) (4178 + gB) 168 [(0, .ref G.2.2.2.2.1), (1, .ref a0), (2, .ref a1), (3, .ref a2), (4, .ref a3), (5, .ref a4), (6, .int (nI (ln L))), (7, .int (nI O.1)), (8, .int 1), (9, .int (nI k)), (10, .int (nI n))] [.int (nI sv)] w1 QL := by
  obtain ⟨av, hae⟩ : ∃ av, av = max 1 sv := ⟨_, rfl⟩
  have hav : 1 ≤ av ∧ av ≤ 30 := by omega
  have hn := hn av hav
  refine X_istore (i := 11) (lo' := [(11, _), (0, _), (1, _), (2, _), (3, _), (4, _), (5, _), (6, _), (7, _), (8, _), (9, _), (10, _)]) dL_law_168 (Nat.le_of_ble_eq_true rfl) rfl ?_
  refine X_iconst (v := 1) dL_law_170 (by decide) ?_
  refine X_iload dL_law_171 (i := 11) rfl ?_
  refine X_callS (gc2 := 827 + gA) (gs2 := 4178 + gB) (j_max 1 sv (by decide) (by omega)) kmJ9_max_7cf53 rfl lL_153 sJ9_max_7cf53 rfl rfl (Nat.le_of_ble_eq_true rfl) (by decide) dL_law_173 (by omega) (by omega) (fun E w1 hq => nomatch hq.1) (fun v w1 hq => ?_)
  have hvv := hq.1
  obtain rfl := hq.2.symm
  cases hvv
  refine XJ.top (v' := .int (nI av)) (by rw [hae]) ?_
  refine X_istore (i := 12) (lo' := [(12, _), (11, _), (0, _), (1, _), (2, _), (3, _), (4, _), (5, _), (6, _), (7, _), (8, _), (9, _), (10, _)]) dL_law_176 (Nat.le_of_ble_eq_true rfl) rfl ?_
  refine X_aload_n dL_law_178 (i := 1) rfl rfl ?_
  refine X_iload dL_law_179 (i := 12) rfl ?_
  refine X_callS (gc2 := (13 + gA)) (gs2 := (78 + gB)) (m_sum hR.e0 hIP h6 hav.1 (by omega) (len_36 hIP h6 hk) hS) kmL_sum rfl lL_158 sL_sum rfl rfl (Nat.le_of_ble_eq_true rfl) (by decide) dL_law_181 (by omega) (by omega) (fun E w1 hq => nomatch hq.1) (fun v w1 hq => ?_)
  have hvv := hq.1
  have hS := hq.2.1
  have hR := hR.fx hq.2.2
  cases hvv
  refine X_lstore (i := 13) (lo' := [(13, _), (12, _), (11, _), (0, _), (1, _), (2, _), (3, _), (4, _), (5, _), (6, _), (7, _), (8, _), (9, _), (10, _)]) dL_law_184 (Nat.le_of_ble_eq_true rfl) rfl ?_
  refine X_aload_n dL_law_186 (i := 0) rfl rfl ?_
  refine X_iload dL_law_187 (i := 9) rfl ?_
  refine X_bipush (v := 24) dL_law_189 (by decide) ?_
  refine X_callS (gc2 := (13 + gA)) (gs2 := (78 + gB)) (j_pick hL (k) 24 (by omega) (by decide) (by decide)) kmL_pick rfl lL_146 sL_pick rfl rfl (Nat.le_of_ble_eq_true rfl) (by decide) dL_law_191 (by omega) (by omega) (fun E w1 hq => (by obtain ⟨⟨_, _, hx⟩, -⟩ := hq; cases hx)) (fun v w1 hq => ?_)
  obtain ⟨⟨kd, hkd, hvv⟩, hww⟩ := hq
  subst hww
  cases hvv
  refine X_istore (i := 15) (lo' := [(15, _), (13, _), (12, _), (11, _), (0, _), (1, _), (2, _), (3, _), (4, _), (5, _), (6, _), (7, _), (8, _), (9, _), (10, _)]) dL_law_194 (Nat.le_of_ble_eq_true rfl) rfl ?_
  refine X_aload_n dL_law_196 (i := 0) rfl rfl ?_
  refine X_iload dL_law_197 (i := 9) rfl ?_
  refine X_iconst (v := 1) dL_law_199 (by decide) ?_
  refine X_iadd dL_law_200 ?_
  refine XJ.top (v' := .int (nI (k + 1))) (congrArg Value.int (nI_add k 1)) ?_
  refine X_bipush (v := 40) dL_law_201 (by decide) ?_
  refine X_callS (gc2 := (13 + gA)) (gs2 := (78 + gB)) (j_pick hL (k + 1) 40 (by omega) (by decide) (by decide)) kmL_pick rfl lL_146 sL_pick rfl rfl (Nat.le_of_ble_eq_true rfl) (by decide) dL_law_203 (by omega) (by omega) (fun E w1 hq => (by obtain ⟨⟨_, _, hx⟩, -⟩ := hq; cases hx)) (fun v w1 hq => ?_)
  obtain ⟨⟨va, hva, hvv⟩, hww⟩ := hq
  subst hww
  cases hvv
  refine X_if_ne (tgt := 214) dL_law_206 (by decide) (fun h206 => ?_) (fun h206 => ?_)
  · refine X_aload_n dL_law_214 (i := 0) rfl rfl ?_
    refine X_iload dL_law_215 (i := 9) rfl ?_
    refine X_iconst (v := 1) dL_law_217 (by decide) ?_
    refine X_iadd dL_law_218 ?_
    refine XJ.top (v' := .int (nI (k + 1))) (congrArg Value.int (nI_add k 1)) ?_
    refine X_bipush (v := 6) dL_law_219 (by decide) ?_
    refine X_callS (gc2 := (13 + gA)) (gs2 := (78 + gB)) (j_pick hL (k + 1) 6 (by omega) (by decide) (by decide)) kmL_pick rfl lL_146 sL_pick rfl rfl (Nat.le_of_ble_eq_true rfl) (by decide) dL_law_221 (by omega) (by omega) (fun E w1 hq => (by obtain ⟨⟨_, _, hx⟩, -⟩ := hq; cases hx)) (fun v w1 hq => ?_)
    obtain ⟨⟨vb, hvb, hvv⟩, hww⟩ := hq
    subst hww
    cases hvv
    exact XJ.lcs (lo' := [(0, .ref G.2.2.2.2.1), (1, .ref a0), (2, .ref a1), (3, .ref a2), (4, .ref a3), (5, .ref a4), (6, .int (nI (ln L))), (7, .int (nI O.1)), (8, .int 1), (9, .int (nI k)), (10, .int (nI n)), (11, .int (nI sv)), (12, .int (nI av)), (13, .long (smV P L pr O av 4)), (15, .int (nI kd))]) ⟨rfl, rfl, rfl, rfl, rfl, rfl, rfl, rfl, rfl, rfl, rfl, rfl, rfl, rfl, rfl, trivial⟩ (law_224 (p := vb) hIP h6 hk hag hL hkn hsv hav (by omega) hn hS hR)
  · refine X_bipush (v := 6) dL_law_209 (by decide) ?_
    refine X_goto (tgt := 224) dL_law_211 (by decide) ?_
    exact XJ.lcs (lo' := [(0, .ref G.2.2.2.2.1), (1, .ref a0), (2, .ref a1), (3, .ref a2), (4, .ref a3), (5, .ref a4), (6, .int (nI (ln L))), (7, .int (nI O.1)), (8, .int 1), (9, .int (nI k)), (10, .int (nI n)), (11, .int (nI sv)), (12, .int (nI av)), (13, .long (smV P L pr O av 4)), (15, .int (nI kd))]) ⟨rfl, rfl, rfl, rfl, rfl, rfl, rfl, rfl, rfl, rfl, rfl, rfl, rfl, rfl, rfl, trivial⟩ (law_224 (p := 6) hIP h6 hk hag hL hkn hsv hav (by omega) hn hS hR)
set_option maxRecDepth 20000 in
theorem law_round {nm : String} {hh : List (Nat × Nat × Nat × Nat)} {P : PSt} {L : LSt} {pr : Nat → Nat} {O : OSt} {mp : Nat} {mk : Nat → UInt32} {a0 a1 a2 a3 a4 : Nat} {f1 f2 f3 f4 : Nat → Int32} (hIP : IP P L pr O mp mk []) (h6 : P.1 = 6) (hk : KD P) (hag : AG L f1 f2 f3 f4) {k : Nat} (hL : G.2.2.2.2.2.1 < 2 ^ 31) (hkn : k ≤ 1000) {n : Nat} (hn80 : n ≤ 80) (hn : n < 80 → ∀ (P' : PSt) (L' : LSt) (pr' : Nat → Nat) (O' : OSt) (mp' : Nat) (mk' : Nat → UInt32) (g1 g2 g3 g4 : Nat → Int32) (w2 : Wd), IP P' L' pr' O' mp' mk' [] → P'.1 = 6 → KD P' → AG L' g1 g2 g3 g4 → ST 0 G.2.2.1 w2 P' L' pr' O' mp' mk' → LR 43 G.2.2.1 w2 a0 a1 a2 a3 a4 g1 g2 g3 g4 → XJ G (mLaw nm hh) 40 (1641 * (80 - (n + 1)) + 18969 * (10 - (n + 1) / 8) + 18969) (8278 * (80 - (n + 1)) + 112282 * (10 - (n + 1) / 8) + 112282) 127 [(0, .ref G.2.2.2.2.1), (1, .ref a0), (2, .ref a1), (3, .ref a2), (4, .ref a3), (5, .ref a4), (6, .int (nI (ln L'))), (7, .int (nI O'.1)), (8, .int 1), (9, .int (nI (k + 6))), (10, .int (nI (n + 1)))] [] w2 QL) {w1 : Wd} (hS : ST 0 G.2.2.1 w1 P L pr O mp mk) (hR : LR 43 G.2.2.1 w1 a0 a1 a2 a3 a4 f1 f2 f3 f4) (hf : XJ G (mLaw nm hh) 40 18969 112282 995 [(0, .ref G.2.2.2.2.1), (1, .ref a0), (2, .ref a1), (3, .ref a2), (4, .ref a3), (5, .ref a4), (6, .int (nI (ln L))), (7, .int (nI O.1)), (8, .int 1), (9, .int (nI k))] [] w1 QL) : XJ G (mLaw nm hh) 40 (1641 * (80 - n) + 18969 * (10 - n / 8) + 18969) (8278 * (80 - n) + 112282 * (10 - n / 8) + 112282) 127 [(0, .ref G.2.2.2.2.1), (1, .ref a0), (2, .ref a1), (3, .ref a2), (4, .ref a3), (5, .ref a4), (6, .int (nI (ln L))), (7, .int (nI O.1)), (8, .int 1), (9, .int (nI (k))), (10, .int (nI (n)))] [] w1 QL := by
  refine X_iload dL_law_127 (i := 10) rfl ?_
  refine X_bipush (v := 80) dL_law_129 (by decide) ?_
  refine X_icmp_ge (tgt := 995) dL_law_131 (by decide) (fun h131 => ?_) (fun h131 => ?_)
  · exact XJ.less (by omega) (by omega) (XJ.lcs (lo' := [(0, .ref G.2.2.2.2.1), (1, .ref a0), (2, .ref a1), (3, .ref a2), (4, .ref a3), (5, .ref a4), (6, .int (nI (ln L))), (7, .int (nI O.1)), (8, .int 1), (9, .int (nI k))]) ⟨rfl, rfl, rfl, rfl, rfl, rfl, rfl, rfl, rfl, rfl, trivial⟩ hf)
  · have hn79 : n < 80 := lt6 (by decide) hn80 h131
    refine X_iload dL_law_134 (i := 8) rfl ?_
    refine X_if_eq (tgt := 995) dL_law_136 (by decide) (fun h136 => ?_) (fun h136 => ?_)
    · exact absurd h136 (by decide)
    refine X_aload_n dL_law_139 (i := 0) rfl rfl ?_
    refine X_iload dL_law_140 (i := 9) rfl ?_
    refine X_iconst (v := 5) dL_law_142 (by decide) ?_
    refine X_iadd dL_law_143 ?_
    refine XJ.top (v' := .int (nI (k + 5))) (congrArg Value.int (nI_add k 5)) ?_
    refine X_bipush (v := 40) dL_law_144 (by decide) ?_
    refine X_callS (gc2 := (1641 * (80 - n) + 18969 * (10 - n / 8) + 18969)) (gs2 := (8278 * (80 - n) + 112282 * (10 - n / 8) + 112282)) (j_pick hL (k + 5) 40 (by omega) (by decide) (by decide)) kmL_pick rfl lL_146 sL_pick rfl rfl (Nat.le_of_ble_eq_true rfl) (by decide) dL_law_146 (by omega) (by omega) (fun E w1 hq => (by obtain ⟨⟨_, _, hx⟩, -⟩ := hq; cases hx)) (fun v w1 hq => ?_)
    obtain ⟨⟨va, hva, hvv⟩, hww⟩ := hq
    subst hww
    cases hvv
    refine X_if_ne (tgt := 156) dL_law_149 (by decide) (fun h149 => ?_) (fun h149 => ?_)
    · refine X_iconst (v := 1) dL_law_156 (by decide) ?_
      refine X_aload_n dL_law_157 (i := 0) rfl rfl ?_
      refine X_iload dL_law_158 (i := 9) rfl ?_
      refine X_iconst (v := 5) dL_law_160 (by decide) ?_
      refine X_iadd dL_law_161 ?_
      refine XJ.top (v' := .int (nI (k + 5))) (congrArg Value.int (nI_add k 5)) ?_
      refine X_bipush (v := 30) dL_law_162 (by decide) ?_
      refine X_callS (gc2 := (1641 * (80 - n) + 18969 * (10 - n / 8) + 18969)) (gs2 := (8278 * (80 - n) + 112282 * (10 - n / 8) + 112282)) (j_pick hL (k + 5) 30 (by omega) (by decide) (by decide)) kmL_pick rfl lL_146 sL_pick rfl rfl (Nat.le_of_ble_eq_true rfl) (by decide) dL_law_164 (by omega) (by omega) (fun E w1 hq => (by obtain ⟨⟨_, _, hx⟩, -⟩ := hq; cases hx)) (fun v w1 hq => ?_)
      obtain ⟨⟨vb, hvb, hvv⟩, hww⟩ := hq
      subst hww
      cases hvv
      refine X_iadd dL_law_167 ?_
      refine XJ.top (v' := .int (nI (1 + vb))) (congrArg Value.int (nI_add 1 vb)) ?_
      exact XJ.less (gc' := 827 + (814 + (1641 * (79 - n) + 18969 * (10 - n / 8) + 18969))) (gs' := 4178 + (4100 + (8278 * (79 - n) + 112282 * (10 - n / 8) + 112282))) (by omega) (by omega) (XJ.lcs (lo' := [(0, .ref G.2.2.2.2.1), (1, .ref a0), (2, .ref a1), (3, .ref a2), (4, .ref a3), (5, .ref a4), (6, .int (nI (ln L))), (7, .int (nI O.1)), (8, .int 1), (9, .int (nI k)), (10, .int (nI n))]) ⟨rfl, rfl, rfl, rfl, rfl, rfl, rfl, rfl, rfl, rfl, rfl, trivial⟩ (law_168 (sv := 1 + vb) hIP h6 hk hag hL hkn (by omega) (fun av hav t P' L' pr' O' mp' mk' g1 g2 g3 g4 w2 a1 a2 a3 a4 a5 a6 a7 => law_tail a1 a2 a3 a4 hn79 hav a7 (fun w3 b1 b2 => hn hn79 P' L' pr' O' mp' mk' g1 g2 g3 g4 w3 a1 a2 a3 a4 b1 b2) a5 a6) hS hR))
    · refine X_iconst (v := 0) dL_law_152 (by decide) ?_
      refine X_goto (tgt := 168) dL_law_153 (by decide) ?_
      exact XJ.less (gc' := 827 + (814 + (1641 * (79 - n) + 18969 * (10 - n / 8) + 18969))) (gs' := 4178 + (4100 + (8278 * (79 - n) + 112282 * (10 - n / 8) + 112282))) (by omega) (by omega) (XJ.lcs (lo' := [(0, .ref G.2.2.2.2.1), (1, .ref a0), (2, .ref a1), (3, .ref a2), (4, .ref a3), (5, .ref a4), (6, .int (nI (ln L))), (7, .int (nI O.1)), (8, .int 1), (9, .int (nI k)), (10, .int (nI n))]) ⟨rfl, rfl, rfl, rfl, rfl, rfl, rfl, rfl, rfl, rfl, rfl, trivial⟩ (law_168 (sv := 0) hIP h6 hk hag hL hkn (by omega) (fun av hav t P' L' pr' O' mp' mk' g1 g2 g3 g4 w2 a1 a2 a3 a4 a5 a6 a7 => law_tail a1 a2 a3 a4 hn79 hav a7 (fun w3 b1 b2 => hn hn79 P' L' pr' O' mp' mk' g1 g2 g3 g4 w3 a1 a2 a3 a4 b1 b2) a5 a6) hS hR))
set_option maxRecDepth 20000 in
theorem law_fin {nm : String} {hh : List (Nat × Nat × Nat × Nat)} {P : PSt} {L : LSt} {pr : Nat → Nat} {O : OSt} {mp : Nat} {mk : Nat → UInt32} {a0 a1 a2 a3 a4 : Nat} {f1 f2 f3 f4 : Nat → Int32} (hIP : IP P L pr O mp mk []) (h6 : P.1 = 6) (hk : KD P) (hag : AG L f1 f2 f3 f4) {k : Nat} (hL : G.2.2.2.2.2.1 < 2 ^ 31) (hkn : k ≤ 1000) {w1 : Wd} (hS : ST 0 G.2.2.1 w1 P L pr O mp mk) (hR : LR 43 G.2.2.1 w1 a0 a1 a2 a3 a4 f1 f2 f3 f4) : XJ G (mLaw nm hh) 40 18969 112282 995 [(0, .ref G.2.2.2.2.1), (1, .ref a0), (2, .ref a1), (3, .ref a2), (4, .ref a3), (5, .ref a4), (6, .int (nI (ln L))), (7, .int (nI O.1)), (8, .int 1), (9, .int (nI k))] [] w1 QL := by
  refine X_iload dL_law_995 (i := 8) rfl ?_
  refine X_if_eq (tgt := 1036) dL_law_997 (by decide) (fun h997 => ?_) (fun h997 => ?_)
  · exact absurd h997 (by decide)
  refine X_aload_n dL_law_1000 (i := 1) rfl rfl ?_
  refine X_callV (gc2 := 18969) (gs2 := 112282) (q_cons hR.e0 hS hIP) (i := 0) hS.c0 hR.e0 rfl kmX10_isConsistent rfl lL_209 iX10_isConsistent vX10_isConsistent rfl rfl (Nat.le_of_ble_eq_true rfl) (by decide) dL_law_1001 (by decide) (by decide) (fun E w1 hq => nomatch hq.1) (fun v w1 hq => ?_)
  have hvv := hq.1
  obtain rfl := hq.2.symm
  cases hvv
  refine X_if_eq (tgt := 1036) dL_law_1004 (by decide) (fun h1004 => ?_) (fun h1004 => ?_)
  · exact absurd h1004 (by decide)
  refine X_aload_n dL_law_1007 (i := 1) rfl rfl ?_
  refine X_iconst (v := 1) dL_law_1008 (by decide) ?_
  refine X_aload_n dL_law_1009 (i := 0) rfl rfl ?_
  refine X_iload dL_law_1010 (i := 9) rfl ?_
  refine X_bipush (v := 30) dL_law_1012 (by decide) ?_
  refine X_callS (gc2 := 18969) (gs2 := 112282) (j_pick hL (k) 30 (by omega) (by decide) (by decide)) kmL_pick rfl lL_146 sL_pick rfl rfl (Nat.le_of_ble_eq_true rfl) (by decide) dL_law_1014 (by omega) (by omega) (fun E w1 hq => (by obtain ⟨⟨_, _, hx⟩, -⟩ := hq; cases hx)) (fun v w1 hq => ?_)
  obtain ⟨⟨va, hva, hvv⟩, hww⟩ := hq
  subst hww
  cases hvv
  refine X_iadd dL_law_1017 ?_
  refine XJ.top (v' := .int (nI (1 + va))) (congrArg Value.int (nI_add 1 va)) ?_
  refine X_iload dL_law_1018 (i := 6) rfl ?_
  refine X_aload_n dL_law_1020 (i := 2) rfl rfl ?_
  refine X_aload_n dL_law_1021 (i := 3) rfl rfl ?_
  refine X_aload dL_law_1022 (i := 4) rfl ?_
  refine X_aload dL_law_1024 (i := 5) rfl ?_
  refine X_callS (gc2 := 0) (gs2 := 0) (m_areRight hIP h6 (by omega) (by omega) hk hag hS hR) kmL_areRight rfl lL_205 sL_areRight rfl rfl (Nat.le_of_ble_eq_true rfl) (by decide) dL_law_1026 (by omega) (by omega) (fun E w1 hq => nomatch hq.1) (fun v w1 hq => ?_)
  have hvv := hq.1
  have hS := hq.2.1
  have hR := hq.2.2
  cases hvv
  refine X_if_eq (tgt := 1036) dL_law_1029 (by decide) (fun h1029 => ?_) (fun h1029 => ?_)
  · exact absurd h1029 (by decide)
  refine X_iconst (v := 1) dL_law_1032 (by decide) ?_
  refine X_goto (tgt := 1037) dL_law_1033 (by decide) ?_
  refine X_ireturn dL_law_1037 rfl rfl ?_
  exact rfl
theorem law_loop {nm : String} {hh : List (Nat × Nat × Nat × Nat)} {a0 a1 a2 a3 a4 : Nat} (hL : G.2.2.2.2.2.1 < 2 ^ 31) : ∀ (i n : Nat) (P : PSt) (L : LSt) (pr : Nat → Nat) (O : OSt) (mp : Nat) (mk : Nat → UInt32) (f1 f2 f3 f4 : Nat → Int32) (w1 : Wd), 80 - n < i → n ≤ 80 → IP P L pr O mp mk [] → P.1 = 6 → KD P → AG L f1 f2 f3 f4 → ST 0 G.2.2.1 w1 P L pr O mp mk → LR 43 G.2.2.1 w1 a0 a1 a2 a3 a4 f1 f2 f3 f4 → XJ G (mLaw nm hh) 40 (1641 * (80 - n) + 18969 * (10 - n / 8) + 18969) (8278 * (80 - n) + 112282 * (10 - n / 8) + 112282) 127 [(0, .ref G.2.2.2.2.1), (1, .ref a0), (2, .ref a1), (3, .ref a2), (4, .ref a3), (5, .ref a4), (6, .int (nI (ln L))), (7, .int (nI O.1)), (8, .int 1), (9, .int (nI (12 + 6 * n))), (10, .int (nI (n)))] [] w1 QL := by
  intro i
  induction i with
  | zero => intro n P L pr O mp mk f1 f2 f3 f4 w1 hm; exact absurd hm (Nat.not_lt_zero _)
  | succ i ih =>
    intro n P L pr O mp mk f1 f2 f3 f4 w1 hm hn80 hIP h6 hk hag hS hR
    exact law_round (k := 12 + 6 * n) (n := n) hIP h6 hk hag hL (by omega) hn80 (fun hn79 P' L' pr' O' mp' mk' g1 g2 g3 g4 w2 b1 b2 b3 b4 b5 b6 => by
        have h := ih (n + 1) P' L' pr' O' mp' mk' g1 g2 g3 g4 w2 (by omega) (by omega) b1 b2 b3 b4 b5 b6
        rw [show 12 + 6 * (n + 1) = 12 + 6 * n + 6 by omega] at h
        exact h) hS hR (law_fin hIP h6 hk hag hL (by omega) hS hR)
end LoopQ
