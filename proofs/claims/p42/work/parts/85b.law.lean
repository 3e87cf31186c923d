/-! THE LAW, its rounds (walks by gen/spec85.py) -/
section LawQ
variable {G : Gx} {w : Wd}
abbrev mLaw (nm : String) (hh : List (Nat × Nat × Nat × Nat)) : Mth := (RL, ⟨RL, nm, "([I)Z"⟩, cL_law, 25, some .boolean, hh)
def QL : XRes → Wd → Prop := fun r _ => r = .inl (some (.int 1))
set_option maxRecDepth 20000 in
theorem law_no {nm : String} {hh : List (Nat × Nat × Nat × Nat)} {P : PSt} {L : LSt} {pr : Nat → Nat} {O : OSt} {mp : Nat} {mk : Nat → UInt32} {a0 a1 a2 a3 a4 : Nat} {f1 f2 f3 f4 : Nat → Int32} (hIP : IP P L pr O mp mk []) (h6 : P.1 = 6) (hk : KD P) (hag : AG L f1 f2 f3 f4) {sv av p c m l place k n kd gA gB : Nat} (hsv : sv ≤ 30) (hav : 1 ≤ av ∧ av ≤ 30) (hp : p ≤ 6) (hc : c ≤ 6) (hm : m < 1000) (hl : l ≤ ln L) (hpl : place ≤ 6) (hn : ∀ (t : Int32) (P' : PSt) (L' : LSt) (pr' : Nat → Nat) (O' : OSt) (mp' : Nat) (mk' : Nat → UInt32) (g1 g2 g3 g4 : Nat → Int32) (w2 : Wd), IP P' L' pr' O' mp' mk' [] → P'.1 = 6 → KD P' → AG L' g1 g2 g3 g4 → ST 0 G.2.2.1 w2 P' L' pr' O' mp' mk' → LR 43 G.2.2.1 w2 a0 a1 a2 a3 a4 g1 g2 g3 g4 → (t < 0 → smV P' L' pr' O' av 4 = (smV P L pr O av 4)) → XJ G (mLaw nm hh) 40 gA gB 923 [(0, .ref G.2.2.2.2.1), (1, .ref a0), (2, .ref a1), (3, .ref a2), (4, .ref a3), (5, .ref a4), (6, .int (nI (ln L'))), (7, .int (nI O'.1)), (8, .int 1), (9, .int (nI k)), (10, .int (nI n)), (12, .int (nI av)), (13, .long (smV P L pr O av 4)), (22, .int t)] [] w2 QL) {w1 : Wd} (hS : ST 0 G.2.2.1 w1 P L pr O mp mk) (hR : LR 43 G.2.2.1 w1 a0 a1 a2 a3 a4 f1 f2 f3 f4) {t : Int32} (ht : t < 0) : XJ G (mLaw nm hh) 40 gA gB 378 [(0, .ref G.2.2.2.2.1), (1, .ref a0), (2, .ref a1), (3, .ref a2), (4, .ref a3), (5, .ref a4), (6, .int (nI (ln L))), (7, .int (nI O.1)), (8, .int 1), (9, .int (nI k)), (10, .int (nI n)), (11, .int (nI sv)), (12, .int (nI av)), (13, .long (smV P L pr O av 4)), (15, .int (nI kd)), (16, .int (nI p)), (17, .int (nI c)), (18, .int (nI m)), (19, .int (nI l)), (20, .int (nI place)), (21, .int (nI (m % 22))), (22, .int 0)] [.int t] w1 QL := by
  refine X_istore (i := 22) (lo' := [(22, _), (0, _), (1, _), (2, _), (3, _), (4, _), (5, _), (6, _), (7, _), (8, _), (9, _), (10, _), (11, _), (12, _), (13, _), (15, _), (16, _), (17, _), (18, _), (19, _), (20, _), (21, _)]) dL_law_378 (Nat.le_of_ble_eq_true rfl) rfl ?_
  refine X_iload dL_law_380 (i := 22) rfl ?_
  refine X_if_lt (tgt := 923) dL_law_382 (by decide) (fun h382 => ?_) (fun h382 => ?_)
  rotate_left
  · exact absurd ht h382
  exact XJ.less (by omega) (by omega) (XJ.lcs (lo' := [(0, .ref G.2.2.2.2.1), (1, .ref a0), (2, .ref a1), (3, .ref a2), (4, .ref a3), (5, .ref a4), (6, .int (nI (ln L))), (7, .int (nI O.1)), (8, .int 1), (9, .int (nI k)), (10, .int (nI n)), (12, .int (nI av)), (13, .long (smV P L pr O av 4)), (22, .int t)]) ⟨rfl, rfl, rfl, rfl, rfl, rfl, rfl, rfl, rfl, rfl, rfl, rfl, rfl, rfl, trivial⟩ (hn t P L pr O mp mk _ _ _ _ _ hIP h6 hk hag hS hR (fun _ => rfl)))
set_option maxRecDepth 20000 in
theorem law_yes {nm : String} {hh : List (Nat × Nat × Nat × Nat)} {P : PSt} {L : LSt} {pr : Nat → Nat} {O : OSt} {mp : Nat} {mk : Nat → UInt32} {a0 a1 a2 a3 a4 : Nat} {f1 f2 f3 f4 : Nat → Int32} (hIP : IP P L pr O mp mk []) (h6 : P.1 = 6) (hk : KD P) (hag : AG L f1 f2 f3 f4) {sv av p c m l place k n kd gA gB : Nat} (hsv : sv ≤ 30) (hav : 1 ≤ av ∧ av ≤ 30) (hp : p ≤ 6) (hc : c ≤ 6) (hm : m < 1000) (hl : l ≤ ln L) (hpl : place ≤ 6) (hn : ∀ (t : Int32) (P' : PSt) (L' : LSt) (pr' : Nat → Nat) (O' : OSt) (mp' : Nat) (mk' : Nat → UInt32) (g1 g2 g3 g4 : Nat → Int32) (w2 : Wd), IP P' L' pr' O' mp' mk' [] → P'.1 = 6 → KD P' → AG L' g1 g2 g3 g4 → ST 0 G.2.2.1 w2 P' L' pr' O' mp' mk' → LR 43 G.2.2.1 w2 a0 a1 a2 a3 a4 g1 g2 g3 g4 → (t < 0 → smV P' L' pr' O' av 4 = (smV P L pr O av 4)) → XJ G (mLaw nm hh) 40 gA gB 923 [(0, .ref G.2.2.2.2.1), (1, .ref a0), (2, .ref a1), (3, .ref a2), (4, .ref a3), (5, .ref a4), (6, .int (nI (ln L'))), (7, .int (nI O'.1)), (8, .int 1), (9, .int (nI k)), (10, .int (nI n)), (12, .int (nI av)), (13, .long (smV P L pr O av 4)), (22, .int t)] [] w2 QL) {L' : LSt} (hIP2 : IP P L' pr O mp mk []) (hp6 : p < 6) (hc6 : c < 6) (hln : ln L' = ln L + 1) (hpa : pa L' = va_up (pa L) (ln L) p) (hpo : po L' = va_up (po L) (ln L) place) (hch : ch L' = va_up (ch L) (ln L) c) (hqt : qt L' = va_up (qt L) (ln L) (m % 22)) {w1 : Wd} (hS : ST 0 G.2.2.1 w1 P L' pr O mp mk) (hR : LR 43 G.2.2.1 w1 a0 a1 a2 a3 a4 f1 f2 f3 f4) : XJ G (mLaw nm hh) 40 (4 + gA) (24 + gB) 378 [(0, .ref G.2.2.2.2.1), (1, .ref a0), (2, .ref a1), (3, .ref a2), (4, .ref a3), (5, .ref a4), (6, .int (nI (ln L))), (7, .int (nI O.1)), (8, .int 1), (9, .int (nI k)), (10, .int (nI n)), (11, .int (nI sv)), (12, .int (nI av)), (13, .long (smV P L pr O av 4)), (15, .int (nI kd)), (16, .int (nI p)), (17, .int (nI c)), (18, .int (nI m)), (19, .int (nI l)), (20, .int (nI place)), (21, .int (nI (m % 22))), (22, .int 0)] [.int (nI (ln L))] w1 QL := by
  have h41 := hIP2.2.2.1.1.2.1
  have h39 : ln L < 40 := by omega
  have hz0 : hasN L' pr av 5 c p = 0 := by
    have h := has_back (pr := pr) (s := av) (f := 5) (j := ln L) hIP2.2.2.1.2.2 (by omega)
    rwa [hch, hpa, va_up_self, va_up_self] at h
  have hne : p ≠ c := by
    have h := ch_ne (j := ln L) hIP2.2.2.1.2.2 (by omega)
    rwa [hch, hpa, va_up_self, va_up_self] at h
  refine X_istore (i := 22) (lo' := [(22, _), (0, _), (1, _), (2, _), (3, _), (4, _), (5, _), (6, _), (7, _), (8, _), (9, _), (10, _), (11, _), (12, _), (13, _), (15, _), (16, _), (17, _), (18, _), (19, _), (20, _), (21, _)]) dL_law_378 (Nat.le_of_ble_eq_true rfl) rfl ?_
  refine X_iload dL_law_380 (i := 22) rfl ?_
  refine X_if_lt (tgt := 923) dL_law_382 (by decide) (fun h382 => ?_) (fun h382 => ?_)
  · exact absurd h382 (nI_pos (by omega))
  refine X_aload_n dL_law_385 (i := 2) rfl rfl ?_
  refine X_iload dL_law_386 (i := 22) rfl ?_
  refine X_iload dL_law_388 (i := 16) rfl ?_
  refine X_iast (i := 39) hR.m1 hR.e1 rfl (by omega) (by decide) dL_law_390 (fun hc_390 => ?_)
  refine X_aload_n dL_law_391 (i := 3) rfl rfl ?_
  refine X_iload dL_law_392 (i := 22) rfl ?_
  refine X_iload dL_law_394 (i := 20) rfl ?_
  refine X_iast (i := 40) hR.m2 hR.e2 rfl (by omega) (by decide) dL_law_396 (fun hc_396 => ?_)
  refine X_aload dL_law_397 (i := 4) rfl ?_
  refine X_iload dL_law_399 (i := 22) rfl ?_
  refine X_iload dL_law_401 (i := 17) rfl ?_
  refine X_iast (i := 41) hR.m3 hR.e3 rfl (by omega) (by decide) dL_law_403 (fun hc_403 => ?_)
  refine X_aload dL_law_404 (i := 5) rfl ?_
  refine X_iload dL_law_406 (i := 22) rfl ?_
  refine X_iload dL_law_408 (i := 21) rfl ?_
  refine X_iast (i := 42) hR.m4 hR.e4 rfl (by omega) (by decide) dL_law_410 (fun hc_410 => ?_)
  have hS := ST.w4 (e1 := aI G.2.2.1 40 (va_up f1 (ln L) (nI (p)))) (e2 := aI G.2.2.1 40 (va_up f2 (ln L) (nI (place)))) (e3 := aI G.2.2.1 40 (va_up f3 (ln L) (nI (c)))) (e4 := aI G.2.2.1 40 (va_up f4 (ln L) (nI (m % 22)))) hS hR.1
  have hR := LR.w4 (g1 := va_up f1 (ln L) (nI (p))) (g2 := va_up f2 (ln L) (nI (place))) (g3 := va_up f3 (ln L) (nI (c))) (g4 := va_up f4 (ln L) (nI (m % 22))) hR
  have hag2 := AG.new (L' := L') (p := p) (k := place) (c := c) (q := m % 22) hag hln hpa hpo hch hqt
  refine X_iload dL_law_411 (i := 22) rfl ?_
  refine X_iload dL_law_413 (i := 6) rfl ?_
  refine X_icmp_ne (tgt := 444) dL_law_415 (by decide) (fun h415 => ?_) (fun h415 => ?_)
  · exact absurd rfl h415
  refine X_aload_n dL_law_418 (i := 1) rfl rfl ?_
  refine X_iload dL_law_419 (i := 17) rfl ?_
  refine X_iload dL_law_421 (i := 16) rfl ?_
  refine X_iload dL_law_423 (i := 12) rfl ?_
  refine X_callSW (gc2 := (0 + gA)) (gs2 := (0 + gB)) (q_quantity hR.e0 hS hIP2 h6 hc6 hp6 hav.1 (by omega)) kmL_quantity rfl lL_167 sL_quantity rfl rfl (Nat.le_of_ble_eq_true rfl) (by decide) dL_law_425 (by omega) (by omega) (fun E w1 hq => nomatch hq.1) (fun v w1 hq => ?_)
  have hvv := hq.1
  have hS := hq.2.1
  have hR := hR.fx hq.2.2
  cases hvv
  refine XJ.top (v' := .long 0) (by rw [hz0]; rfl) ?_
  refine X_lconst (v := 0) dL_law_428 rfl ?_
  refine X_lcmp dL_law_429 ?_
  refine X_if_ne (tgt := 444) dL_law_430 (by decide) (fun h430 => ?_) (fun h430 => ?_)
  · exact absurd (lcmp_s _) h430
  refine X_iload dL_law_433 (i := 16) rfl ?_
  refine X_iload dL_law_435 (i := 17) rfl ?_
  refine X_icmp_eq (tgt := 444) dL_law_437 (by decide) (fun h437 => ?_) (fun h437 => ?_)
  · exact absurd ((nI_eq (by omega) (by omega)).mp h437) hne
  refine X_iconst (v := 1) dL_law_440 (by decide) ?_
  refine X_goto (tgt := 445) dL_law_441 (by decide) ?_
  refine X_istore (i := 8) (lo' := [(8, _), (22, _), (0, _), (1, _), (2, _), (3, _), (4, _), (5, _), (6, _), (7, _), (9, _), (10, _), (11, _), (12, _), (13, _), (15, _), (16, _), (17, _), (18, _), (19, _), (20, _), (21, _)]) dL_law_445 (Nat.le_of_ble_eq_true rfl) rfl ?_
  refine X_iinc (i := 6) (v := nI (ln L')) (lo' := [(6, _), (8, _), (22, _), (0, _), (1, _), (2, _), (3, _), (4, _), (5, _), (7, _), (9, _), (10, _), (11, _), (12, _), (13, _), (15, _), (16, _), (17, _), (18, _), (19, _), (20, _), (21, _)]) dL_law_447 rfl (by rw [hln]; exact nI_inc _) (Nat.le_of_ble_eq_true rfl) rfl ?_
  refine X_goto (tgt := 923) dL_law_450 (by decide) ?_
  exact XJ.less (by omega) (by omega) (XJ.lcs (lo' := [(0, .ref G.2.2.2.2.1), (1, .ref a0), (2, .ref a1), (3, .ref a2), (4, .ref a3), (5, .ref a4), (6, .int (nI (ln L'))), (7, .int (nI O.1)), (8, .int 1), (9, .int (nI k)), (10, .int (nI n)), (12, .int (nI av)), (13, .long (smV P L pr O av 4)), (22, .int (nI (ln L)))]) ⟨rfl, rfl, rfl, rfl, rfl, rfl, rfl, rfl, rfl, rfl, rfl, rfl, rfl, rfl, trivial⟩ (hn (nI (ln L)) P L' pr O mp mk _ _ _ _ _ hIP2 h6 hk hag2 hS hR (fun h => absurd h (nI_pos (by omega)))))
set_option maxRecDepth 20000 in
theorem law_add {nm : String} {hh : List (Nat × Nat × Nat × Nat)} {P : PSt} {L : LSt} {pr : Nat → Nat} {O : OSt} {mp : Nat} {mk : Nat → UInt32} {a0 a1 a2 a3 a4 : Nat} {f1 f2 f3 f4 : Nat → Int32} (hIP : IP P L pr O mp mk []) (h6 : P.1 = 6) (hk : KD P) (hag : AG L f1 f2 f3 f4) {sv av p c m l place k n kd gA gB : Nat} (hsv : sv ≤ 30) (hav : 1 ≤ av ∧ av ≤ 30) (hp : p ≤ 6) (hc : c ≤ 6) (hm : m < 1000) (hl : l ≤ ln L) (hpl : place ≤ 6) (hn : ∀ (t : Int32) (P' : PSt) (L' : LSt) (pr' : Nat → Nat) (O' : OSt) (mp' : Nat) (mk' : Nat → UInt32) (g1 g2 g3 g4 : Nat → Int32) (w2 : Wd), IP P' L' pr' O' mp' mk' [] → P'.1 = 6 → KD P' → AG L' g1 g2 g3 g4 → ST 0 G.2.2.1 w2 P' L' pr' O' mp' mk' → LR 43 G.2.2.1 w2 a0 a1 a2 a3 a4 g1 g2 g3 g4 → (t < 0 → smV P' L' pr' O' av 4 = (smV P L pr O av 4)) → XJ G (mLaw nm hh) 40 gA gB 923 [(0, .ref G.2.2.2.2.1), (1, .ref a0), (2, .ref a1), (3, .ref a2), (4, .ref a3), (5, .ref a4), (6, .int (nI (ln L'))), (7, .int (nI O'.1)), (8, .int 1), (9, .int (nI k)), (10, .int (nI n)), (12, .int (nI av)), (13, .long (smV P L pr O av 4)), (22, .int t)] [] w2 QL) {w1 : Wd} (hS : ST 0 G.2.2.1 w1 P L pr O mp mk) (hR : LR 43 G.2.2.1 w1 a0 a1 a2 a3 a4 f1 f2 f3 f4) : XJ G (mLaw nm hh) 40 (13 + gA) (78 + gB) 332 [(0, .ref G.2.2.2.2.1), (1, .ref a0), (2, .ref a1), (3, .ref a2), (4, .ref a3), (5, .ref a4), (6, .int (nI (ln L))), (7, .int (nI O.1)), (8, .int 1), (9, .int (nI k)), (10, .int (nI n)), (11, .int (nI sv)), (12, .int (nI av)), (13, .long (smV P L pr O av 4)), (15, .int (nI kd)), (16, .int (nI p)), (17, .int (nI c)), (18, .int (nI m)), (19, .int (nI l)), (20, .int (nI place)), (21, .int (nI (m % 22))), (22, .int 0)] [] w1 QL := by
  have h40 := hIP.2.2.1.1.2.1
  have hP16 := hIP.1.1
  refine X_aload_n dL_law_332 (i := 1) rfl rfl ?_
  refine X_iload dL_law_333 (i := 16) rfl ?_
  refine X_iload dL_law_335 (i := 20) rfl ?_
  refine X_iload dL_law_337 (i := 17) rfl ?_
  refine X_iload dL_law_339 (i := 21) rfl ?_
  refine X_iload dL_law_341 (i := 11) rfl ?_
  refine X_iload dL_law_343 (i := 11) rfl ?_
  refine X_iload dL_law_345 (i := 18) rfl ?_
  refine X_bipush (v := 50) dL_law_347 (by decide) ?_
  refine X_iremN (a := m) (b := 50) dL_law_349 (by omega) (by omega) (by omega) ?_
  refine X_iadd dL_law_350 ?_
  refine XJ.top (v' := .int (nI (sv + m % 50))) (by rw [nI_add]) ?_
  refine X_callSW (gc2 := (5 + gA)) (gs2 := (30 + gB)) (h_addLine hR.e0 hS hIP (nI p) (nI place) (nI c) (nI (m % 22)) (nI sv) (nI (sv + m % 50))) kmL_addLine rfl lL_162 sL_addLine rfl rfl (Nat.le_of_ble_eq_true rfl) (by decide) dL_law_351 (by omega) (by omega) (fun E w1 hq => nomatch hq.1) (fun v w1 hq => ?_)
  have hvv := hq.1
  have hS := hq.2.1
  have hR := hR.fx hq.2.2
  cases hvv
  refine X_goto (tgt := 378) dL_law_354 (by decide) ?_
  by_cases hcd : cdAL P.1 L (nI p) (nI place) (nI c) (nI (m % 22)) (nI sv) (nI (sv + m % 50)) = 0
  · refine XJ.top (v' := .int (nI (ln L))) (by rw [hv_0 hcd]) ?_
    have hz := cdAL_0 hcd
    have hIP2 := ip_addLine hIP (nI p) (nI place) (nI c) (nI (m % 22)) (nI sv) (nI (sv + m % 50))
    rw [if_pos hcd] at hS hIP2
    have hp6 : p < 6 := by have := inP_lt (by omega) (by omega) hz.1.1; omega
    have hc6 : c < 6 := by have := inP_lt (by omega) (by omega) hz.1.2; omega
    exact XJ.less (by omega) (by omega) (law_yes hIP h6 hk hag hsv hav hp hc hm hl hpl hn hIP2 hp6 hc6 rfl (by show va_up (pa L) (ln L) (idx (nI (p))) = _; rw [idx_nI (by omega)]) (by show va_up (po L) (ln L) (idx (nI (place))) = _; rw [idx_nI (by omega)]) (by show va_up (ch L) (ln L) (idx (nI (c))) = _; rw [idx_nI (by omega)]) (by show va_up (qt L) (ln L) (idx (nI (m % 22))) = _; rw [idx_nI (by omega)]) hS hR)
  · rw [if_neg hcd] at hS
    exact XJ.less (by omega) (by omega) (law_no hIP h6 hk hag hsv hav hp hc hm hl hpl hn hS hR (hv_neg hcd cdAL_le (by decide)))
set_option maxRecDepth 20000 in
theorem law_var {nm : String} {hh : List (Nat × Nat × Nat × Nat)} {P : PSt} {L : LSt} {pr : Nat → Nat} {O : OSt} {mp : Nat} {mk : Nat → UInt32} {a0 a1 a2 a3 a4 : Nat} {f1 f2 f3 f4 : Nat → Int32} (hIP : IP P L pr O mp mk []) (h6 : P.1 = 6) (hk : KD P) (hag : AG L f1 f2 f3 f4) {sv av p c m l place k n kd gA gB : Nat} (hsv : sv ≤ 30) (hav : 1 ≤ av ∧ av ≤ 30) (hp : p ≤ 6) (hc : c ≤ 6) (hm : m < 1000) (hl : l ≤ ln L) (hpl : place ≤ 6) (hn : ∀ (t : Int32) (P' : PSt) (L' : LSt) (pr' : Nat → Nat) (O' : OSt) (mp' : Nat) (mk' : Nat → UInt32) (g1 g2 g3 g4 : Nat → Int32) (w2 : Wd), IP P' L' pr' O' mp' mk' [] → P'.1 = 6 → KD P' → AG L' g1 g2 g3 g4 → ST 0 G.2.2.1 w2 P' L' pr' O' mp' mk' → LR 43 G.2.2.1 w2 a0 a1 a2 a3 a4 g1 g2 g3 g4 → (t < 0 → smV P' L' pr' O' av 4 = (smV P L pr O av 4)) → XJ G (mLaw nm hh) 40 gA gB 923 [(0, .ref G.2.2.2.2.1), (1, .ref a0), (2, .ref a1), (3, .ref a2), (4, .ref a3), (5, .ref a4), (6, .int (nI (ln L'))), (7, .int (nI O'.1)), (8, .int 1), (9, .int (nI k)), (10, .int (nI n)), (12, .int (nI av)), (13, .long (smV P L pr O av 4)), (22, .int t)] [] w2 QL) {w1 : Wd} (hS : ST 0 G.2.2.1 w1 P L pr O mp mk) (hR : LR 43 G.2.2.1 w1 a0 a1 a2 a3 a4 f1 f2 f3 f4) : XJ G (mLaw nm hh) 40 (13 + gA) (78 + gB) 357 [(0, .ref G.2.2.2.2.1), (1, .ref a0), (2, .ref a1), (3, .ref a2), (4, .ref a3), (5, .ref a4), (6, .int (nI (ln L))), (7, .int (nI O.1)), (8, .int 1), (9, .int (nI k)), (10, .int (nI n)), (11, .int (nI sv)), (12, .int (nI av)), (13, .long (smV P L pr O av 4)), (15, .int (nI kd)), (16, .int (nI p)), (17, .int (nI c)), (18, .int (nI m)), (19, .int (nI l)), (20, .int (nI place)), (21, .int (nI (m % 22))), (22, .int 0)] [] w1 QL := by
  have h40 := hIP.2.2.1.1.2.1
  have hP16 := hIP.1.1
  refine X_aload_n dL_law_357 (i := 1) rfl rfl ?_
  refine X_iload dL_law_358 (i := 16) rfl ?_
  refine X_iload dL_law_360 (i := 20) rfl ?_
  refine X_iload dL_law_362 (i := 17) rfl ?_
  refine X_iload dL_law_364 (i := 21) rfl ?_
  refine X_iload dL_law_366 (i := 18) rfl ?_
  refine X_iconst (v := 4) dL_law_368 (by decide) ?_
  refine X_iremN (a := m) (b := 4) dL_law_369 (by omega) (by omega) (by omega) ?_
  refine X_iload dL_law_370 (i := 18) rfl ?_
  refine X_bipush (v := 16) dL_law_372 (by decide) ?_
  refine X_iremN (a := m) (b := 16) dL_law_374 (by omega) (by omega) (by omega) ?_
  refine X_callSW (gc2 := (5 + gA)) (gs2 := (30 + gB)) (h_addVariant hR.e0 hS hIP (nI p) (nI place) (nI c) (nI (m % 22)) (nI (m % 4)) (nI (m % 16))) kmL_addVariant rfl lL_165 sL_addVariant rfl rfl (Nat.le_of_ble_eq_true rfl) (by decide) dL_law_375 (by omega) (by omega) (fun E w1 hq => nomatch hq.1) (fun v w1 hq => ?_)
  have hvv := hq.1
  have hS := hq.2.1
  have hR := hR.fx hq.2.2
  cases hvv
  by_cases hcd : cdAV P.1 L (nI p) (nI place) (nI c) (nI (m % 22)) (nI (m % 4)) (nI (m % 16)) = 0
  · refine XJ.top (v' := .int (nI (ln L))) (by rw [hv_0 hcd]) ?_
    have hz := cdAV_0 hcd
    have hIP2 := ip_addVariant hIP (nI p) (nI place) (nI c) (nI (m % 22)) (nI (m % 4)) (nI (m % 16))
    rw [if_pos hcd] at hS hIP2
    have hp6 : p < 6 := by have := inP_lt (by omega) (by omega) hz.1.1; omega
    have hc6 : c < 6 := by have := inP_lt (by omega) (by omega) hz.1.2; omega
    exact XJ.less (by omega) (by omega) (law_yes hIP h6 hk hag hsv hav hp hc hm hl hpl hn hIP2 hp6 hc6 rfl (by show va_up (pa L) (ln L) (idx (nI (p))) = _; rw [idx_nI (by omega)]) (by show va_up (po L) (ln L) (idx (nI (place))) = _; rw [idx_nI (by omega)]) (by show va_up (ch L) (ln L) (idx (nI (c))) = _; rw [idx_nI (by omega)]) (by show va_up (qt L) (ln L) (idx (nI (m % 22))) = _; rw [idx_nI (by omega)]) hS hR)
  · rw [if_neg hcd] at hS
    exact XJ.less (by omega) (by omega) (law_no hIP h6 hk hag hsv hav hp hc hm hl hpl hn hS hR (hv_neg hcd cdAV_le (by decide)))
set_option maxRecDepth 20000 in
theorem law_rep {nm : String} {hh : List (Nat × Nat × Nat × Nat)} {P : PSt} {L : LSt} {pr : Nat → Nat} {O : OSt} {mp : Nat} {mk : Nat → UInt32} {a0 a1 a2 a3 a4 : Nat} {f1 f2 f3 f4 : Nat → Int32} (hIP : IP P L pr O mp mk []) (h6 : P.1 = 6) (hk : KD P) (hag : AG L f1 f2 f3 f4) {sv av p c m l place k n kd gA gB : Nat} (hsv : sv ≤ 30) (hav : 1 ≤ av ∧ av ≤ 30) (hp : p ≤ 6) (hc : c ≤ 6) (hm : m < 1000) (hl : l ≤ ln L) (hpl : place ≤ 6) (hn : ∀ (t : Int32) (P' : PSt) (L' : LSt) (pr' : Nat → Nat) (O' : OSt) (mp' : Nat) (mk' : Nat → UInt32) (g1 g2 g3 g4 : Nat → Int32) (w2 : Wd), IP P' L' pr' O' mp' mk' [] → P'.1 = 6 → KD P' → AG L' g1 g2 g3 g4 → ST 0 G.2.2.1 w2 P' L' pr' O' mp' mk' → LR 43 G.2.2.1 w2 a0 a1 a2 a3 a4 g1 g2 g3 g4 → (t < 0 → smV P' L' pr' O' av 4 = (smV P L pr O av 4)) → XJ G (mLaw nm hh) 40 gA gB 923 [(0, .ref G.2.2.2.2.1), (1, .ref a0), (2, .ref a1), (3, .ref a2), (4, .ref a3), (5, .ref a4), (6, .int (nI (ln L'))), (7, .int (nI O'.1)), (8, .int 1), (9, .int (nI k)), (10, .int (nI n)), (12, .int (nI av)), (13, .long (smV P L pr O av 4)), (22, .int t)] [] w2 QL) {w1 : Wd} (hS : ST 0 G.2.2.1 w1 P L pr O mp mk) (hR : LR 43 G.2.2.1 w1 a0 a1 a2 a3 a4 f1 f2 f3 f4) : XJ G (mLaw nm hh) 40 (13 + gA) (78 + gB) 460 [(0, .ref G.2.2.2.2.1), (1, .ref a0), (2, .ref a1), (3, .ref a2), (4, .ref a3), (5, .ref a4), (6, .int (nI (ln L))), (7, .int (nI O.1)), (8, .int 1), (9, .int (nI k)), (10, .int (nI n)), (11, .int (nI sv)), (12, .int (nI av)), (13, .long (smV P L pr O av 4)), (15, .int (nI kd)), (16, .int (nI p)), (17, .int (nI c)), (18, .int (nI m)), (19, .int (nI l)), (20, .int (nI place)), (21, .int (nI (m % 22))), (22, .int 0)] [] w1 QL := by
  have h40 := hIP.2.2.1.1.2.1
  have hP16 := hIP.1.1
  refine X_aload_n dL_law_460 (i := 1) rfl rfl ?_
  refine X_iload dL_law_461 (i := 19) rfl ?_
  refine X_iload dL_law_463 (i := 11) rfl ?_
  refine X_iload dL_law_465 (i := 17) rfl ?_
  refine X_iload dL_law_467 (i := 21) rfl ?_
  refine X_callSW (gc2 := (5 + gA)) (gs2 := (30 + gB)) (h_replaceFrom hR.e0 hS hIP (nI l) (nI sv) (nI c) (nI (m % 22))) kmL_replaceFrom rfl lL_170 sL_replaceFrom rfl rfl (Nat.le_of_ble_eq_true rfl) (by decide) dL_law_469 (by omega) (by omega) (fun E w1 hq => nomatch hq.1) (fun v w1 hq => ?_)
  have hvv := hq.1
  have hS := hq.2.1
  have hR := hR.fx hq.2.2
  cases hvv
  by_cases hcd : cdRF P.1 L (nI l) (nI sv) (nI c) (nI (m % 22)) = 0
  · refine XJ.top (v' := .int (nI (ln L))) (by rw [hv_0 hcd]) ?_
    have hz := cdRF_0 hcd
    have hIP2 := ip_replaceFrom hIP (nI l) (nI sv) (nI c) (nI (m % 22))
    rw [if_pos hcd] at hS hIP2
    rw [idx_nI (show l < 2 ^ 31 by omega), idx_nI (show sv < 2 ^ 31 by omega), idx_nI (show c < 2 ^ 31 by omega), idx_nI (show m % 22 < 2 ^ 31 by omega)] at hS hIP2
    have hl2 : l < ln L := inP_lt (by omega) (by omega) hz.1.1
    have hb := hIP.2.2.1.1.2.2 l hl2
    have hg := hag l hl2
    have hcut := hz.2.1.2
    rw [idx_nI (show l < 2 ^ 31 by omega)] at hcut
    have hcv := cut_iv (by omega) (by omega) (by omega) hcut
    obtain ⟨L', hLe⟩ : ∃ L', L' = (repL L l sv c (m % 22)) := ⟨_, rfl⟩
    rw [← hLe] at hS hIP2
    have hln : ln L' = ln L + 1 := by rw [hLe]; rfl
    have hpa : pa L' = va_up (pa L) (ln L) (pa L l) := by rw [hLe]; rfl
    have hpo : po L' = va_up (po L) (ln L) (po L l) := by rw [hLe]; rfl
    have hch : ch L' = va_up (ch L) (ln L) c := by rw [hLe]; rfl
    have hqt : qt L' = va_up (qt L) (ln L) (m % 22) := by rw [hLe]; rfl
    have hla : la L' l = sv - 1 := by rw [hLe]; exact va_up_self _ _ _
    have hh0 : hld L' pr sv l = false := by rw [hld, hla, decide_eq_false (show ¬ sv ≤ sv - 1 by omega)]; simp
    have h41 := hIP2.2.2.1.1.2.1
    have h39 : ln L < 40 := by omega
    refine X_istore (i := 22) (lo' := [(22, _), (0, _), (1, _), (2, _), (3, _), (4, _), (5, _), (6, _), (7, _), (8, _), (9, _), (10, _), (11, _), (12, _), (13, _), (15, _), (16, _), (17, _), (18, _), (19, _), (20, _), (21, _)]) dL_law_472 (Nat.le_of_ble_eq_true rfl) rfl ?_
    refine X_iload dL_law_474 (i := 22) rfl ?_
    refine X_if_lt (tgt := 923) dL_law_476 (by decide) (fun h476 => ?_) (fun h476 => ?_)
    · exact absurd h476 (nI_pos (by omega))
    refine X_aload_n dL_law_479 (i := 2) rfl rfl ?_
    refine X_iload dL_law_480 (i := 22) rfl ?_
    refine X_aload_n dL_law_482 (i := 2) rfl rfl ?_
    refine X_iload dL_law_483 (i := 19) rfl ?_
    refine X_iald (i := 39) hR.m1 hR.e1 rfl (by omega) (by decide) dL_law_485 ?_
    refine XJ.top (v' := .int (nI (pa L l))) (by rw [hg.1]) ?_
    refine X_iast (i := 39) hR.m1 hR.e1 rfl (by omega) (by decide) dL_law_486 (fun hc_486 => ?_)
    refine X_aload_n dL_law_487 (i := 3) rfl rfl ?_
    refine X_iload dL_law_488 (i := 22) rfl ?_
    refine X_aload_n dL_law_490 (i := 3) rfl rfl ?_
    refine X_iload dL_law_491 (i := 19) rfl ?_
    refine X_iald (i := 40) hR.m2 hR.e2 rfl (by omega) (by decide) dL_law_493 ?_
    refine XJ.top (v' := .int (nI (po L l))) (by rw [hg.2.1]) ?_
    refine X_iast (i := 40) hR.m2 hR.e2 rfl (by omega) (by decide) dL_law_494 (fun hc_494 => ?_)
    refine X_aload dL_law_495 (i := 4) rfl ?_
    refine X_iload dL_law_497 (i := 22) rfl ?_
    refine X_iload dL_law_499 (i := 17) rfl ?_
    refine X_iast (i := 41) hR.m3 hR.e3 rfl (by omega) (by decide) dL_law_501 (fun hc_501 => ?_)
    refine X_aload dL_law_502 (i := 5) rfl ?_
    refine X_iload dL_law_504 (i := 22) rfl ?_
    refine X_iload dL_law_506 (i := 21) rfl ?_
    refine X_iast (i := 42) hR.m4 hR.e4 rfl (by omega) (by decide) dL_law_508 (fun hc_508 => ?_)
    have hS := ST.w4 (e1 := aI G.2.2.1 40 (va_up f1 (ln L) (nI (pa L l)))) (e2 := aI G.2.2.1 40 (va_up f2 (ln L) (nI (po L l)))) (e3 := aI G.2.2.1 40 (va_up f3 (ln L) (nI (c)))) (e4 := aI G.2.2.1 40 (va_up f4 (ln L) (nI (m % 22)))) hS hR.1
    have hR := LR.w4 (g1 := va_up f1 (ln L) (nI (pa L l))) (g2 := va_up f2 (ln L) (nI (po L l))) (g3 := va_up f3 (ln L) (nI (c))) (g4 := va_up f4 (ln L) (nI (m % 22))) hR
    have hag2 := AG.new (L' := L') (p := pa L l) (k := po L l) (c := c) (q := m % 22) hag hln hpa hpo hch hqt
    refine X_iload dL_law_509 (i := 22) rfl ?_
    refine X_iload dL_law_511 (i := 6) rfl ?_
    refine X_icmp_ne (tgt := 544) dL_law_513 (by decide) (fun h513 => ?_) (fun h513 => ?_)
    · exact absurd rfl h513
    refine X_aload_n dL_law_516 (i := 1) rfl rfl ?_
    refine X_iload dL_law_517 (i := 19) rfl ?_
    refine X_callSW (gc2 := (4 + gA)) (gs2 := (24 + gB)) (q_lastSerial hR.e0 hS hIP2 (by omega)) kmL_lastSerial rfl lL_173 sL_lastSerial rfl rfl (Nat.le_of_ble_eq_true rfl) (by decide) dL_law_519 (by omega) (by omega) (fun E w1 hq => nomatch hq.1) (fun v w1 hq => ?_)
    have hvv := hq.1
    have hS := hq.2.1
    have hR := hR.fx hq.2.2
    cases hvv
    refine XJ.top (v' := .int (nI (sv - 1))) (by rw [hla]) ?_
    refine X_iload dL_law_522 (i := 11) rfl ?_
    refine X_iconst (v := 1) dL_law_524 (by decide) ?_
    refine X_isub dL_law_525 ?_
    refine XJ.top (v' := .int (nI (sv - 1))) (congrArg Value.int (pk_sub (b := 1) (by omega))) ?_
    refine X_icmp_ne (tgt := 544) dL_law_526 (by decide) (fun h526 => ?_) (fun h526 => ?_)
    · exact absurd rfl h526
    refine X_aload_n dL_law_529 (i := 1) rfl rfl ?_
    refine X_iload dL_law_530 (i := 19) rfl ?_
    refine X_iload dL_law_532 (i := 11) rfl ?_
    refine X_callSW (gc2 := (2 + gA)) (gs2 := (12 + gB)) (q_holds hR.e0 hS hIP2 (by omega) (by omega) (by omega)) kmL_holds rfl lL_176 sL_holds rfl rfl (Nat.le_of_ble_eq_true rfl) (by decide) dL_law_534 (by omega) (by omega) (fun E w1 hq => nomatch hq.1) (fun v w1 hq => ?_)
    have hvv := hq.1
    have hS := hq.2.1
    have hR := hR.fx hq.2.2
    cases hvv
    refine XJ.top (v' := .int 0) (by rw [hh0]; rfl) ?_
    refine X_if_ne (tgt := 544) dL_law_537 (by decide) (fun h537 => ?_) (fun h537 => ?_)
    · exact absurd rfl h537
    refine X_iconst (v := 1) dL_law_540 (by decide) ?_
    refine X_goto (tgt := 545) dL_law_541 (by decide) ?_
    refine X_istore (i := 8) (lo' := [(8, _), (22, _), (0, _), (1, _), (2, _), (3, _), (4, _), (5, _), (6, _), (7, _), (9, _), (10, _), (11, _), (12, _), (13, _), (15, _), (16, _), (17, _), (18, _), (19, _), (20, _), (21, _)]) dL_law_545 (Nat.le_of_ble_eq_true rfl) rfl ?_
    refine X_iinc (i := 6) (v := nI (ln L')) (lo' := [(6, _), (8, _), (22, _), (0, _), (1, _), (2, _), (3, _), (4, _), (5, _), (7, _), (9, _), (10, _), (11, _), (12, _), (13, _), (15, _), (16, _), (17, _), (18, _), (19, _), (20, _), (21, _)]) dL_law_547 rfl (by rw [hln]; exact nI_inc _) (Nat.le_of_ble_eq_true rfl) rfl ?_
    refine X_goto (tgt := 923) dL_law_550 (by decide) ?_
    exact XJ.less (by omega) (by omega) (XJ.lcs (lo' := [(0, .ref G.2.2.2.2.1), (1, .ref a0), (2, .ref a1), (3, .ref a2), (4, .ref a3), (5, .ref a4), (6, .int (nI (ln L'))), (7, .int (nI O.1)), (8, .int 1), (9, .int (nI k)), (10, .int (nI n)), (12, .int (nI av)), (13, .long (smV P L pr O av 4)), (22, .int (nI (ln L)))]) ⟨rfl, rfl, rfl, rfl, rfl, rfl, rfl, rfl, rfl, rfl, rfl, rfl, rfl, rfl, trivial⟩ (hn (nI (ln L)) P L' pr O mp mk _ _ _ _ _ hIP2 h6 hk hag2 hS hR (fun h => absurd h (nI_pos (by omega)))))
  · rw [if_neg hcd] at hS
    have hneg : hv (cdRF P.1 L (nI l) (nI sv) (nI c) (nI (m % 22))) [(-77), (-78), (-76), (-79)] (nI (ln L)) < 0 := hv_neg hcd cdRF_le (by decide)
    obtain ⟨t, ht⟩ : ∃ t, t = hv (cdRF P.1 L (nI l) (nI sv) (nI c) (nI (m % 22))) [(-77), (-78), (-76), (-79)] (nI (ln L)) := ⟨_, rfl⟩
    rw [← ht] at hneg
    refine XJ.top (v' := .int t) (by rw [ht]) ?_
    refine X_istore (i := 22) (lo' := [(22, _), (0, _), (1, _), (2, _), (3, _), (4, _), (5, _), (6, _), (7, _), (8, _), (9, _), (10, _), (11, _), (12, _), (13, _), (15, _), (16, _), (17, _), (18, _), (19, _), (20, _), (21, _)]) dL_law_472 (Nat.le_of_ble_eq_true rfl) rfl ?_
    refine X_iload dL_law_474 (i := 22) rfl ?_
    refine X_if_lt (tgt := 923) dL_law_476 (by decide) (fun hng => ?_) (fun hng => ?_)
    rotate_left
    · exact absurd hneg hng
    exact XJ.less (by omega) (by omega) (XJ.lcs (lo' := [(0, .ref G.2.2.2.2.1), (1, .ref a0), (2, .ref a1), (3, .ref a2), (4, .ref a3), (5, .ref a4), (6, .int (nI (ln L))), (7, .int (nI O.1)), (8, .int 1), (9, .int (nI k)), (10, .int (nI n)), (12, .int (nI av)), (13, .long (smV P L pr O av 4)), (22, .int t)]) ⟨rfl, rfl, rfl, rfl, rfl, rfl, rfl, rfl, rfl, rfl, rfl, rfl, rfl, rfl, trivial⟩ (hn t P L pr O mp mk _ _ _ _ _ hIP h6 hk hag hS hR (fun _ => rfl)))
set_option maxRecDepth 20000 in
theorem law_end {nm : String} {hh : List (Nat × Nat × Nat × Nat)} {P : PSt} {L : LSt} {pr : Nat → Nat} {O : OSt} {mp : Nat} {mk : Nat → UInt32} {a0 a1 a2 a3 a4 : Nat} {f1 f2 f3 f4 : Nat → Int32} (hIP : IP P L pr O mp mk []) (h6 : P.1 = 6) (hk : KD P) (hag : AG L f1 f2 f3 f4) {sv av p c m l place k n kd gA gB : Nat} (hsv : sv ≤ 30) (hav : 1 ≤ av ∧ av ≤ 30) (hp : p ≤ 6) (hc : c ≤ 6) (hm : m < 1000) (hl : l ≤ ln L) (hpl : place ≤ 6) (hn : ∀ (t : Int32) (P' : PSt) (L' : LSt) (pr' : Nat → Nat) (O' : OSt) (mp' : Nat) (mk' : Nat → UInt32) (g1 g2 g3 g4 : Nat → Int32) (w2 : Wd), IP P' L' pr' O' mp' mk' [] → P'.1 = 6 → KD P' → AG L' g1 g2 g3 g4 → ST 0 G.2.2.1 w2 P' L' pr' O' mp' mk' → LR 43 G.2.2.1 w2 a0 a1 a2 a3 a4 g1 g2 g3 g4 → (t < 0 → smV P' L' pr' O' av 4 = (smV P L pr O av 4)) → XJ G (mLaw nm hh) 40 gA gB 923 [(0, .ref G.2.2.2.2.1), (1, .ref a0), (2, .ref a1), (3, .ref a2), (4, .ref a3), (5, .ref a4), (6, .int (nI (ln L'))), (7, .int (nI O'.1)), (8, .int 1), (9, .int (nI k)), (10, .int (nI n)), (12, .int (nI av)), (13, .long (smV P L pr O av 4)), (22, .int t)] [] w2 QL) {w1 : Wd} (hS : ST 0 G.2.2.1 w1 P L pr O mp mk) (hR : LR 43 G.2.2.1 w1 a0 a1 a2 a3 a4 f1 f2 f3 f4) : XJ G (mLaw nm hh) 40 (13 + gA) (78 + gB) 560 [(0, .ref G.2.2.2.2.1), (1, .ref a0), (2, .ref a1), (3, .ref a2), (4, .ref a3), (5, .ref a4), (6, .int (nI (ln L))), (7, .int (nI O.1)), (8, .int 1), (9, .int (nI k)), (10, .int (nI n)), (11, .int (nI sv)), (12, .int (nI av)), (13, .long (smV P L pr O av 4)), (15, .int (nI kd)), (16, .int (nI p)), (17, .int (nI c)), (18, .int (nI m)), (19, .int (nI l)), (20, .int (nI place)), (21, .int (nI (m % 22))), (22, .int 0)] [] w1 QL := by
  have h40 := hIP.2.2.1.1.2.1
  have hP16 := hIP.1.1
  refine X_aload_n dL_law_560 (i := 1) rfl rfl ?_
  refine X_iload dL_law_561 (i := 19) rfl ?_
  refine X_iload dL_law_563 (i := 11) rfl ?_
  refine X_callSW (gc2 := (5 + gA)) (gs2 := (30 + gB)) (h_endBefore hR.e0 hS hIP (nI l) (nI sv)) kmL_endBefore rfl lL_179 sL_endBefore rfl rfl (Nat.le_of_ble_eq_true rfl) (by decide) dL_law_565 (by omega) (by omega) (fun E w1 hq => nomatch hq.1) (fun v w1 hq => ?_)
  have hvv := hq.1
  have hS := hq.2.1
  have hR := hR.fx hq.2.2
  cases hvv
  by_cases hcd : cdEB L (nI l) (nI sv) = 0
  · refine XJ.top (v' := .int (nI (la L (idx (nI l))))) (by rw [hv_0 hcd]) ?_
    have hz := cdEB_iv hcd
    have hIP2 := ip_endBefore hIP (nI l) (nI sv)
    rw [if_pos hcd] at hS hIP2
    rw [idx_nI (show l < 2 ^ 31 by omega), idx_nI (show sv < 2 ^ 31 by omega)] at hS hIP2
    have hl2 : l < ln L := inP_lt (by omega) (by omega) hz.1
    have hb := hIP.2.2.1.1.2.2 l hl2
    have hcut := hz.2
    rw [idx_nI (show l < 2 ^ 31 by omega)] at hcut
    have hcv := cut_iv (by omega) (by omega) (by omega) hcut
    refine XJ.top (v' := .int (nI (la L l))) (by rw [idx_nI (show l < 2 ^ 31 by omega)]) ?_
    have hla : la (cutL L l (sv - 1)) l = sv - 1 := va_up_self _ _ _
    refine X_istore (i := 22) (lo' := [(22, _), (0, _), (1, _), (2, _), (3, _), (4, _), (5, _), (6, _), (7, _), (8, _), (9, _), (10, _), (11, _), (12, _), (13, _), (15, _), (16, _), (17, _), (18, _), (19, _), (20, _), (21, _)]) dL_law_568 (Nat.le_of_ble_eq_true rfl) rfl ?_
    refine X_iload dL_law_570 (i := 22) rfl ?_
    refine X_if_lt (tgt := 595) dL_law_572 (by decide) (fun h572 => ?_) (fun h572 => ?_)
    · exact absurd h572 (nI_pos (by omega))
    refine X_iload dL_law_575 (i := 22) rfl ?_
    refine X_iload dL_law_577 (i := 11) rfl ?_
    refine X_icmp_lt (tgt := 599) dL_law_579 (by decide) (fun h579 => ?_) (fun h579 => ?_)
    · exact absurd ((nI_ltI (by omega) (by omega)).mp h579) (by omega)
    refine X_aload_n dL_law_582 (i := 1) rfl rfl ?_
    refine X_iload dL_law_583 (i := 19) rfl ?_
    refine X_callSW (gc2 := (4 + gA)) (gs2 := (24 + gB)) (q_lastSerial hR.e0 hS hIP2 hl2) kmL_lastSerial rfl lL_173 sL_lastSerial rfl rfl (Nat.le_of_ble_eq_true rfl) (by decide) dL_law_585 (by omega) (by omega) (fun E w1 hq => nomatch hq.1) (fun v w1 hq => ?_)
    have hvv := hq.1
    have hS := hq.2.1
    have hR := hR.fx hq.2.2
    cases hvv
    refine XJ.top (v' := .int (nI (sv - 1))) (by rw [hla]) ?_
    refine X_iload dL_law_588 (i := 11) rfl ?_
    refine X_iconst (v := 1) dL_law_590 (by decide) ?_
    refine X_isub dL_law_591 ?_
    refine XJ.top (v' := .int (nI (sv - 1))) (congrArg Value.int (pk_sub (b := 1) (by omega))) ?_
    refine X_icmp_ne (tgt := 599) dL_law_592 (by decide) (fun h592 => ?_) (fun h592 => ?_)
    · exact absurd rfl h592
    refine X_iconst (v := 1) dL_law_595 (by decide) ?_
    refine X_goto (tgt := 600) dL_law_596 (by decide) ?_
    refine X_istore (i := 8) (lo' := [(8, _), (22, _), (0, _), (1, _), (2, _), (3, _), (4, _), (5, _), (6, _), (7, _), (9, _), (10, _), (11, _), (12, _), (13, _), (15, _), (16, _), (17, _), (18, _), (19, _), (20, _), (21, _)]) dL_law_600 (Nat.le_of_ble_eq_true rfl) rfl ?_
    refine X_goto (tgt := 923) dL_law_602 (by decide) ?_
    exact XJ.less (by omega) (by omega) (XJ.lcs (lo' := [(0, .ref G.2.2.2.2.1), (1, .ref a0), (2, .ref a1), (3, .ref a2), (4, .ref a3), (5, .ref a4), (6, .int (nI (ln (cutL L l (sv - 1))))), (7, .int (nI O.1)), (8, .int 1), (9, .int (nI k)), (10, .int (nI n)), (12, .int (nI av)), (13, .long (smV P L pr O av 4)), (22, .int (nI (la L l)))]) ⟨rfl, rfl, rfl, rfl, rfl, rfl, rfl, rfl, rfl, rfl, rfl, rfl, rfl, rfl, trivial⟩ (hn (nI (la L l)) P (cutL L l (sv - 1)) pr O mp mk _ _ _ _ _ hIP2 h6 hk hag hS hR (fun h => absurd h (nI_pos (by omega)))))
  · rw [if_neg hcd] at hS
    have hneg : hv (cdEB L (nI l) (nI sv)) [(-77), (-78)] (nI (la L (idx (nI l)))) < 0 := hv_neg hcd cdEB_le (by decide)
    obtain ⟨t, ht⟩ : ∃ t, t = hv (cdEB L (nI l) (nI sv)) [(-77), (-78)] (nI (la L (idx (nI l)))) := ⟨_, rfl⟩
    rw [← ht] at hneg
    refine XJ.top (v' := .int t) (by rw [ht]) ?_
    refine X_istore (i := 22) (lo' := [(22, _), (0, _), (1, _), (2, _), (3, _), (4, _), (5, _), (6, _), (7, _), (8, _), (9, _), (10, _), (11, _), (12, _), (13, _), (15, _), (16, _), (17, _), (18, _), (19, _), (20, _), (21, _)]) dL_law_568 (Nat.le_of_ble_eq_true rfl) rfl ?_
    refine X_iload dL_law_570 (i := 22) rfl ?_
    refine X_if_lt (tgt := 595) dL_law_572 (by decide) (fun hng => ?_) (fun hng => ?_)
    rotate_left
    · exact absurd hneg hng
    refine X_iconst (v := 1) dL_law_595 (by decide) ?_
    refine X_goto (tgt := 600) dL_law_596 (by decide) ?_
    refine X_istore (i := 8) (lo' := [(8, _), (22, _), (0, _), (1, _), (2, _), (3, _), (4, _), (5, _), (6, _), (7, _), (9, _), (10, _), (11, _), (12, _), (13, _), (15, _), (16, _), (17, _), (18, _), (19, _), (20, _), (21, _)]) dL_law_600 (Nat.le_of_ble_eq_true rfl) rfl ?_
    refine X_goto (tgt := 923) dL_law_602 (by decide) ?_
    exact XJ.less (by omega) (by omega) (XJ.lcs (lo' := [(0, .ref G.2.2.2.2.1), (1, .ref a0), (2, .ref a1), (3, .ref a2), (4, .ref a3), (5, .ref a4), (6, .int (nI (ln L))), (7, .int (nI O.1)), (8, .int 1), (9, .int (nI k)), (10, .int (nI n)), (12, .int (nI av)), (13, .long (smV P L pr O av 4)), (22, .int t)]) ⟨rfl, rfl, rfl, rfl, rfl, rfl, rfl, rfl, rfl, rfl, rfl, rfl, rfl, rfl, trivial⟩ (hn t P L pr O mp mk _ _ _ _ _ hIP h6 hk hag hS hR (fun _ => rfl)))
set_option maxRecDepth 20000 in
theorem law_scr {nm : String} {hh : List (Nat × Nat × Nat × Nat)} {P : PSt} {L : LSt} {pr : Nat → Nat} {O : OSt} {mp : Nat} {mk : Nat → UInt32} {a0 a1 a2 a3 a4 : Nat} {f1 f2 f3 f4 : Nat → Int32} (hIP : IP P L pr O mp mk []) (h6 : P.1 = 6) (hk : KD P) (hag : AG L f1 f2 f3 f4) {sv av p c m l place k n kd gA gB : Nat} (hsv : sv ≤ 30) (hav : 1 ≤ av ∧ av ≤ 30) (hp : p ≤ 6) (hc : c ≤ 6) (hm : m < 1000) (hl : l ≤ ln L) (hpl : place ≤ 6) (hn : ∀ (t : Int32) (P' : PSt) (L' : LSt) (pr' : Nat → Nat) (O' : OSt) (mp' : Nat) (mk' : Nat → UInt32) (g1 g2 g3 g4 : Nat → Int32) (w2 : Wd), IP P' L' pr' O' mp' mk' [] → P'.1 = 6 → KD P' → AG L' g1 g2 g3 g4 → ST 0 G.2.2.1 w2 P' L' pr' O' mp' mk' → LR 43 G.2.2.1 w2 a0 a1 a2 a3 a4 g1 g2 g3 g4 → (t < 0 → smV P' L' pr' O' av 4 = (smV P L pr O av 4)) → XJ G (mLaw nm hh) 40 gA gB 923 [(0, .ref G.2.2.2.2.1), (1, .ref a0), (2, .ref a1), (3, .ref a2), (4, .ref a3), (5, .ref a4), (6, .int (nI (ln L'))), (7, .int (nI O'.1)), (8, .int 1), (9, .int (nI k)), (10, .int (nI n)), (12, .int (nI av)), (13, .long (smV P L pr O av 4)), (22, .int t)] [] w2 QL) {w1 : Wd} (hS : ST 0 G.2.2.1 w1 P L pr O mp mk) (hR : LR 43 G.2.2.1 w1 a0 a1 a2 a3 a4 f1 f2 f3 f4) : XJ G (mLaw nm hh) 40 (13 + gA) (78 + gB) 612 [(0, .ref G.2.2.2.2.1), (1, .ref a0), (2, .ref a1), (3, .ref a2), (4, .ref a3), (5, .ref a4), (6, .int (nI (ln L))), (7, .int (nI O.1)), (8, .int 1), (9, .int (nI k)), (10, .int (nI n)), (11, .int (nI sv)), (12, .int (nI av)), (13, .long (smV P L pr O av 4)), (15, .int (nI kd)), (16, .int (nI p)), (17, .int (nI c)), (18, .int (nI m)), (19, .int (nI l)), (20, .int (nI place)), (21, .int (nI (m % 22))), (22, .int 0)] [] w1 QL := by
  have h40 := hIP.2.2.1.1.2.1
  have hP16 := hIP.1.1
  refine X_aload_n dL_law_612 (i := 1) rfl rfl ?_
  refine X_iload dL_law_613 (i := 19) rfl ?_
  refine X_iload dL_law_615 (i := 18) rfl ?_
  refine X_bipush (v := 54) dL_law_617 (by decide) ?_
  refine X_iremN (a := m) (b := 54) dL_law_619 (by omega) (by omega) (by omega) ?_
  refine X_callSW (gc2 := (5 + gA)) (gs2 := (30 + gB)) (h_setScrap hR.e0 hS hIP (nI l) (nI (m % 54))) kmL_setScrap rfl lL_181 sL_setScrap rfl rfl (Nat.le_of_ble_eq_true rfl) (by decide) dL_law_620 (by omega) (by omega) (fun E w1 hq => nomatch hq.1) (fun v w1 hq => ?_)
  have hvv := hq.1
  have hS := hq.2.1
  have hR := hR.fx hq.2.2
  cases hvv
  by_cases hcd : cdSS L (nI l) (nI (m % 54)) = 0
  · refine XJ.top (v' := .int (nI (sc L (idx (nI l))))) (by rw [hv_0 hcd]) ?_
    have hz := cdSS_iv hcd
    have hIP2 := ip_setScrap hIP (nI l) (nI (m % 54))
    rw [if_pos hcd] at hS hIP2
    have hl2 : idx (nI l) < ln L := inP_i (by omega) hz.1
    have hb := hIP.2.2.1.1.2.2 _ hl2
    refine X_istore (i := 22) (lo' := [(22, _), (0, _), (1, _), (2, _), (3, _), (4, _), (5, _), (6, _), (7, _), (8, _), (9, _), (10, _), (11, _), (12, _), (13, _), (15, _), (16, _), (17, _), (18, _), (19, _), (20, _), (21, _)]) dL_law_623 (Nat.le_of_ble_eq_true rfl) rfl ?_
    refine X_goto (tgt := 923) dL_law_625 (by decide) ?_
    exact XJ.less (by omega) (by omega) (XJ.lcs (lo' := [(0, .ref G.2.2.2.2.1), (1, .ref a0), (2, .ref a1), (3, .ref a2), (4, .ref a3), (5, .ref a4), (6, .int (nI (ln (ln L, pa L, po L, ch L, qt L, va_up (sc L) (idx (nI l)) (idx (nI (m % 54))), fi L, la L, op L, cs L)))), (7, .int (nI O.1)), (8, .int 1), (9, .int (nI k)), (10, .int (nI n)), (12, .int (nI av)), (13, .long (smV P L pr O av 4)), (22, .int (nI (sc L (idx (nI l)))))]) ⟨rfl, rfl, rfl, rfl, rfl, rfl, rfl, rfl, rfl, rfl, rfl, rfl, rfl, rfl, trivial⟩ (hn (nI (sc L (idx (nI l)))) P (ln L, pa L, po L, ch L, qt L, va_up (sc L) (idx (nI l)) (idx (nI (m % 54))), fi L, la L, op L, cs L) pr O mp mk _ _ _ _ _ hIP2 h6 hk hag hS hR (fun h => absurd h (nI_pos (by omega)))))
  · rw [if_neg hcd] at hS
    have hneg : hv (cdSS L (nI l) (nI (m % 54))) [(-77), (-78)] (nI (sc L (idx (nI l)))) < 0 := hv_neg hcd cdSS_le (by decide)
    obtain ⟨t, ht⟩ : ∃ t, t = hv (cdSS L (nI l) (nI (m % 54))) [(-77), (-78)] (nI (sc L (idx (nI l)))) := ⟨_, rfl⟩
    rw [← ht] at hneg
    refine XJ.top (v' := .int t) (by rw [ht]) ?_
    refine X_istore (i := 22) (lo' := [(22, _), (0, _), (1, _), (2, _), (3, _), (4, _), (5, _), (6, _), (7, _), (8, _), (9, _), (10, _), (11, _), (12, _), (13, _), (15, _), (16, _), (17, _), (18, _), (19, _), (20, _), (21, _)]) dL_law_623 (Nat.le_of_ble_eq_true rfl) rfl ?_
    refine X_goto (tgt := 923) dL_law_625 (by decide) ?_
    exact XJ.less (by omega) (by omega) (XJ.lcs (lo' := [(0, .ref G.2.2.2.2.1), (1, .ref a0), (2, .ref a1), (3, .ref a2), (4, .ref a3), (5, .ref a4), (6, .int (nI (ln L))), (7, .int (nI O.1)), (8, .int 1), (9, .int (nI k)), (10, .int (nI n)), (12, .int (nI av)), (13, .long (smV P L pr O av 4)), (22, .int t)]) ⟨rfl, rfl, rfl, rfl, rfl, rfl, rfl, rfl, rfl, rfl, rfl, rfl, rfl, rfl, trivial⟩ (hn t P L pr O mp mk _ _ _ _ _ hIP h6 hk hag hS hR (fun _ => rfl)))
set_option maxRecDepth 20000 in
theorem law_cho {nm : String} {hh : List (Nat × Nat × Nat × Nat)} {P : PSt} {L : LSt} {pr : Nat → Nat} {O : OSt} {mp : Nat} {mk : Nat → UInt32} {a0 a1 a2 a3 a4 : Nat} {f1 f2 f3 f4 : Nat → Int32} (hIP : IP P L pr O mp mk []) (h6 : P.1 = 6) (hk : KD P) (hag : AG L f1 f2 f3 f4) {sv av p c m l place k n kd gA gB : Nat} (hsv : sv ≤ 30) (hav : 1 ≤ av ∧ av ≤ 30) (hp : p ≤ 6) (hc : c ≤ 6) (hm : m < 1000) (hl : l ≤ ln L) (hpl : place ≤ 6) (hn : ∀ (t : Int32) (P' : PSt) (L' : LSt) (pr' : Nat → Nat) (O' : OSt) (mp' : Nat) (mk' : Nat → UInt32) (g1 g2 g3 g4 : Nat → Int32) (w2 : Wd), IP P' L' pr' O' mp' mk' [] → P'.1 = 6 → KD P' → AG L' g1 g2 g3 g4 → ST 0 G.2.2.1 w2 P' L' pr' O' mp' mk' → LR 43 G.2.2.1 w2 a0 a1 a2 a3 a4 g1 g2 g3 g4 → (t < 0 → smV P' L' pr' O' av 4 = (smV P L pr O av 4)) → XJ G (mLaw nm hh) 40 gA gB 923 [(0, .ref G.2.2.2.2.1), (1, .ref a0), (2, .ref a1), (3, .ref a2), (4, .ref a3), (5, .ref a4), (6, .int (nI (ln L'))), (7, .int (nI O'.1)), (8, .int 1), (9, .int (nI k)), (10, .int (nI n)), (12, .int (nI av)), (13, .long (smV P L pr O av 4)), (22, .int t)] [] w2 QL) {w1 : Wd} (hS : ST 0 G.2.2.1 w1 P L pr O mp mk) (hR : LR 43 G.2.2.1 w1 a0 a1 a2 a3 a4 f1 f2 f3 f4) : XJ G (mLaw nm hh) 40 (13 + gA) (78 + gB) 635 [(0, .ref G.2.2.2.2.1), (1, .ref a0), (2, .ref a1), (3, .ref a2), (4, .ref a3), (5, .ref a4), (6, .int (nI (ln L))), (7, .int (nI O.1)), (8, .int 1), (9, .int (nI k)), (10, .int (nI n)), (11, .int (nI sv)), (12, .int (nI av)), (13, .long (smV P L pr O av 4)), (15, .int (nI kd)), (16, .int (nI p)), (17, .int (nI c)), (18, .int (nI m)), (19, .int (nI l)), (20, .int (nI place)), (21, .int (nI (m % 22))), (22, .int 0)] [] w1 QL := by
  have h40 := hIP.2.2.1.1.2.1
  have hP16 := hIP.1.1
  refine X_aload_n dL_law_635 (i := 1) rfl rfl ?_
  refine X_iload dL_law_636 (i := 18) rfl ?_
  refine X_iconst (v := 5) dL_law_638 (by decide) ?_
  refine X_iremN (a := m) (b := 5) dL_law_639 (by omega) (by omega) (by omega) ?_
  refine X_iload dL_law_640 (i := 18) rfl ?_
  refine X_iconst (v := 4) dL_law_642 (by decide) ?_
  refine X_iremN (a := m) (b := 4) dL_law_643 (by omega) (by omega) (by omega) ?_
  refine X_callSW (gc2 := (5 + gA)) (gs2 := (30 + gB)) (h_setChoice hR.e0 hS hIP (nI (m % 5)) (nI (m % 4))) kmL_setChoice rfl lL_183 sL_setChoice rfl rfl (Nat.le_of_ble_eq_true rfl) (by decide) dL_law_644 (by omega) (by omega) (fun E w1 hq => nomatch hq.1) (fun v w1 hq => ?_)
  have hvv := hq.1
  have hS := hq.2.1
  have hR := hR.fx hq.2.2
  cases hvv
  by_cases hcd : cdSC (nI (m % 5)) (nI (m % 4)) = 0
  · refine XJ.top (v' := .int (nI (pr (idx (nI (m % 5)))))) (by rw [hv_0 hcd]) ?_
    have hz := cdSC_iv hcd
    have hIP2 := ip_setChoice hIP (nI (m % 5)) (nI (m % 4))
    rw [if_pos hcd] at hS hIP2
    rw [idx_nI (show m % 5 < 2 ^ 31 by omega), idx_nI (show m % 4 < 2 ^ 31 by omega)] at hS hIP2
    have h5 : m % 5 < 4 := by have := btw_nn (a := 0) (b := 3) (by omega) (by decide) (by decide) hz.1; omega
    have hpv := hIP.2.2.2.2.1 (m % 5) h5
    refine XJ.top (v' := .int (nI (pr (m % 5)))) (by rw [idx_nI (show m % 5 < 2 ^ 31 by omega)]) ?_
    refine X_istore (i := 22) (lo' := [(22, _), (0, _), (1, _), (2, _), (3, _), (4, _), (5, _), (6, _), (7, _), (8, _), (9, _), (10, _), (11, _), (12, _), (13, _), (15, _), (16, _), (17, _), (18, _), (19, _), (20, _), (21, _)]) dL_law_647 (Nat.le_of_ble_eq_true rfl) rfl ?_
    refine X_iload dL_law_649 (i := 22) rfl ?_
    refine X_if_lt (tgt := 669) dL_law_651 (by decide) (fun h651 => ?_) (fun h651 => ?_)
    · exact absurd h651 (nI_pos (by omega))
    refine X_aload_n dL_law_654 (i := 1) rfl rfl ?_
    refine X_iload dL_law_655 (i := 18) rfl ?_
    refine X_iconst (v := 5) dL_law_657 (by decide) ?_
    refine X_iremN (a := m) (b := 5) dL_law_658 (by omega) (by omega) (by omega) ?_
    refine X_callSW (gc2 := (4 + gA)) (gs2 := (24 + gB)) (q_choice hR.e0 hS hIP2 h5) kmL_choice rfl lL_185 sL_choice rfl rfl (Nat.le_of_ble_eq_true rfl) (by decide) dL_law_659 (by omega) (by omega) (fun E w1 hq => nomatch hq.1) (fun v w1 hq => ?_)
    have hvv := hq.1
    have hS := hq.2.1
    have hR := hR.fx hq.2.2
    cases hvv
    refine XJ.top (v' := .int (nI (m % 4))) (by rw [va_up_self]) ?_
    refine X_iload dL_law_662 (i := 18) rfl ?_
    refine X_iconst (v := 4) dL_law_664 (by decide) ?_
    refine X_iremN (a := m) (b := 4) dL_law_665 (by omega) (by omega) (by omega) ?_
    refine X_icmp_ne (tgt := 673) dL_law_666 (by decide) (fun h666 => ?_) (fun h666 => ?_)
    · exact absurd rfl h666
    refine X_iconst (v := 1) dL_law_669 (by decide) ?_
    refine X_goto (tgt := 674) dL_law_670 (by decide) ?_
    refine X_istore (i := 8) (lo' := [(8, _), (22, _), (0, _), (1, _), (2, _), (3, _), (4, _), (5, _), (6, _), (7, _), (9, _), (10, _), (11, _), (12, _), (13, _), (15, _), (16, _), (17, _), (18, _), (19, _), (20, _), (21, _)]) dL_law_674 (Nat.le_of_ble_eq_true rfl) rfl ?_
    refine X_goto (tgt := 923) dL_law_676 (by decide) ?_
    exact XJ.less (by omega) (by omega) (XJ.lcs (lo' := [(0, .ref G.2.2.2.2.1), (1, .ref a0), (2, .ref a1), (3, .ref a2), (4, .ref a3), (5, .ref a4), (6, .int (nI (ln L))), (7, .int (nI O.1)), (8, .int 1), (9, .int (nI k)), (10, .int (nI n)), (12, .int (nI av)), (13, .long (smV P L pr O av 4)), (22, .int (nI (pr (m % 5))))]) ⟨rfl, rfl, rfl, rfl, rfl, rfl, rfl, rfl, rfl, rfl, rfl, rfl, rfl, rfl, trivial⟩ (hn (nI (pr (m % 5))) P L (va_up pr (m % 5) (m % 4)) O mp mk _ _ _ _ _ hIP2 h6 hk hag hS hR (fun h => absurd h (nI_pos (by omega)))))
  · rw [if_neg hcd] at hS
    have hneg : hv (cdSC (nI (m % 5)) (nI (m % 4))) [(-77), (-78)] (nI (pr (idx (nI (m % 5))))) < 0 := hv_neg hcd cdSC_le (by decide)
    obtain ⟨t, ht⟩ : ∃ t, t = hv (cdSC (nI (m % 5)) (nI (m % 4))) [(-77), (-78)] (nI (pr (idx (nI (m % 5))))) := ⟨_, rfl⟩
    rw [← ht] at hneg
    refine XJ.top (v' := .int t) (by rw [ht]) ?_
    refine X_istore (i := 22) (lo' := [(22, _), (0, _), (1, _), (2, _), (3, _), (4, _), (5, _), (6, _), (7, _), (8, _), (9, _), (10, _), (11, _), (12, _), (13, _), (15, _), (16, _), (17, _), (18, _), (19, _), (20, _), (21, _)]) dL_law_647 (Nat.le_of_ble_eq_true rfl) rfl ?_
    refine X_iload dL_law_649 (i := 22) rfl ?_
    refine X_if_lt (tgt := 669) dL_law_651 (by decide) (fun hng => ?_) (fun hng => ?_)
    rotate_left
    · exact absurd hneg hng
    refine X_iconst (v := 1) dL_law_669 (by decide) ?_
    refine X_goto (tgt := 674) dL_law_670 (by decide) ?_
    refine X_istore (i := 8) (lo' := [(8, _), (22, _), (0, _), (1, _), (2, _), (3, _), (4, _), (5, _), (6, _), (7, _), (9, _), (10, _), (11, _), (12, _), (13, _), (15, _), (16, _), (17, _), (18, _), (19, _), (20, _), (21, _)]) dL_law_674 (Nat.le_of_ble_eq_true rfl) rfl ?_
    refine X_goto (tgt := 923) dL_law_676 (by decide) ?_
    exact XJ.less (by omega) (by omega) (XJ.lcs (lo' := [(0, .ref G.2.2.2.2.1), (1, .ref a0), (2, .ref a1), (3, .ref a2), (4, .ref a3), (5, .ref a4), (6, .int (nI (ln L))), (7, .int (nI O.1)), (8, .int 1), (9, .int (nI k)), (10, .int (nI n)), (12, .int (nI av)), (13, .long (smV P L pr O av 4)), (22, .int t)]) ⟨rfl, rfl, rfl, rfl, rfl, rfl, rfl, rfl, rfl, rfl, rfl, rfl, rfl, rfl, trivial⟩ (hn t P L pr O mp mk _ _ _ _ _ hIP h6 hk hag hS hR (fun _ => rfl)))
set_option maxRecDepth 20000 in
theorem law_pri {nm : String} {hh : List (Nat × Nat × Nat × Nat)} {P : PSt} {L : LSt} {pr : Nat → Nat} {O : OSt} {mp : Nat} {mk : Nat → UInt32} {a0 a1 a2 a3 a4 : Nat} {f1 f2 f3 f4 : Nat → Int32} (hIP : IP P L pr O mp mk []) (h6 : P.1 = 6) (hk : KD P) (hag : AG L f1 f2 f3 f4) {sv av p c m l place k n kd gA gB : Nat} (hsv : sv ≤ 30) (hav : 1 ≤ av ∧ av ≤ 30) (hp : p ≤ 6) (hc : c ≤ 6) (hm : m < 1000) (hl : l ≤ ln L) (hpl : place ≤ 6) (hn : ∀ (t : Int32) (P' : PSt) (L' : LSt) (pr' : Nat → Nat) (O' : OSt) (mp' : Nat) (mk' : Nat → UInt32) (g1 g2 g3 g4 : Nat → Int32) (w2 : Wd), IP P' L' pr' O' mp' mk' [] → P'.1 = 6 → KD P' → AG L' g1 g2 g3 g4 → ST 0 G.2.2.1 w2 P' L' pr' O' mp' mk' → LR 43 G.2.2.1 w2 a0 a1 a2 a3 a4 g1 g2 g3 g4 → (t < 0 → smV P' L' pr' O' av 4 = (smV P L pr O av 4)) → XJ G (mLaw nm hh) 40 gA gB 923 [(0, .ref G.2.2.2.2.1), (1, .ref a0), (2, .ref a1), (3, .ref a2), (4, .ref a3), (5, .ref a4), (6, .int (nI (ln L'))), (7, .int (nI O'.1)), (8, .int 1), (9, .int (nI k)), (10, .int (nI n)), (12, .int (nI av)), (13, .long (smV P L pr O av 4)), (22, .int t)] [] w2 QL) {w1 : Wd} (hS : ST 0 G.2.2.1 w1 P L pr O mp mk) (hR : LR 43 G.2.2.1 w1 a0 a1 a2 a3 a4 f1 f2 f3 f4) : XJ G (mLaw nm hh) 40 (13 + gA) (78 + gB) 686 [(0, .ref G.2.2.2.2.1), (1, .ref a0), (2, .ref a1), (3, .ref a2), (4, .ref a3), (5, .ref a4), (6, .int (nI (ln L))), (7, .int (nI O.1)), (8, .int 1), (9, .int (nI k)), (10, .int (nI n)), (11, .int (nI sv)), (12, .int (nI av)), (13, .long (smV P L pr O av 4)), (15, .int (nI kd)), (16, .int (nI p)), (17, .int (nI c)), (18, .int (nI m)), (19, .int (nI l)), (20, .int (nI place)), (21, .int (nI (m % 22))), (22, .int 0)] [] w1 QL := by
  have h40 := hIP.2.2.1.1.2.1
  have hP16 := hIP.1.1
  refine X_aload_n dL_law_686 (i := 1) rfl rfl ?_
  refine X_iload dL_law_687 (i := 16) rfl ?_
  refine X_iload dL_law_689 (i := 18) rfl ?_
  refine X_bipush (v := 110) dL_law_691 (by decide) ?_
  refine X_imul dL_law_693 ?_
  refine X_callSW (gc2 := (5 + gA)) (gs2 := (30 + gB)) (h_setPrice hR.e0 hS hIP (nI p) (nI m * 110)) kmL_setPrice rfl lL_187 sL_setPrice rfl rfl (Nat.le_of_ble_eq_true rfl) (by decide) dL_law_694 (by omega) (by omega) (fun E w1 hq => nomatch hq.1) (fun v w1 hq => ?_)
  have hvv := hq.1
  have hS := hq.2.1
  have hR := hR.fx hq.2.2
  cases hvv
  by_cases hcd : cdPC (nI p) (nI m * 110) P.1 = 0
  · refine XJ.top (v' := .int (nI (P.2.2.1 (idx (nI p))))) (by rw [hv_0 hcd]) ?_
    have hz := cdPC_iv hcd
    have hIP2 := ip_setPrice hIP (nI p) (nI m * 110)
    have hp2 : idx (nI p) < P.1 := inP_i (by omega) hz.1
    have hb := (hIP.1.2 _ hp2).2.1
    refine X_istore (i := 22) (lo' := [(22, _), (0, _), (1, _), (2, _), (3, _), (4, _), (5, _), (6, _), (7, _), (8, _), (9, _), (10, _), (11, _), (12, _), (13, _), (15, _), (16, _), (17, _), (18, _), (19, _), (20, _), (21, _)]) dL_law_697 (Nat.le_of_ble_eq_true rfl) rfl ?_
    refine X_goto (tgt := 923) dL_law_699 (by decide) ?_
    exact XJ.less (by omega) (by omega) (XJ.lcs (lo' := [(0, .ref G.2.2.2.2.1), (1, .ref a0), (2, .ref a1), (3, .ref a2), (4, .ref a3), (5, .ref a4), (6, .int (nI (ln L))), (7, .int (nI O.1)), (8, .int 1), (9, .int (nI k)), (10, .int (nI n)), (12, .int (nI av)), (13, .long (smV P L pr O av 4)), (22, .int (nI (P.2.2.1 (idx (nI p)))))]) ⟨rfl, rfl, rfl, rfl, rfl, rfl, rfl, rfl, rfl, rfl, rfl, rfl, rfl, rfl, trivial⟩ (hn (nI (P.2.2.1 (idx (nI p)))) (P.1, P.2.1, upIf (cdPC (nI p) (nI m * 110) P.1) P.2.2.1 (idx (nI p)) (idx (nI m * 110)), P.2.2.2) L pr O mp mk _ _ _ _ _ hIP2 h6 hk hag hS hR (fun h => absurd h (nI_pos (by omega)))))
  · rw [upIf_k hcd] at hS
    have hneg : hv (cdPC (nI p) (nI m * 110) P.1) [(-77), (-78)] (nI (P.2.2.1 (idx (nI p)))) < 0 := hv_neg hcd cdPC_le (by decide)
    obtain ⟨t, ht⟩ : ∃ t, t = hv (cdPC (nI p) (nI m * 110) P.1) [(-77), (-78)] (nI (P.2.2.1 (idx (nI p)))) := ⟨_, rfl⟩
    rw [← ht] at hneg
    refine XJ.top (v' := .int t) (by rw [ht]) ?_
    refine X_istore (i := 22) (lo' := [(22, _), (0, _), (1, _), (2, _), (3, _), (4, _), (5, _), (6, _), (7, _), (8, _), (9, _), (10, _), (11, _), (12, _), (13, _), (15, _), (16, _), (17, _), (18, _), (19, _), (20, _), (21, _)]) dL_law_697 (Nat.le_of_ble_eq_true rfl) rfl ?_
    refine X_goto (tgt := 923) dL_law_699 (by decide) ?_
    exact XJ.less (by omega) (by omega) (XJ.lcs (lo' := [(0, .ref G.2.2.2.2.1), (1, .ref a0), (2, .ref a1), (3, .ref a2), (4, .ref a3), (5, .ref a4), (6, .int (nI (ln L))), (7, .int (nI O.1)), (8, .int 1), (9, .int (nI k)), (10, .int (nI n)), (12, .int (nI av)), (13, .long (smV P L pr O av 4)), (22, .int t)]) ⟨rfl, rfl, rfl, rfl, rfl, rfl, rfl, rfl, rfl, rfl, rfl, rfl, rfl, rfl, trivial⟩ (hn t P L pr O mp mk _ _ _ _ _ hIP h6 hk hag hS hR (fun _ => rfl)))
set_option maxRecDepth 20000 in
theorem law_mrk {nm : String} {hh : List (Nat × Nat × Nat × Nat)} {P : PSt} {L : LSt} {pr : Nat → Nat} {O : OSt} {mp : Nat} {mk : Nat → UInt32} {a0 a1 a2 a3 a4 : Nat} {f1 f2 f3 f4 : Nat → Int32} (hIP : IP P L pr O mp mk []) (h6 : P.1 = 6) (hk : KD P) (hag : AG L f1 f2 f3 f4) {sv av p c m l place k n kd gA gB : Nat} (hsv : sv ≤ 30) (hav : 1 ≤ av ∧ av ≤ 30) (hp : p ≤ 6) (hc : c ≤ 6) (hm : m < 1000) (hl : l ≤ ln L) (hpl : place ≤ 6) (hn : ∀ (t : Int32) (P' : PSt) (L' : LSt) (pr' : Nat → Nat) (O' : OSt) (mp' : Nat) (mk' : Nat → UInt32) (g1 g2 g3 g4 : Nat → Int32) (w2 : Wd), IP P' L' pr' O' mp' mk' [] → P'.1 = 6 → KD P' → AG L' g1 g2 g3 g4 → ST 0 G.2.2.1 w2 P' L' pr' O' mp' mk' → LR 43 G.2.2.1 w2 a0 a1 a2 a3 a4 g1 g2 g3 g4 → (t < 0 → smV P' L' pr' O' av 4 = (smV P L pr O av 4)) → XJ G (mLaw nm hh) 40 gA gB 923 [(0, .ref G.2.2.2.2.1), (1, .ref a0), (2, .ref a1), (3, .ref a2), (4, .ref a3), (5, .ref a4), (6, .int (nI (ln L'))), (7, .int (nI O'.1)), (8, .int 1), (9, .int (nI k)), (10, .int (nI n)), (12, .int (nI av)), (13, .long (smV P L pr O av 4)), (22, .int t)] [] w2 QL) {w1 : Wd} (hS : ST 0 G.2.2.1 w1 P L pr O mp mk) (hR : LR 43 G.2.2.1 w1 a0 a1 a2 a3 a4 f1 f2 f3 f4) : XJ G (mLaw nm hh) 40 (13 + gA) (78 + gB) 709 [(0, .ref G.2.2.2.2.1), (1, .ref a0), (2, .ref a1), (3, .ref a2), (4, .ref a3), (5, .ref a4), (6, .int (nI (ln L))), (7, .int (nI O.1)), (8, .int 1), (9, .int (nI k)), (10, .int (nI n)), (11, .int (nI sv)), (12, .int (nI av)), (13, .long (smV P L pr O av 4)), (15, .int (nI kd)), (16, .int (nI p)), (17, .int (nI c)), (18, .int (nI m)), (19, .int (nI l)), (20, .int (nI place)), (21, .int (nI (m % 22))), (22, .int 0)] [] w1 QL := by
  have h40 := hIP.2.2.1.1.2.1
  have hP16 := hIP.1.1
  refine X_aload_n dL_law_709 (i := 1) rfl rfl ?_
  refine X_iload dL_law_710 (i := 11) rfl ?_
  refine X_callSW (gc2 := (9 + gA)) (gs2 := (54 + gB)) (h_markCosts hR.e0 hS hIP (nI sv)) kmL_markCosts rfl lL_189 sL_markCosts rfl rfl (Nat.le_of_ble_eq_true rfl) (by decide) dL_law_712 (by omega) (by omega) (fun E w1 hq => nomatch hq.1) (fun v w1 hq => ?_)
  have hvv := hq.1
  have hS := hq.2.1
  have hR := hR.fx hq.2.2
  cases hvv
  by_cases hcd : cdM (nI sv) = 0
  · refine XJ.top (v' := .int (nI P.1)) (by rw [hv_0 hcd]) ?_
    have hIP2 := ip_markCosts hIP (nI sv)
    rw [if_pos hcd, if_pos hcd, idx_nI (show sv < 2 ^ 31 by omega)] at hS hIP2
    have hs1 : 1 ≤ sv := by
      have h : btw (nI sv) 1 999 = true := by
        cases hb : btw (nI sv) 1 999 with
        | true => rfl
        | false => rw [cdM, hb] at hcd; exact nomatch hcd
      exact (btw_nn (a := 1) (b := 999) (by omega) (by decide) (by decide) h).1
    refine XJ.top (v' := .int (nI 6)) (by rw [h6]) ?_
    refine X_istore (i := 22) (lo' := [(22, _), (0, _), (1, _), (2, _), (3, _), (4, _), (5, _), (6, _), (7, _), (8, _), (9, _), (10, _), (11, _), (12, _), (13, _), (15, _), (16, _), (17, _), (18, _), (19, _), (20, _), (21, _)]) dL_law_715 (Nat.le_of_ble_eq_true rfl) rfl ?_
    refine X_iload dL_law_717 (i := 22) rfl ?_
    refine X_if_lt (tgt := 753) dL_law_719 (by decide) (fun h719 => ?_) (fun h719 => ?_)
    · exact absurd h719 (by decide)
    refine X_iload dL_law_722 (i := 22) rfl ?_
    refine X_bipush (v := 6) dL_law_724 (by decide) ?_
    refine X_icmp_ne (tgt := 757) dL_law_726 (by decide) (fun h726 => ?_) (fun h726 => ?_)
    · exact absurd rfl h726
    refine X_aload_n dL_law_729 (i := 1) rfl rfl ?_
    refine X_iconst (v := 0) dL_law_730 (by decide) ?_
    refine X_iload dL_law_731 (i := 11) rfl ?_
    refine X_callSW (gc2 := (5 + gA)) (gs2 := (30 + gB)) (q_chg (a := 0) hR.e0 hS hIP2 h6 (by decide) hs1 (by omega)) kmL_costChange rfl lL_191 sL_costChange rfl rfl (Nat.le_of_ble_eq_true rfl) (by decide) dL_law_733 (by omega) (by omega) (fun E w1 hq => nomatch hq.1) (fun v w1 hq => ?_)
    have hvv := hq.1
    have hS := hq.2.1
    have hR := hR.fx hq.2.2
    cases hvv
    refine X_fconst0 dL_law_736 ?_
    refine X_fcmp dL_law_737 ?_
    refine X_if_ne (tgt := 757) dL_law_738 (by decide) (fun h738 => ?_) (fun h738 => ?_)
    · exact absurd fcmp_00 h738
    refine X_aload_n dL_law_741 (i := 1) rfl rfl ?_
    refine X_iconst (v := 5) dL_law_742 (by decide) ?_
    refine X_iload dL_law_743 (i := 11) rfl ?_
    refine X_callSW (gc2 := (1 + gA)) (gs2 := (6 + gB)) (q_chg (a := 5) hR.e0 hS hIP2 h6 (by decide) hs1 (by omega)) kmL_costChange rfl lL_191 sL_costChange rfl rfl (Nat.le_of_ble_eq_true rfl) (by decide) dL_law_745 (by omega) (by omega) (fun E w1 hq => nomatch hq.1) (fun v w1 hq => ?_)
    have hvv := hq.1
    have hS := hq.2.1
    have hR := hR.fx hq.2.2
    cases hvv
    refine X_fconst0 dL_law_748 ?_
    refine X_fcmp dL_law_749 ?_
    refine X_if_ne (tgt := 757) dL_law_750 (by decide) (fun h750 => ?_) (fun h750 => ?_)
    · exact absurd fcmp_00 h750
    refine X_iconst (v := 1) dL_law_753 (by decide) ?_
    refine X_goto (tgt := 758) dL_law_754 (by decide) ?_
    refine X_istore (i := 8) (lo' := [(8, _), (22, _), (0, _), (1, _), (2, _), (3, _), (4, _), (5, _), (6, _), (7, _), (9, _), (10, _), (11, _), (12, _), (13, _), (15, _), (16, _), (17, _), (18, _), (19, _), (20, _), (21, _)]) dL_law_758 (Nat.le_of_ble_eq_true rfl) rfl ?_
    refine X_goto (tgt := 923) dL_law_760 (by decide) ?_
    exact XJ.less (by omega) (by omega) (XJ.lcs (lo' := [(0, .ref G.2.2.2.2.1), (1, .ref a0), (2, .ref a1), (3, .ref a2), (4, .ref a3), (5, .ref a4), (6, .int (nI (ln L))), (7, .int (nI O.1)), (8, .int 1), (9, .int (nI k)), (10, .int (nI n)), (12, .int (nI av)), (13, .long (smV P L pr O av 4)), (22, .int (nI 6))]) ⟨rfl, rfl, rfl, rfl, rfl, rfl, rfl, rfl, rfl, rfl, rfl, rfl, rfl, rfl, trivial⟩ (hn (nI 6) P L pr O P.1 (fun x => priF P L pr sv 5 x) _ _ _ _ _ hIP2 h6 hk hag hS hR (fun h => absurd h (by decide))))
  · rw [if_neg hcd, if_neg hcd] at hS
    have hneg : hv (cdM (nI sv)) [(-78)] (nI P.1) < 0 := hv_neg hcd cdM_le (by decide)
    obtain ⟨t, ht⟩ : ∃ t, t = hv (cdM (nI sv)) [(-78)] (nI P.1) := ⟨_, rfl⟩
    rw [← ht] at hneg
    refine XJ.top (v' := .int t) (by rw [ht]) ?_
    refine X_istore (i := 22) (lo' := [(22, _), (0, _), (1, _), (2, _), (3, _), (4, _), (5, _), (6, _), (7, _), (8, _), (9, _), (10, _), (11, _), (12, _), (13, _), (15, _), (16, _), (17, _), (18, _), (19, _), (20, _), (21, _)]) dL_law_715 (Nat.le_of_ble_eq_true rfl) rfl ?_
    refine X_iload dL_law_717 (i := 22) rfl ?_
    refine X_if_lt (tgt := 753) dL_law_719 (by decide) (fun hng => ?_) (fun hng => ?_)
    rotate_left
    · exact absurd hneg hng
    refine X_iconst (v := 1) dL_law_753 (by decide) ?_
    refine X_goto (tgt := 758) dL_law_754 (by decide) ?_
    refine X_istore (i := 8) (lo' := [(8, _), (22, _), (0, _), (1, _), (2, _), (3, _), (4, _), (5, _), (6, _), (7, _), (9, _), (10, _), (11, _), (12, _), (13, _), (15, _), (16, _), (17, _), (18, _), (19, _), (20, _), (21, _)]) dL_law_758 (Nat.le_of_ble_eq_true rfl) rfl ?_
    refine X_goto (tgt := 923) dL_law_760 (by decide) ?_
    exact XJ.less (by omega) (by omega) (XJ.lcs (lo' := [(0, .ref G.2.2.2.2.1), (1, .ref a0), (2, .ref a1), (3, .ref a2), (4, .ref a3), (5, .ref a4), (6, .int (nI (ln L))), (7, .int (nI O.1)), (8, .int 1), (9, .int (nI k)), (10, .int (nI n)), (12, .int (nI av)), (13, .long (smV P L pr O av 4)), (22, .int t)]) ⟨rfl, rfl, rfl, rfl, rfl, rfl, rfl, rfl, rfl, rfl, rfl, rfl, rfl, rfl, trivial⟩ (hn t P L pr O mp mk _ _ _ _ _ hIP h6 hk hag hS hR (fun _ => rfl)))
set_option maxHeartbeats 1000000 in
set_option maxRecDepth 20000 in
theorem law_ord {nm : String} {hh : List (Nat × Nat × Nat × Nat)} {P : PSt} {L : LSt} {pr : Nat → Nat} {O : OSt} {mp : Nat} {mk : Nat → UInt32} {a0 a1 a2 a3 a4 : Nat} {f1 f2 f3 f4 : Nat → Int32} (hIP : IP P L pr O mp mk []) (h6 : P.1 = 6) (hk : KD P) (hag : AG L f1 f2 f3 f4) {sv av p c m l place k n kd gA gB : Nat} (hsv : sv ≤ 30) (hav : 1 ≤ av ∧ av ≤ 30) (hp : p ≤ 6) (hc : c ≤ 6) (hm : m < 1000) (hl : l ≤ ln L) (hpl : place ≤ 6) (hn : ∀ (t : Int32) (P' : PSt) (L' : LSt) (pr' : Nat → Nat) (O' : OSt) (mp' : Nat) (mk' : Nat → UInt32) (g1 g2 g3 g4 : Nat → Int32) (w2 : Wd), IP P' L' pr' O' mp' mk' [] → P'.1 = 6 → KD P' → AG L' g1 g2 g3 g4 → ST 0 G.2.2.1 w2 P' L' pr' O' mp' mk' → LR 43 G.2.2.1 w2 a0 a1 a2 a3 a4 g1 g2 g3 g4 → (t < 0 → smV P' L' pr' O' av 4 = (smV P L pr O av 4)) → XJ G (mLaw nm hh) 40 gA gB 923 [(0, .ref G.2.2.2.2.1), (1, .ref a0), (2, .ref a1), (3, .ref a2), (4, .ref a3), (5, .ref a4), (6, .int (nI (ln L'))), (7, .int (nI O'.1)), (8, .int 1), (9, .int (nI k)), (10, .int (nI n)), (12, .int (nI av)), (13, .long (smV P L pr O av 4)), (22, .int t)] [] w2 QL) {w1 : Wd} (hS : ST 0 G.2.2.1 w1 P L pr O mp mk) (hR : LR 43 G.2.2.1 w1 a0 a1 a2 a3 a4 f1 f2 f3 f4) : XJ G (mLaw nm hh) 40 (13 + gA) (78 + gB) 770 [(0, .ref G.2.2.2.2.1), (1, .ref a0), (2, .ref a1), (3, .ref a2), (4, .ref a3), (5, .ref a4), (6, .int (nI (ln L))), (7, .int (nI O.1)), (8, .int 1), (9, .int (nI k)), (10, .int (nI n)), (11, .int (nI sv)), (12, .int (nI av)), (13, .long (smV P L pr O av 4)), (15, .int (nI kd)), (16, .int (nI p)), (17, .int (nI c)), (18, .int (nI m)), (19, .int (nI l)), (20, .int (nI place)), (21, .int (nI (m % 22))), (22, .int 0)] [] w1 QL := by
  have h40 := hIP.2.2.1.1.2.1
  have hP16 := hIP.1.1
  have h8 := hIP.2.2.2.1.1
  refine X_aload_n dL_law_770 (i := 1) rfl rfl ?_
  refine X_iload dL_law_771 (i := 17) rfl ?_
  refine X_callSW (gc2 := (11 + gA)) (gs2 := (66 + gB)) (h_need hR.e0 hS hIP (nI c)) kmL_need rfl lL_194 sL_need rfl rfl (Nat.le_of_ble_eq_true rfl) (by decide) dL_law_773 (by omega) (by omega) (fun E w1 hq => nomatch hq.1) (fun v w1 hq => ?_)
  have hvv := hq.1
  have hS := hq.2.1
  have hR := hR.fx hq.2.2
  cases hvv
  refine X_lstore (i := 23) (lo' := [(23, _), (0, _), (1, _), (2, _), (3, _), (4, _), (5, _), (6, _), (7, _), (8, _), (9, _), (10, _), (11, _), (12, _), (13, _), (15, _), (16, _), (17, _), (18, _), (19, _), (20, _), (21, _), (22, _)]) dL_law_776 (Nat.le_of_ble_eq_true rfl) rfl ?_
  refine X_aload_n dL_law_778 (i := 1) rfl rfl ?_
  refine X_iload dL_law_779 (i := 16) rfl ?_
  refine X_iload dL_law_781 (i := 11) rfl ?_
  refine X_iload dL_law_783 (i := 18) rfl ?_
  refine X_callSW (gc2 := (8 + gA)) (gs2 := (48 + gB)) (h_order hR.e0 hS hIP (nI p) (nI sv) (nI m)) kmL_order rfl lL_196 sL_order rfl rfl (Nat.le_of_ble_eq_true rfl) (by decide) dL_law_785 (by omega) (by omega) (fun E w1 hq => nomatch hq.1) (fun v w1 hq => ?_)
  have hvv := hq.1
  have hS := hq.2.1
  have hR := hR.fx hq.2.2
  cases hvv
  by_cases hcd : cdO (nI p) (nI sv) (nI m) P.1 O.1 = 0
  · refine XJ.top (v' := .int (nI O.1)) (by rw [hv_0 hcd]) ?_
    have hz := cdO_iv hcd
    have hIP2 := ip_order hIP (nI p) (nI sv) (nI m)
    rw [if_pos hcd] at hS hIP2
    rw [idx_nI (show p < 2 ^ 31 by omega), idx_nI (show sv < 2 ^ 31 by omega), idx_nI (show m < 2 ^ 31 by omega)] at hS hIP2
    have hp6 : p < 6 := by have := inP_lt (by omega) (by omega) hz.1; omega
    have hs := btw_nn (a := 1) (b := 999) (by omega) (by decide) (by decide) hz.2.1
    have hna : ∀ x, needN L (addO O p sv m pr) x (O.1 + 1) = needN L O x O.1 + m * hasN L pr sv 5 p x := fun x => need_add hIP.2.2.2.1
    have hn63 : ∀ x, needN L (addO O p sv m pr) x (O.1 + 1) < 2 ^ 63 := fun x => need_63 (O := (addO O p sv m pr)) hIP2.2.2.1.1 hIP2.2.2.2.1
    have hself : hasN L pr sv 5 p p = 1 := has_self
    refine X_istore (i := 22) (lo' := [(22, _), (23, _), (0, _), (1, _), (2, _), (3, _), (4, _), (5, _), (6, _), (7, _), (8, _), (9, _), (10, _), (11, _), (12, _), (13, _), (15, _), (16, _), (17, _), (18, _), (19, _), (20, _), (21, _)]) dL_law_788 (Nat.le_of_ble_eq_true rfl) rfl ?_
    refine X_iload dL_law_790 (i := 22) rfl ?_
    refine X_if_lt (tgt := 849) dL_law_792 (by decide) (fun h792 => ?_) (fun h792 => ?_)
    · exact absurd h792 (nI_pos (by omega))
    refine X_iload dL_law_795 (i := 22) rfl ?_
    refine X_iload dL_law_797 (i := 7) rfl ?_
    refine X_icmp_ne (tgt := 853) dL_law_799 (by decide) (fun h799 => ?_) (fun h799 => ?_)
    · exact absurd rfl h799
    refine X_aload_n dL_law_802 (i := 1) rfl rfl ?_
    refine X_iload dL_law_803 (i := 16) rfl ?_
    refine X_callSW (gc2 := (6 + gA)) (gs2 := (36 + gB)) (q_need hR.e0 hS hIP2 h6 hp6) kmL_need rfl lL_194 sL_need rfl rfl (Nat.le_of_ble_eq_true rfl) (by decide) dL_law_805 (by omega) (by omega) (fun E w1 hq => nomatch hq.1) (fun v w1 hq => ?_)
    have hvv := hq.1
    have hS := hq.2.1
    have hR := hR.fx hq.2.2
    cases hvv
    refine X_iload dL_law_808 (i := 18) rfl ?_
    refine X_i2l dL_law_810 rfl ?_
    refine XJ.top (v' := .long (nL m)) (by rw [nL_i2l (by omega)]) ?_
    refine X_lcmp dL_law_811 ?_
    refine X_if_lt (tgt := 853) dL_law_812 (by decide) (fun h812 => ?_) (fun h812 => ?_)
    · exact absurd ((nL_lt (hn63 p) (by omega)).mp h812) (by rw [hna p, hself]; omega)
    refine X_iload dL_law_815 (i := 17) rfl ?_
    refine X_bipush (v := 6) dL_law_817 (by decide) ?_
    refine X_icmp_eq (tgt := 849) dL_law_819 (by decide) (fun h819 => ?_) (fun h819 => ?_)
    · refine X_iconst (v := 1) dL_law_849 (by decide) ?_
      refine X_goto (tgt := 854) dL_law_850 (by decide) ?_
      refine X_istore (i := 8) (lo' := [(8, _), (22, _), (23, _), (0, _), (1, _), (2, _), (3, _), (4, _), (5, _), (6, _), (7, _), (9, _), (10, _), (11, _), (12, _), (13, _), (15, _), (16, _), (17, _), (18, _), (19, _), (20, _), (21, _)]) dL_law_854 (Nat.le_of_ble_eq_true rfl) rfl ?_
      refine X_iload dL_law_856 (i := 7) rfl ?_
      refine X_iload dL_law_858 (i := 22) rfl ?_
      refine X_if_ge (tgt := 867) dL_law_860 (by decide) (fun h860 => ?_) (fun h860 => ?_)
      rotate_left
      · exact absurd (nI_pos' (by omega)) h860
      refine X_iconst (v := 1) dL_law_867 (by decide) ?_
      refine X_iadd dL_law_868 ?_
      refine XJ.top (v' := .int (nI (O.1 + 1))) (congrArg Value.int (nI_add O.1 1)) ?_
      refine X_istore (i := 7) (lo' := [(7, _), (8, _), (22, _), (23, _), (0, _), (1, _), (2, _), (3, _), (4, _), (5, _), (6, _), (9, _), (10, _), (11, _), (12, _), (13, _), (15, _), (16, _), (17, _), (18, _), (19, _), (20, _), (21, _)]) dL_law_869 (Nat.le_of_ble_eq_true rfl) rfl ?_
      refine X_goto (tgt := 923) dL_law_871 (by decide) ?_
      exact XJ.less (by omega) (by omega) (XJ.lcs (lo' := [(0, .ref G.2.2.2.2.1), (1, .ref a0), (2, .ref a1), (3, .ref a2), (4, .ref a3), (5, .ref a4), (6, .int (nI (ln L))), (7, .int (nI (addO O p sv m pr).1)), (8, .int 1), (9, .int (nI k)), (10, .int (nI n)), (12, .int (nI av)), (13, .long (smV P L pr O av 4)), (22, .int (nI O.1))]) ⟨rfl, rfl, rfl, rfl, rfl, rfl, rfl, rfl, rfl, rfl, rfl, rfl, rfl, rfl, trivial⟩ (hn (nI O.1) P L pr (addO O p sv m pr) mp mk _ _ _ _ _ hIP2 h6 hk hag hS hR (fun h => absurd h (nI_pos (by omega)))))
    · have hc6 : c < 6 := by
        have h : c ≠ 6 := fun e => h819 (by rw [e]; rfl)
        omega
      have hsum : (hv (cdP (nI c) P.1) [(-77)] (nL (needN L O (idx (nI c)) O.1))) + nL m * nL (hasN L pr sv 5 p c) = nL (needN L (addO O p sv m pr) c (O.1 + 1)) := by
        rw [hv_0 (cdP_ok (by omega) (by omega)), idx_nI (show c < 2 ^ 31 by omega), nL_mul, nL_add, hna c]
      refine X_aload_n dL_law_822 (i := 1) rfl rfl ?_
      refine X_iload dL_law_823 (i := 17) rfl ?_
      refine X_callSW (gc2 := (4 + gA)) (gs2 := (24 + gB)) (q_need hR.e0 hS hIP2 h6 hc6) kmL_need rfl lL_194 sL_need rfl rfl (Nat.le_of_ble_eq_true rfl) (by decide) dL_law_825 (by omega) (by omega) (fun E w1 hq => nomatch hq.1) (fun v w1 hq => ?_)
      have hvv := hq.1
      have hS := hq.2.1
      have hR := hR.fx hq.2.2
      cases hvv
      refine X_lload dL_law_828 (i := 23) rfl ?_
      refine X_iload dL_law_830 (i := 18) rfl ?_
      refine X_i2l dL_law_832 rfl ?_
      refine XJ.top (v' := .long (nL m)) (by rw [nL_i2l (by omega)]) ?_
      refine X_aload_n dL_law_833 (i := 1) rfl rfl ?_
      refine X_iload dL_law_834 (i := 16) rfl ?_
      refine X_iload dL_law_836 (i := 17) rfl ?_
      refine X_iload dL_law_838 (i := 11) rfl ?_
      refine X_callSW (gc2 := (0 + gA)) (gs2 := (0 + gB)) (q_quantity hR.e0 hS hIP2 h6 hp6 hc6 hs.1 (by omega)) kmL_quantity rfl lL_167 sL_quantity rfl rfl (Nat.le_of_ble_eq_true rfl) (by decide) dL_law_840 (by omega) (by omega) (fun E w1 hq => nomatch hq.1) (fun v w1 hq => ?_)
      have hvv := hq.1
      have hS := hq.2.1
      have hR := hR.fx hq.2.2
      cases hvv
      refine X_lmul dL_law_843 ?_
      refine X_ladd dL_law_844 ?_
      refine XJ.top (v' := .long (nL (needN L (addO O p sv m pr) c (O.1 + 1)))) (by rw [hsum]) ?_
      refine X_lcmp dL_law_845 ?_
      refine X_if_ne (tgt := 853) dL_law_846 (by decide) (fun h846 => ?_) (fun h846 => ?_)
      · exact absurd (lcmp_s _) h846
      refine X_iconst (v := 1) dL_law_849 (by decide) ?_
      refine X_goto (tgt := 854) dL_law_850 (by decide) ?_
      refine X_istore (i := 8) (lo' := [(8, _), (22, _), (23, _), (0, _), (1, _), (2, _), (3, _), (4, _), (5, _), (6, _), (7, _), (9, _), (10, _), (11, _), (12, _), (13, _), (15, _), (16, _), (17, _), (18, _), (19, _), (20, _), (21, _)]) dL_law_854 (Nat.le_of_ble_eq_true rfl) rfl ?_
      refine X_iload dL_law_856 (i := 7) rfl ?_
      refine X_iload dL_law_858 (i := 22) rfl ?_
      refine X_if_ge (tgt := 867) dL_law_860 (by decide) (fun h860 => ?_) (fun h860 => ?_)
      rotate_left
      · exact absurd (nI_pos' (by omega)) h860
      refine X_iconst (v := 1) dL_law_867 (by decide) ?_
      refine X_iadd dL_law_868 ?_
      refine XJ.top (v' := .int (nI (O.1 + 1))) (congrArg Value.int (nI_add O.1 1)) ?_
      refine X_istore (i := 7) (lo' := [(7, _), (8, _), (22, _), (23, _), (0, _), (1, _), (2, _), (3, _), (4, _), (5, _), (6, _), (9, _), (10, _), (11, _), (12, _), (13, _), (15, _), (16, _), (17, _), (18, _), (19, _), (20, _), (21, _)]) dL_law_869 (Nat.le_of_ble_eq_true rfl) rfl ?_
      refine X_goto (tgt := 923) dL_law_871 (by decide) ?_
      exact XJ.less (by omega) (by omega) (XJ.lcs (lo' := [(0, .ref G.2.2.2.2.1), (1, .ref a0), (2, .ref a1), (3, .ref a2), (4, .ref a3), (5, .ref a4), (6, .int (nI (ln L))), (7, .int (nI (addO O p sv m pr).1)), (8, .int 1), (9, .int (nI k)), (10, .int (nI n)), (12, .int (nI av)), (13, .long (smV P L pr O av 4)), (22, .int (nI O.1))]) ⟨rfl, rfl, rfl, rfl, rfl, rfl, rfl, rfl, rfl, rfl, rfl, rfl, rfl, rfl, trivial⟩ (hn (nI O.1) P L pr (addO O p sv m pr) mp mk _ _ _ _ _ hIP2 h6 hk hag hS hR (fun h => absurd h (nI_pos (by omega)))))
  · rw [if_neg hcd] at hS
    have hneg : hv (cdO (nI p) (nI sv) (nI m) P.1 O.1) [(-77), (-78), (-79)] (nI O.1) < 0 := hv_neg hcd cdO_le (by decide)
    obtain ⟨t, ht⟩ : ∃ t, t = hv (cdO (nI p) (nI sv) (nI m) P.1 O.1) [(-77), (-78), (-79)] (nI O.1) := ⟨_, rfl⟩
    rw [← ht] at hneg
    refine XJ.top (v' := .int t) (by rw [ht]) ?_
    refine X_istore (i := 22) (lo' := [(22, _), (23, _), (0, _), (1, _), (2, _), (3, _), (4, _), (5, _), (6, _), (7, _), (8, _), (9, _), (10, _), (11, _), (12, _), (13, _), (15, _), (16, _), (17, _), (18, _), (19, _), (20, _), (21, _)]) dL_law_788 (Nat.le_of_ble_eq_true rfl) rfl ?_
    refine X_iload dL_law_790 (i := 22) rfl ?_
    refine X_if_lt (tgt := 849) dL_law_792 (by decide) (fun hng => ?_) (fun hng => ?_)
    rotate_left
    · exact absurd hneg hng
    refine X_iconst (v := 1) dL_law_849 (by decide) ?_
    refine X_goto (tgt := 854) dL_law_850 (by decide) ?_
    refine X_istore (i := 8) (lo' := [(8, _), (22, _), (23, _), (0, _), (1, _), (2, _), (3, _), (4, _), (5, _), (6, _), (7, _), (9, _), (10, _), (11, _), (12, _), (13, _), (15, _), (16, _), (17, _), (18, _), (19, _), (20, _), (21, _)]) dL_law_854 (Nat.le_of_ble_eq_true rfl) rfl ?_
    refine X_iload dL_law_856 (i := 7) rfl ?_
    refine X_iload dL_law_858 (i := 22) rfl ?_
    refine X_if_ge (tgt := 867) dL_law_860 (by decide) (fun h860 => ?_) (fun h860 => ?_)
    · exact absurd h860 (Int32.not_le.mpr hneg)
    refine X_iconst (v := 0) dL_law_863 (by decide) ?_
    refine X_goto (tgt := 868) dL_law_864 (by decide) ?_
    refine X_iadd dL_law_868 ?_
    refine XJ.top (v' := .int (nI O.1)) (congrArg Value.int (nI_add O.1 0)) ?_
    refine X_istore (i := 7) (lo' := [(7, _), (8, _), (22, _), (23, _), (0, _), (1, _), (2, _), (3, _), (4, _), (5, _), (6, _), (9, _), (10, _), (11, _), (12, _), (13, _), (15, _), (16, _), (17, _), (18, _), (19, _), (20, _), (21, _)]) dL_law_869 (Nat.le_of_ble_eq_true rfl) rfl ?_
    refine X_goto (tgt := 923) dL_law_871 (by decide) ?_
    exact XJ.less (by omega) (by omega) (XJ.lcs (lo' := [(0, .ref G.2.2.2.2.1), (1, .ref a0), (2, .ref a1), (3, .ref a2), (4, .ref a3), (5, .ref a4), (6, .int (nI (ln L))), (7, .int (nI O.1)), (8, .int 1), (9, .int (nI k)), (10, .int (nI n)), (12, .int (nI av)), (13, .long (smV P L pr O av 4)), (22, .int t)]) ⟨rfl, rfl, rfl, rfl, rfl, rfl, rfl, rfl, rfl, rfl, rfl, rfl, rfl, rfl, trivial⟩ (hn t P L pr O mp mk _ _ _ _ _ hIP h6 hk hag hS hR (fun _ => rfl)))
set_option maxRecDepth 20000 in
theorem law_ca2 {nm : String} {hh : List (Nat × Nat × Nat × Nat)} {P : PSt} {L : LSt} {pr : Nat → Nat} {O : OSt} {mp : Nat} {mk : Nat → UInt32} {a0 a1 a2 a3 a4 : Nat} {f1 f2 f3 f4 : Nat → Int32} (hIP : IP P L pr O mp mk []) (h6 : P.1 = 6) (hk : KD P) (hag : AG L f1 f2 f3 f4) {sv av p c m l place k n kd gA gB : Nat} (hsv : sv ≤ 30) (hav : 1 ≤ av ∧ av ≤ 30) (hp : p ≤ 6) (hc : c ≤ 6) (hm : m < 1000) (hl : l ≤ ln L) (hpl : place ≤ 6) (hn : ∀ (t : Int32) (P' : PSt) (L' : LSt) (pr' : Nat → Nat) (O' : OSt) (mp' : Nat) (mk' : Nat → UInt32) (g1 g2 g3 g4 : Nat → Int32) (w2 : Wd), IP P' L' pr' O' mp' mk' [] → P'.1 = 6 → KD P' → AG L' g1 g2 g3 g4 → ST 0 G.2.2.1 w2 P' L' pr' O' mp' mk' → LR 43 G.2.2.1 w2 a0 a1 a2 a3 a4 g1 g2 g3 g4 → (t < 0 → smV P' L' pr' O' av 4 = (smV P L pr O av 4)) → XJ G (mLaw nm hh) 40 gA gB 923 [(0, .ref G.2.2.2.2.1), (1, .ref a0), (2, .ref a1), (3, .ref a2), (4, .ref a3), (5, .ref a4), (6, .int (nI (ln L'))), (7, .int (nI O'.1)), (8, .int 1), (9, .int (nI k)), (10, .int (nI n)), (12, .int (nI av)), (13, .long (smV P L pr O av 4)), (22, .int t)] [] w2 QL) {w1 : Wd} (hS : ST 0 G.2.2.1 w1 P L pr O mp mk) (hR : LR 43 G.2.2.1 w1 a0 a1 a2 a3 a4 f1 f2 f3 f4) {o : Int32} : XJ G (mLaw nm hh) 40 (13 + gA) (78 + gB) 890 [(0, .ref G.2.2.2.2.1), (1, .ref a0), (2, .ref a1), (3, .ref a2), (4, .ref a3), (5, .ref a4), (6, .int (nI (ln L))), (7, .int (nI O.1)), (8, .int 1), (9, .int (nI k)), (10, .int (nI n)), (11, .int (nI sv)), (12, .int (nI av)), (13, .long (smV P L pr O av 4)), (15, .int (nI kd)), (16, .int (nI p)), (17, .int (nI c)), (18, .int (nI m)), (19, .int (nI l)), (20, .int (nI place)), (21, .int (nI (m % 22))), (22, .int 0), (23, .int o)] [] w1 QL := by
  have h40 := hIP.2.2.1.1.2.1
  have hP16 := hIP.1.1
  have h8 := hIP.2.2.2.1.1
  refine X_iload dL_law_890 (i := 18) rfl ?_
  refine X_iconst (v := 3) dL_law_892 (by decide) ?_
  refine X_iremN (a := m) (b := 3) dL_law_893 (by omega) (by omega) (by omega) ?_
  refine X_if_le (tgt := 901) dL_law_894 (by decide) (fun c_894 => ?_) (fun c_894 => ?_)
  · refine X_aload_n dL_law_901 (i := 1) rfl rfl ?_
    refine X_iload dL_law_902 (i := 23) rfl ?_
    refine X_callSW (gc2 := (11 + gA)) (gs2 := (66 + gB)) (h_cancel hR.e0 hS hIP o) kmL_cancel rfl lL_199 sL_cancel rfl rfl (Nat.le_of_ble_eq_true rfl) (by decide) dL_law_904 (by omega) (by omega) (fun E w1 hq => nomatch hq.1) (fun v w1 hq => ?_)
    have hvv := hq.1
    have hS := hq.2.1
    have hR := hR.fx hq.2.2
    cases hvv
    by_cases hcd : cdX o O = 0
    · refine XJ.top (v' := .int (nI (cntB (fun k => !(canO O (idx o)).2.2.2.2.2 k) O.1))) (by rw [hv_0 hcd]) ?_
      have hIP2 := ip_cancel hIP o
      rw [if_pos hcd] at hS hIP2
      have hcn : (cntB (fun k => !(canO O (idx o)).2.2.2.2.2 k) O.1) ≤ O.1 := cntB_le _ _
      refine X_istore (i := 22) (lo' := [(22, _), (0, _), (1, _), (2, _), (3, _), (4, _), (5, _), (6, _), (7, _), (8, _), (9, _), (10, _), (11, _), (12, _), (13, _), (15, _), (16, _), (17, _), (18, _), (19, _), (20, _), (21, _), (23, _)]) dL_law_907 (Nat.le_of_ble_eq_true rfl) rfl ?_
      refine X_iload dL_law_909 (i := 22) rfl ?_
      refine X_iload dL_law_911 (i := 7) rfl ?_
      refine X_icmp_gt (tgt := 920) dL_law_913 (by decide) (fun h913 => ?_) (fun h913 => ?_)
      · exact absurd ((nI_ltI (by omega) (by omega)).mp h913) (by omega)
      refine X_iconst (v := 1) dL_law_916 (by decide) ?_
      refine X_goto (tgt := 921) dL_law_917 (by decide) ?_
      refine X_istore (i := 8) (lo' := [(8, _), (22, _), (0, _), (1, _), (2, _), (3, _), (4, _), (5, _), (6, _), (7, _), (9, _), (10, _), (11, _), (12, _), (13, _), (15, _), (16, _), (17, _), (18, _), (19, _), (20, _), (21, _), (23, _)]) dL_law_921 (Nat.le_of_ble_eq_true rfl) rfl ?_
      exact XJ.less (by omega) (by omega) (XJ.lcs (lo' := [(0, .ref G.2.2.2.2.1), (1, .ref a0), (2, .ref a1), (3, .ref a2), (4, .ref a3), (5, .ref a4), (6, .int (nI (ln L))), (7, .int (nI (canO O (idx o)).1)), (8, .int 1), (9, .int (nI k)), (10, .int (nI n)), (12, .int (nI av)), (13, .long (smV P L pr O av 4)), (22, .int (nI (cntB (fun k => !(canO O (idx o)).2.2.2.2.2 k) O.1)))]) ⟨rfl, rfl, rfl, rfl, rfl, rfl, rfl, rfl, rfl, rfl, rfl, rfl, rfl, rfl, trivial⟩ (hn (nI (cntB (fun k => !(canO O (idx o)).2.2.2.2.2 k) O.1)) P L pr (canO O (idx o)) mp mk _ _ _ _ _ hIP2 h6 hk hag hS hR (fun h => absurd h (nI_pos (by omega)))))
    · rw [if_neg hcd] at hS
      have hneg : hv (cdX o O) [(-77), (-79)] (nI (cntB (fun k => !(canO O (idx o)).2.2.2.2.2 k) O.1)) < 0 := hv_neg hcd cdX_le (by decide)
      obtain ⟨t, ht⟩ : ∃ t, t = hv (cdX o O) [(-77), (-79)] (nI (cntB (fun k => !(canO O (idx o)).2.2.2.2.2 k) O.1)) := ⟨_, rfl⟩
      rw [← ht] at hneg
      refine XJ.top (v' := .int t) (by rw [ht]) ?_
      refine X_istore (i := 22) (lo' := [(22, _), (0, _), (1, _), (2, _), (3, _), (4, _), (5, _), (6, _), (7, _), (8, _), (9, _), (10, _), (11, _), (12, _), (13, _), (15, _), (16, _), (17, _), (18, _), (19, _), (20, _), (21, _), (23, _)]) dL_law_907 (Nat.le_of_ble_eq_true rfl) rfl ?_
      refine X_iload dL_law_909 (i := 22) rfl ?_
      refine X_iload dL_law_911 (i := 7) rfl ?_
      refine X_icmp_gt (tgt := 920) dL_law_913 (by decide) (fun h913 => ?_) (fun h913 => ?_)
      · exact absurd h913 (lt_neg (by omega) hneg)
      refine X_iconst (v := 1) dL_law_916 (by decide) ?_
      refine X_goto (tgt := 921) dL_law_917 (by decide) ?_
      refine X_istore (i := 8) (lo' := [(8, _), (22, _), (0, _), (1, _), (2, _), (3, _), (4, _), (5, _), (6, _), (7, _), (9, _), (10, _), (11, _), (12, _), (13, _), (15, _), (16, _), (17, _), (18, _), (19, _), (20, _), (21, _), (23, _)]) dL_law_921 (Nat.le_of_ble_eq_true rfl) rfl ?_
      exact XJ.less (by omega) (by omega) (XJ.lcs (lo' := [(0, .ref G.2.2.2.2.1), (1, .ref a0), (2, .ref a1), (3, .ref a2), (4, .ref a3), (5, .ref a4), (6, .int (nI (ln L))), (7, .int (nI O.1)), (8, .int 1), (9, .int (nI k)), (10, .int (nI n)), (12, .int (nI av)), (13, .long (smV P L pr O av 4)), (22, .int t)]) ⟨rfl, rfl, rfl, rfl, rfl, rfl, rfl, rfl, rfl, rfl, rfl, rfl, rfl, rfl, trivial⟩ (hn t P L pr O mp mk _ _ _ _ _ hIP h6 hk hag hS hR (fun _ => rfl)))
  · refine X_iconst (v := 0) dL_law_897 (by decide) ?_
    refine X_goto (tgt := 907) dL_law_898 (by decide) ?_
    refine X_istore (i := 22) (lo' := [(22, _), (0, _), (1, _), (2, _), (3, _), (4, _), (5, _), (6, _), (7, _), (8, _), (9, _), (10, _), (11, _), (12, _), (13, _), (15, _), (16, _), (17, _), (18, _), (19, _), (20, _), (21, _), (23, _)]) dL_law_907 (Nat.le_of_ble_eq_true rfl) rfl ?_
    refine X_iload dL_law_909 (i := 22) rfl ?_
    refine X_iload dL_law_911 (i := 7) rfl ?_
    refine X_icmp_gt (tgt := 920) dL_law_913 (by decide) (fun h913 => ?_) (fun h913 => ?_)
    · exact absurd h913 (nI_pos (by omega))
    refine X_iconst (v := 1) dL_law_916 (by decide) ?_
    refine X_goto (tgt := 921) dL_law_917 (by decide) ?_
    refine X_istore (i := 8) (lo' := [(8, _), (22, _), (0, _), (1, _), (2, _), (3, _), (4, _), (5, _), (6, _), (7, _), (9, _), (10, _), (11, _), (12, _), (13, _), (15, _), (16, _), (17, _), (18, _), (19, _), (20, _), (21, _), (23, _)]) dL_law_921 (Nat.le_of_ble_eq_true rfl) rfl ?_
    exact XJ.less (by omega) (by omega) (XJ.lcs (lo' := [(0, .ref G.2.2.2.2.1), (1, .ref a0), (2, .ref a1), (3, .ref a2), (4, .ref a3), (5, .ref a4), (6, .int (nI (ln L))), (7, .int (nI O.1)), (8, .int 1), (9, .int (nI k)), (10, .int (nI n)), (12, .int (nI av)), (13, .long (smV P L pr O av 4)), (22, .int 0)]) ⟨rfl, rfl, rfl, rfl, rfl, rfl, rfl, rfl, rfl, rfl, rfl, rfl, rfl, rfl, trivial⟩ (hn 0 P L pr O mp mk _ _ _ _ _ hIP h6 hk hag hS hR (fun h => absurd h (by decide))))
set_option maxRecDepth 20000 in
theorem law_can {nm : String} {hh : List (Nat × Nat × Nat × Nat)} {P : PSt} {L : LSt} {pr : Nat → Nat} {O : OSt} {mp : Nat} {mk : Nat → UInt32} {a0 a1 a2 a3 a4 : Nat} {f1 f2 f3 f4 : Nat → Int32} (hIP : IP P L pr O mp mk []) (h6 : P.1 = 6) (hk : KD P) (hag : AG L f1 f2 f3 f4) {sv av p c m l place k n kd gA gB : Nat} (hsv : sv ≤ 30) (hav : 1 ≤ av ∧ av ≤ 30) (hp : p ≤ 6) (hc : c ≤ 6) (hm : m < 1000) (hl : l ≤ ln L) (hpl : place ≤ 6) (hn : ∀ (t : Int32) (P' : PSt) (L' : LSt) (pr' : Nat → Nat) (O' : OSt) (mp' : Nat) (mk' : Nat → UInt32) (g1 g2 g3 g4 : Nat → Int32) (w2 : Wd), IP P' L' pr' O' mp' mk' [] → P'.1 = 6 → KD P' → AG L' g1 g2 g3 g4 → ST 0 G.2.2.1 w2 P' L' pr' O' mp' mk' → LR 43 G.2.2.1 w2 a0 a1 a2 a3 a4 g1 g2 g3 g4 → (t < 0 → smV P' L' pr' O' av 4 = (smV P L pr O av 4)) → XJ G (mLaw nm hh) 40 gA gB 923 [(0, .ref G.2.2.2.2.1), (1, .ref a0), (2, .ref a1), (3, .ref a2), (4, .ref a3), (5, .ref a4), (6, .int (nI (ln L'))), (7, .int (nI O'.1)), (8, .int 1), (9, .int (nI k)), (10, .int (nI n)), (12, .int (nI av)), (13, .long (smV P L pr O av 4)), (22, .int t)] [] w2 QL) {w1 : Wd} (hS : ST 0 G.2.2.1 w1 P L pr O mp mk) (hR : LR 43 G.2.2.1 w1 a0 a1 a2 a3 a4 f1 f2 f3 f4) : XJ G (mLaw nm hh) 40 (13 + gA) (78 + gB) 874 [(0, .ref G.2.2.2.2.1), (1, .ref a0), (2, .ref a1), (3, .ref a2), (4, .ref a3), (5, .ref a4), (6, .int (nI (ln L))), (7, .int (nI O.1)), (8, .int 1), (9, .int (nI k)), (10, .int (nI n)), (11, .int (nI sv)), (12, .int (nI av)), (13, .long (smV P L pr O av 4)), (15, .int (nI kd)), (16, .int (nI p)), (17, .int (nI c)), (18, .int (nI m)), (19, .int (nI l)), (20, .int (nI place)), (21, .int (nI (m % 22))), (22, .int 0)] [] w1 QL := by
  have h40 := hIP.2.2.1.1.2.1
  have hP16 := hIP.1.1
  have h8 := hIP.2.2.2.1.1
  refine X_iload dL_law_874 (i := 7) rfl ?_
  refine X_if_ne (tgt := 883) dL_law_876 (by decide) (fun h876 => ?_) (fun h876 => ?_)
  · have h0 : 0 < O.1 := by
      rcases Nat.eq_zero_or_pos O.1 with h | h
      · exact absurd (by rw [h]; rfl) h876
      · exact h
    refine X_iload dL_law_883 (i := 18) rfl ?_
    refine X_iload dL_law_885 (i := 7) rfl ?_
    refine X_iremN (a := m) (b := O.1) dL_law_887 (by omega) (by omega) (by omega) ?_
    refine X_istore (i := 23) (lo' := [(23, _), (0, _), (1, _), (2, _), (3, _), (4, _), (5, _), (6, _), (7, _), (8, _), (9, _), (10, _), (11, _), (12, _), (13, _), (15, _), (16, _), (17, _), (18, _), (19, _), (20, _), (21, _), (22, _)]) dL_law_888 (Nat.le_of_ble_eq_true rfl) rfl ?_
    exact XJ.lcs (lo' := [(0, .ref G.2.2.2.2.1), (1, .ref a0), (2, .ref a1), (3, .ref a2), (4, .ref a3), (5, .ref a4), (6, .int (nI (ln L))), (7, .int (nI O.1)), (8, .int 1), (9, .int (nI k)), (10, .int (nI n)), (11, .int (nI sv)), (12, .int (nI av)), (13, .long (smV P L pr O av 4)), (15, .int (nI kd)), (16, .int (nI p)), (17, .int (nI c)), (18, .int (nI m)), (19, .int (nI l)), (20, .int (nI place)), (21, .int (nI (m % 22))), (22, .int 0), (23, .int _)]) ⟨rfl, rfl, rfl, rfl, rfl, rfl, rfl, rfl, rfl, rfl, rfl, rfl, rfl, rfl, rfl, rfl, rfl, rfl, rfl, rfl, rfl, rfl, rfl, trivial⟩ (law_ca2 hIP h6 hk hag hsv hav hp hc hm hl hpl hn hS hR)
  · refine X_iconst (v := 0) dL_law_879 (by decide) ?_
    refine X_goto (tgt := 888) dL_law_880 (by decide) ?_
    refine X_istore (i := 23) (lo' := [(23, _), (0, _), (1, _), (2, _), (3, _), (4, _), (5, _), (6, _), (7, _), (8, _), (9, _), (10, _), (11, _), (12, _), (13, _), (15, _), (16, _), (17, _), (18, _), (19, _), (20, _), (21, _), (22, _)]) dL_law_888 (Nat.le_of_ble_eq_true rfl) rfl ?_
    exact XJ.lcs (lo' := [(0, .ref G.2.2.2.2.1), (1, .ref a0), (2, .ref a1), (3, .ref a2), (4, .ref a3), (5, .ref a4), (6, .int (nI (ln L))), (7, .int (nI O.1)), (8, .int 1), (9, .int (nI k)), (10, .int (nI n)), (11, .int (nI sv)), (12, .int (nI av)), (13, .long (smV P L pr O av 4)), (15, .int (nI kd)), (16, .int (nI p)), (17, .int (nI c)), (18, .int (nI m)), (19, .int (nI l)), (20, .int (nI place)), (21, .int (nI (m % 22))), (22, .int 0), (23, .int _)]) ⟨rfl, rfl, rfl, rfl, rfl, rfl, rfl, rfl, rfl, rfl, rfl, rfl, rfl, rfl, rfl, rfl, rfl, rfl, rfl, rfl, rfl, rfl, rfl, trivial⟩ (law_ca2 hIP h6 hk hag hsv hav hp hc hm hl hpl hn hS hR)
set_option maxRecDepth 20000 in
theorem law_dis {nm : String} {hh : List (Nat × Nat × Nat × Nat)} {P : PSt} {L : LSt} {pr : Nat → Nat} {O : OSt} {mp : Nat} {mk : Nat → UInt32} {a0 a1 a2 a3 a4 : Nat} {f1 f2 f3 f4 : Nat → Int32} (hIP : IP P L pr O mp mk []) (h6 : P.1 = 6) (hk : KD P) (hag : AG L f1 f2 f3 f4) {sv av p c m l place k n kd gA gB : Nat} (hsv : sv ≤ 30) (hav : 1 ≤ av ∧ av ≤ 30) (hp : p ≤ 6) (hc : c ≤ 6) (hm : m < 1000) (hl : l ≤ ln L) (hpl : place ≤ 6) (hn : ∀ (t : Int32) (P' : PSt) (L' : LSt) (pr' : Nat → Nat) (O' : OSt) (mp' : Nat) (mk' : Nat → UInt32) (g1 g2 g3 g4 : Nat → Int32) (w2 : Wd), IP P' L' pr' O' mp' mk' [] → P'.1 = 6 → KD P' → AG L' g1 g2 g3 g4 → ST 0 G.2.2.1 w2 P' L' pr' O' mp' mk' → LR 43 G.2.2.1 w2 a0 a1 a2 a3 a4 g1 g2 g3 g4 → (t < 0 → smV P' L' pr' O' av 4 = (smV P L pr O av 4)) → XJ G (mLaw nm hh) 40 gA gB 923 [(0, .ref G.2.2.2.2.1), (1, .ref a0), (2, .ref a1), (3, .ref a2), (4, .ref a3), (5, .ref a4), (6, .int (nI (ln L'))), (7, .int (nI O'.1)), (8, .int 1), (9, .int (nI k)), (10, .int (nI n)), (12, .int (nI av)), (13, .long (smV P L pr O av 4)), (22, .int t)] [] w2 QL) {w1 : Wd} (hS : ST 0 G.2.2.1 w1 P L pr O mp mk) (hR : LR 43 G.2.2.1 w1 a0 a1 a2 a3 a4 f1 f2 f3 f4) : XJ G (mLaw nm hh) 40 (13 + gA) (78 + gB) 318 [(0, .ref G.2.2.2.2.1), (1, .ref a0), (2, .ref a1), (3, .ref a2), (4, .ref a3), (5, .ref a4), (6, .int (nI (ln L))), (7, .int (nI O.1)), (8, .int 1), (9, .int (nI k)), (10, .int (nI n)), (11, .int (nI sv)), (12, .int (nI av)), (13, .long (smV P L pr O av 4)), (15, .int (nI kd)), (16, .int (nI p)), (17, .int (nI c)), (18, .int (nI m)), (19, .int (nI l)), (20, .int (nI place)), (21, .int (nI (m % 22))), (22, .int 0)] [] w1 QL := by
  refine X_iload dL_law_318 (i := 15) rfl ?_
  refine X_bipush (v := 10) dL_law_320 (by decide) ?_
  refine X_icmp_ge (tgt := 453) dL_law_322 (by decide) (fun c_322 => ?_) (fun c_322 => ?_)
  · refine X_iload dL_law_453 (i := 15) rfl ?_
    refine X_bipush (v := 13) dL_law_455 (by decide) ?_
    refine X_icmp_ge (tgt := 553) dL_law_457 (by decide) (fun c_457 => ?_) (fun c_457 => ?_)
    · refine X_iload dL_law_553 (i := 15) rfl ?_
      refine X_bipush (v := 13) dL_law_555 (by decide) ?_
      refine X_icmp_ne (tgt := 605) dL_law_557 (by decide) (fun c_557 => ?_) (fun c_557 => ?_)
      · refine X_iload dL_law_605 (i := 15) rfl ?_
        refine X_bipush (v := 16) dL_law_607 (by decide) ?_
        refine X_icmp_ge (tgt := 628) dL_law_609 (by decide) (fun c_609 => ?_) (fun c_609 => ?_)
        · refine X_iload dL_law_628 (i := 15) rfl ?_
          refine X_bipush (v := 19) dL_law_630 (by decide) ?_
          refine X_icmp_ge (tgt := 679) dL_law_632 (by decide) (fun c_632 => ?_) (fun c_632 => ?_)
          · refine X_iload dL_law_679 (i := 15) rfl ?_
            refine X_bipush (v := 19) dL_law_681 (by decide) ?_
            refine X_icmp_ne (tgt := 702) dL_law_683 (by decide) (fun c_683 => ?_) (fun c_683 => ?_)
            · refine X_iload dL_law_702 (i := 15) rfl ?_
              refine X_bipush (v := 20) dL_law_704 (by decide) ?_
              refine X_icmp_ne (tgt := 763) dL_law_706 (by decide) (fun c_706 => ?_) (fun c_706 => ?_)
              · refine X_iload dL_law_763 (i := 15) rfl ?_
                refine X_bipush (v := 23) dL_law_765 (by decide) ?_
                refine X_icmp_ge (tgt := 874) dL_law_767 (by decide) (fun c_767 => ?_) (fun c_767 => ?_)
                · exact law_can hIP h6 hk hag hsv hav hp hc hm hl hpl hn hS hR
                · exact law_ord hIP h6 hk hag hsv hav hp hc hm hl hpl hn hS hR
              · exact law_mrk hIP h6 hk hag hsv hav hp hc hm hl hpl hn hS hR
            · exact law_pri hIP h6 hk hag hsv hav hp hc hm hl hpl hn hS hR
          · exact law_cho hIP h6 hk hag hsv hav hp hc hm hl hpl hn hS hR
        · exact law_scr hIP h6 hk hag hsv hav hp hc hm hl hpl hn hS hR
      · exact law_end hIP h6 hk hag hsv hav hp hc hm hl hpl hn hS hR
    · exact law_rep hIP h6 hk hag hsv hav hp hc hm hl hpl hn hS hR
  · refine X_iload dL_law_325 (i := 15) rfl ?_
    refine X_bipush (v := 6) dL_law_327 (by decide) ?_
    refine X_icmp_ge (tgt := 357) dL_law_329 (by decide) (fun c_329 => ?_) (fun c_329 => ?_)
    · exact law_var hIP h6 hk hag hsv hav hp hc hm hl hpl hn hS hR
    · exact law_add hIP h6 hk hag hsv hav hp hc hm hl hpl hn hS hR
end LawQ
