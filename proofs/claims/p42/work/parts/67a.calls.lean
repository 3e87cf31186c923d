/-! EVERY CALL over the one state (by gen/spec67.py) -/
section Calls
variable {G : Gx} {w : Wd}
set_option maxRecDepth 20000 in
theorem cx_addPart {P : PSt} {L : LSt} {pr : Nat → Nat} {O : OSt} {mp : Nat} {mk : Nat → UInt32} {T : List Nat} {a0 a39 a63 a64 : Nat} {dc tc : Nat} (hA : AD w a0 a39 a63 a64) (hIX : IX G.2.2.1 w P L pr O mp mk T dc tc) (hIP : IP P L pr O mp mk T) (k : Nat) (hk : k < 65536) (c : Int32) (g : Int32) : XC G mX10_addPart 7 (4) (24) [.ref a0, .int (nI k), .int c, .int g] w (fun r w' => r = xr (cdAdd (nI k) c g P.1) [eIAE, eISE] (.int (nI P.1)) ∧ IX G.2.2.1 w' (addP P (cdAdd (nI k) c g P.1) k (idx c) (idx g)) L pr O mp mk T dc tc ∧ FX w w') := by
  obtain ⟨-, rfl, rfl, rfl, rfl⟩ := hA
  have hIX0 := hIX
  obtain ⟨h0, hB, hP, hL, hXS, ⟨hc, hl, hS⟩, hO, ⟨qa, qb, hQ⟩, ⟨cc, hC⟩, ⟨cw, hWt⟩, ⟨dn, da, db, hD⟩, ⟨tt, hT, hTC⟩, ⟨fX, hX, hXf⟩, hc16, hdc, htl, htc⟩ := hIX
  obtain ⟨hPI, hk16, hLW, hOI, hpr, hmp0, hmz, hT20, hch⟩ := hIP
  have hcap : dc < 2 ^ 19 := by omega
  have htcap : tc < 2 ^ 19 := by omega
  refine XC.mono (fun r w' hq => ⟨hq.1, ?_⟩) (c_addPart h0 hB hP hPI.1 k hk c g)
  have hw := hq.2
  subst hw
  exact ⟨⟨h0, hB, ⟨⟨hP.1.1, rfl⟩, ⟨hP.2.1.1, rfl⟩, ⟨hP.2.2.1.1, rfl⟩, ⟨hP.2.2.2.1, rfl⟩⟩, hL, hXS, ⟨_, _, hS⟩, hO, ⟨_, _, hQ⟩, ⟨_, hC⟩, ⟨_, hWt⟩, ⟨_, _, _, hD⟩, ⟨_, hT, hTC⟩, ⟨_, hX, hXf⟩, hc16, hdc, htl, htc⟩, (by repeat (first | exact FX.rf | refine FX.relT ?_ | refine FX.relD ?_ | refine FX.set ?_ (by decide)))⟩
set_option maxRecDepth 20000 in
theorem cx_setPrice {P : PSt} {L : LSt} {pr : Nat → Nat} {O : OSt} {mp : Nat} {mk : Nat → UInt32} {T : List Nat} {a0 a39 a63 a64 : Nat} {dc tc : Nat} (hA : AD w a0 a39 a63 a64) (hIX : IX G.2.2.1 w P L pr O mp mk T dc tc) (hIP : IP P L pr O mp mk T) (p : Int32) (c : Int32) : XC G mX10_setPrice 7 (2) (12) [.ref a0, .int p, .int c] w (fun r w' => r = xr (cdPC p c P.1) [eIOB, eIAE] (.int (nI (P.2.2.1 (idx p)))) ∧ IX G.2.2.1 w' ((P.1, P.2.1, upIf (cdPC p c P.1) P.2.2.1 (idx p) (idx c), P.2.2.2)) L pr O mp mk T dc tc ∧ FX w w') := by
  obtain ⟨-, rfl, rfl, rfl, rfl⟩ := hA
  have hIX0 := hIX
  obtain ⟨h0, hB, hP, hL, hXS, ⟨hc, hl, hS⟩, hO, ⟨qa, qb, hQ⟩, ⟨cc, hC⟩, ⟨cw, hWt⟩, ⟨dn, da, db, hD⟩, ⟨tt, hT, hTC⟩, ⟨fX, hX, hXf⟩, hc16, hdc, htl, htc⟩ := hIX
  obtain ⟨hPI, hk16, hLW, hOI, hpr, hmp0, hmz, hT20, hch⟩ := hIP
  have hcap : dc < 2 ^ 19 := by omega
  have htcap : tc < 2 ^ 19 := by omega
  refine XC.mono (fun r w' hq => ⟨hq.1, ?_⟩) (c_setPrice h0 hB hP hPI.1 p c)
  have hw := hq.2
  subst hw
  exact ⟨⟨h0, hB, ⟨hP.1, hP.2.1, ⟨hP.2.2.1.1, rfl⟩, hP.2.2.2⟩, hL, hXS, ⟨_, _, hS⟩, hO, ⟨_, _, hQ⟩, ⟨_, hC⟩, ⟨_, hWt⟩, ⟨_, _, _, hD⟩, ⟨_, hT, hTC⟩, ⟨_, hX, hXf⟩, hc16, hdc, htl, htc⟩, (by repeat (first | exact FX.rf | refine FX.relT ?_ | refine FX.relD ?_ | refine FX.set ?_ (by decide)))⟩
set_option maxRecDepth 20000 in
theorem cx_kind {P : PSt} {L : LSt} {pr : Nat → Nat} {O : OSt} {mp : Nat} {mk : Nat → UInt32} {T : List Nat} {a0 a39 a63 a64 : Nat} {dc tc : Nat} (hA : AD w a0 a39 a63 a64) (hIX : IX G.2.2.1 w P L pr O mp mk T dc tc) (hIP : IP P L pr O mp mk T) (p : Int32) : XC G mX10_kind 7 (1) (6) [.ref a0, .int p] w (fun r w' => r = xr (cdP p P.1) [eIOB] (.int (nI (P.2.1 (idx p)))) ∧ IX G.2.2.1 w' P L pr O mp mk T dc tc ∧ FX w w') := by
  obtain ⟨-, rfl, rfl, rfl, rfl⟩ := hA
  have hIX0 := hIX
  obtain ⟨h0, hB, hP, hL, hXS, ⟨hc, hl, hS⟩, hO, ⟨qa, qb, hQ⟩, ⟨cc, hC⟩, ⟨cw, hWt⟩, ⟨dn, da, db, hD⟩, ⟨tt, hT, hTC⟩, ⟨fX, hX, hXf⟩, hc16, hdc, htl, htc⟩ := hIX
  obtain ⟨hPI, hk16, hLW, hOI, hpr, hmp0, hmz, hT20, hch⟩ := hIP
  have hcap : dc < 2 ^ 19 := by omega
  have htcap : tc < 2 ^ 19 := by omega
  refine XC.mono (fun r w' hq => ⟨hq.1, ?_⟩) (c_kind h0 hB hP hPI.1 hk16 p)
  have hw := hq.2
  subst hw
  exact ⟨⟨h0, hB, hP, hL, hXS, ⟨_, _, hS⟩, hO, ⟨_, _, hQ⟩, ⟨_, hC⟩, ⟨_, hWt⟩, ⟨_, _, _, hD⟩, ⟨_, hT, hTC⟩, ⟨_, hX, hXf⟩, hc16, hdc, htl, htc⟩, FX.rf⟩
set_option maxRecDepth 20000 in
theorem cx_addLine {P : PSt} {L : LSt} {pr : Nat → Nat} {O : OSt} {mp : Nat} {mk : Nat → UInt32} {T : List Nat} {a0 a39 a63 a64 : Nat} {dc tc : Nat} (hA : AD w a0 a39 a63 a64) (hIX : IX G.2.2.1 w P L pr O mp mk T dc tc) (hIP : IP P L pr O mp mk T) (p : Int32) (k : Int32) (c : Int32) (q : Int32) (a : Int32) (b : Int32) : XC G mX10_addLine 7 (8) (48) [.ref a0, .int p, .int k, .int c, .int q, .int a, .int b] w (fun r w' => r = xr (cdAL P.1 L p k c q a b) [eIOB, eIAE, eUOE, eISE] (.int (nI (ln L))) ∧ IX G.2.2.1 w' P (if (cdAL P.1 L p k c q a b) = 0 then newL L (idx p) (idx k) (idx c) (idx q) 0 (idx a) (idx b) 0 0 else L) pr O mp mk T dc tc ∧ FX w w') := by
  obtain ⟨-, rfl, rfl, rfl, rfl⟩ := hA
  have hIX0 := hIX
  obtain ⟨h0, hB, hP, hL, hXS, ⟨hc, hl, hS⟩, hO, ⟨qa, qb, hQ⟩, ⟨cc, hC⟩, ⟨cw, hWt⟩, ⟨dn, da, db, hD⟩, ⟨tt, hT, hTC⟩, ⟨fX, hX, hXf⟩, hc16, hdc, htl, htc⟩ := hIX
  obtain ⟨hPI, hk16, hLW, hOI, hpr, hmp0, hmz, hT20, hch⟩ := hIP
  have hcap : dc < 2 ^ 19 := by omega
  have htcap : tc < 2 ^ 19 := by omega
  refine XC.mono (fun r w' hq => ⟨hq.1, ?_⟩) (c_addLine h0 hB hP hL hXS rfl hLW.1 p k c q a b)
  have hw := hq.2
  by_cases hcw : cdAL P.1 L p k c q a b = 0
  · skip
    rw [if_pos hcw] at hw
    try simp only [if_pos hcw]
    subst hw
    exact ⟨IX.lines hIX0 (FL_xNew FL.rf) (XL_xNew hL) (XS_xNew hXS), (FL_xNew FL.rf).fx⟩
  · skip
    rw [if_neg hcw] at hw
    subst hw
    try simp only [if_neg hcw]
    exact ⟨⟨h0, hB, hP, hL, hXS, ⟨_, _, hS⟩, hO, ⟨_, _, hQ⟩, ⟨_, hC⟩, ⟨_, hWt⟩, ⟨_, _, _, hD⟩, ⟨_, hT, hTC⟩, ⟨_, hX, hXf⟩, hc16, hdc, htl, htc⟩, FX.rf⟩
set_option maxRecDepth 20000 in
theorem cx_addVariant {P : PSt} {L : LSt} {pr : Nat → Nat} {O : OSt} {mp : Nat} {mk : Nat → UInt32} {T : List Nat} {a0 a39 a63 a64 : Nat} {dc tc : Nat} (hA : AD w a0 a39 a63 a64) (hIX : IX G.2.2.1 w P L pr O mp mk T dc tc) (hIP : IP P L pr O mp mk T) (p : Int32) (k : Int32) (c : Int32) (q : Int32) (o : Int32) (s : Int32) : XC G mX10_addVariant 7 (8) (48) [.ref a0, .int p, .int k, .int c, .int q, .int o, .int s] w (fun r w' => r = xr (cdAV P.1 L p k c q o s) [eIOB, eIAE, eUOE, eISE] (.int (nI (ln L))) ∧ IX G.2.2.1 w' P (if (cdAV P.1 L p k c q o s) = 0 then newL L (idx p) (idx k) (idx c) (idx q) 0 1 999 (idx o + 1) (idx s) else L) pr O mp mk T dc tc ∧ FX w w') := by
  obtain ⟨-, rfl, rfl, rfl, rfl⟩ := hA
  have hIX0 := hIX
  obtain ⟨h0, hB, hP, hL, hXS, ⟨hc, hl, hS⟩, hO, ⟨qa, qb, hQ⟩, ⟨cc, hC⟩, ⟨cw, hWt⟩, ⟨dn, da, db, hD⟩, ⟨tt, hT, hTC⟩, ⟨fX, hX, hXf⟩, hc16, hdc, htl, htc⟩ := hIX
  obtain ⟨hPI, hk16, hLW, hOI, hpr, hmp0, hmz, hT20, hch⟩ := hIP
  have hcap : dc < 2 ^ 19 := by omega
  have htcap : tc < 2 ^ 19 := by omega
  refine XC.mono (fun r w' hq => ⟨hq.1, ?_⟩) (c_addVariant h0 hB hP hL hXS rfl hLW.1 p k c q o s)
  have hw := hq.2
  by_cases hcw : cdAV P.1 L p k c q o s = 0
  · skip
    rw [if_pos hcw] at hw
    try simp only [if_pos hcw]
    subst hw
    exact ⟨IX.lines hIX0 (FL_xNew FL.rf) (XL_xNew hL) (XS_xNew hXS), (FL_xNew FL.rf).fx⟩
  · skip
    rw [if_neg hcw] at hw
    subst hw
    try simp only [if_neg hcw]
    exact ⟨⟨h0, hB, hP, hL, hXS, ⟨_, _, hS⟩, hO, ⟨_, _, hQ⟩, ⟨_, hC⟩, ⟨_, hWt⟩, ⟨_, _, _, hD⟩, ⟨_, hT, hTC⟩, ⟨_, hX, hXf⟩, hc16, hdc, htl, htc⟩, FX.rf⟩
set_option maxRecDepth 20000 in
theorem cx_replaceFrom {P : PSt} {L : LSt} {pr : Nat → Nat} {O : OSt} {mp : Nat} {mk : Nat → UInt32} {T : List Nat} {a0 a39 a63 a64 : Nat} {dc tc : Nat} (hA : AD w a0 a39 a63 a64) (hIX : IX G.2.2.1 w P L pr O mp mk T dc tc) (hIP : IP P L pr O mp mk T) (l : Int32) (s : Int32) (c : Int32) (q : Int32) : XC G mX10_replaceFrom 7 (8) (48) [.ref a0, .int l, .int s, .int c, .int q] w (fun r w' => r = xr (cdRF P.1 L l s c q) [eIOB, eIAE, eUOE, eISE] (.int (nI (ln L))) ∧ IX G.2.2.1 w' P (if (cdRF P.1 L l s c q) = 0 then repL L (idx l) (idx s) (idx c) (idx q) else L) pr O mp mk T dc tc ∧ FX w w') := by
  obtain ⟨-, rfl, rfl, rfl, rfl⟩ := hA
  have hIX0 := hIX
  obtain ⟨h0, hB, hP, hL, hXS, ⟨hc, hl, hS⟩, hO, ⟨qa, qb, hQ⟩, ⟨cc, hC⟩, ⟨cw, hWt⟩, ⟨dn, da, db, hD⟩, ⟨tt, hT, hTC⟩, ⟨fX, hX, hXf⟩, hc16, hdc, htl, htc⟩ := hIX
  obtain ⟨hPI, hk16, hLW, hOI, hpr, hmp0, hmz, hT20, hch⟩ := hIP
  have hcap : dc < 2 ^ 19 := by omega
  have htcap : tc < 2 ^ 19 := by omega
  refine XC.mono (fun r w' hq => ⟨hq.1, ?_⟩) (c_replaceFrom h0 hB hP hL hXS rfl hLW.1 l s c q)
  have hw := hq.2
  by_cases hcw : cdRF P.1 L l s c q = 0
  · skip
    rw [if_pos hcw] at hw
    try simp only [if_pos hcw]
    subst hw
    exact ⟨IX.lines hIX0 (FL.set (FL.set (FL_xNew FL.rf) (by decide) (by decide)) (by decide) (by decide)) (XL_rep hL) (XS_rep hXS), (FL.set (FL.set (FL_xNew FL.rf) (by decide) (by decide)) (by decide) (by decide)).fx⟩
  · skip
    rw [if_neg hcw] at hw
    subst hw
    try simp only [if_neg hcw]
    exact ⟨⟨h0, hB, hP, hL, hXS, ⟨_, _, hS⟩, hO, ⟨_, _, hQ⟩, ⟨_, hC⟩, ⟨_, hWt⟩, ⟨_, _, _, hD⟩, ⟨_, hT, hTC⟩, ⟨_, hX, hXf⟩, hc16, hdc, htl, htc⟩, FX.rf⟩
set_option maxRecDepth 20000 in
theorem cx_endBefore {P : PSt} {L : LSt} {pr : Nat → Nat} {O : OSt} {mp : Nat} {mk : Nat → UInt32} {T : List Nat} {a0 a39 a63 a64 : Nat} {dc tc : Nat} (hA : AD w a0 a39 a63 a64) (hIX : IX G.2.2.1 w P L pr O mp mk T dc tc) (hIP : IP P L pr O mp mk T) (l : Int32) (s : Int32) : XC G mX10_endBefore 7 (2) (12) [.ref a0, .int l, .int s] w (fun r w' => r = xr (cdEB L l s) [eIOB, eIAE] (.int (nI (la L (idx l)))) ∧ IX G.2.2.1 w' P (if (cdEB L l s) = 0 then cutL L (idx l) (idx s - 1) else L) pr O mp mk T dc tc ∧ FX w w') := by
  obtain ⟨-, rfl, rfl, rfl, rfl⟩ := hA
  have hIX0 := hIX
  obtain ⟨h0, hB, hP, hL, hXS, ⟨hc, hl, hS⟩, hO, ⟨qa, qb, hQ⟩, ⟨cc, hC⟩, ⟨cw, hWt⟩, ⟨dn, da, db, hD⟩, ⟨tt, hT, hTC⟩, ⟨fX, hX, hXf⟩, hc16, hdc, htl, htc⟩ := hIX
  obtain ⟨hPI, hk16, hLW, hOI, hpr, hmp0, hmz, hT20, hch⟩ := hIP
  have hcap : dc < 2 ^ 19 := by omega
  have htcap : tc < 2 ^ 19 := by omega
  refine XC.mono (fun r w' hq => ⟨hq.1, ?_⟩) (c_endBefore h0 hB hL hLW.1 l s)
  have hw := hq.2
  by_cases hcw : cdEB L l s = 0
  · skip
    rw [if_pos hcw] at hw
    try simp only [if_pos hcw]
    subst hw
    unfold cutL
    generalize va_up (la L) (idx l) (idx s - 1) = f1
    exact ⟨⟨h0, hB, hP, (XL_la hL), (XS_la hXS), ⟨_, _, hS⟩, hO, ⟨_, _, hQ⟩, ⟨_, hC⟩, ⟨_, hWt⟩, ⟨_, _, _, hD⟩, ⟨_, hT, hTC⟩, ⟨_, hX, hXf⟩, hc16, hdc, htl, htc⟩, (by repeat (first | exact FX.rf | refine FX.relT ?_ | refine FX.relD ?_ | refine FX.set ?_ (by decide)))⟩
  · skip
    rw [if_neg hcw] at hw
    subst hw
    try simp only [if_neg hcw]
    exact ⟨⟨h0, hB, hP, hL, hXS, ⟨_, _, hS⟩, hO, ⟨_, _, hQ⟩, ⟨_, hC⟩, ⟨_, hWt⟩, ⟨_, _, _, hD⟩, ⟨_, hT, hTC⟩, ⟨_, hX, hXf⟩, hc16, hdc, htl, htc⟩, FX.rf⟩
set_option maxRecDepth 20000 in
theorem cx_setScrap {P : PSt} {L : LSt} {pr : Nat → Nat} {O : OSt} {mp : Nat} {mk : Nat → UInt32} {T : List Nat} {a0 a39 a63 a64 : Nat} {dc tc : Nat} (hA : AD w a0 a39 a63 a64) (hIX : IX G.2.2.1 w P L pr O mp mk T dc tc) (hIP : IP P L pr O mp mk T) (l : Int32) (c : Int32) : XC G mX10_setScrap 7 (2) (12) [.ref a0, .int l, .int c] w (fun r w' => r = xr (cdSS L l c) [eIOB, eIAE] (.int (nI (sc L (idx l)))) ∧ IX G.2.2.1 w' P (if (cdSS L l c) = 0 then (ln L, pa L, po L, ch L, qt L, va_up (sc L) (idx l) (idx c), fi L, la L, op L, cs L) else L) pr O mp mk T dc tc ∧ FX w w') := by
  obtain ⟨-, rfl, rfl, rfl, rfl⟩ := hA
  have hIX0 := hIX
  obtain ⟨h0, hB, hP, hL, hXS, ⟨hc, hl, hS⟩, hO, ⟨qa, qb, hQ⟩, ⟨cc, hC⟩, ⟨cw, hWt⟩, ⟨dn, da, db, hD⟩, ⟨tt, hT, hTC⟩, ⟨fX, hX, hXf⟩, hc16, hdc, htl, htc⟩ := hIX
  obtain ⟨hPI, hk16, hLW, hOI, hpr, hmp0, hmz, hT20, hch⟩ := hIP
  have hcap : dc < 2 ^ 19 := by omega
  have htcap : tc < 2 ^ 19 := by omega
  refine XC.mono (fun r w' hq => ⟨hq.1, ?_⟩) (c_setScrap h0 hB hL hLW.1 l c)
  have hw := hq.2
  by_cases hcw : cdSS L l c = 0
  · skip
    rw [if_pos hcw] at hw
    try simp only [if_pos hcw]
    subst hw
    generalize va_up (sc L) (idx l) (idx c) = f1
    exact ⟨⟨h0, hB, hP, (XL_sc hL), (XS_sc hXS), ⟨_, _, hS⟩, hO, ⟨_, _, hQ⟩, ⟨_, hC⟩, ⟨_, hWt⟩, ⟨_, _, _, hD⟩, ⟨_, hT, hTC⟩, ⟨_, hX, hXf⟩, hc16, hdc, htl, htc⟩, (by repeat (first | exact FX.rf | refine FX.relT ?_ | refine FX.relD ?_ | refine FX.set ?_ (by decide)))⟩
  · skip
    rw [if_neg hcw] at hw
    subst hw
    try simp only [if_neg hcw]
    exact ⟨⟨h0, hB, hP, hL, hXS, ⟨_, _, hS⟩, hO, ⟨_, _, hQ⟩, ⟨_, hC⟩, ⟨_, hWt⟩, ⟨_, _, _, hD⟩, ⟨_, hT, hTC⟩, ⟨_, hX, hXf⟩, hc16, hdc, htl, htc⟩, FX.rf⟩
set_option maxRecDepth 20000 in
theorem cx_lastSerial {P : PSt} {L : LSt} {pr : Nat → Nat} {O : OSt} {mp : Nat} {mk : Nat → UInt32} {T : List Nat} {a0 a39 a63 a64 : Nat} {dc tc : Nat} (hA : AD w a0 a39 a63 a64) (hIX : IX G.2.2.1 w P L pr O mp mk T dc tc) (hIP : IP P L pr O mp mk T) (l : Int32) : XC G mX10_lastSerial 7 (1) (6) [.ref a0, .int l] w (fun r w' => r = xr (cdP l (ln L)) [eIOB] (.int (nI (la L (idx l)))) ∧ IX G.2.2.1 w' P L pr O mp mk T dc tc ∧ FX w w') := by
  obtain ⟨-, rfl, rfl, rfl, rfl⟩ := hA
  have hIX0 := hIX
  obtain ⟨h0, hB, hP, hL, hXS, ⟨hc, hl, hS⟩, hO, ⟨qa, qb, hQ⟩, ⟨cc, hC⟩, ⟨cw, hWt⟩, ⟨dn, da, db, hD⟩, ⟨tt, hT, hTC⟩, ⟨fX, hX, hXf⟩, hc16, hdc, htl, htc⟩ := hIX
  obtain ⟨hPI, hk16, hLW, hOI, hpr, hmp0, hmz, hT20, hch⟩ := hIP
  have hcap : dc < 2 ^ 19 := by omega
  have htcap : tc < 2 ^ 19 := by omega
  refine XC.mono (fun r w' hq => ⟨hq.1, ?_⟩) (c_lastSerial h0 hB hL hLW.1 l)
  have hw := hq.2
  subst hw
  exact ⟨⟨h0, hB, hP, hL, hXS, ⟨_, _, hS⟩, hO, ⟨_, _, hQ⟩, ⟨_, hC⟩, ⟨_, hWt⟩, ⟨_, _, _, hD⟩, ⟨_, hT, hTC⟩, ⟨_, hX, hXf⟩, hc16, hdc, htl, htc⟩, FX.rf⟩
set_option maxRecDepth 20000 in
theorem cx_holds {P : PSt} {L : LSt} {pr : Nat → Nat} {O : OSt} {mp : Nat} {mk : Nat → UInt32} {T : List Nat} {a0 a39 a63 a64 : Nat} {dc tc : Nat} (hA : AD w a0 a39 a63 a64) (hIX : IX G.2.2.1 w P L pr O mp mk T dc tc) (hIP : IP P L pr O mp mk T) (l : Int32) (s : Int32) : XC G mX10_holds 7 (2) (12) [.ref a0, .int l, .int s] w (fun r w' => r = xr (cdA l s (ln L)) [eIOB, eIAE] (.int (bI (hld L pr (idx s) (idx l)))) ∧ IX G.2.2.1 w' P L pr O mp mk T dc tc ∧ FX w w') := by
  obtain ⟨-, rfl, rfl, rfl, rfl⟩ := hA
  have hIX0 := hIX
  obtain ⟨h0, hB, hP, hL, hXS, ⟨hc, hl, hS⟩, hO, ⟨qa, qb, hQ⟩, ⟨cc, hC⟩, ⟨cw, hWt⟩, ⟨dn, da, db, hD⟩, ⟨tt, hT, hTC⟩, ⟨fX, hX, hXf⟩, hc16, hdc, htl, htc⟩ := hIX
  obtain ⟨hPI, hk16, hLW, hOI, hpr, hmp0, hmz, hT20, hch⟩ := hIP
  have hcap : dc < 2 ^ 19 := by omega
  have htcap : tc < 2 ^ 19 := by omega
  refine XC.mono (fun r w' hq => ⟨hq.1, ?_⟩) (c_holds h0 hB hL hLW.1 hpr l s)
  have hw := hq.2
  subst hw
  exact ⟨⟨h0, hB, hP, hL, hXS, ⟨_, _, hS⟩, hO, ⟨_, _, hQ⟩, ⟨_, hC⟩, ⟨_, hWt⟩, ⟨_, _, _, hD⟩, ⟨_, hT, hTC⟩, ⟨_, hX, hXf⟩, hc16, hdc, htl, htc⟩, FX.rf⟩
set_option maxRecDepth 20000 in
theorem cx_setChoice {P : PSt} {L : LSt} {pr : Nat → Nat} {O : OSt} {mp : Nat} {mk : Nat → UInt32} {T : List Nat} {a0 a39 a63 a64 : Nat} {dc tc : Nat} (hA : AD w a0 a39 a63 a64) (hIX : IX G.2.2.1 w P L pr O mp mk T dc tc) (hIP : IP P L pr O mp mk T) (l : Int32) (c : Int32) : XC G mX10_setChoice 7 (2) (12) [.ref a0, .int l, .int c] w (fun r w' => r = xr (cdSC l c) [eIOB, eIAE] (.int (nI (pr (idx l)))) ∧ IX G.2.2.1 w' P L (if (cdSC l c) = 0 then va_up pr (idx l) (idx c) else pr) O mp mk T dc tc ∧ FX w w') := by
  obtain ⟨-, rfl, rfl, rfl, rfl⟩ := hA
  have hIX0 := hIX
  obtain ⟨h0, hB, hP, hL, hXS, ⟨hc, hl, hS⟩, hO, ⟨qa, qb, hQ⟩, ⟨cc, hC⟩, ⟨cw, hWt⟩, ⟨dn, da, db, hD⟩, ⟨tt, hT, hTC⟩, ⟨fX, hX, hXf⟩, hc16, hdc, htl, htc⟩ := hIX
  obtain ⟨hPI, hk16, hLW, hOI, hpr, hmp0, hmz, hT20, hch⟩ := hIP
  have hcap : dc < 2 ^ 19 := by omega
  have htcap : tc < 2 ^ 19 := by omega
  refine XC.mono (fun r w' hq => ⟨hq.1, ?_⟩) (c_setChoice h0 hpr l c)
  have hw := hq.2
  by_cases hcw : cdSC l c = 0
  · skip
    rw [if_pos hcw] at hw
    try simp only [if_pos hcw]
    subst hw
    exact ⟨⟨⟨h0.1, rfl⟩, hB, hP, hL, hXS, ⟨_, _, hS⟩, hO, ⟨_, _, hQ⟩, ⟨_, hC⟩, ⟨_, hWt⟩, ⟨_, _, _, hD⟩, ⟨_, hT, hTC⟩, ⟨_, hX, hXf⟩, hc16, hdc, htl, htc⟩, (by repeat (first | exact FX.rf | refine FX.relT ?_ | refine FX.relD ?_ | refine FX.set ?_ (by decide)))⟩
  · skip
    rw [if_neg hcw] at hw
    subst hw
    try simp only [if_neg hcw]
    exact ⟨⟨h0, hB, hP, hL, hXS, ⟨_, _, hS⟩, hO, ⟨_, _, hQ⟩, ⟨_, hC⟩, ⟨_, hWt⟩, ⟨_, _, _, hD⟩, ⟨_, hT, hTC⟩, ⟨_, hX, hXf⟩, hc16, hdc, htl, htc⟩, FX.rf⟩
set_option maxRecDepth 20000 in
theorem cx_choice {P : PSt} {L : LSt} {pr : Nat → Nat} {O : OSt} {mp : Nat} {mk : Nat → UInt32} {T : List Nat} {a0 a39 a63 a64 : Nat} {dc tc : Nat} (hA : AD w a0 a39 a63 a64) (hIX : IX G.2.2.1 w P L pr O mp mk T dc tc) (hIP : IP P L pr O mp mk T) (l : Int32) : XC G mX10_choice 7 (1) (6) [.ref a0, .int l] w (fun r w' => r = xr (cdC l) [eIOB] (.int (nI (pr (idx l)))) ∧ IX G.2.2.1 w' P L pr O mp mk T dc tc ∧ FX w w') := by
  obtain ⟨-, rfl, rfl, rfl, rfl⟩ := hA
  have hIX0 := hIX
  obtain ⟨h0, hB, hP, hL, hXS, ⟨hc, hl, hS⟩, hO, ⟨qa, qb, hQ⟩, ⟨cc, hC⟩, ⟨cw, hWt⟩, ⟨dn, da, db, hD⟩, ⟨tt, hT, hTC⟩, ⟨fX, hX, hXf⟩, hc16, hdc, htl, htc⟩ := hIX
  obtain ⟨hPI, hk16, hLW, hOI, hpr, hmp0, hmz, hT20, hch⟩ := hIP
  have hcap : dc < 2 ^ 19 := by omega
  have htcap : tc < 2 ^ 19 := by omega
  refine XC.mono (fun r w' hq => ⟨hq.1, ?_⟩) (c_choice h0 hpr l)
  have hw := hq.2
  subst hw
  exact ⟨⟨h0, hB, hP, hL, hXS, ⟨_, _, hS⟩, hO, ⟨_, _, hQ⟩, ⟨_, hC⟩, ⟨_, hWt⟩, ⟨_, _, _, hD⟩, ⟨_, hT, hTC⟩, ⟨_, hX, hXf⟩, hc16, hdc, htl, htc⟩, FX.rf⟩
set_option maxRecDepth 20000 in
theorem cx_listSize {P : PSt} {L : LSt} {pr : Nat → Nat} {O : OSt} {mp : Nat} {mk : Nat → UInt32} {T : List Nat} {a0 a39 a63 a64 : Nat} {dc tc : Nat} (hA : AD w a0 a39 a63 a64) (hIX : IX G.2.2.1 w P L pr O mp mk T dc tc) (hIP : IP P L pr O mp mk T) (a : Int32) (s : Int32) : XC G mX10_listSize 9 (2 + ((if cdA a s P.1 = 0 then capL 0 dc (listN P.2.1 L pr (idx s) 5 (idx a) 1).length else dc) - dc)) (12 + 4 * ((if cdA a s P.1 = 0 then capL 0 dc (listN P.2.1 L pr (idx s) 5 (idx a) 1).length else dc) - dc)) [.ref a0, .int a, .int s] w (fun r w' => r = xr (cdA a s P.1) [eIOB, eIAE] (.int (nI (listN P.2.1 L pr (idx s) 5 (idx a) 1).length)) ∧ IX G.2.2.1 w' P L pr O mp mk T (if cdA a s P.1 = 0 then capL 0 dc (listN P.2.1 L pr (idx s) 5 (idx a) 1).length else dc) tc ∧ FX w w') := by
  obtain ⟨-, rfl, rfl, rfl, rfl⟩ := hA
  have hIX0 := hIX
  obtain ⟨h0, hB, hP, hL, hXS, ⟨hc, hl, hS⟩, hO, ⟨qa, qb, hQ⟩, ⟨cc, hC⟩, ⟨cw, hWt⟩, ⟨dn, da, db, hD⟩, ⟨tt, hT, hTC⟩, ⟨fX, hX, hXf⟩, hc16, hdc, htl, htc⟩ := hIX
  obtain ⟨hPI, hk16, hLW, hOI, hpr, hmp0, hmz, hT20, hch⟩ := hIP
  have hcap : dc < 2 ^ 19 := by omega
  have htcap : tc < 2 ^ 19 := by omega
  by_cases hcw : cdA a s P.1 = 0
  · simp only [if_pos hcw]
    refine XC.mono (fun r w' hq => ⟨hq.1, ?_⟩) (c_listSize h0 hB hP hL hS rfl hLW.1 hpr hLW.2.2 hk16 hD hc16 hcap a s)
    have hw := hq.2
    unfold lstX at hw
    rw [if_pos hcw] at hw
    try simp only [if_pos hcw]
    have hlen : (listN P.2.1 L pr (idx s) 5 (idx a) 1).length ≤ 1296 := xsN_len hLW.2.2
    have cg := capL_ge (n := 0) (cap := dc) (k := (listN P.2.1 L pr (idx s) 5 (idx a) 1).length) (by omega) (by omega)
    have cl := capL_le (n := 0) (cap := dc) (b := 2592) (k := (listN P.2.1 L pr (idx s) 5 (idx a) 1).length) (by omega) hdc (by omega)
    obtain ⟨q1, q2, a1, b1, hw, -⟩ := hw
    subst hw
    exact ⟨⟨h0, hB, hP, hL, hXS, ⟨_, _, ⟨⟨hS.1.1, rfl⟩, ⟨hS.2.1, rfl⟩⟩⟩, hO, ⟨_, _, hQ⟩, ⟨_, hC⟩, ⟨_, hWt⟩, ⟨_, _, _, ⟨⟨hD.1.1, rfl⟩, ⟨hD.2.1.1, rfl⟩, ⟨hD.2.2.1, rfl⟩⟩⟩, ⟨_, hT, hTC⟩, ⟨_, hX, hXf⟩, (by omega), cl, htl, htc⟩, (by repeat (first | exact FX.rf | refine FX.relT ?_ | refine FX.relD ?_ | refine FX.set ?_ (by decide)))⟩
  · simp only [if_neg hcw]
    by_cases hp : inP a P.1 = true
    · have hsf : btw s 1 999 = false := by cases hb : btw s 1 999 with | false => rfl | true => exact absurd (cdA_0 hp hb) hcw
      have he : (listN P.2.1 L pr (idx s) 5 (idx a) 1) = [] := listN_no hLW.1 (idx_out hsf)
      have e1 : dc - dc = capL 0 dc (listN P.2.1 L pr (idx s) 5 (idx a) 1).length - dc := by rw [he]; rfl
      rw [e1]
      refine XC.mono (fun r w' hq => ⟨hq.1, ?_⟩) (c_listSize h0 hB hP hL hS rfl hLW.1 hpr hLW.2.2 hk16 hD hc16 hcap a s)
      have hw := hq.2
      unfold lstX at hw
      rw [if_neg hcw] at hw
      subst hw
      try simp only [if_neg hcw]
      exact ⟨⟨h0, hB, hP, hL, hXS, ⟨_, _, hS⟩, hO, ⟨_, _, hQ⟩, ⟨_, hC⟩, ⟨_, hWt⟩, ⟨_, _, _, hD⟩, ⟨_, hT, hTC⟩, ⟨_, hX, hXf⟩, hc16, hdc, htl, htc⟩, FX.rf⟩
    · have hf : inP a P.1 = false := by cases hb : inP a P.1 with | false => rfl | true => exact absurd hb hp
      refine XC.mono (fun r w' hq => ?_) (c_listSize_f (by omega) (by omega) h0 hB hP a s hf)
      obtain ⟨hr, hw⟩ := hq
      subst hw
      refine ⟨?_, ⟨h0, hB, hP, hL, hXS, ⟨_, _, hS⟩, hO, ⟨_, _, hQ⟩, ⟨_, hC⟩, ⟨_, hWt⟩, ⟨_, _, _, hD⟩, ⟨_, hT, hTC⟩, ⟨_, hX, hXf⟩, hc16, hdc, htl, htc⟩, FX.rf⟩
      rw [hr, cdA_1 hf]; rfl
set_option maxRecDepth 20000 in
theorem cx_listPart {P : PSt} {L : LSt} {pr : Nat → Nat} {O : OSt} {mp : Nat} {mk : Nat → UInt32} {T : List Nat} {a0 a39 a63 a64 : Nat} {dc tc : Nat} (hA : AD w a0 a39 a63 a64) (hIX : IX G.2.2.1 w P L pr O mp mk T dc tc) (hIP : IP P L pr O mp mk T) (a : Int32) (s : Int32) (i : Int32) : XC G mX10_listPart 9 (3 + ((if cdA a s P.1 = 0 then capL 0 dc (listN P.2.1 L pr (idx s) 5 (idx a) 1).length else dc) - dc)) (18 + 4 * ((if cdA a s P.1 = 0 then capL 0 dc (listN P.2.1 L pr (idx s) 5 (idx a) 1).length else dc) - dc)) [.ref a0, .int a, .int s, .int i] w (fun r w' => r = xr (cdLP a s i P.1 (listN P.2.1 L pr (idx s) 5 (idx a) 1).length) [eIOB, eIAE, eNSE] (.int (nI ((listN P.2.1 L pr (idx s) 5 (idx a) 1).getD (idx i) (0, 0)).1)) ∧ IX G.2.2.1 w' P L pr O mp mk T (if cdA a s P.1 = 0 then capL 0 dc (listN P.2.1 L pr (idx s) 5 (idx a) 1).length else dc) tc ∧ FX w w') := by
  obtain ⟨-, rfl, rfl, rfl, rfl⟩ := hA
  have hIX0 := hIX
  obtain ⟨h0, hB, hP, hL, hXS, ⟨hc, hl, hS⟩, hO, ⟨qa, qb, hQ⟩, ⟨cc, hC⟩, ⟨cw, hWt⟩, ⟨dn, da, db, hD⟩, ⟨tt, hT, hTC⟩, ⟨fX, hX, hXf⟩, hc16, hdc, htl, htc⟩ := hIX
  obtain ⟨hPI, hk16, hLW, hOI, hpr, hmp0, hmz, hT20, hch⟩ := hIP
  have hcap : dc < 2 ^ 19 := by omega
  have htcap : tc < 2 ^ 19 := by omega
  by_cases hcw : cdA a s P.1 = 0
  · simp only [if_pos hcw]
    refine XC.mono (fun r w' hq => ⟨hq.1, ?_⟩) (c_listPart h0 hB hP hL hS rfl hLW.1 hpr hLW.2.2 hk16 hD hc16 hcap a s i)
    have hw := hq.2
    unfold lstX at hw
    rw [if_pos hcw] at hw
    try simp only [if_pos hcw]
    have hlen : (listN P.2.1 L pr (idx s) 5 (idx a) 1).length ≤ 1296 := xsN_len hLW.2.2
    have cg := capL_ge (n := 0) (cap := dc) (k := (listN P.2.1 L pr (idx s) 5 (idx a) 1).length) (by omega) (by omega)
    have cl := capL_le (n := 0) (cap := dc) (b := 2592) (k := (listN P.2.1 L pr (idx s) 5 (idx a) 1).length) (by omega) hdc (by omega)
    obtain ⟨q1, q2, a1, b1, hw, -⟩ := hw
    subst hw
    exact ⟨⟨h0, hB, hP, hL, hXS, ⟨_, _, ⟨⟨hS.1.1, rfl⟩, ⟨hS.2.1, rfl⟩⟩⟩, hO, ⟨_, _, hQ⟩, ⟨_, hC⟩, ⟨_, hWt⟩, ⟨_, _, _, ⟨⟨hD.1.1, rfl⟩, ⟨hD.2.1.1, rfl⟩, ⟨hD.2.2.1, rfl⟩⟩⟩, ⟨_, hT, hTC⟩, ⟨_, hX, hXf⟩, (by omega), cl, htl, htc⟩, (by repeat (first | exact FX.rf | refine FX.relT ?_ | refine FX.relD ?_ | refine FX.set ?_ (by decide)))⟩
  · simp only [if_neg hcw]
    by_cases hp : inP a P.1 = true
    · have hsf : btw s 1 999 = false := by cases hb : btw s 1 999 with | false => rfl | true => exact absurd (cdA_0 hp hb) hcw
      have he : (listN P.2.1 L pr (idx s) 5 (idx a) 1) = [] := listN_no hLW.1 (idx_out hsf)
      have e1 : dc - dc = capL 0 dc (listN P.2.1 L pr (idx s) 5 (idx a) 1).length - dc := by rw [he]; rfl
      rw [e1]
      refine XC.mono (fun r w' hq => ⟨hq.1, ?_⟩) (c_listPart h0 hB hP hL hS rfl hLW.1 hpr hLW.2.2 hk16 hD hc16 hcap a s i)
      have hw := hq.2
      unfold lstX at hw
      rw [if_neg hcw] at hw
      subst hw
      try simp only [if_neg hcw]
      exact ⟨⟨h0, hB, hP, hL, hXS, ⟨_, _, hS⟩, hO, ⟨_, _, hQ⟩, ⟨_, hC⟩, ⟨_, hWt⟩, ⟨_, _, _, hD⟩, ⟨_, hT, hTC⟩, ⟨_, hX, hXf⟩, hc16, hdc, htl, htc⟩, FX.rf⟩
    · have hf : inP a P.1 = false := by cases hb : inP a P.1 with | false => rfl | true => exact absurd hb hp
      refine XC.mono (fun r w' hq => ?_) (c_listPart_f (by omega) (by omega) h0 hB hP a s i hf)
      obtain ⟨hr, hw⟩ := hq
      subst hw
      refine ⟨?_, ⟨h0, hB, hP, hL, hXS, ⟨_, _, hS⟩, hO, ⟨_, _, hQ⟩, ⟨_, hC⟩, ⟨_, hWt⟩, ⟨_, _, _, hD⟩, ⟨_, hT, hTC⟩, ⟨_, hX, hXf⟩, hc16, hdc, htl, htc⟩, FX.rf⟩
      rw [hr, cdLP_n hcw, cdA_1 hf]; rfl
set_option maxRecDepth 20000 in
theorem cx_listQuantity {P : PSt} {L : LSt} {pr : Nat → Nat} {O : OSt} {mp : Nat} {mk : Nat → UInt32} {T : List Nat} {a0 a39 a63 a64 : Nat} {dc tc : Nat} (hA : AD w a0 a39 a63 a64) (hIX : IX G.2.2.1 w P L pr O mp mk T dc tc) (hIP : IP P L pr O mp mk T) (a : Int32) (s : Int32) (i : Int32) : XC G mX10_listQuantity 9 (3 + ((if cdA a s P.1 = 0 then capL 0 dc (listN P.2.1 L pr (idx s) 5 (idx a) 1).length else dc) - dc)) (18 + 4 * ((if cdA a s P.1 = 0 then capL 0 dc (listN P.2.1 L pr (idx s) 5 (idx a) 1).length else dc) - dc)) [.ref a0, .int a, .int s, .int i] w (fun r w' => r = xr (cdLP a s i P.1 (listN P.2.1 L pr (idx s) 5 (idx a) 1).length) [eIOB, eIAE, eNSE] (.long (nL ((listN P.2.1 L pr (idx s) 5 (idx a) 1).getD (idx i) (0, 0)).2)) ∧ IX G.2.2.1 w' P L pr O mp mk T (if cdA a s P.1 = 0 then capL 0 dc (listN P.2.1 L pr (idx s) 5 (idx a) 1).length else dc) tc ∧ FX w w') := by
  obtain ⟨-, rfl, rfl, rfl, rfl⟩ := hA
  have hIX0 := hIX
  obtain ⟨h0, hB, hP, hL, hXS, ⟨hc, hl, hS⟩, hO, ⟨qa, qb, hQ⟩, ⟨cc, hC⟩, ⟨cw, hWt⟩, ⟨dn, da, db, hD⟩, ⟨tt, hT, hTC⟩, ⟨fX, hX, hXf⟩, hc16, hdc, htl, htc⟩ := hIX
  obtain ⟨hPI, hk16, hLW, hOI, hpr, hmp0, hmz, hT20, hch⟩ := hIP
  have hcap : dc < 2 ^ 19 := by omega
  have htcap : tc < 2 ^ 19 := by omega
  by_cases hcw : cdA a s P.1 = 0
  · simp only [if_pos hcw]
    refine XC.mono (fun r w' hq => ⟨hq.1, ?_⟩) (c_listQuantity h0 hB hP hL hS rfl hLW.1 hpr hLW.2.2 hk16 hD hc16 hcap a s i)
    have hw := hq.2
    unfold lstX at hw
    rw [if_pos hcw] at hw
    try simp only [if_pos hcw]
    have hlen : (listN P.2.1 L pr (idx s) 5 (idx a) 1).length ≤ 1296 := xsN_len hLW.2.2
    have cg := capL_ge (n := 0) (cap := dc) (k := (listN P.2.1 L pr (idx s) 5 (idx a) 1).length) (by omega) (by omega)
    have cl := capL_le (n := 0) (cap := dc) (b := 2592) (k := (listN P.2.1 L pr (idx s) 5 (idx a) 1).length) (by omega) hdc (by omega)
    obtain ⟨q1, q2, a1, b1, hw, -⟩ := hw
    subst hw
    exact ⟨⟨h0, hB, hP, hL, hXS, ⟨_, _, ⟨⟨hS.1.1, rfl⟩, ⟨hS.2.1, rfl⟩⟩⟩, hO, ⟨_, _, hQ⟩, ⟨_, hC⟩, ⟨_, hWt⟩, ⟨_, _, _, ⟨⟨hD.1.1, rfl⟩, ⟨hD.2.1.1, rfl⟩, ⟨hD.2.2.1, rfl⟩⟩⟩, ⟨_, hT, hTC⟩, ⟨_, hX, hXf⟩, (by omega), cl, htl, htc⟩, (by repeat (first | exact FX.rf | refine FX.relT ?_ | refine FX.relD ?_ | refine FX.set ?_ (by decide)))⟩
  · simp only [if_neg hcw]
    by_cases hp : inP a P.1 = true
    · have hsf : btw s 1 999 = false := by cases hb : btw s 1 999 with | false => rfl | true => exact absurd (cdA_0 hp hb) hcw
      have he : (listN P.2.1 L pr (idx s) 5 (idx a) 1) = [] := listN_no hLW.1 (idx_out hsf)
      have e1 : dc - dc = capL 0 dc (listN P.2.1 L pr (idx s) 5 (idx a) 1).length - dc := by rw [he]; rfl
      rw [e1]
      refine XC.mono (fun r w' hq => ⟨hq.1, ?_⟩) (c_listQuantity h0 hB hP hL hS rfl hLW.1 hpr hLW.2.2 hk16 hD hc16 hcap a s i)
      have hw := hq.2
      unfold lstX at hw
      rw [if_neg hcw] at hw
      subst hw
      try simp only [if_neg hcw]
      exact ⟨⟨h0, hB, hP, hL, hXS, ⟨_, _, hS⟩, hO, ⟨_, _, hQ⟩, ⟨_, hC⟩, ⟨_, hWt⟩, ⟨_, _, _, hD⟩, ⟨_, hT, hTC⟩, ⟨_, hX, hXf⟩, hc16, hdc, htl, htc⟩, FX.rf⟩
    · have hf : inP a P.1 = false := by cases hb : inP a P.1 with | false => rfl | true => exact absurd hb hp
      refine XC.mono (fun r w' hq => ?_) (c_listQuantity_f (by omega) (by omega) h0 hB hP a s i hf)
      obtain ⟨hr, hw⟩ := hq
      subst hw
      refine ⟨?_, ⟨h0, hB, hP, hL, hXS, ⟨_, _, hS⟩, hO, ⟨_, _, hQ⟩, ⟨_, hC⟩, ⟨_, hWt⟩, ⟨_, _, _, hD⟩, ⟨_, hT, hTC⟩, ⟨_, hX, hXf⟩, hc16, hdc, htl, htc⟩, FX.rf⟩
      rw [hr, cdLP_n hcw, cdA_1 hf]; rfl
set_option maxRecDepth 20000 in
theorem cx_quantity {P : PSt} {L : LSt} {pr : Nat → Nat} {O : OSt} {mp : Nat} {mk : Nat → UInt32} {T : List Nat} {a0 a39 a63 a64 : Nat} {dc tc : Nat} (hA : AD w a0 a39 a63 a64) (hIX : IX G.2.2.1 w P L pr O mp mk T dc tc) (hIP : IP P L pr O mp mk T) (a : Int32) (b : Int32) (s : Int32) : XC G mX10_quantity 7 (4) (24) [.ref a0, .int a, .int b, .int s] w (fun r w' => r = xr (cdQ a b s P.1) [eIOB, eIAE] (.long (nL (hasN L pr (idx s) 5 (idx a) (idx b)))) ∧ IX G.2.2.1 w' P L pr O mp mk T dc tc ∧ FX w w') := by
  obtain ⟨-, rfl, rfl, rfl, rfl⟩ := hA
  have hIX0 := hIX
  obtain ⟨h0, hB, hP, hL, hXS, ⟨hc, hl, hS⟩, hO, ⟨qa, qb, hQ⟩, ⟨cc, hC⟩, ⟨cw, hWt⟩, ⟨dn, da, db, hD⟩, ⟨tt, hT, hTC⟩, ⟨fX, hX, hXf⟩, hc16, hdc, htl, htc⟩ := hIX
  obtain ⟨hPI, hk16, hLW, hOI, hpr, hmp0, hmz, hT20, hch⟩ := hIP
  have hcap : dc < 2 ^ 19 := by omega
  have htcap : tc < 2 ^ 19 := by omega
  refine XC.mono (fun r w' hq => ⟨hq.1, ?_⟩) (c_quantity h0 hB hP hL hS rfl hLW.1 hpr hLW.2.2 hQ a b s)
  have hw := hq.2
  by_cases hcw : cdQ a b s P.1 = 0
  · skip
    rw [if_pos hcw] at hw
    try simp only [if_pos hcw]
    obtain ⟨x1, y1, hw⟩ := hw
    subst hw
    exact ⟨⟨h0, hB, hP, hL, hXS, ⟨_, _, ⟨⟨hS.1.1, rfl⟩, ⟨hS.2.1, rfl⟩⟩⟩, hO, ⟨_, _, ⟨hQ.1, ⟨hQ.2.1.1, rfl⟩, ⟨hQ.2.2.1, rfl⟩⟩⟩, ⟨_, hC⟩, ⟨_, hWt⟩, ⟨_, _, _, hD⟩, ⟨_, hT, hTC⟩, ⟨_, hX, hXf⟩, hc16, hdc, htl, htc⟩, (by repeat (first | exact FX.rf | refine FX.relT ?_ | refine FX.relD ?_ | refine FX.set ?_ (by decide)))⟩
  · skip
    rw [if_neg hcw] at hw
    subst hw
    try simp only [if_neg hcw]
    exact ⟨⟨h0, hB, hP, hL, hXS, ⟨_, _, hS⟩, hO, ⟨_, _, hQ⟩, ⟨_, hC⟩, ⟨_, hWt⟩, ⟨_, _, _, hD⟩, ⟨_, hT, hTC⟩, ⟨_, hX, hXf⟩, hc16, hdc, htl, htc⟩, FX.rf⟩
set_option maxRecDepth 20000 in
theorem cx_quantityByWalking {P : PSt} {L : LSt} {pr : Nat → Nat} {O : OSt} {mp : Nat} {mk : Nat → UInt32} {T : List Nat} {a0 a39 a63 a64 : Nat} {dc tc : Nat} (hA : AD w a0 a39 a63 a64) (hIX : IX G.2.2.1 w P L pr O mp mk T dc tc) (hIP : IP P L pr O mp mk T) (a : Int32) (b : Int32) (s : Int32) : XC G mX10_quantityByWalking 7 (4) (24) [.ref a0, .int a, .int b, .int s] w (fun r w' => r = xr (cdQ a b s P.1) [eIOB, eIAE] (.long (nL (hasN L pr (idx s) 5 (idx a) (idx b)))) ∧ IX G.2.2.1 w' P L pr O mp mk T dc tc ∧ FX w w') := by
  obtain ⟨-, rfl, rfl, rfl, rfl⟩ := hA
  have hIX0 := hIX
  obtain ⟨h0, hB, hP, hL, hXS, ⟨hc, hl, hS⟩, hO, ⟨qa, qb, hQ⟩, ⟨cc, hC⟩, ⟨cw, hWt⟩, ⟨dn, da, db, hD⟩, ⟨tt, hT, hTC⟩, ⟨fX, hX, hXf⟩, hc16, hdc, htl, htc⟩ := hIX
  obtain ⟨hPI, hk16, hLW, hOI, hpr, hmp0, hmz, hT20, hch⟩ := hIP
  have hcap : dc < 2 ^ 19 := by omega
  have htcap : tc < 2 ^ 19 := by omega
  refine XC.mono (fun r w' hq => ⟨hq.1, ?_⟩) (c_quantityW (qa := qa) (qb := qb) h0 hB hP hL hS rfl hLW.1 hpr hLW.2.2 a b s)
  have hw := hq.2
  by_cases hcw : cdQ a b s P.1 = 0
  · skip
    rw [if_pos hcw] at hw
    try simp only [if_pos hcw]
    subst hw
    exact ⟨⟨h0, hB, hP, hL, hXS, ⟨_, _, ⟨⟨hS.1.1, rfl⟩, ⟨hS.2.1, rfl⟩⟩⟩, hO, ⟨_, _, hQ⟩, ⟨_, hC⟩, ⟨_, hWt⟩, ⟨_, _, _, hD⟩, ⟨_, hT, hTC⟩, ⟨_, hX, hXf⟩, hc16, hdc, htl, htc⟩, (by repeat (first | exact FX.rf | refine FX.relT ?_ | refine FX.relD ?_ | refine FX.set ?_ (by decide)))⟩
  · skip
    rw [if_neg hcw] at hw
    subst hw
    try simp only [if_neg hcw]
    exact ⟨⟨h0, hB, hP, hL, hXS, ⟨_, _, hS⟩, hO, ⟨_, _, hQ⟩, ⟨_, hC⟩, ⟨_, hWt⟩, ⟨_, _, _, hD⟩, ⟨_, hT, hTC⟩, ⟨_, hX, hXf⟩, hc16, hdc, htl, htc⟩, FX.rf⟩
set_option maxRecDepth 20000 in
theorem cx_whereUsed {P : PSt} {L : LSt} {pr : Nat → Nat} {O : OSt} {mp : Nat} {mk : Nat → UInt32} {T : List Nat} {a0 a39 a63 a64 : Nat} {dc tc : Nat} (hA : AD w a0 a39 a63 a64) (hIX : IX G.2.2.1 w P L pr O mp mk T dc tc) (hIP : IP P L pr O mp mk T) (a : Int32) (s : Int32) : XC G mX10_whereUsed 7 (3) (18) [.ref a0, .int a, .int s] w (fun r w' => r = xr (cdA a s P.1) [eIOB, eIAE] (.int (nI (cntB (fun p => decide (p ≠ idx a) && decide (hasN L pr (idx s) 5 p (idx a) ≠ 0)) P.1))) ∧ IX G.2.2.1 w' P L pr O mp mk T dc tc ∧ FX w w') := by
  obtain ⟨-, rfl, rfl, rfl, rfl⟩ := hA
  have hIX0 := hIX
  obtain ⟨h0, hB, hP, hL, hXS, ⟨hc, hl, hS⟩, hO, ⟨qa, qb, hQ⟩, ⟨cc, hC⟩, ⟨cw, hWt⟩, ⟨dn, da, db, hD⟩, ⟨tt, hT, hTC⟩, ⟨fX, hX, hXf⟩, hc16, hdc, htl, htc⟩ := hIX
  obtain ⟨hPI, hk16, hLW, hOI, hpr, hmp0, hmz, hT20, hch⟩ := hIP
  have hcap : dc < 2 ^ 19 := by omega
  have htcap : tc < 2 ^ 19 := by omega
  refine XC.mono (fun r w' hq => ⟨hq.1, ?_⟩) (c_whereUsed h0 hB hP hL hS rfl hLW.1 hpr hLW.2.2 hQ a s)
  have hw := hq.2
  by_cases hcw : cdA a s P.1 = 0
  · skip
    rw [if_pos hcw] at hw
    try simp only [if_pos hcw]
    obtain ⟨x1, y1, hw⟩ := hw
    subst hw
    exact ⟨⟨h0, hB, hP, hL, hXS, ⟨_, _, ⟨⟨hS.1.1, rfl⟩, ⟨hS.2.1, rfl⟩⟩⟩, hO, ⟨_, _, ⟨hQ.1, ⟨hQ.2.1.1, rfl⟩, ⟨hQ.2.2.1, rfl⟩⟩⟩, ⟨_, hC⟩, ⟨_, hWt⟩, ⟨_, _, _, hD⟩, ⟨_, hT, hTC⟩, ⟨_, hX, hXf⟩, hc16, hdc, htl, htc⟩, (by repeat (first | exact FX.rf | refine FX.relT ?_ | refine FX.relD ?_ | refine FX.set ?_ (by decide)))⟩
  · skip
    rw [if_neg hcw] at hw
    subst hw
    try simp only [if_neg hcw]
    exact ⟨⟨h0, hB, hP, hL, hXS, ⟨_, _, hS⟩, hO, ⟨_, _, hQ⟩, ⟨_, hC⟩, ⟨_, hWt⟩, ⟨_, _, _, hD⟩, ⟨_, hT, hTC⟩, ⟨_, hX, hXf⟩, hc16, hdc, htl, htc⟩, FX.rf⟩
set_option maxRecDepth 20000 in
theorem cx_levels {P : PSt} {L : LSt} {pr : Nat → Nat} {O : OSt} {mp : Nat} {mk : Nat → UInt32} {T : List Nat} {a0 a39 a63 a64 : Nat} {dc tc : Nat} (hA : AD w a0 a39 a63 a64) (hIX : IX G.2.2.1 w P L pr O mp mk T dc tc) (hIP : IP P L pr O mp mk T) (a : Int32) (s : Int32) : XC G mX10_levels 7 (3) (18) [.ref a0, .int a, .int s] w (fun r w' => r = xr (cdA a s P.1) [eIOB, eIAE] (.int (nI (dptN L pr (idx s) 5 (idx a)))) ∧ IX G.2.2.1 w' P L pr O mp mk T dc tc ∧ FX w w') := by
  obtain ⟨-, rfl, rfl, rfl, rfl⟩ := hA
  have hIX0 := hIX
  obtain ⟨h0, hB, hP, hL, hXS, ⟨hc, hl, hS⟩, hO, ⟨qa, qb, hQ⟩, ⟨cc, hC⟩, ⟨cw, hWt⟩, ⟨dn, da, db, hD⟩, ⟨tt, hT, hTC⟩, ⟨fX, hX, hXf⟩, hc16, hdc, htl, htc⟩ := hIX
  obtain ⟨hPI, hk16, hLW, hOI, hpr, hmp0, hmz, hT20, hch⟩ := hIP
  have hcap : dc < 2 ^ 19 := by omega
  have htcap : tc < 2 ^ 19 := by omega
  refine XC.mono (fun r w' hq => ⟨hq.1, ?_⟩) (c_levels (qa := qa) (qb := qb) h0 hB hP hL hS rfl hLW.1 hpr hLW.2.1 a s)
  have hw := hq.2
  by_cases hcw : cdA a s P.1 = 0
  · skip
    rw [if_pos hcw] at hw
    try simp only [if_pos hcw]
    subst hw
    exact ⟨⟨h0, hB, hP, hL, hXS, ⟨_, _, ⟨⟨hS.1.1, rfl⟩, ⟨hS.2.1, rfl⟩⟩⟩, hO, ⟨_, _, hQ⟩, ⟨_, hC⟩, ⟨_, hWt⟩, ⟨_, _, _, hD⟩, ⟨_, hT, hTC⟩, ⟨_, hX, hXf⟩, hc16, hdc, htl, htc⟩, (by repeat (first | exact FX.rf | refine FX.relT ?_ | refine FX.relD ?_ | refine FX.set ?_ (by decide)))⟩
  · skip
    rw [if_neg hcw] at hw
    subst hw
    try simp only [if_neg hcw]
    exact ⟨⟨h0, hB, hP, hL, hXS, ⟨_, _, hS⟩, hO, ⟨_, _, hQ⟩, ⟨_, hC⟩, ⟨_, hWt⟩, ⟨_, _, _, hD⟩, ⟨_, hT, hTC⟩, ⟨_, hX, hXf⟩, hc16, hdc, htl, htc⟩, FX.rf⟩
set_option maxRecDepth 20000 in
theorem cx_cost {P : PSt} {L : LSt} {pr : Nat → Nat} {O : OSt} {mp : Nat} {mk : Nat → UInt32} {T : List Nat} {a0 a39 a63 a64 : Nat} {dc tc : Nat} (hA : AD w a0 a39 a63 a64) (hIX : IX G.2.2.1 w P L pr O mp mk T dc tc) (hIP : IP P L pr O mp mk T) (a : Int32) (s : Int32) : XC G mX10_cost 7 (3) (18) [.ref a0, .int a, .int s] w (fun r w' => r = xr (cdA a s P.1) [eIOB, eIAE] (.float ((priF P L pr (idx s) 5 (idx a)))) ∧ IX G.2.2.1 w' P L pr O mp mk T dc tc ∧ FX w w') := by
  obtain ⟨-, rfl, rfl, rfl, rfl⟩ := hA
  have hIX0 := hIX
  obtain ⟨h0, hB, hP, hL, hXS, ⟨hc, hl, hS⟩, hO, ⟨qa, qb, hQ⟩, ⟨cc, hC⟩, ⟨cw, hWt⟩, ⟨dn, da, db, hD⟩, ⟨tt, hT, hTC⟩, ⟨fX, hX, hXf⟩, hc16, hdc, htl, htc⟩ := hIX
  obtain ⟨hPI, hk16, hLW, hOI, hpr, hmp0, hmz, hT20, hch⟩ := hIP
  have hcap : dc < 2 ^ 19 := by omega
  have htcap : tc < 2 ^ 19 := by omega
  refine XC.mono (fun r w' hq => ⟨hq.1, ?_⟩) (c_cost h0 hB hP hL hS rfl hLW.1 hLW.2.2 hPI hpr hC a s)
  have hw := hq.2
  by_cases hcw : cdA a s P.1 = 0
  · skip
    rw [if_pos hcw] at hw
    try simp only [if_pos hcw]
    obtain ⟨c1, hw⟩ := hw
    subst hw
    exact ⟨⟨h0, hB, hP, hL, hXS, ⟨_, _, ⟨⟨hS.1.1, rfl⟩, ⟨hS.2.1, rfl⟩⟩⟩, hO, ⟨_, _, hQ⟩, ⟨_, ⟨hC.1, ⟨hC.2.1, rfl⟩⟩⟩, ⟨_, hWt⟩, ⟨_, _, _, hD⟩, ⟨_, hT, hTC⟩, ⟨_, hX, hXf⟩, hc16, hdc, htl, htc⟩, (by repeat (first | exact FX.rf | refine FX.relT ?_ | refine FX.relD ?_ | refine FX.set ?_ (by decide)))⟩
  · skip
    rw [if_neg hcw] at hw
    subst hw
    try simp only [if_neg hcw]
    exact ⟨⟨h0, hB, hP, hL, hXS, ⟨_, _, hS⟩, hO, ⟨_, _, hQ⟩, ⟨_, hC⟩, ⟨_, hWt⟩, ⟨_, _, _, hD⟩, ⟨_, hT, hTC⟩, ⟨_, hX, hXf⟩, hc16, hdc, htl, htc⟩, FX.rf⟩
set_option maxRecDepth 20000 in
theorem cx_costByWalking {P : PSt} {L : LSt} {pr : Nat → Nat} {O : OSt} {mp : Nat} {mk : Nat → UInt32} {T : List Nat} {a0 a39 a63 a64 : Nat} {dc tc : Nat} (hA : AD w a0 a39 a63 a64) (hIX : IX G.2.2.1 w P L pr O mp mk T dc tc) (hIP : IP P L pr O mp mk T) (a : Int32) (s : Int32) : XC G mX10_costByWalking 7 (3) (18) [.ref a0, .int a, .int s] w (fun r w' => r = xr (cdA a s P.1) [eIOB, eIAE] (.float ((priF P L pr (idx s) 5 (idx a)))) ∧ IX G.2.2.1 w' P L pr O mp mk T dc tc ∧ FX w w') := by
  obtain ⟨-, rfl, rfl, rfl, rfl⟩ := hA
  have hIX0 := hIX
  obtain ⟨h0, hB, hP, hL, hXS, ⟨hc, hl, hS⟩, hO, ⟨qa, qb, hQ⟩, ⟨cc, hC⟩, ⟨cw, hWt⟩, ⟨dn, da, db, hD⟩, ⟨tt, hT, hTC⟩, ⟨fX, hX, hXf⟩, hc16, hdc, htl, htc⟩ := hIX
  obtain ⟨hPI, hk16, hLW, hOI, hpr, hmp0, hmz, hT20, hch⟩ := hIP
  have hcap : dc < 2 ^ 19 := by omega
  have htcap : tc < 2 ^ 19 := by omega
  refine XC.mono (fun r w' hq => ⟨hq.1, ?_⟩) (c_costW h0 hB hP hL hS rfl hLW.1 hLW.2.2 hPI hpr a s)
  have hw := hq.2
  by_cases hcw : cdA a s P.1 = 0
  · skip
    rw [if_pos hcw] at hw
    try simp only [if_pos hcw]
    subst hw
    exact ⟨⟨h0, hB, hP, hL, hXS, ⟨_, _, ⟨⟨hS.1.1, rfl⟩, ⟨hS.2.1, rfl⟩⟩⟩, hO, ⟨_, _, hQ⟩, ⟨_, hC⟩, ⟨_, hWt⟩, ⟨_, _, _, hD⟩, ⟨_, hT, hTC⟩, ⟨_, hX, hXf⟩, hc16, hdc, htl, htc⟩, (by repeat (first | exact FX.rf | refine FX.relT ?_ | refine FX.relD ?_ | refine FX.set ?_ (by decide)))⟩
  · skip
    rw [if_neg hcw] at hw
    subst hw
    try simp only [if_neg hcw]
    exact ⟨⟨h0, hB, hP, hL, hXS, ⟨_, _, hS⟩, hO, ⟨_, _, hQ⟩, ⟨_, hC⟩, ⟨_, hWt⟩, ⟨_, _, _, hD⟩, ⟨_, hT, hTC⟩, ⟨_, hX, hXf⟩, hc16, hdc, htl, htc⟩, FX.rf⟩
set_option maxRecDepth 20000 in
theorem cx_costBits {P : PSt} {L : LSt} {pr : Nat → Nat} {O : OSt} {mp : Nat} {mk : Nat → UInt32} {T : List Nat} {a0 a39 a63 a64 : Nat} {dc tc : Nat} (hA : AD w a0 a39 a63 a64) (hIX : IX G.2.2.1 w P L pr O mp mk T dc tc) (hIP : IP P L pr O mp mk T) (a : Int32) (s : Int32) : XC G mX10_costBits 7 (3) (18) [.ref a0, .int a, .int s] w (fun r w' => r = xr (cdA a s P.1) [eIOB, eIAE] (.int ((priF P L pr (idx s) 5 (idx a)).toInt32)) ∧ IX G.2.2.1 w' P L pr O mp mk T dc tc ∧ FX w w') := by
  obtain ⟨-, rfl, rfl, rfl, rfl⟩ := hA
  have hIX0 := hIX
  obtain ⟨h0, hB, hP, hL, hXS, ⟨hc, hl, hS⟩, hO, ⟨qa, qb, hQ⟩, ⟨cc, hC⟩, ⟨cw, hWt⟩, ⟨dn, da, db, hD⟩, ⟨tt, hT, hTC⟩, ⟨fX, hX, hXf⟩, hc16, hdc, htl, htc⟩ := hIX
  obtain ⟨hPI, hk16, hLW, hOI, hpr, hmp0, hmz, hT20, hch⟩ := hIP
  have hcap : dc < 2 ^ 19 := by omega
  have htcap : tc < 2 ^ 19 := by omega
  refine XC.mono (fun r w' hq => ⟨hq.1, ?_⟩) (c_costBits h0 hB hP hL hS rfl hLW.1 hLW.2.2 hPI hpr hC a s)
  have hw := hq.2
  by_cases hcw : cdA a s P.1 = 0
  · skip
    rw [if_pos hcw] at hw
    try simp only [if_pos hcw]
    obtain ⟨c1, hw⟩ := hw
    subst hw
    exact ⟨⟨h0, hB, hP, hL, hXS, ⟨_, _, ⟨⟨hS.1.1, rfl⟩, ⟨hS.2.1, rfl⟩⟩⟩, hO, ⟨_, _, hQ⟩, ⟨_, ⟨hC.1, ⟨hC.2.1, rfl⟩⟩⟩, ⟨_, hWt⟩, ⟨_, _, _, hD⟩, ⟨_, hT, hTC⟩, ⟨_, hX, hXf⟩, hc16, hdc, htl, htc⟩, (by repeat (first | exact FX.rf | refine FX.relT ?_ | refine FX.relD ?_ | refine FX.set ?_ (by decide)))⟩
  · skip
    rw [if_neg hcw] at hw
    subst hw
    try simp only [if_neg hcw]
    exact ⟨⟨h0, hB, hP, hL, hXS, ⟨_, _, hS⟩, hO, ⟨_, _, hQ⟩, ⟨_, hC⟩, ⟨_, hWt⟩, ⟨_, _, _, hD⟩, ⟨_, hT, hTC⟩, ⟨_, hX, hXf⟩, hc16, hdc, htl, htc⟩, FX.rf⟩
set_option maxRecDepth 20000 in
theorem cx_costCents {P : PSt} {L : LSt} {pr : Nat → Nat} {O : OSt} {mp : Nat} {mk : Nat → UInt32} {T : List Nat} {a0 a39 a63 a64 : Nat} {dc tc : Nat} (hA : AD w a0 a39 a63 a64) (hIX : IX G.2.2.1 w P L pr O mp mk T dc tc) (hIP : IP P L pr O mp mk T) (a : Int32) (s : Int32) : XC G mX10_costCents 7 (3) (18) [.ref a0, .int a, .int s] w (fun r w' => r = xr (cdA a s P.1) [eIOB, eIAE] (.int (FP.f2i (FP.fmul (priF P L pr (idx s) 5 (idx a)) 1120403456))) ∧ IX G.2.2.1 w' P L pr O mp mk T dc tc ∧ FX w w') := by
  obtain ⟨-, rfl, rfl, rfl, rfl⟩ := hA
  have hIX0 := hIX
  obtain ⟨h0, hB, hP, hL, hXS, ⟨hc, hl, hS⟩, hO, ⟨qa, qb, hQ⟩, ⟨cc, hC⟩, ⟨cw, hWt⟩, ⟨dn, da, db, hD⟩, ⟨tt, hT, hTC⟩, ⟨fX, hX, hXf⟩, hc16, hdc, htl, htc⟩ := hIX
  obtain ⟨hPI, hk16, hLW, hOI, hpr, hmp0, hmz, hT20, hch⟩ := hIP
  have hcap : dc < 2 ^ 19 := by omega
  have htcap : tc < 2 ^ 19 := by omega
  refine XC.mono (fun r w' hq => ⟨hq.1, ?_⟩) (c_costCents h0 hB hP hL hS rfl hLW.1 hLW.2.2 hPI hpr hC a s)
  have hw := hq.2
  by_cases hcw : cdA a s P.1 = 0
  · skip
    rw [if_pos hcw] at hw
    try simp only [if_pos hcw]
    obtain ⟨c1, hw⟩ := hw
    subst hw
    exact ⟨⟨h0, hB, hP, hL, hXS, ⟨_, _, ⟨⟨hS.1.1, rfl⟩, ⟨hS.2.1, rfl⟩⟩⟩, hO, ⟨_, _, hQ⟩, ⟨_, ⟨hC.1, ⟨hC.2.1, rfl⟩⟩⟩, ⟨_, hWt⟩, ⟨_, _, _, hD⟩, ⟨_, hT, hTC⟩, ⟨_, hX, hXf⟩, hc16, hdc, htl, htc⟩, (by repeat (first | exact FX.rf | refine FX.relT ?_ | refine FX.relD ?_ | refine FX.set ?_ (by decide)))⟩
  · skip
    rw [if_neg hcw] at hw
    subst hw
    try simp only [if_neg hcw]
    exact ⟨⟨h0, hB, hP, hL, hXS, ⟨_, _, hS⟩, hO, ⟨_, _, hQ⟩, ⟨_, hC⟩, ⟨_, hWt⟩, ⟨_, _, _, hD⟩, ⟨_, hT, hTC⟩, ⟨_, hX, hXf⟩, hc16, hdc, htl, htc⟩, FX.rf⟩
set_option maxRecDepth 20000 in
theorem cx_dearest {P : PSt} {L : LSt} {pr : Nat → Nat} {O : OSt} {mp : Nat} {mk : Nat → UInt32} {T : List Nat} {a0 a39 a63 a64 : Nat} {dc tc : Nat} (hA : AD w a0 a39 a63 a64) (hIX : IX G.2.2.1 w P L pr O mp mk T dc tc) (hIP : IP P L pr O mp mk T) (a : Int32) (s : Int32) : XC G mX10_dearest 7 (4) (24) [.ref a0, .int a, .int s] w (fun r w' => r = xr (cdD a s P.1 (dstF L pr (idx s) (idx a) (mrF L (priF P L pr (idx s) 5)) 6)) [eIOB, eIAE, eNSE] (.int (oI (dstF L pr (idx s) (idx a) (mrF L (priF P L pr (idx s) 5)) 6))) ∧ IX G.2.2.1 w' P L pr O mp mk T dc tc ∧ FX w w') := by
  obtain ⟨-, rfl, rfl, rfl, rfl⟩ := hA
  have hIX0 := hIX
  obtain ⟨h0, hB, hP, hL, hXS, ⟨hc, hl, hS⟩, hO, ⟨qa, qb, hQ⟩, ⟨cc, hC⟩, ⟨cw, hWt⟩, ⟨dn, da, db, hD⟩, ⟨tt, hT, hTC⟩, ⟨fX, hX, hXf⟩, hc16, hdc, htl, htc⟩ := hIX
  obtain ⟨hPI, hk16, hLW, hOI, hpr, hmp0, hmz, hT20, hch⟩ := hIP
  have hcap : dc < 2 ^ 19 := by omega
  have htcap : tc < 2 ^ 19 := by omega
  refine XC.mono (fun r w' hq => ⟨hq.1, ?_⟩) (c_dearest h0 hB hP hL hS rfl hLW.1 hLW.2.2 hPI hpr hC a s)
  have hw := hq.2
  by_cases hcw : cdA a s P.1 = 0
  · skip
    rw [if_pos hcw] at hw
    try simp only [if_pos hcw]
    obtain ⟨c1, hw⟩ := hw
    subst hw
    exact ⟨⟨h0, hB, hP, hL, hXS, ⟨_, _, ⟨⟨hS.1.1, rfl⟩, ⟨hS.2.1, rfl⟩⟩⟩, hO, ⟨_, _, hQ⟩, ⟨_, ⟨hC.1, ⟨hC.2.1, rfl⟩⟩⟩, ⟨_, hWt⟩, ⟨_, _, _, hD⟩, ⟨_, hT, hTC⟩, ⟨_, hX, hXf⟩, hc16, hdc, htl, htc⟩, (by repeat (first | exact FX.rf | refine FX.relT ?_ | refine FX.relD ?_ | refine FX.set ?_ (by decide)))⟩
  · skip
    rw [if_neg hcw] at hw
    subst hw
    try simp only [if_neg hcw]
    exact ⟨⟨h0, hB, hP, hL, hXS, ⟨_, _, hS⟩, hO, ⟨_, _, hQ⟩, ⟨_, hC⟩, ⟨_, hWt⟩, ⟨_, _, _, hD⟩, ⟨_, hT, hTC⟩, ⟨_, hX, hXf⟩, hc16, hdc, htl, htc⟩, FX.rf⟩
set_option maxRecDepth 20000 in
theorem cx_weight {P : PSt} {L : LSt} {pr : Nat → Nat} {O : OSt} {mp : Nat} {mk : Nat → UInt32} {T : List Nat} {a0 a39 a63 a64 : Nat} {dc tc : Nat} (hA : AD w a0 a39 a63 a64) (hIX : IX G.2.2.1 w P L pr O mp mk T dc tc) (hIP : IP P L pr O mp mk T) (a : Int32) (s : Int32) : XC G mX10_weight 7 (3) (18) [.ref a0, .int a, .int s] w (fun r w' => r = xr (cdA a s P.1) [eIOB, eIAE] (.double ((masF P L pr (idx s) 5 (idx a)))) ∧ IX G.2.2.1 w' P L pr O mp mk T dc tc ∧ FX w w') := by
  obtain ⟨-, rfl, rfl, rfl, rfl⟩ := hA
  have hIX0 := hIX
  obtain ⟨h0, hB, hP, hL, hXS, ⟨hc, hl, hS⟩, hO, ⟨qa, qb, hQ⟩, ⟨cc, hC⟩, ⟨cw, hWt⟩, ⟨dn, da, db, hD⟩, ⟨tt, hT, hTC⟩, ⟨fX, hX, hXf⟩, hc16, hdc, htl, htc⟩ := hIX
  obtain ⟨hPI, hk16, hLW, hOI, hpr, hmp0, hmz, hT20, hch⟩ := hIP
  have hcap : dc < 2 ^ 19 := by omega
  have htcap : tc < 2 ^ 19 := by omega
  refine XC.mono (fun r w' hq => ⟨hq.1, ?_⟩) (c_weight h0 hB hP hL hS rfl hLW.1 hLW.2.2 hPI hpr hWt a s)
  have hw := hq.2
  by_cases hcw : cdA a s P.1 = 0
  · skip
    rw [if_pos hcw] at hw
    try simp only [if_pos hcw]
    obtain ⟨c1, hw⟩ := hw
    subst hw
    exact ⟨⟨h0, hB, hP, hL, hXS, ⟨_, _, ⟨⟨hS.1.1, rfl⟩, ⟨hS.2.1, rfl⟩⟩⟩, hO, ⟨_, _, hQ⟩, ⟨_, hC⟩, ⟨_, ⟨hWt.1, ⟨hWt.2.1, rfl⟩⟩⟩, ⟨_, _, _, hD⟩, ⟨_, hT, hTC⟩, ⟨_, hX, hXf⟩, hc16, hdc, htl, htc⟩, (by repeat (first | exact FX.rf | refine FX.relT ?_ | refine FX.relD ?_ | refine FX.set ?_ (by decide)))⟩
  · skip
    rw [if_neg hcw] at hw
    subst hw
    try simp only [if_neg hcw]
    exact ⟨⟨h0, hB, hP, hL, hXS, ⟨_, _, hS⟩, hO, ⟨_, _, hQ⟩, ⟨_, hC⟩, ⟨_, hWt⟩, ⟨_, _, _, hD⟩, ⟨_, hT, hTC⟩, ⟨_, hX, hXf⟩, hc16, hdc, htl, htc⟩, FX.rf⟩
set_option maxRecDepth 20000 in
theorem cx_weightBits {P : PSt} {L : LSt} {pr : Nat → Nat} {O : OSt} {mp : Nat} {mk : Nat → UInt32} {T : List Nat} {a0 a39 a63 a64 : Nat} {dc tc : Nat} (hA : AD w a0 a39 a63 a64) (hIX : IX G.2.2.1 w P L pr O mp mk T dc tc) (hIP : IP P L pr O mp mk T) (a : Int32) (s : Int32) : XC G mX10_weightBits 7 (3) (18) [.ref a0, .int a, .int s] w (fun r w' => r = xr (cdA a s P.1) [eIOB, eIAE] (.long ((masF P L pr (idx s) 5 (idx a)).toInt64)) ∧ IX G.2.2.1 w' P L pr O mp mk T dc tc ∧ FX w w') := by
  obtain ⟨-, rfl, rfl, rfl, rfl⟩ := hA
  have hIX0 := hIX
  obtain ⟨h0, hB, hP, hL, hXS, ⟨hc, hl, hS⟩, hO, ⟨qa, qb, hQ⟩, ⟨cc, hC⟩, ⟨cw, hWt⟩, ⟨dn, da, db, hD⟩, ⟨tt, hT, hTC⟩, ⟨fX, hX, hXf⟩, hc16, hdc, htl, htc⟩ := hIX
  obtain ⟨hPI, hk16, hLW, hOI, hpr, hmp0, hmz, hT20, hch⟩ := hIP
  have hcap : dc < 2 ^ 19 := by omega
  have htcap : tc < 2 ^ 19 := by omega
  refine XC.mono (fun r w' hq => ⟨hq.1, ?_⟩) (c_weightBits h0 hB hP hL hS rfl hLW.1 hLW.2.2 hPI hpr hWt a s)
  have hw := hq.2
  by_cases hcw : cdA a s P.1 = 0
  · skip
    rw [if_pos hcw] at hw
    try simp only [if_pos hcw]
    obtain ⟨c1, hw⟩ := hw
    subst hw
    exact ⟨⟨h0, hB, hP, hL, hXS, ⟨_, _, ⟨⟨hS.1.1, rfl⟩, ⟨hS.2.1, rfl⟩⟩⟩, hO, ⟨_, _, hQ⟩, ⟨_, hC⟩, ⟨_, ⟨hWt.1, ⟨hWt.2.1, rfl⟩⟩⟩, ⟨_, _, _, hD⟩, ⟨_, hT, hTC⟩, ⟨_, hX, hXf⟩, hc16, hdc, htl, htc⟩, (by repeat (first | exact FX.rf | refine FX.relT ?_ | refine FX.relD ?_ | refine FX.set ?_ (by decide)))⟩
  · skip
    rw [if_neg hcw] at hw
    subst hw
    try simp only [if_neg hcw]
    exact ⟨⟨h0, hB, hP, hL, hXS, ⟨_, _, hS⟩, hO, ⟨_, _, hQ⟩, ⟨_, hC⟩, ⟨_, hWt⟩, ⟨_, _, _, hD⟩, ⟨_, hT, hTC⟩, ⟨_, hX, hXf⟩, hc16, hdc, htl, htc⟩, FX.rf⟩
set_option maxRecDepth 20000 in
theorem cx_markCosts {P : PSt} {L : LSt} {pr : Nat → Nat} {O : OSt} {mp : Nat} {mk : Nat → UInt32} {T : List Nat} {a0 a39 a63 a64 : Nat} {dc tc : Nat} (hA : AD w a0 a39 a63 a64) (hIX : IX G.2.2.1 w P L pr O mp mk T dc tc) (hIP : IP P L pr O mp mk T) (s : Int32) : XC G mX10_markCosts 7 (2) (12) [.ref a0, .int s] w (fun r w' => r = xr (cdM s) [eIAE] (.int (nI P.1)) ∧ IX G.2.2.1 w' P L pr O (if (cdM s) = 0 then P.1 else mp) (if (cdM s) = 0 then (fun x => priF P L pr (idx s) 5 x) else mk) T dc tc ∧ FX w w') := by
  obtain ⟨-, rfl, rfl, rfl, rfl⟩ := hA
  have hIX0 := hIX
  obtain ⟨h0, hB, hP, hL, hXS, ⟨hc, hl, hS⟩, hO, ⟨qa, qb, hQ⟩, ⟨cc, hC⟩, ⟨cw, hWt⟩, ⟨dn, da, db, hD⟩, ⟨tt, hT, hTC⟩, ⟨fX, hX, hXf⟩, hc16, hdc, htl, htc⟩ := hIX
  obtain ⟨hPI, hk16, hLW, hOI, hpr, hmp0, hmz, hT20, hch⟩ := hIP
  have hcap : dc < 2 ^ 19 := by omega
  have htcap : tc < 2 ^ 19 := by omega
  refine XC.mono (fun r w' hq => ⟨hq.1, ?_⟩) (c_markCosts h0 hB hP hL hS rfl hLW.1 hLW.2.2 hPI hpr hC hX s)
  have hw := hq.2
  by_cases hcw : cdM s = 0
  · skip
    rw [if_pos hcw] at hw
    try simp only [if_pos hcw]
    obtain ⟨c1, f1, hw, hf1⟩ := hw
    subst hw
    exact ⟨⟨⟨h0.1, rfl⟩, hB, hP, hL, hXS, ⟨_, _, ⟨⟨hS.1.1, rfl⟩, ⟨hS.2.1, rfl⟩⟩⟩, hO, ⟨_, _, hQ⟩, ⟨_, ⟨hC.1, ⟨hC.2.1, rfl⟩⟩⟩, ⟨_, hWt⟩, ⟨_, _, _, hD⟩, ⟨_, hT, hTC⟩, ⟨_, ⟨hX.1, rfl⟩, hf1⟩, hc16, hdc, htl, htc⟩, (by repeat (first | exact FX.rf | refine FX.relT ?_ | refine FX.relD ?_ | refine FX.set ?_ (by decide)))⟩
  · skip
    rw [if_neg hcw] at hw
    subst hw
    try simp only [if_neg hcw]
    exact ⟨⟨h0, hB, hP, hL, hXS, ⟨_, _, hS⟩, hO, ⟨_, _, hQ⟩, ⟨_, hC⟩, ⟨_, hWt⟩, ⟨_, _, _, hD⟩, ⟨_, hT, hTC⟩, ⟨_, hX, hXf⟩, hc16, hdc, htl, htc⟩, FX.rf⟩
set_option maxRecDepth 20000 in
theorem cx_costChange {P : PSt} {L : LSt} {pr : Nat → Nat} {O : OSt} {mp : Nat} {mk : Nat → UInt32} {T : List Nat} {a0 a39 a63 a64 : Nat} {dc tc : Nat} (hA : AD w a0 a39 a63 a64) (hIX : IX G.2.2.1 w P L pr O mp mk T dc tc) (hIP : IP P L pr O mp mk T) (a : Int32) (s : Int32) : XC G mX10_costChange 7 (4) (24) [.ref a0, .int a, .int s] w (fun r w' => r = xr (cdH a s P.1 mp) [eIOB, eIAE, eNSE] (.float (FP.fsub (priF P L pr (idx s) 5 (idx a)) (mk (idx a)))) ∧ IX G.2.2.1 w' P L pr O mp mk T dc tc ∧ FX w w') := by
  obtain ⟨-, rfl, rfl, rfl, rfl⟩ := hA
  have hIX0 := hIX
  obtain ⟨h0, hB, hP, hL, hXS, ⟨hc, hl, hS⟩, hO, ⟨qa, qb, hQ⟩, ⟨cc, hC⟩, ⟨cw, hWt⟩, ⟨dn, da, db, hD⟩, ⟨tt, hT, hTC⟩, ⟨fX, hX, hXf⟩, hc16, hdc, htl, htc⟩ := hIX
  obtain ⟨hPI, hk16, hLW, hOI, hpr, hmp0, hmz, hT20, hch⟩ := hIP
  have hcap : dc < 2 ^ 19 := by omega
  have htcap : tc < 2 ^ 19 := by omega
  have hXz : ∀ x, x < mp → Z32 120 234 (fX x) := fun x hx => by rw [hXf x hx]; exact hmz x hx
  have hmp : mp ≤ 16 := Nat.le_trans hmp0 hPI.1
  refine XC.mono (fun r w' hq => ?_) (c_costChange h0 hB hP hL hS rfl hLW.1 hLW.2.2 hPI hpr hC hX hmp hXz a s)
  refine ⟨?_, ?_⟩
  · by_cases hc0 : cdH a s P.1 mp = 0
    · have hx : idx a < mp := cdH_lt hc0
      rw [← hXf _ hx]; exact hq.1
    · exact hq.1.trans (xr_nz hc0)
  have hw := hq.2
  by_cases hcw : cdH a s P.1 mp = 0
  · skip
    rw [if_pos hcw] at hw
    try simp only [if_pos hcw]
    obtain ⟨c1, hw⟩ := hw
    subst hw
    exact ⟨⟨h0, hB, hP, hL, hXS, ⟨_, _, ⟨⟨hS.1.1, rfl⟩, ⟨hS.2.1, rfl⟩⟩⟩, hO, ⟨_, _, hQ⟩, ⟨_, ⟨hC.1, ⟨hC.2.1, rfl⟩⟩⟩, ⟨_, hWt⟩, ⟨_, _, _, hD⟩, ⟨_, hT, hTC⟩, ⟨_, hX, hXf⟩, hc16, hdc, htl, htc⟩, (by repeat (first | exact FX.rf | refine FX.relT ?_ | refine FX.relD ?_ | refine FX.set ?_ (by decide)))⟩
  · skip
    rw [if_neg hcw] at hw
    subst hw
    try simp only [if_neg hcw]
    exact ⟨⟨h0, hB, hP, hL, hXS, ⟨_, _, hS⟩, hO, ⟨_, _, hQ⟩, ⟨_, hC⟩, ⟨_, hWt⟩, ⟨_, _, _, hD⟩, ⟨_, hT, hTC⟩, ⟨_, hX, hXf⟩, hc16, hdc, htl, htc⟩, FX.rf⟩
set_option maxRecDepth 20000 in
theorem cx_order {P : PSt} {L : LSt} {pr : Nat → Nat} {O : OSt} {mp : Nat} {mk : Nat → UInt32} {T : List Nat} {a0 a39 a63 a64 : Nat} {dc tc : Nat} (hA : AD w a0 a39 a63 a64) (hIX : IX G.2.2.1 w P L pr O mp mk T dc tc) (hIP : IP P L pr O mp mk T) (p : Int32) (s : Int32) (u : Int32) : XC G mX10_order 7 (3) (18) [.ref a0, .int p, .int s, .int u] w (fun r w' => r = xr (cdO p s u P.1 O.1) [eIOB, eIAE, eISE] (.int (nI O.1)) ∧ IX G.2.2.1 w' P L pr (if (cdO p s u P.1 O.1) = 0 then addO O (idx p) (idx s) (idx u) pr else O) mp mk T dc tc ∧ FX w w') := by
  obtain ⟨-, rfl, rfl, rfl, rfl⟩ := hA
  have hIX0 := hIX
  obtain ⟨h0, hB, hP, hL, hXS, ⟨hc, hl, hS⟩, hO, ⟨qa, qb, hQ⟩, ⟨cc, hC⟩, ⟨cw, hWt⟩, ⟨dn, da, db, hD⟩, ⟨tt, hT, hTC⟩, ⟨fX, hX, hXf⟩, hc16, hdc, htl, htc⟩ := hIX
  obtain ⟨hPI, hk16, hLW, hOI, hpr, hmp0, hmz, hT20, hch⟩ := hIP
  have hcap : dc < 2 ^ 19 := by omega
  have htcap : tc < 2 ^ 19 := by omega
  refine XC.mono (fun r w' hq => ⟨hq.1, ?_⟩) (c_order h0 hB hP rfl hPI.1 hO hOI p s u)
  have hw := hq.2
  by_cases hcw : cdO p s u P.1 O.1 = 0
  · skip
    rw [if_pos hcw] at hw
    try simp only [if_pos hcw]
    subst hw
    exact ⟨⟨h0, hB, hP, hL, hXS, ⟨_, _, hS⟩, ⟨⟨hO.1.1, rfl⟩, ⟨hO.2.1.1, rfl⟩, ⟨hO.2.2.1.1, rfl⟩, ⟨hO.2.2.2.1.1, rfl⟩, ⟨hO.2.2.2.2.1.1, rfl⟩, ⟨hO.2.2.2.2.2.1, rfl⟩⟩, ⟨_, _, hQ⟩, ⟨_, hC⟩, ⟨_, hWt⟩, ⟨_, _, _, hD⟩, ⟨_, hT, hTC⟩, ⟨_, hX, hXf⟩, hc16, hdc, htl, htc⟩, (by repeat (first | exact FX.rf | refine FX.relT ?_ | refine FX.relD ?_ | refine FX.set ?_ (by decide)))⟩
  · skip
    rw [if_neg hcw] at hw
    subst hw
    try simp only [if_neg hcw]
    exact ⟨⟨h0, hB, hP, hL, hXS, ⟨_, _, hS⟩, hO, ⟨_, _, hQ⟩, ⟨_, hC⟩, ⟨_, hWt⟩, ⟨_, _, _, hD⟩, ⟨_, hT, hTC⟩, ⟨_, hX, hXf⟩, hc16, hdc, htl, htc⟩, FX.rf⟩
set_option maxRecDepth 20000 in
theorem cx_cancel {P : PSt} {L : LSt} {pr : Nat → Nat} {O : OSt} {mp : Nat} {mk : Nat → UInt32} {T : List Nat} {a0 a39 a63 a64 : Nat} {dc tc : Nat} (hA : AD w a0 a39 a63 a64) (hIX : IX G.2.2.1 w P L pr O mp mk T dc tc) (hIP : IP P L pr O mp mk T) (o : Int32) : XC G mX10_cancel 7 (2) (12) [.ref a0, .int o] w (fun r w' => r = xr (cdX o O) [eIOB, eISE] (.int (nI (cntB (fun k => !(canO O (idx o)).2.2.2.2.2 k) O.1))) ∧ IX G.2.2.1 w' P L pr (if (cdX o O) = 0 then canO O (idx o) else O) mp mk T dc tc ∧ FX w w') := by
  obtain ⟨-, rfl, rfl, rfl, rfl⟩ := hA
  have hIX0 := hIX
  obtain ⟨h0, hB, hP, hL, hXS, ⟨hc, hl, hS⟩, hO, ⟨qa, qb, hQ⟩, ⟨cc, hC⟩, ⟨cw, hWt⟩, ⟨dn, da, db, hD⟩, ⟨tt, hT, hTC⟩, ⟨fX, hX, hXf⟩, hc16, hdc, htl, htc⟩ := hIX
  obtain ⟨hPI, hk16, hLW, hOI, hpr, hmp0, hmz, hT20, hch⟩ := hIP
  have hcap : dc < 2 ^ 19 := by omega
  have htcap : tc < 2 ^ 19 := by omega
  refine XC.mono (fun r w' hq => ⟨hq.1, ?_⟩) (c_cancel h0 hO hOI o)
  have hw := hq.2
  by_cases hcw : cdX o O = 0
  · skip
    rw [if_pos hcw] at hw
    try simp only [if_pos hcw]
    subst hw
    exact ⟨⟨h0, hB, hP, hL, hXS, ⟨_, _, hS⟩, ⟨hO.1, hO.2.1, hO.2.2.1, hO.2.2.2.1, hO.2.2.2.2.1, ⟨hO.2.2.2.2.2.1, rfl⟩⟩, ⟨_, _, hQ⟩, ⟨_, hC⟩, ⟨_, hWt⟩, ⟨_, _, _, hD⟩, ⟨_, hT, hTC⟩, ⟨_, hX, hXf⟩, hc16, hdc, htl, htc⟩, (by repeat (first | exact FX.rf | refine FX.relT ?_ | refine FX.relD ?_ | refine FX.set ?_ (by decide)))⟩
  · skip
    rw [if_neg hcw] at hw
    subst hw
    try simp only [if_neg hcw]
    exact ⟨⟨h0, hB, hP, hL, hXS, ⟨_, _, hS⟩, hO, ⟨_, _, hQ⟩, ⟨_, hC⟩, ⟨_, hWt⟩, ⟨_, _, _, hD⟩, ⟨_, hT, hTC⟩, ⟨_, hX, hXf⟩, hc16, hdc, htl, htc⟩, FX.rf⟩
set_option maxRecDepth 20000 in
theorem cx_need {P : PSt} {L : LSt} {pr : Nat → Nat} {O : OSt} {mp : Nat} {mk : Nat → UInt32} {T : List Nat} {a0 a39 a63 a64 : Nat} {dc tc : Nat} (hA : AD w a0 a39 a63 a64) (hIX : IX G.2.2.1 w P L pr O mp mk T dc tc) (hIP : IP P L pr O mp mk T) (c : Int32) : XC G mX10_need 7 (2) (12) [.ref a0, .int c] w (fun r w' => r = xr (cdP c P.1) [eIOB] (.long (nL (needN L O (idx c) O.1))) ∧ IX G.2.2.1 w' P L pr O mp mk T dc tc ∧ FX w w') := by
  obtain ⟨-, rfl, rfl, rfl, rfl⟩ := hA
  have hIX0 := hIX
  obtain ⟨h0, hB, hP, hL, hXS, ⟨hc, hl, hS⟩, hO, ⟨qa, qb, hQ⟩, ⟨cc, hC⟩, ⟨cw, hWt⟩, ⟨dn, da, db, hD⟩, ⟨tt, hT, hTC⟩, ⟨fX, hX, hXf⟩, hc16, hdc, htl, htc⟩ := hIX
  obtain ⟨hPI, hk16, hLW, hOI, hpr, hmp0, hmz, hT20, hch⟩ := hIP
  have hcap : dc < 2 ^ 19 := by omega
  have htcap : tc < 2 ^ 19 := by omega
  refine XC.mono (fun r w' hq => ⟨hq.1, ?_⟩) (c_need h0 hB hP hL hS rfl hLW.1 hLW.2.2 hQ hO hOI c)
  have hw := hq.2
  by_cases hcw : cdP c P.1 = 0
  · skip
    rw [if_pos hcw] at hw
    try simp only [if_pos hcw]
    obtain ⟨l1, c1, x1, y1, hw⟩ := hw
    subst hw
    exact ⟨⟨h0, hB, hP, hL, hXS, ⟨_, _, ⟨⟨hS.1.1, rfl⟩, ⟨hS.2.1, rfl⟩⟩⟩, hO, ⟨_, _, ⟨hQ.1, ⟨hQ.2.1.1, rfl⟩, ⟨hQ.2.2.1, rfl⟩⟩⟩, ⟨_, hC⟩, ⟨_, hWt⟩, ⟨_, _, _, hD⟩, ⟨_, hT, hTC⟩, ⟨_, hX, hXf⟩, hc16, hdc, htl, htc⟩, (by repeat (first | exact FX.rf | refine FX.relT ?_ | refine FX.relD ?_ | refine FX.set ?_ (by decide)))⟩
  · skip
    rw [if_neg hcw] at hw
    subst hw
    try simp only [if_neg hcw]
    exact ⟨⟨h0, hB, hP, hL, hXS, ⟨_, _, hS⟩, hO, ⟨_, _, hQ⟩, ⟨_, hC⟩, ⟨_, hWt⟩, ⟨_, _, _, hD⟩, ⟨_, hT, hTC⟩, ⟨_, hX, hXf⟩, hc16, hdc, htl, htc⟩, FX.rf⟩
end Calls
