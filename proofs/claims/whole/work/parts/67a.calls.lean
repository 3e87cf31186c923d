/-! EVERY CALL over the one state (by gen/spec67.py) -/
section Calls
variable {G : Gx} {w : Wd}
set_option maxRecDepth 20000 in
theorem cx_addPart {P : PSt} {L : LSt} {pr : Nat → Nat} {O : OSt} {mp : Nat} {mk : Nat → UInt32} {T : List Nat} {a0 a39 a63 a64 : Nat} {dc tc : Nat} (hA : AD w a0 a39 a63 a64) (hIX : IX G.2.2.1 w P L pr O mp mk T dc tc) (hIP : IP P L pr O mp mk T) (k : Nat) (hk : k < 65536) (c : Int32) (g : Int32) : XC G mX10_addPart 7 (4) (24) [.ref a0, .int (nI k), .int c, .int g] w (fun r w' => r = xr (cdAdd (nI k) c g P.1) [eIAE, eISE] (.int (nI P.1)) ∧ IX G.2.2.1 w' (addP P (cdAdd (nI k) c g P.1) k (idx c) (idx g)) L pr O mp mk T dc tc ∧ FX w w') := by
  obtain ⟨-, rfl, rfl, rfl, rfl⟩ := hA
  have hIX0 := hIX
  obtain ⟨h0, hB, hP, hL, hXS, ⟨hc, hl, hS⟩, hO, ⟨qa, qb, hQ⟩, ⟨cc, hC⟩, ⟨cw, hWt⟩, ⟨dn, da, db, hD⟩, ⟨tt, hT, hTC⟩, ⟨fX, hX, hXf⟩, hc16, hdc, htl, htc⟩ := hIX
  obtain ⟨hPI, hk16, hLW, hOI, hpr, hmp0, hmz, hT20, hch⟩ := hIP
  have hcap : dc < 2 ^ 19 := by omega
  have htcap : tc < 2 ^ 19 := by omega
  refine XC.mono (fun r w' hq => ⟨hq.1, ?_⟩) (c_addPart h0 hB hP hPI.1 k hk c g)
  have hw := hq.2
  subst hw
  exact ⟨⟨h0, hB, ⟨⟨hP.1.1, rfl⟩, ⟨hP.2.1.1, rfl⟩, ⟨hP.2.2.1.1, rfl⟩, ⟨hP.2.2.2.1, rfl⟩⟩, hL, hXS, ⟨_, _, hS⟩, hO, ⟨_, _, hQ⟩, ⟨_, hC⟩, ⟨_, hWt⟩, ⟨_, _, _, hD⟩, ⟨_, hT, hTC⟩, ⟨_, hX, hXf⟩, hc16, hdc, htl, htc⟩, (by repeat (first | exact FX.rf | refine FX.relT ?_ | refine FX.relD ?_ | refine FX.set ?_ (by decide)))⟩
set_option maxRecDepth 20000 in
theorem r_addPart {P : PSt} {L : LSt} {pr : Nat → Nat} {O : OSt} {mp : Nat} {mk : Nat → UInt32} {T : List Nat} {a0 a39 a63 a64 : Nat} {t : Nat} (hA : AD w a0 a39 a63 a64) (hM : IM G.2.2.1 w P L pr O mp mk T t) (hIP : IP P L pr O mp mk T) (k : Nat) (hk : k < 65536) (c : Int32) (g : Int32) : XC G mX11_addPart 2 0 0 [.ref a39, .int (nI k), .int c, .int g] w (fun r w' => ∃ v : Int32, r = .inl (some (.int v)) ∧ (cdAdd (nI k) c g P.1 = 0 → v = nI P.1) ∧ FM w w' ∧ IM G.2.2.1 w' (addP P (cdAdd (nI k) c g P.1) k (idx c) (idx g)) L pr O mp mk T (cdAdd (nI k) c g P.1)) := by
  obtain ⟨-, rfl, rfl, rfl, rfl⟩ := hA
  have hM0 := hM
  obtain ⟨⟨en, h9⟩, hP, hL, hCh, hO, ⟨kf, hKf⟩, ⟨fM, hMk, hMf⟩, ⟨lt, h60⟩, ⟨ea, h61⟩, ⟨eb, h62⟩⟩ := hM
  obtain ⟨hPI, hk16, hLW, hOI, hpr, hmp0, hmz, hT20, hch⟩ := hIP
  refine XC.mono (fun r w' hq => ?_) (m_addPart h9 hP rfl hPI.1 k c g)
  obtain ⟨v, hv, hv2, hw⟩ := hq
  refine ⟨v, hv, hv2, ?_⟩
  subst hw
  exact ⟨(by repeat (first | exact FM.rf | refine FM.set ?_ (by decide) (by decide))), ⟨⟨_, ⟨h9.1, rfl⟩⟩, ⟨⟨hP.1.1, rfl⟩, ⟨hP.2.1.1, rfl⟩, ⟨hP.2.2.1, rfl⟩⟩, hL, hCh, hO, ⟨_, hKf⟩, ⟨_, hMk, hMf⟩, ⟨_, h60⟩, ⟨_, h61⟩, ⟨_, h62⟩⟩⟩
set_option maxRecDepth 20000 in
theorem cx_setPrice {P : PSt} {L : LSt} {pr : Nat → Nat} {O : OSt} {mp : Nat} {mk : Nat → UInt32} {T : List Nat} {a0 a39 a63 a64 : Nat} {dc tc : Nat} (hA : AD w a0 a39 a63 a64) (hIX : IX G.2.2.1 w P L pr O mp mk T dc tc) (hIP : IP P L pr O mp mk T) (p : Int32) (c : Int32) : XC G mX10_setPrice 7 (2) (12) [.ref a0, .int p, .int c] w (fun r w' => r = xr (cdPC p c P.1) [eIOB, eIAE] (.int (nI (P.2.2.1 (idx p)))) ∧ IX G.2.2.1 w' ((P.1, P.2.1, upIf (cdPC p c P.1) P.2.2.1 (idx p) (idx c), P.2.2.2)) L pr O mp mk T dc tc ∧ FX w w') := by
  obtain ⟨-, rfl, rfl, rfl, rfl⟩ := hA
  have hIX0 := hIX
  obtain ⟨h0, hB, hP, hL, hXS, ⟨hc, hl, hS⟩, hO, ⟨qa, qb, hQ⟩, ⟨cc, hC⟩, ⟨cw, hWt⟩, ⟨dn, da, db, hD⟩, ⟨tt, hT, hTC⟩, ⟨fX, hX, hXf⟩, hc16, hdc, htl, htc⟩ := hIX
  obtain ⟨hPI, hk16, hLW, hOI, hpr, hmp0, hmz, hT20, hch⟩ := hIP
  have hcap : dc < 2 ^ 19 := by omega
  have htcap : tc < 2 ^ 19 := by omega
  refine XC.mono (fun r w' hq => ⟨hq.1, ?_⟩) (c_setPrice h0 hB hP hPI.1 p c)
  have hw := hq.2
  subst hw
  exact ⟨⟨h0, hB, ⟨hP.1, hP.2.1, ⟨hP.2.2.1.1, rfl⟩, hP.2.2.2⟩, hL, hXS, ⟨_, _, hS⟩, hO, ⟨_, _, hQ⟩, ⟨_, hC⟩, ⟨_, hWt⟩, ⟨_, _, _, hD⟩, ⟨_, hT, hTC⟩, ⟨_, hX, hXf⟩, hc16, hdc, htl, htc⟩, (by repeat (first | exact FX.rf | refine FX.relT ?_ | refine FX.relD ?_ | refine FX.set ?_ (by decide)))⟩
set_option maxRecDepth 20000 in
theorem r_setPrice {P : PSt} {L : LSt} {pr : Nat → Nat} {O : OSt} {mp : Nat} {mk : Nat → UInt32} {T : List Nat} {a0 a39 a63 a64 : Nat} {t : Nat} (hA : AD w a0 a39 a63 a64) (hM : IM G.2.2.1 w P L pr O mp mk T t) (hIP : IP P L pr O mp mk T) (p : Int32) (c : Int32) : XC G mX11_setPrice 2 0 0 [.ref a39, .int p, .int c] w (fun r w' => ∃ v : Int32, r = .inl (some (.int v)) ∧ (cdPC p c P.1 = 0 → v = nI (P.2.2.1 (idx p))) ∧ FM w w' ∧ IM G.2.2.1 w' ((P.1, P.2.1, upIf (cdPC p c P.1) P.2.2.1 (idx p) (idx c), P.2.2.2)) L pr O mp mk T (cdPC p c P.1)) := by
  obtain ⟨-, rfl, rfl, rfl, rfl⟩ := hA
  have hM0 := hM
  obtain ⟨⟨en, h9⟩, hP, hL, hCh, hO, ⟨kf, hKf⟩, ⟨fM, hMk, hMf⟩, ⟨lt, h60⟩, ⟨ea, h61⟩, ⟨eb, h62⟩⟩ := hM
  obtain ⟨hPI, hk16, hLW, hOI, hpr, hmp0, hmz, hT20, hch⟩ := hIP
  refine XC.mono (fun r w' hq => ?_) (m_setPrice h9 hP hPI.1 p c)
  obtain ⟨v, hv, hv2, hw⟩ := hq
  refine ⟨v, hv, hv2, ?_⟩
  subst hw
  exact ⟨(by repeat (first | exact FM.rf | refine FM.set ?_ (by decide) (by decide))), ⟨⟨_, ⟨h9.1, rfl⟩⟩, ⟨hP.1, ⟨hP.2.1.1, rfl⟩, hP.2.2⟩, hL, hCh, hO, ⟨_, hKf⟩, ⟨_, hMk, hMf⟩, ⟨_, h60⟩, ⟨_, h61⟩, ⟨_, h62⟩⟩⟩
set_option maxRecDepth 20000 in
theorem cx_setGrams {P : PSt} {L : LSt} {pr : Nat → Nat} {O : OSt} {mp : Nat} {mk : Nat → UInt32} {T : List Nat} {a0 a39 a63 a64 : Nat} {dc tc : Nat} (hA : AD w a0 a39 a63 a64) (hIX : IX G.2.2.1 w P L pr O mp mk T dc tc) (hIP : IP P L pr O mp mk T) (p : Int32) (c : Int32) : XC G mX10_setGrams 7 (2) (12) [.ref a0, .int p, .int c] w (fun r w' => r = xr (cdPC p c P.1) [eIOB, eIAE] (.int (nI (P.2.2.2 (idx p)))) ∧ IX G.2.2.1 w' ((P.1, P.2.1, P.2.2.1, upIf (cdPC p c P.1) P.2.2.2 (idx p) (idx c))) L pr O mp mk T dc tc ∧ FX w w') := by
  obtain ⟨-, rfl, rfl, rfl, rfl⟩ := hA
  have hIX0 := hIX
  obtain ⟨h0, hB, hP, hL, hXS, ⟨hc, hl, hS⟩, hO, ⟨qa, qb, hQ⟩, ⟨cc, hC⟩, ⟨cw, hWt⟩, ⟨dn, da, db, hD⟩, ⟨tt, hT, hTC⟩, ⟨fX, hX, hXf⟩, hc16, hdc, htl, htc⟩ := hIX
  obtain ⟨hPI, hk16, hLW, hOI, hpr, hmp0, hmz, hT20, hch⟩ := hIP
  have hcap : dc < 2 ^ 19 := by omega
  have htcap : tc < 2 ^ 19 := by omega
  refine XC.mono (fun r w' hq => ⟨hq.1, ?_⟩) (c_setGrams h0 hB hP hPI.1 p c)
  have hw := hq.2
  subst hw
  exact ⟨⟨h0, hB, ⟨hP.1, hP.2.1, hP.2.2.1, ⟨hP.2.2.2.1, rfl⟩⟩, hL, hXS, ⟨_, _, hS⟩, hO, ⟨_, _, hQ⟩, ⟨_, hC⟩, ⟨_, hWt⟩, ⟨_, _, _, hD⟩, ⟨_, hT, hTC⟩, ⟨_, hX, hXf⟩, hc16, hdc, htl, htc⟩, (by repeat (first | exact FX.rf | refine FX.relT ?_ | refine FX.relD ?_ | refine FX.set ?_ (by decide)))⟩
set_option maxRecDepth 20000 in
theorem r_setGrams {P : PSt} {L : LSt} {pr : Nat → Nat} {O : OSt} {mp : Nat} {mk : Nat → UInt32} {T : List Nat} {a0 a39 a63 a64 : Nat} {t : Nat} (hA : AD w a0 a39 a63 a64) (hM : IM G.2.2.1 w P L pr O mp mk T t) (hIP : IP P L pr O mp mk T) (p : Int32) (c : Int32) : XC G mX11_setGrams 2 0 0 [.ref a39, .int p, .int c] w (fun r w' => ∃ v : Int32, r = .inl (some (.int v)) ∧ (cdPC p c P.1 = 0 → v = nI (P.2.2.2 (idx p))) ∧ FM w w' ∧ IM G.2.2.1 w' ((P.1, P.2.1, P.2.2.1, upIf (cdPC p c P.1) P.2.2.2 (idx p) (idx c))) L pr O mp mk T (cdPC p c P.1)) := by
  obtain ⟨-, rfl, rfl, rfl, rfl⟩ := hA
  have hM0 := hM
  obtain ⟨⟨en, h9⟩, hP, hL, hCh, hO, ⟨kf, hKf⟩, ⟨fM, hMk, hMf⟩, ⟨lt, h60⟩, ⟨ea, h61⟩, ⟨eb, h62⟩⟩ := hM
  obtain ⟨hPI, hk16, hLW, hOI, hpr, hmp0, hmz, hT20, hch⟩ := hIP
  refine XC.mono (fun r w' hq => ?_) (m_setGrams h9 hP hPI.1 p c)
  obtain ⟨v, hv, hv2, hw⟩ := hq
  refine ⟨v, hv, hv2, ?_⟩
  subst hw
  exact ⟨(by repeat (first | exact FM.rf | refine FM.set ?_ (by decide) (by decide))), ⟨⟨_, ⟨h9.1, rfl⟩⟩, ⟨hP.1, hP.2.1, ⟨hP.2.2.1, rfl⟩⟩, hL, hCh, hO, ⟨_, hKf⟩, ⟨_, hMk, hMf⟩, ⟨_, h60⟩, ⟨_, h61⟩, ⟨_, h62⟩⟩⟩
set_option maxRecDepth 20000 in
theorem cx_setKind {P : PSt} {L : LSt} {pr : Nat → Nat} {O : OSt} {mp : Nat} {mk : Nat → UInt32} {T : List Nat} {a0 a39 a63 a64 : Nat} {dc tc : Nat} (hA : AD w a0 a39 a63 a64) (hIX : IX G.2.2.1 w P L pr O mp mk T dc tc) (hIP : IP P L pr O mp mk T) (p : Int32) (k : Nat) (hk : k < 65536) : XC G mX10_setKind 7 (2) (12) [.ref a0, .int p, .int (nI k)] w (fun r w' => r = xr (cdPK p (nI k) P.1) [eIOB, eIAE] (.int (nI (P.2.1 (idx p)))) ∧ IX G.2.2.1 w' ((P.1, upIf (cdPK p (nI k) P.1) P.2.1 (idx p) k, P.2.2.1, P.2.2.2)) L pr O mp mk T dc tc ∧ FX w w') := by
  obtain ⟨-, rfl, rfl, rfl, rfl⟩ := hA
  have hIX0 := hIX
  obtain ⟨h0, hB, hP, hL, hXS, ⟨hc, hl, hS⟩, hO, ⟨qa, qb, hQ⟩, ⟨cc, hC⟩, ⟨cw, hWt⟩, ⟨dn, da, db, hD⟩, ⟨tt, hT, hTC⟩, ⟨fX, hX, hXf⟩, hc16, hdc, htl, htc⟩ := hIX
  obtain ⟨hPI, hk16, hLW, hOI, hpr, hmp0, hmz, hT20, hch⟩ := hIP
  have hcap : dc < 2 ^ 19 := by omega
  have htcap : tc < 2 ^ 19 := by omega
  refine XC.mono (fun r w' hq => ⟨hq.1, ?_⟩) (c_setKind h0 hB hP hPI.1 hk16 p k hk)
  have hw := hq.2
  subst hw
  exact ⟨⟨h0, hB, ⟨hP.1, ⟨hP.2.1.1, rfl⟩, hP.2.2.1, hP.2.2.2⟩, hL, hXS, ⟨_, _, hS⟩, hO, ⟨_, _, hQ⟩, ⟨_, hC⟩, ⟨_, hWt⟩, ⟨_, _, _, hD⟩, ⟨_, hT, hTC⟩, ⟨_, hX, hXf⟩, hc16, hdc, htl, htc⟩, (by repeat (first | exact FX.rf | refine FX.relT ?_ | refine FX.relD ?_ | refine FX.set ?_ (by decide)))⟩
set_option maxRecDepth 20000 in
theorem r_setKind {P : PSt} {L : LSt} {pr : Nat → Nat} {O : OSt} {mp : Nat} {mk : Nat → UInt32} {T : List Nat} {a0 a39 a63 a64 : Nat} {t : Nat} (hA : AD w a0 a39 a63 a64) (hM : IM G.2.2.1 w P L pr O mp mk T t) (hIP : IP P L pr O mp mk T) (p : Int32) (k : Nat) (hk : k < 65536) : XC G mX11_setKind 2 0 0 [.ref a39, .int p, .int (nI k)] w (fun r w' => ∃ v : Int32, r = .inl (some (.int v)) ∧ (cdPK p (nI k) P.1 = 0 → v = nI (P.2.1 (idx p))) ∧ FM w w' ∧ IM G.2.2.1 w' ((P.1, upIf (cdPK p (nI k) P.1) P.2.1 (idx p) k, P.2.2.1, P.2.2.2)) L pr O mp mk T (cdPK p (nI k) P.1)) := by
  obtain ⟨-, rfl, rfl, rfl, rfl⟩ := hA
  have hM0 := hM
  obtain ⟨⟨en, h9⟩, hP, hL, hCh, hO, ⟨kf, hKf⟩, ⟨fM, hMk, hMf⟩, ⟨lt, h60⟩, ⟨ea, h61⟩, ⟨eb, h62⟩⟩ := hM
  obtain ⟨hPI, hk16, hLW, hOI, hpr, hmp0, hmz, hT20, hch⟩ := hIP
  refine XC.mono (fun r w' hq => ?_) (m_setKind h9 hP hPI.1 hk16 p k hk)
  obtain ⟨v, hv, hv2, hw⟩ := hq
  refine ⟨v, hv, hv2, ?_⟩
  subst hw
  exact ⟨(by repeat (first | exact FM.rf | refine FM.set ?_ (by decide) (by decide))), ⟨⟨_, ⟨h9.1, rfl⟩⟩, ⟨⟨hP.1.1, rfl⟩, hP.2.1, hP.2.2⟩, hL, hCh, hO, ⟨_, hKf⟩, ⟨_, hMk, hMf⟩, ⟨_, h60⟩, ⟨_, h61⟩, ⟨_, h62⟩⟩⟩
set_option maxRecDepth 20000 in
theorem cx_kind {P : PSt} {L : LSt} {pr : Nat → Nat} {O : OSt} {mp : Nat} {mk : Nat → UInt32} {T : List Nat} {a0 a39 a63 a64 : Nat} {dc tc : Nat} (hA : AD w a0 a39 a63 a64) (hIX : IX G.2.2.1 w P L pr O mp mk T dc tc) (hIP : IP P L pr O mp mk T) (p : Int32) : XC G mX10_kind 7 (1) (6) [.ref a0, .int p] w (fun r w' => r = xr (cdP p P.1) [eIOB] (.int (nI (P.2.1 (idx p)))) ∧ IX G.2.2.1 w' P L pr O mp mk T dc tc ∧ FX w w') := by
  obtain ⟨-, rfl, rfl, rfl, rfl⟩ := hA
  have hIX0 := hIX
  obtain ⟨h0, hB, hP, hL, hXS, ⟨hc, hl, hS⟩, hO, ⟨qa, qb, hQ⟩, ⟨cc, hC⟩, ⟨cw, hWt⟩, ⟨dn, da, db, hD⟩, ⟨tt, hT, hTC⟩, ⟨fX, hX, hXf⟩, hc16, hdc, htl, htc⟩ := hIX
  obtain ⟨hPI, hk16, hLW, hOI, hpr, hmp0, hmz, hT20, hch⟩ := hIP
  have hcap : dc < 2 ^ 19 := by omega
  have htcap : tc < 2 ^ 19 := by omega
  refine XC.mono (fun r w' hq => ⟨hq.1, ?_⟩) (c_kind h0 hB hP hPI.1 hk16 p)
  have hw := hq.2
  subst hw
  exact ⟨⟨h0, hB, hP, hL, hXS, ⟨_, _, hS⟩, hO, ⟨_, _, hQ⟩, ⟨_, hC⟩, ⟨_, hWt⟩, ⟨_, _, _, hD⟩, ⟨_, hT, hTC⟩, ⟨_, hX, hXf⟩, hc16, hdc, htl, htc⟩, FX.rf⟩
set_option maxRecDepth 20000 in
theorem r_kind {P : PSt} {L : LSt} {pr : Nat → Nat} {O : OSt} {mp : Nat} {mk : Nat → UInt32} {T : List Nat} {a0 a39 a63 a64 : Nat} {t : Nat} (hA : AD w a0 a39 a63 a64) (hM : IM G.2.2.1 w P L pr O mp mk T t) (hIP : IP P L pr O mp mk T) (p : Int32) : XC G mX11_kind 2 0 0 [.ref a39, .int p] w (fun r w' => ∃ v : Int32, r = .inl (some (.int v)) ∧ (cdP p P.1 = 0 → v = nI (P.2.1 (idx p))) ∧ FM w w' ∧ IM G.2.2.1 w' P L pr O mp mk T (cdP p P.1)) := by
  obtain ⟨-, rfl, rfl, rfl, rfl⟩ := hA
  have hM0 := hM
  obtain ⟨⟨en, h9⟩, hP, hL, hCh, hO, ⟨kf, hKf⟩, ⟨fM, hMk, hMf⟩, ⟨lt, h60⟩, ⟨ea, h61⟩, ⟨eb, h62⟩⟩ := hM
  obtain ⟨hPI, hk16, hLW, hOI, hpr, hmp0, hmz, hT20, hch⟩ := hIP
  refine XC.mono (fun r w' hq => ?_) (m_kind h9 hP hPI.1 hk16 p)
  obtain ⟨v, hv, hv2, hw⟩ := hq
  refine ⟨v, hv, hv2, ?_⟩
  subst hw
  exact ⟨(by repeat (first | exact FM.rf | refine FM.set ?_ (by decide) (by decide))), ⟨⟨_, ⟨h9.1, rfl⟩⟩, hP, hL, hCh, hO, ⟨_, hKf⟩, ⟨_, hMk, hMf⟩, ⟨_, h60⟩, ⟨_, h61⟩, ⟨_, h62⟩⟩⟩
set_option maxRecDepth 20000 in
theorem cx_addLine {P : PSt} {L : LSt} {pr : Nat → Nat} {O : OSt} {mp : Nat} {mk : Nat → UInt32} {T : List Nat} {a0 a39 a63 a64 : Nat} {dc tc : Nat} (hA : AD w a0 a39 a63 a64) (hIX : IX G.2.2.1 w P L pr O mp mk T dc tc) (hIP : IP P L pr O mp mk T) (p : Int32) (k : Int32) (c : Int32) (q : Int32) (a : Int32) (b : Int32) : XC G mX10_addLine 7 (8) (48) [.ref a0, .int p, .int k, .int c, .int q, .int a, .int b] w (fun r w' => r = xr (cdAL P.1 L p k c q a b) [eIOB, eIAE, eUOE, eISE] (.int (nI (ln L))) ∧ IX G.2.2.1 w' P (if (cdAL P.1 L p k c q a b) = 0 then newL L (idx p) (idx k) (idx c) (idx q) 0 (idx a) (idx b) 0 0 else L) pr O mp mk T dc tc ∧ FX w w') := by
  obtain ⟨-, rfl, rfl, rfl, rfl⟩ := hA
  have hIX0 := hIX
  obtain ⟨h0, hB, hP, hL, hXS, ⟨hc, hl, hS⟩, hO, ⟨qa, qb, hQ⟩, ⟨cc, hC⟩, ⟨cw, hWt⟩, ⟨dn, da, db, hD⟩, ⟨tt, hT, hTC⟩, ⟨fX, hX, hXf⟩, hc16, hdc, htl, htc⟩ := hIX
  obtain ⟨hPI, hk16, hLW, hOI, hpr, hmp0, hmz, hT20, hch⟩ := hIP
  have hcap : dc < 2 ^ 19 := by omega
  have htcap : tc < 2 ^ 19 := by omega
  refine XC.mono (fun r w' hq => ⟨hq.1, ?_⟩) (c_addLine h0 hB hP hL hXS rfl hLW.1 p k c q a b)
  have hw := hq.2
  by_cases hcw : cdAL P.1 L p k c q a b = 0
  · skip
    rw [if_pos hcw] at hw
    try simp only [if_pos hcw]
    subst hw
    exact ⟨IX.lines hIX0 (FL_xNew FL.rf) (XL_xNew hL) (XS_xNew hXS), (FL_xNew FL.rf).fx⟩
  · skip
    rw [if_neg hcw] at hw
    subst hw
    try simp only [if_neg hcw]
    exact ⟨⟨h0, hB, hP, hL, hXS, ⟨_, _, hS⟩, hO, ⟨_, _, hQ⟩, ⟨_, hC⟩, ⟨_, hWt⟩, ⟨_, _, _, hD⟩, ⟨_, hT, hTC⟩, ⟨_, hX, hXf⟩, hc16, hdc, htl, htc⟩, FX.rf⟩
set_option maxRecDepth 20000 in
theorem r_addLine {P : PSt} {L : LSt} {pr : Nat → Nat} {O : OSt} {mp : Nat} {mk : Nat → UInt32} {T : List Nat} {a0 a39 a63 a64 : Nat} {t : Nat} (hA : AD w a0 a39 a63 a64) (hM : IM G.2.2.1 w P L pr O mp mk T t) (hIP : IP P L pr O mp mk T) (p : Int32) (k : Int32) (c : Int32) (q : Int32) (a : Int32) (b : Int32) : XC G mX11_addLine 10 0 0 [.ref a39, .int p, .int k, .int c, .int q, .int a, .int b] w (fun r w' => ∃ v : Int32, r = .inl (some (.int v)) ∧ (cdAL P.1 L p k c q a b = 0 → v = nI (ln L)) ∧ FM w w' ∧ IM G.2.2.1 w' P (if (cdAL P.1 L p k c q a b) = 0 then newL L (idx p) (idx k) (idx c) (idx q) 0 (idx a) (idx b) 0 0 else L) pr O mp mk T (cdAL P.1 L p k c q a b)) := by
  obtain ⟨-, rfl, rfl, rfl, rfl⟩ := hA
  have hM0 := hM
  obtain ⟨⟨en, h9⟩, hP, hL, hCh, hO, ⟨kf, hKf⟩, ⟨fM, hMk, hMf⟩, ⟨lt, h60⟩, ⟨ea, h61⟩, ⟨eb, h62⟩⟩ := hM
  obtain ⟨hPI, hk16, hLW, hOI, hpr, hmp0, hmz, hT20, hch⟩ := hIP
  refine XC.mono (fun r w' hq => ?_) (m_addLine h9 hL rfl hLW.1 hLW.2.2 p k c q a b)
  obtain ⟨v, hv, hv2, hw⟩ := hq
  refine ⟨v, hv, hv2, ?_⟩
  by_cases hcw : cdAL P.1 L p k c q a b = 0
  · skip
    rw [if_pos hcw] at hw
    try simp only [if_pos hcw]
    rw [hcw]
    subst hw
    exact ⟨(FN_mPut FN.rf).fm, IM.lines hM0 (FN_mPut FN.rf) (M0_mPut h9) (ML_mPut hL)⟩
  · skip
    rw [if_neg hcw] at hw
    subst hw
    try simp only [if_neg hcw]
    exact ⟨(by repeat (first | exact FM.rf | refine FM.set ?_ (by decide) (by decide))), ⟨⟨_, ⟨h9.1, rfl⟩⟩, hP, hL, hCh, hO, ⟨_, hKf⟩, ⟨_, hMk, hMf⟩, ⟨_, h60⟩, ⟨_, h61⟩, ⟨_, h62⟩⟩⟩
set_option maxRecDepth 20000 in
theorem cx_addVariant {P : PSt} {L : LSt} {pr : Nat → Nat} {O : OSt} {mp : Nat} {mk : Nat → UInt32} {T : List Nat} {a0 a39 a63 a64 : Nat} {dc tc : Nat} (hA : AD w a0 a39 a63 a64) (hIX : IX G.2.2.1 w P L pr O mp mk T dc tc) (hIP : IP P L pr O mp mk T) (p : Int32) (k : Int32) (c : Int32) (q : Int32) (o : Int32) (s : Int32) : XC G mX10_addVariant 7 (8) (48) [.ref a0, .int p, .int k, .int c, .int q, .int o, .int s] w (fun r w' => r = xr (cdAV P.1 L p k c q o s) [eIOB, eIAE, eUOE, eISE] (.int (nI (ln L))) ∧ IX G.2.2.1 w' P (if (cdAV P.1 L p k c q o s) = 0 then newL L (idx p) (idx k) (idx c) (idx q) 0 1 999 (idx o + 1) (idx s) else L) pr O mp mk T dc tc ∧ FX w w') := by
  obtain ⟨-, rfl, rfl, rfl, rfl⟩ := hA
  have hIX0 := hIX
  obtain ⟨h0, hB, hP, hL, hXS, ⟨hc, hl, hS⟩, hO, ⟨qa, qb, hQ⟩, ⟨cc, hC⟩, ⟨cw, hWt⟩, ⟨dn, da, db, hD⟩, ⟨tt, hT, hTC⟩, ⟨fX, hX, hXf⟩, hc16, hdc, htl, htc⟩ := hIX
  obtain ⟨hPI, hk16, hLW, hOI, hpr, hmp0, hmz, hT20, hch⟩ := hIP
  have hcap : dc < 2 ^ 19 := by omega
  have htcap : tc < 2 ^ 19 := by omega
  refine XC.mono (fun r w' hq => ⟨hq.1, ?_⟩) (c_addVariant h0 hB hP hL hXS rfl hLW.1 p k c q o s)
  have hw := hq.2
  by_cases hcw : cdAV P.1 L p k c q o s = 0
  · skip
    rw [if_pos hcw] at hw
    try simp only [if_pos hcw]
    subst hw
    exact ⟨IX.lines hIX0 (FL_xNew FL.rf) (XL_xNew hL) (XS_xNew hXS), (FL_xNew FL.rf).fx⟩
  · skip
    rw [if_neg hcw] at hw
    subst hw
    try simp only [if_neg hcw]
    exact ⟨⟨h0, hB, hP, hL, hXS, ⟨_, _, hS⟩, hO, ⟨_, _, hQ⟩, ⟨_, hC⟩, ⟨_, hWt⟩, ⟨_, _, _, hD⟩, ⟨_, hT, hTC⟩, ⟨_, hX, hXf⟩, hc16, hdc, htl, htc⟩, FX.rf⟩
set_option maxRecDepth 20000 in
theorem r_addVariant {P : PSt} {L : LSt} {pr : Nat → Nat} {O : OSt} {mp : Nat} {mk : Nat → UInt32} {T : List Nat} {a0 a39 a63 a64 : Nat} {t : Nat} (hA : AD w a0 a39 a63 a64) (hM : IM G.2.2.1 w P L pr O mp mk T t) (hIP : IP P L pr O mp mk T) (p : Int32) (k : Int32) (c : Int32) (q : Int32) (o : Int32) (s : Int32) : XC G mX11_addVariant 10 0 0 [.ref a39, .int p, .int k, .int c, .int q, .int o, .int s] w (fun r w' => ∃ v : Int32, r = .inl (some (.int v)) ∧ (cdAV P.1 L p k c q o s = 0 → v = nI (ln L)) ∧ FM w w' ∧ IM G.2.2.1 w' P (if (cdAV P.1 L p k c q o s) = 0 then newL L (idx p) (idx k) (idx c) (idx q) 0 1 999 (idx o + 1) (idx s) else L) pr O mp mk T (cdAV P.1 L p k c q o s)) := by
  obtain ⟨-, rfl, rfl, rfl, rfl⟩ := hA
  have hM0 := hM
  obtain ⟨⟨en, h9⟩, hP, hL, hCh, hO, ⟨kf, hKf⟩, ⟨fM, hMk, hMf⟩, ⟨lt, h60⟩, ⟨ea, h61⟩, ⟨eb, h62⟩⟩ := hM
  obtain ⟨hPI, hk16, hLW, hOI, hpr, hmp0, hmz, hT20, hch⟩ := hIP
  refine XC.mono (fun r w' hq => ?_) (m_addVariant h9 hL rfl hLW.1 hLW.2.2 p k c q o s)
  obtain ⟨v, hv, hv2, hw⟩ := hq
  refine ⟨v, hv, hv2, ?_⟩
  by_cases hcw : cdAV P.1 L p k c q o s = 0
  · skip
    rw [if_pos hcw] at hw
    try simp only [if_pos hcw]
    rw [hcw]
    subst hw
    exact ⟨(FN_mPut FN.rf).fm, IM.lines hM0 (FN_mPut FN.rf) (M0_mPut h9) (ML_mPut hL)⟩
  · skip
    rw [if_neg hcw] at hw
    subst hw
    try simp only [if_neg hcw]
    exact ⟨(by repeat (first | exact FM.rf | refine FM.set ?_ (by decide) (by decide))), ⟨⟨_, ⟨h9.1, rfl⟩⟩, hP, hL, hCh, hO, ⟨_, hKf⟩, ⟨_, hMk, hMf⟩, ⟨_, h60⟩, ⟨_, h61⟩, ⟨_, h62⟩⟩⟩
set_option maxRecDepth 20000 in
theorem cx_replaceFrom {P : PSt} {L : LSt} {pr : Nat → Nat} {O : OSt} {mp : Nat} {mk : Nat → UInt32} {T : List Nat} {a0 a39 a63 a64 : Nat} {dc tc : Nat} (hA : AD w a0 a39 a63 a64) (hIX : IX G.2.2.1 w P L pr O mp mk T dc tc) (hIP : IP P L pr O mp mk T) (l : Int32) (s : Int32) (c : Int32) (q : Int32) : XC G mX10_replaceFrom 7 (8) (48) [.ref a0, .int l, .int s, .int c, .int q] w (fun r w' => r = xr (cdRF P.1 L l s c q) [eIOB, eIAE, eUOE, eISE] (.int (nI (ln L))) ∧ IX G.2.2.1 w' P (if (cdRF P.1 L l s c q) = 0 then repL L (idx l) (idx s) (idx c) (idx q) else L) pr O mp mk T dc tc ∧ FX w w') := by
  obtain ⟨-, rfl, rfl, rfl, rfl⟩ := hA
  have hIX0 := hIX
  obtain ⟨h0, hB, hP, hL, hXS, ⟨hc, hl, hS⟩, hO, ⟨qa, qb, hQ⟩, ⟨cc, hC⟩, ⟨cw, hWt⟩, ⟨dn, da, db, hD⟩, ⟨tt, hT, hTC⟩, ⟨fX, hX, hXf⟩, hc16, hdc, htl, htc⟩ := hIX
  obtain ⟨hPI, hk16, hLW, hOI, hpr, hmp0, hmz, hT20, hch⟩ := hIP
  have hcap : dc < 2 ^ 19 := by omega
  have htcap : tc < 2 ^ 19 := by omega
  refine XC.mono (fun r w' hq => ⟨hq.1, ?_⟩) (c_replaceFrom h0 hB hP hL hXS rfl hLW.1 l s c q)
  have hw := hq.2
  by_cases hcw : cdRF P.1 L l s c q = 0
  · skip
    rw [if_pos hcw] at hw
    try simp only [if_pos hcw]
    subst hw
    exact ⟨IX.lines hIX0 (FL.set (FL.set (FL_xNew FL.rf) (by decide) (by decide)) (by decide) (by decide)) (XL_rep hL) (XS_rep hXS), (FL.set (FL.set (FL_xNew FL.rf) (by decide) (by decide)) (by decide) (by decide)).fx⟩
  · skip
    rw [if_neg hcw] at hw
    subst hw
    try simp only [if_neg hcw]
    exact ⟨⟨h0, hB, hP, hL, hXS, ⟨_, _, hS⟩, hO, ⟨_, _, hQ⟩, ⟨_, hC⟩, ⟨_, hWt⟩, ⟨_, _, _, hD⟩, ⟨_, hT, hTC⟩, ⟨_, hX, hXf⟩, hc16, hdc, htl, htc⟩, FX.rf⟩
set_option maxRecDepth 20000 in
theorem r_replaceFrom {P : PSt} {L : LSt} {pr : Nat → Nat} {O : OSt} {mp : Nat} {mk : Nat → UInt32} {T : List Nat} {a0 a39 a63 a64 : Nat} {t : Nat} (hA : AD w a0 a39 a63 a64) (hM : IM G.2.2.1 w P L pr O mp mk T t) (hIP : IP P L pr O mp mk T) (l : Int32) (s : Int32) (c : Int32) (q : Int32) : XC G mX11_replaceFrom 10 0 0 [.ref a39, .int l, .int s, .int c, .int q] w (fun r w' => ∃ v : Int32, r = .inl (some (.int v)) ∧ (cdRF P.1 L l s c q = 0 → v = nI (ln L)) ∧ FM w w' ∧ IM G.2.2.1 w' P (if (cdRF P.1 L l s c q) = 0 then repL L (idx l) (idx s) (idx c) (idx q) else L) pr O mp mk T (cdRF P.1 L l s c q)) := by
  obtain ⟨-, rfl, rfl, rfl, rfl⟩ := hA
  have hM0 := hM
  obtain ⟨⟨en, h9⟩, hP, hL, hCh, hO, ⟨kf, hKf⟩, ⟨fM, hMk, hMf⟩, ⟨lt, h60⟩, ⟨ea, h61⟩, ⟨eb, h62⟩⟩ := hM
  obtain ⟨hPI, hk16, hLW, hOI, hpr, hmp0, hmz, hT20, hch⟩ := hIP
  refine XC.mono (fun r w' hq => ?_) (m_replaceFrom h9 hL rfl hLW.1 hLW.2.2 l s c q)
  obtain ⟨v, hv, hv2, hw⟩ := hq
  refine ⟨v, hv, hv2, ?_⟩
  by_cases hcw : cdRF P.1 L l s c q = 0
  · skip
    rw [if_pos hcw] at hw
    try simp only [if_pos hcw]
    rw [hcw]
    subst hw
    exact ⟨(FN.set (FN.set (FN_mPut FN.rf) (by decide)) (by decide)).fm, IM.lines hM0 (FN.set (FN.set (FN_mPut FN.rf) (by decide)) (by decide)) (M0_rep h9) (ML_rep hL)⟩
  · skip
    rw [if_neg hcw] at hw
    subst hw
    try simp only [if_neg hcw]
    exact ⟨(by repeat (first | exact FM.rf | refine FM.set ?_ (by decide) (by decide))), ⟨⟨_, ⟨h9.1, rfl⟩⟩, hP, hL, hCh, hO, ⟨_, hKf⟩, ⟨_, hMk, hMf⟩, ⟨_, h60⟩, ⟨_, h61⟩, ⟨_, h62⟩⟩⟩
set_option maxRecDepth 20000 in
theorem cx_endBefore {P : PSt} {L : LSt} {pr : Nat → Nat} {O : OSt} {mp : Nat} {mk : Nat → UInt32} {T : List Nat} {a0 a39 a63 a64 : Nat} {dc tc : Nat} (hA : AD w a0 a39 a63 a64) (hIX : IX G.2.2.1 w P L pr O mp mk T dc tc) (hIP : IP P L pr O mp mk T) (l : Int32) (s : Int32) : XC G mX10_endBefore 7 (2) (12) [.ref a0, .int l, .int s] w (fun r w' => r = xr (cdEB L l s) [eIOB, eIAE] (.int (nI (la L (idx l)))) ∧ IX G.2.2.1 w' P (if (cdEB L l s) = 0 then cutL L (idx l) (idx s - 1) else L) pr O mp mk T dc tc ∧ FX w w') := by
  obtain ⟨-, rfl, rfl, rfl, rfl⟩ := hA
  have hIX0 := hIX
  obtain ⟨h0, hB, hP, hL, hXS, ⟨hc, hl, hS⟩, hO, ⟨qa, qb, hQ⟩, ⟨cc, hC⟩, ⟨cw, hWt⟩, ⟨dn, da, db, hD⟩, ⟨tt, hT, hTC⟩, ⟨fX, hX, hXf⟩, hc16, hdc, htl, htc⟩ := hIX
  obtain ⟨hPI, hk16, hLW, hOI, hpr, hmp0, hmz, hT20, hch⟩ := hIP
  have hcap : dc < 2 ^ 19 := by omega
  have htcap : tc < 2 ^ 19 := by omega
  refine XC.mono (fun r w' hq => ⟨hq.1, ?_⟩) (c_endBefore h0 hB hL hLW.1 l s)
  have hw := hq.2
  by_cases hcw : cdEB L l s = 0
  · skip
    rw [if_pos hcw] at hw
    try simp only [if_pos hcw]
    subst hw
    unfold cutL
    generalize va_up (la L) (idx l) (idx s - 1) = f1
    exact ⟨⟨h0, hB, hP, (XL_la hL), (XS_la hXS), ⟨_, _, hS⟩, hO, ⟨_, _, hQ⟩, ⟨_, hC⟩, ⟨_, hWt⟩, ⟨_, _, _, hD⟩, ⟨_, hT, hTC⟩, ⟨_, hX, hXf⟩, hc16, hdc, htl, htc⟩, (by repeat (first | exact FX.rf | refine FX.relT ?_ | refine FX.relD ?_ | refine FX.set ?_ (by decide)))⟩
  · skip
    rw [if_neg hcw] at hw
    subst hw
    try simp only [if_neg hcw]
    exact ⟨⟨h0, hB, hP, hL, hXS, ⟨_, _, hS⟩, hO, ⟨_, _, hQ⟩, ⟨_, hC⟩, ⟨_, hWt⟩, ⟨_, _, _, hD⟩, ⟨_, hT, hTC⟩, ⟨_, hX, hXf⟩, hc16, hdc, htl, htc⟩, FX.rf⟩
set_option maxRecDepth 20000 in
theorem r_endBefore {P : PSt} {L : LSt} {pr : Nat → Nat} {O : OSt} {mp : Nat} {mk : Nat → UInt32} {T : List Nat} {a0 a39 a63 a64 : Nat} {t : Nat} (hA : AD w a0 a39 a63 a64) (hM : IM G.2.2.1 w P L pr O mp mk T t) (hIP : IP P L pr O mp mk T) (l : Int32) (s : Int32) : XC G mX11_endBefore 2 0 0 [.ref a39, .int l, .int s] w (fun r w' => ∃ v : Int32, r = .inl (some (.int v)) ∧ (cdEB L l s = 0 → v = nI (la L (idx l))) ∧ FM w w' ∧ IM G.2.2.1 w' P (if (cdEB L l s) = 0 then cutL L (idx l) (idx s - 1) else L) pr O mp mk T (cdEB L l s)) := by
  obtain ⟨-, rfl, rfl, rfl, rfl⟩ := hA
  have hM0 := hM
  obtain ⟨⟨en, h9⟩, hP, hL, hCh, hO, ⟨kf, hKf⟩, ⟨fM, hMk, hMf⟩, ⟨lt, h60⟩, ⟨ea, h61⟩, ⟨eb, h62⟩⟩ := hM
  obtain ⟨hPI, hk16, hLW, hOI, hpr, hmp0, hmz, hT20, hch⟩ := hIP
  refine XC.mono (fun r w' hq => ?_) (m_endBefore h9 hL rfl hLW.1 l s)
  obtain ⟨v, hv, hv2, hw⟩ := hq
  refine ⟨v, hv, hv2, ?_⟩
  by_cases hcw : cdEB L l s = 0
  · skip
    rw [if_pos hcw] at hw
    try simp only [if_pos hcw]
    rw [hcw]
    subst hw
    unfold cutL
    generalize va_up (la L) (idx l) (idx s - 1) = f1
    exact ⟨(by repeat (first | exact FM.rf | refine FM.set ?_ (by decide) (by decide))), ⟨⟨_, ⟨h9.1, rfl⟩⟩, hP, (ML_la hL), hCh, hO, ⟨_, hKf⟩, ⟨_, hMk, hMf⟩, ⟨_, h60⟩, ⟨_, h61⟩, ⟨_, h62⟩⟩⟩
  · skip
    rw [if_neg hcw] at hw
    subst hw
    try simp only [if_neg hcw]
    exact ⟨(by repeat (first | exact FM.rf | refine FM.set ?_ (by decide) (by decide))), ⟨⟨_, ⟨h9.1, rfl⟩⟩, hP, hL, hCh, hO, ⟨_, hKf⟩, ⟨_, hMk, hMf⟩, ⟨_, h60⟩, ⟨_, h61⟩, ⟨_, h62⟩⟩⟩
set_option maxRecDepth 20000 in
theorem cx_setScrap {P : PSt} {L : LSt} {pr : Nat → Nat} {O : OSt} {mp : Nat} {mk : Nat → UInt32} {T : List Nat} {a0 a39 a63 a64 : Nat} {dc tc : Nat} (hA : AD w a0 a39 a63 a64) (hIX : IX G.2.2.1 w P L pr O mp mk T dc tc) (hIP : IP P L pr O mp mk T) (l : Int32) (c : Int32) : XC G mX10_setScrap 7 (2) (12) [.ref a0, .int l, .int c] w (fun r w' => r = xr (cdSS L l c) [eIOB, eIAE] (.int (nI (sc L (idx l)))) ∧ IX G.2.2.1 w' P (if (cdSS L l c) = 0 then (ln L, pa L, po L, ch L, qt L, va_up (sc L) (idx l) (idx c), fi L, la L, op L, cs L) else L) pr O mp mk T dc tc ∧ FX w w') := by
  obtain ⟨-, rfl, rfl, rfl, rfl⟩ := hA
  have hIX0 := hIX
  obtain ⟨h0, hB, hP, hL, hXS, ⟨hc, hl, hS⟩, hO, ⟨qa, qb, hQ⟩, ⟨cc, hC⟩, ⟨cw, hWt⟩, ⟨dn, da, db, hD⟩, ⟨tt, hT, hTC⟩, ⟨fX, hX, hXf⟩, hc16, hdc, htl, htc⟩ := hIX
  obtain ⟨hPI, hk16, hLW, hOI, hpr, hmp0, hmz, hT20, hch⟩ := hIP
  have hcap : dc < 2 ^ 19 := by omega
  have htcap : tc < 2 ^ 19 := by omega
  refine XC.mono (fun r w' hq => ⟨hq.1, ?_⟩) (c_setScrap h0 hB hL hLW.1 l c)
  have hw := hq.2
  by_cases hcw : cdSS L l c = 0
  · skip
    rw [if_pos hcw] at hw
    try simp only [if_pos hcw]
    subst hw
    generalize va_up (sc L) (idx l) (idx c) = f1
    exact ⟨⟨h0, hB, hP, (XL_sc hL), (XS_sc hXS), ⟨_, _, hS⟩, hO, ⟨_, _, hQ⟩, ⟨_, hC⟩, ⟨_, hWt⟩, ⟨_, _, _, hD⟩, ⟨_, hT, hTC⟩, ⟨_, hX, hXf⟩, hc16, hdc, htl, htc⟩, (by repeat (first | exact FX.rf | refine FX.relT ?_ | refine FX.relD ?_ | refine FX.set ?_ (by decide)))⟩
  · skip
    rw [if_neg hcw] at hw
    subst hw
    try simp only [if_neg hcw]
    exact ⟨⟨h0, hB, hP, hL, hXS, ⟨_, _, hS⟩, hO, ⟨_, _, hQ⟩, ⟨_, hC⟩, ⟨_, hWt⟩, ⟨_, _, _, hD⟩, ⟨_, hT, hTC⟩, ⟨_, hX, hXf⟩, hc16, hdc, htl, htc⟩, FX.rf⟩
set_option maxRecDepth 20000 in
theorem r_setScrap {P : PSt} {L : LSt} {pr : Nat → Nat} {O : OSt} {mp : Nat} {mk : Nat → UInt32} {T : List Nat} {a0 a39 a63 a64 : Nat} {t : Nat} (hA : AD w a0 a39 a63 a64) (hM : IM G.2.2.1 w P L pr O mp mk T t) (hIP : IP P L pr O mp mk T) (l : Int32) (c : Int32) : XC G mX11_setScrap 2 0 0 [.ref a39, .int l, .int c] w (fun r w' => ∃ v : Int32, r = .inl (some (.int v)) ∧ (cdSS L l c = 0 → v = nI (sc L (idx l))) ∧ FM w w' ∧ IM G.2.2.1 w' P (if (cdSS L l c) = 0 then (ln L, pa L, po L, ch L, qt L, va_up (sc L) (idx l) (idx c), fi L, la L, op L, cs L) else L) pr O mp mk T (cdSS L l c)) := by
  obtain ⟨-, rfl, rfl, rfl, rfl⟩ := hA
  have hM0 := hM
  obtain ⟨⟨en, h9⟩, hP, hL, hCh, hO, ⟨kf, hKf⟩, ⟨fM, hMk, hMf⟩, ⟨lt, h60⟩, ⟨ea, h61⟩, ⟨eb, h62⟩⟩ := hM
  obtain ⟨hPI, hk16, hLW, hOI, hpr, hmp0, hmz, hT20, hch⟩ := hIP
  refine XC.mono (fun r w' hq => ?_) (m_setScrap h9 hL rfl hLW.1 l c)
  obtain ⟨v, hv, hv2, hw⟩ := hq
  refine ⟨v, hv, hv2, ?_⟩
  by_cases hcw : cdSS L l c = 0
  · skip
    rw [if_pos hcw] at hw
    try simp only [if_pos hcw]
    rw [hcw]
    subst hw
    generalize va_up (sc L) (idx l) (idx c) = f1
    exact ⟨(by repeat (first | exact FM.rf | refine FM.set ?_ (by decide) (by decide))), ⟨⟨_, ⟨h9.1, rfl⟩⟩, hP, (ML_sc hL), hCh, hO, ⟨_, hKf⟩, ⟨_, hMk, hMf⟩, ⟨_, h60⟩, ⟨_, h61⟩, ⟨_, h62⟩⟩⟩
  · skip
    rw [if_neg hcw] at hw
    subst hw
    try simp only [if_neg hcw]
    exact ⟨(by repeat (first | exact FM.rf | refine FM.set ?_ (by decide) (by decide))), ⟨⟨_, ⟨h9.1, rfl⟩⟩, hP, hL, hCh, hO, ⟨_, hKf⟩, ⟨_, hMk, hMf⟩, ⟨_, h60⟩, ⟨_, h61⟩, ⟨_, h62⟩⟩⟩
set_option maxRecDepth 20000 in
theorem cx_lastSerial {P : PSt} {L : LSt} {pr : Nat → Nat} {O : OSt} {mp : Nat} {mk : Nat → UInt32} {T : List Nat} {a0 a39 a63 a64 : Nat} {dc tc : Nat} (hA : AD w a0 a39 a63 a64) (hIX : IX G.2.2.1 w P L pr O mp mk T dc tc) (hIP : IP P L pr O mp mk T) (l : Int32) : XC G mX10_lastSerial 7 (1) (6) [.ref a0, .int l] w (fun r w' => r = xr (cdP l (ln L)) [eIOB] (.int (nI (la L (idx l)))) ∧ IX G.2.2.1 w' P L pr O mp mk T dc tc ∧ FX w w') := by
  obtain ⟨-, rfl, rfl, rfl, rfl⟩ := hA
  have hIX0 := hIX
  obtain ⟨h0, hB, hP, hL, hXS, ⟨hc, hl, hS⟩, hO, ⟨qa, qb, hQ⟩, ⟨cc, hC⟩, ⟨cw, hWt⟩, ⟨dn, da, db, hD⟩, ⟨tt, hT, hTC⟩, ⟨fX, hX, hXf⟩, hc16, hdc, htl, htc⟩ := hIX
  obtain ⟨hPI, hk16, hLW, hOI, hpr, hmp0, hmz, hT20, hch⟩ := hIP
  have hcap : dc < 2 ^ 19 := by omega
  have htcap : tc < 2 ^ 19 := by omega
  refine XC.mono (fun r w' hq => ⟨hq.1, ?_⟩) (c_lastSerial h0 hB hL hLW.1 l)
  have hw := hq.2
  subst hw
  exact ⟨⟨h0, hB, hP, hL, hXS, ⟨_, _, hS⟩, hO, ⟨_, _, hQ⟩, ⟨_, hC⟩, ⟨_, hWt⟩, ⟨_, _, _, hD⟩, ⟨_, hT, hTC⟩, ⟨_, hX, hXf⟩, hc16, hdc, htl, htc⟩, FX.rf⟩
set_option maxRecDepth 20000 in
theorem r_lastSerial {P : PSt} {L : LSt} {pr : Nat → Nat} {O : OSt} {mp : Nat} {mk : Nat → UInt32} {T : List Nat} {a0 a39 a63 a64 : Nat} {t : Nat} (hA : AD w a0 a39 a63 a64) (hM : IM G.2.2.1 w P L pr O mp mk T t) (hIP : IP P L pr O mp mk T) (l : Int32) : XC G mX11_lastSerial 2 0 0 [.ref a39, .int l] w (fun r w' => ∃ v : Int32, r = .inl (some (.int v)) ∧ (cdP l (ln L) = 0 → v = nI (la L (idx l))) ∧ FM w w' ∧ IM G.2.2.1 w' P L pr O mp mk T (cdP l (ln L))) := by
  obtain ⟨-, rfl, rfl, rfl, rfl⟩ := hA
  have hM0 := hM
  obtain ⟨⟨en, h9⟩, hP, hL, hCh, hO, ⟨kf, hKf⟩, ⟨fM, hMk, hMf⟩, ⟨lt, h60⟩, ⟨ea, h61⟩, ⟨eb, h62⟩⟩ := hM
  obtain ⟨hPI, hk16, hLW, hOI, hpr, hmp0, hmz, hT20, hch⟩ := hIP
  refine XC.mono (fun r w' hq => ?_) (m_lastSerial h9 hL rfl hLW.1 l)
  obtain ⟨v, hv, hv2, hw⟩ := hq
  refine ⟨v, hv, hv2, ?_⟩
  subst hw
  exact ⟨(by repeat (first | exact FM.rf | refine FM.set ?_ (by decide) (by decide))), ⟨⟨_, ⟨h9.1, rfl⟩⟩, hP, hL, hCh, hO, ⟨_, hKf⟩, ⟨_, hMk, hMf⟩, ⟨_, h60⟩, ⟨_, h61⟩, ⟨_, h62⟩⟩⟩
set_option maxRecDepth 20000 in
theorem cx_holds {P : PSt} {L : LSt} {pr : Nat → Nat} {O : OSt} {mp : Nat} {mk : Nat → UInt32} {T : List Nat} {a0 a39 a63 a64 : Nat} {dc tc : Nat} (hA : AD w a0 a39 a63 a64) (hIX : IX G.2.2.1 w P L pr O mp mk T dc tc) (hIP : IP P L pr O mp mk T) (l : Int32) (s : Int32) : XC G mX10_holds 7 (2) (12) [.ref a0, .int l, .int s] w (fun r w' => r = xr (cdA l s (ln L)) [eIOB, eIAE] (.int (bI (hld L pr (idx s) (idx l)))) ∧ IX G.2.2.1 w' P L pr O mp mk T dc tc ∧ FX w w') := by
  obtain ⟨-, rfl, rfl, rfl, rfl⟩ := hA
  have hIX0 := hIX
  obtain ⟨h0, hB, hP, hL, hXS, ⟨hc, hl, hS⟩, hO, ⟨qa, qb, hQ⟩, ⟨cc, hC⟩, ⟨cw, hWt⟩, ⟨dn, da, db, hD⟩, ⟨tt, hT, hTC⟩, ⟨fX, hX, hXf⟩, hc16, hdc, htl, htc⟩ := hIX
  obtain ⟨hPI, hk16, hLW, hOI, hpr, hmp0, hmz, hT20, hch⟩ := hIP
  have hcap : dc < 2 ^ 19 := by omega
  have htcap : tc < 2 ^ 19 := by omega
  refine XC.mono (fun r w' hq => ⟨hq.1, ?_⟩) (c_holds h0 hB hL hLW.1 hpr l s)
  have hw := hq.2
  subst hw
  exact ⟨⟨h0, hB, hP, hL, hXS, ⟨_, _, hS⟩, hO, ⟨_, _, hQ⟩, ⟨_, hC⟩, ⟨_, hWt⟩, ⟨_, _, _, hD⟩, ⟨_, hT, hTC⟩, ⟨_, hX, hXf⟩, hc16, hdc, htl, htc⟩, FX.rf⟩
set_option maxRecDepth 20000 in
theorem r_holds {P : PSt} {L : LSt} {pr : Nat → Nat} {O : OSt} {mp : Nat} {mk : Nat → UInt32} {T : List Nat} {a0 a39 a63 a64 : Nat} {t : Nat} (hA : AD w a0 a39 a63 a64) (hM : IM G.2.2.1 w P L pr O mp mk T t) (hIP : IP P L pr O mp mk T) (l : Int32) (s : Int32) : XC G mX11_holds 2 0 0 [.ref a39, .int l, .int s] w (fun r w' => ∃ v : Int32, r = .inl (some (.int v)) ∧ (cdA l s (ln L) = 0 → v = bI (hld L pr (idx s) (idx l))) ∧ FM w w' ∧ IM G.2.2.1 w' P L pr O mp mk T (cdA l s (ln L))) := by
  obtain ⟨-, rfl, rfl, rfl, rfl⟩ := hA
  have hM0 := hM
  obtain ⟨⟨en, h9⟩, hP, hL, hCh, hO, ⟨kf, hKf⟩, ⟨fM, hMk, hMf⟩, ⟨lt, h60⟩, ⟨ea, h61⟩, ⟨eb, h62⟩⟩ := hM
  obtain ⟨hPI, hk16, hLW, hOI, hpr, hmp0, hmz, hT20, hch⟩ := hIP
  refine XC.mono (fun r w' hq => ?_) (m_holds h9 hL rfl hLW.1 hCh hpr l s)
  obtain ⟨v, hv, hv2, hw⟩ := hq
  refine ⟨v, hv, hv2, ?_⟩
  subst hw
  exact ⟨(by repeat (first | exact FM.rf | refine FM.set ?_ (by decide) (by decide))), ⟨⟨_, ⟨h9.1, rfl⟩⟩, hP, hL, hCh, hO, ⟨_, hKf⟩, ⟨_, hMk, hMf⟩, ⟨_, h60⟩, ⟨_, h61⟩, ⟨_, h62⟩⟩⟩
set_option maxRecDepth 20000 in
theorem cx_setChoice {P : PSt} {L : LSt} {pr : Nat → Nat} {O : OSt} {mp : Nat} {mk : Nat → UInt32} {T : List Nat} {a0 a39 a63 a64 : Nat} {dc tc : Nat} (hA : AD w a0 a39 a63 a64) (hIX : IX G.2.2.1 w P L pr O mp mk T dc tc) (hIP : IP P L pr O mp mk T) (l : Int32) (c : Int32) : XC G mX10_setChoice 7 (2) (12) [.ref a0, .int l, .int c] w (fun r w' => r = xr (cdSC l c) [eIOB, eIAE] (.int (nI (pr (idx l)))) ∧ IX G.2.2.1 w' P L (if (cdSC l c) = 0 then va_up pr (idx l) (idx c) else pr) O mp mk T dc tc ∧ FX w w') := by
  obtain ⟨-, rfl, rfl, rfl, rfl⟩ := hA
  have hIX0 := hIX
  obtain ⟨h0, hB, hP, hL, hXS, ⟨hc, hl, hS⟩, hO, ⟨qa, qb, hQ⟩, ⟨cc, hC⟩, ⟨cw, hWt⟩, ⟨dn, da, db, hD⟩, ⟨tt, hT, hTC⟩, ⟨fX, hX, hXf⟩, hc16, hdc, htl, htc⟩ := hIX
  obtain ⟨hPI, hk16, hLW, hOI, hpr, hmp0, hmz, hT20, hch⟩ := hIP
  have hcap : dc < 2 ^ 19 := by omega
  have htcap : tc < 2 ^ 19 := by omega
  refine XC.mono (fun r w' hq => ⟨hq.1, ?_⟩) (c_setChoice h0 hpr l c)
  have hw := hq.2
  by_cases hcw : cdSC l c = 0
  · skip
    rw [if_pos hcw] at hw
    try simp only [if_pos hcw]
    subst hw
    exact ⟨⟨⟨h0.1, rfl⟩, hB, hP, hL, hXS, ⟨_, _, hS⟩, hO, ⟨_, _, hQ⟩, ⟨_, hC⟩, ⟨_, hWt⟩, ⟨_, _, _, hD⟩, ⟨_, hT, hTC⟩, ⟨_, hX, hXf⟩, hc16, hdc, htl, htc⟩, (by repeat (first | exact FX.rf | refine FX.relT ?_ | refine FX.relD ?_ | refine FX.set ?_ (by decide)))⟩
  · skip
    rw [if_neg hcw] at hw
    subst hw
    try simp only [if_neg hcw]
    exact ⟨⟨h0, hB, hP, hL, hXS, ⟨_, _, hS⟩, hO, ⟨_, _, hQ⟩, ⟨_, hC⟩, ⟨_, hWt⟩, ⟨_, _, _, hD⟩, ⟨_, hT, hTC⟩, ⟨_, hX, hXf⟩, hc16, hdc, htl, htc⟩, FX.rf⟩
set_option maxRecDepth 20000 in
theorem r_setChoice {P : PSt} {L : LSt} {pr : Nat → Nat} {O : OSt} {mp : Nat} {mk : Nat → UInt32} {T : List Nat} {a0 a39 a63 a64 : Nat} {t : Nat} (hA : AD w a0 a39 a63 a64) (hM : IM G.2.2.1 w P L pr O mp mk T t) (hIP : IP P L pr O mp mk T) (l : Int32) (c : Int32) : XC G mX11_setChoice 1 0 0 [.ref a39, .int l, .int c] w (fun r w' => ∃ v : Int32, r = .inl (some (.int v)) ∧ (cdSC l c = 0 → v = nI (pr (idx l))) ∧ FM w w' ∧ IM G.2.2.1 w' P L (if (cdSC l c) = 0 then va_up pr (idx l) (idx c) else pr) O mp mk T (cdSC l c)) := by
  obtain ⟨-, rfl, rfl, rfl, rfl⟩ := hA
  have hM0 := hM
  obtain ⟨⟨en, h9⟩, hP, hL, hCh, hO, ⟨kf, hKf⟩, ⟨fM, hMk, hMf⟩, ⟨lt, h60⟩, ⟨ea, h61⟩, ⟨eb, h62⟩⟩ := hM
  obtain ⟨hPI, hk16, hLW, hOI, hpr, hmp0, hmz, hT20, hch⟩ := hIP
  refine XC.mono (fun r w' hq => ?_) (m_setChoice h9 hCh l c)
  obtain ⟨v, hv, hv2, hw⟩ := hq
  refine ⟨v, hv, hv2, ?_⟩
  by_cases hcw : cdSC l c = 0
  · skip
    rw [if_pos hcw] at hw
    try simp only [if_pos hcw]
    rw [hcw]
    subst hw
    exact ⟨(by repeat (first | exact FM.rf | refine FM.set ?_ (by decide) (by decide))), ⟨⟨_, ⟨h9.1, rfl⟩⟩, hP, hL, ⟨hCh.1, rfl⟩, hO, ⟨_, hKf⟩, ⟨_, hMk, hMf⟩, ⟨_, h60⟩, ⟨_, h61⟩, ⟨_, h62⟩⟩⟩
  · skip
    rw [if_neg hcw] at hw
    subst hw
    try simp only [if_neg hcw]
    exact ⟨(by repeat (first | exact FM.rf | refine FM.set ?_ (by decide) (by decide))), ⟨⟨_, ⟨h9.1, rfl⟩⟩, hP, hL, hCh, hO, ⟨_, hKf⟩, ⟨_, hMk, hMf⟩, ⟨_, h60⟩, ⟨_, h61⟩, ⟨_, h62⟩⟩⟩
set_option maxRecDepth 20000 in
theorem cx_choice {P : PSt} {L : LSt} {pr : Nat → Nat} {O : OSt} {mp : Nat} {mk : Nat → UInt32} {T : List Nat} {a0 a39 a63 a64 : Nat} {dc tc : Nat} (hA : AD w a0 a39 a63 a64) (hIX : IX G.2.2.1 w P L pr O mp mk T dc tc) (hIP : IP P L pr O mp mk T) (l : Int32) : XC G mX10_choice 7 (1) (6) [.ref a0, .int l] w (fun r w' => r = xr (cdC l) [eIOB] (.int (nI (pr (idx l)))) ∧ IX G.2.2.1 w' P L pr O mp mk T dc tc ∧ FX w w') := by
  obtain ⟨-, rfl, rfl, rfl, rfl⟩ := hA
  have hIX0 := hIX
  obtain ⟨h0, hB, hP, hL, hXS, ⟨hc, hl, hS⟩, hO, ⟨qa, qb, hQ⟩, ⟨cc, hC⟩, ⟨cw, hWt⟩, ⟨dn, da, db, hD⟩, ⟨tt, hT, hTC⟩, ⟨fX, hX, hXf⟩, hc16, hdc, htl, htc⟩ := hIX
  obtain ⟨hPI, hk16, hLW, hOI, hpr, hmp0, hmz, hT20, hch⟩ := hIP
  have hcap : dc < 2 ^ 19 := by omega
  have htcap : tc < 2 ^ 19 := by omega
  refine XC.mono (fun r w' hq => ⟨hq.1, ?_⟩) (c_choice h0 hpr l)
  have hw := hq.2
  subst hw
  exact ⟨⟨h0, hB, hP, hL, hXS, ⟨_, _, hS⟩, hO, ⟨_, _, hQ⟩, ⟨_, hC⟩, ⟨_, hWt⟩, ⟨_, _, _, hD⟩, ⟨_, hT, hTC⟩, ⟨_, hX, hXf⟩, hc16, hdc, htl, htc⟩, FX.rf⟩
set_option maxRecDepth 20000 in
theorem r_choice {P : PSt} {L : LSt} {pr : Nat → Nat} {O : OSt} {mp : Nat} {mk : Nat → UInt32} {T : List Nat} {a0 a39 a63 a64 : Nat} {t : Nat} (hA : AD w a0 a39 a63 a64) (hM : IM G.2.2.1 w P L pr O mp mk T t) (hIP : IP P L pr O mp mk T) (l : Int32) : XC G mX11_choice 1 0 0 [.ref a39, .int l] w (fun r w' => ∃ v : Int32, r = .inl (some (.int v)) ∧ (cdC l = 0 → v = nI (pr (idx l))) ∧ FM w w' ∧ IM G.2.2.1 w' P L pr O mp mk T (cdC l)) := by
  obtain ⟨-, rfl, rfl, rfl, rfl⟩ := hA
  have hM0 := hM
  obtain ⟨⟨en, h9⟩, hP, hL, hCh, hO, ⟨kf, hKf⟩, ⟨fM, hMk, hMf⟩, ⟨lt, h60⟩, ⟨ea, h61⟩, ⟨eb, h62⟩⟩ := hM
  obtain ⟨hPI, hk16, hLW, hOI, hpr, hmp0, hmz, hT20, hch⟩ := hIP
  refine XC.mono (fun r w' hq => ?_) (m_choice h9 hCh l)
  obtain ⟨v, hv, hv2, hw⟩ := hq
  refine ⟨v, hv, hv2, ?_⟩
  subst hw
  exact ⟨(by repeat (first | exact FM.rf | refine FM.set ?_ (by decide) (by decide))), ⟨⟨_, ⟨h9.1, rfl⟩⟩, hP, hL, hCh, hO, ⟨_, hKf⟩, ⟨_, hMk, hMf⟩, ⟨_, h60⟩, ⟨_, h61⟩, ⟨_, h62⟩⟩⟩
set_option maxRecDepth 20000 in
theorem cx_listSize {P : PSt} {L : LSt} {pr : Nat → Nat} {O : OSt} {mp : Nat} {mk : Nat → UInt32} {T : List Nat} {a0 a39 a63 a64 : Nat} {dc tc : Nat} (hA : AD w a0 a39 a63 a64) (hIX : IX G.2.2.1 w P L pr O mp mk T dc tc) (hIP : IP P L pr O mp mk T) (a : Int32) (s : Int32) : XC G mX10_listSize 9 (2 + ((if cdA a s P.1 = 0 then capL 0 dc (listN P.2.1 L pr (idx s) 5 (idx a) 1).length else dc) - dc)) (12 + 4 * ((if cdA a s P.1 = 0 then capL 0 dc (listN P.2.1 L pr (idx s) 5 (idx a) 1).length else dc) - dc)) [.ref a0, .int a, .int s] w (fun r w' => r = xr (cdA a s P.1) [eIOB, eIAE] (.int (nI (listN P.2.1 L pr (idx s) 5 (idx a) 1).length)) ∧ IX G.2.2.1 w' P L pr O mp mk T (if cdA a s P.1 = 0 then capL 0 dc (listN P.2.1 L pr (idx s) 5 (idx a) 1).length else dc) tc ∧ FX w w') := by
  obtain ⟨-, rfl, rfl, rfl, rfl⟩ := hA
  have hIX0 := hIX
  obtain ⟨h0, hB, hP, hL, hXS, ⟨hc, hl, hS⟩, hO, ⟨qa, qb, hQ⟩, ⟨cc, hC⟩, ⟨cw, hWt⟩, ⟨dn, da, db, hD⟩, ⟨tt, hT, hTC⟩, ⟨fX, hX, hXf⟩, hc16, hdc, htl, htc⟩ := hIX
  obtain ⟨hPI, hk16, hLW, hOI, hpr, hmp0, hmz, hT20, hch⟩ := hIP
  have hcap : dc < 2 ^ 19 := by omega
  have htcap : tc < 2 ^ 19 := by omega
  by_cases hcw : cdA a s P.1 = 0
  · simp only [if_pos hcw]
    refine XC.mono (fun r w' hq => ⟨hq.1, ?_⟩) (c_listSize h0 hB hP hL hS rfl hLW.1 hpr hLW.2.2 hk16 hD hc16 hcap a s)
    have hw := hq.2
    unfold lstX at hw
    rw [if_pos hcw] at hw
    try simp only [if_pos hcw]
    have hlen : (listN P.2.1 L pr (idx s) 5 (idx a) 1).length ≤ 1296 := xsN_len hLW.2.2
    have cg := capL_ge (n := 0) (cap := dc) (k := (listN P.2.1 L pr (idx s) 5 (idx a) 1).length) (by omega) (by omega)
    have cl := capL_le (n := 0) (cap := dc) (b := 2592) (k := (listN P.2.1 L pr (idx s) 5 (idx a) 1).length) (by omega) hdc (by omega)
    obtain ⟨q1, q2, a1, b1, hw, -⟩ := hw
    subst hw
    exact ⟨⟨h0, hB, hP, hL, hXS, ⟨_, _, ⟨⟨hS.1.1, rfl⟩, ⟨hS.2.1, rfl⟩⟩⟩, hO, ⟨_, _, hQ⟩, ⟨_, hC⟩, ⟨_, hWt⟩, ⟨_, _, _, ⟨⟨hD.1.1, rfl⟩, ⟨hD.2.1.1, rfl⟩, ⟨hD.2.2.1, rfl⟩⟩⟩, ⟨_, hT, hTC⟩, ⟨_, hX, hXf⟩, (by omega), cl, htl, htc⟩, (by repeat (first | exact FX.rf | refine FX.relT ?_ | refine FX.relD ?_ | refine FX.set ?_ (by decide)))⟩
  · simp only [if_neg hcw]
    by_cases hp : inP a P.1 = true
    · have hsf : btw s 1 999 = false := by cases hb : btw s 1 999 with | false => rfl | true => exact absurd (cdA_0 hp hb) hcw
      have he : (listN P.2.1 L pr (idx s) 5 (idx a) 1) = [] := listN_no hLW.1 (idx_out hsf)
      have e1 : dc - dc = capL 0 dc (listN P.2.1 L pr (idx s) 5 (idx a) 1).length - dc := by rw [he]; rfl
      rw [e1]
      refine XC.mono (fun r w' hq => ⟨hq.1, ?_⟩) (c_listSize h0 hB hP hL hS rfl hLW.1 hpr hLW.2.2 hk16 hD hc16 hcap a s)
      have hw := hq.2
      unfold lstX at hw
      rw [if_neg hcw] at hw
      subst hw
      try simp only [if_neg hcw]
      exact ⟨⟨h0, hB, hP, hL, hXS, ⟨_, _, hS⟩, hO, ⟨_, _, hQ⟩, ⟨_, hC⟩, ⟨_, hWt⟩, ⟨_, _, _, hD⟩, ⟨_, hT, hTC⟩, ⟨_, hX, hXf⟩, hc16, hdc, htl, htc⟩, FX.rf⟩
    · have hf : inP a P.1 = false := by cases hb : inP a P.1 with | false => rfl | true => exact absurd hb hp
      refine XC.mono (fun r w' hq => ?_) (c_listSize_f (by omega) (by omega) h0 hB hP a s hf)
      obtain ⟨hr, hw⟩ := hq
      subst hw
      refine ⟨?_, ⟨h0, hB, hP, hL, hXS, ⟨_, _, hS⟩, hO, ⟨_, _, hQ⟩, ⟨_, hC⟩, ⟨_, hWt⟩, ⟨_, _, _, hD⟩, ⟨_, hT, hTC⟩, ⟨_, hX, hXf⟩, hc16, hdc, htl, htc⟩, FX.rf⟩
      rw [hr, cdA_1 hf]; rfl
set_option maxRecDepth 20000 in
theorem r_listSize {P : PSt} {L : LSt} {pr : Nat → Nat} {O : OSt} {mp : Nat} {mk : Nat → UInt32} {T : List Nat} {a0 a39 a63 a64 : Nat} {t : Nat} (hA : AD w a0 a39 a63 a64) (hM : IM G.2.2.1 w P L pr O mp mk T t) (hIP : IP P L pr O mp mk T) (a : Int32) (s : Int32) : XC G mX11_listSize 9 0 0 [.ref a39, .int a, .int s] w (fun r w' => ∃ v : Int32, r = .inl (some (.int v)) ∧ (cdA a s P.1 = 0 → v = nI (listN P.2.1 L pr (idx s) 5 (idx a) 1).length) ∧ FM w w' ∧ IM G.2.2.1 w' P L pr O mp mk T (cdA a s P.1)) := by
  obtain ⟨-, rfl, rfl, rfl, rfl⟩ := hA
  have hM0 := hM
  obtain ⟨⟨en, h9⟩, hP, hL, hCh, hO, ⟨kf, hKf⟩, ⟨fM, hMk, hMf⟩, ⟨lt, h60⟩, ⟨ea, h61⟩, ⟨eb, h62⟩⟩ := hM
  obtain ⟨hPI, hk16, hLW, hOI, hpr, hmp0, hmz, hT20, hch⟩ := hIP
  refine XC.mono (fun r w' hq => ?_) (m_listSize rfl hLW.1 hLW.2.1 hpr hk16 hLW.2.2 h9 hL hCh hP h61 h62 a s)
  obtain ⟨v, hv, hv2, hw⟩ := hq
  refine ⟨v, hv, hv2, ?_⟩
  by_cases hcw : cdA a s P.1 = 0
  · skip
    rw [if_pos hcw] at hw
    try simp only [if_pos hcw]
    rw [hcw]
    subst hw
    exact ⟨(by repeat (first | exact FM.rf | refine FM.set ?_ (by decide) (by decide))), ⟨⟨_, ⟨h9.1, rfl⟩⟩, hP, hL, hCh, hO, ⟨_, hKf⟩, ⟨_, hMk, hMf⟩, ⟨_, h60⟩, ⟨_, ⟨h61.1, rfl⟩⟩, ⟨_, ⟨h62.1, rfl⟩⟩⟩⟩
  · skip
    rw [if_neg hcw] at hw
    subst hw
    try simp only [if_neg hcw]
    exact ⟨(by repeat (first | exact FM.rf | refine FM.set ?_ (by decide) (by decide))), ⟨⟨_, ⟨h9.1, rfl⟩⟩, hP, hL, hCh, hO, ⟨_, hKf⟩, ⟨_, hMk, hMf⟩, ⟨_, h60⟩, ⟨_, h61⟩, ⟨_, h62⟩⟩⟩
set_option maxRecDepth 20000 in
theorem cx_listPart {P : PSt} {L : LSt} {pr : Nat → Nat} {O : OSt} {mp : Nat} {mk : Nat → UInt32} {T : List Nat} {a0 a39 a63 a64 : Nat} {dc tc : Nat} (hA : AD w a0 a39 a63 a64) (hIX : IX G.2.2.1 w P L pr O mp mk T dc tc) (hIP : IP P L pr O mp mk T) (a : Int32) (s : Int32) (i : Int32) : XC G mX10_listPart 9 (3 + ((if cdA a s P.1 = 0 then capL 0 dc (listN P.2.1 L pr (idx s) 5 (idx a) 1).length else dc) - dc)) (18 + 4 * ((if cdA a s P.1 = 0 then capL 0 dc (listN P.2.1 L pr (idx s) 5 (idx a) 1).length else dc) - dc)) [.ref a0, .int a, .int s, .int i] w (fun r w' => r = xr (cdLP a s i P.1 (listN P.2.1 L pr (idx s) 5 (idx a) 1).length) [eIOB, eIAE, eNSE] (.int (nI ((listN P.2.1 L pr (idx s) 5 (idx a) 1).getD (idx i) (0, 0)).1)) ∧ IX G.2.2.1 w' P L pr O mp mk T (if cdA a s P.1 = 0 then capL 0 dc (listN P.2.1 L pr (idx s) 5 (idx a) 1).length else dc) tc ∧ FX w w') := by
  obtain ⟨-, rfl, rfl, rfl, rfl⟩ := hA
  have hIX0 := hIX
  obtain ⟨h0, hB, hP, hL, hXS, ⟨hc, hl, hS⟩, hO, ⟨qa, qb, hQ⟩, ⟨cc, hC⟩, ⟨cw, hWt⟩, ⟨dn, da, db, hD⟩, ⟨tt, hT, hTC⟩, ⟨fX, hX, hXf⟩, hc16, hdc, htl, htc⟩ := hIX
  obtain ⟨hPI, hk16, hLW, hOI, hpr, hmp0, hmz, hT20, hch⟩ := hIP
  have hcap : dc < 2 ^ 19 := by omega
  have htcap : tc < 2 ^ 19 := by omega
  by_cases hcw : cdA a s P.1 = 0
  · simp only [if_pos hcw]
    refine XC.mono (fun r w' hq => ⟨hq.1, ?_⟩) (c_listPart h0 hB hP hL hS rfl hLW.1 hpr hLW.2.2 hk16 hD hc16 hcap a s i)
    have hw := hq.2
    unfold lstX at hw
    rw [if_pos hcw] at hw
    try simp only [if_pos hcw]
    have hlen : (listN P.2.1 L pr (idx s) 5 (idx a) 1).length ≤ 1296 := xsN_len hLW.2.2
    have cg := capL_ge (n := 0) (cap := dc) (k := (listN P.2.1 L pr (idx s) 5 (idx a) 1).length) (by omega) (by omega)
    have cl := capL_le (n := 0) (cap := dc) (b := 2592) (k := (listN P.2.1 L pr (idx s) 5 (idx a) 1).length) (by omega) hdc (by omega)
    obtain ⟨q1, q2, a1, b1, hw, -⟩ := hw
    subst hw
    exact ⟨⟨h0, hB, hP, hL, hXS, ⟨_, _, ⟨⟨hS.1.1, rfl⟩, ⟨hS.2.1, rfl⟩⟩⟩, hO, ⟨_, _, hQ⟩, ⟨_, hC⟩, ⟨_, hWt⟩, ⟨_, _, _, ⟨⟨hD.1.1, rfl⟩, ⟨hD.2.1.1, rfl⟩, ⟨hD.2.2.1, rfl⟩⟩⟩, ⟨_, hT, hTC⟩, ⟨_, hX, hXf⟩, (by omega), cl, htl, htc⟩, (by repeat (first | exact FX.rf | refine FX.relT ?_ | refine FX.relD ?_ | refine FX.set ?_ (by decide)))⟩
  · simp only [if_neg hcw]
    by_cases hp : inP a P.1 = true
    · have hsf : btw s 1 999 = false := by cases hb : btw s 1 999 with | false => rfl | true => exact absurd (cdA_0 hp hb) hcw
      have he : (listN P.2.1 L pr (idx s) 5 (idx a) 1) = [] := listN_no hLW.1 (idx_out hsf)
      have e1 : dc - dc = capL 0 dc (listN P.2.1 L pr (idx s) 5 (idx a) 1).length - dc := by rw [he]; rfl
      rw [e1]
      refine XC.mono (fun r w' hq => ⟨hq.1, ?_⟩) (c_listPart h0 hB hP hL hS rfl hLW.1 hpr hLW.2.2 hk16 hD hc16 hcap a s i)
      have hw := hq.2
      unfold lstX at hw
      rw [if_neg hcw] at hw
      subst hw
      try simp only [if_neg hcw]
      exact ⟨⟨h0, hB, hP, hL, hXS, ⟨_, _, hS⟩, hO, ⟨_, _, hQ⟩, ⟨_, hC⟩, ⟨_, hWt⟩, ⟨_, _, _, hD⟩, ⟨_, hT, hTC⟩, ⟨_, hX, hXf⟩, hc16, hdc, htl, htc⟩, FX.rf⟩
    · have hf : inP a P.1 = false := by cases hb : inP a P.1 with | false => rfl | true => exact absurd hb hp
      refine XC.mono (fun r w' hq => ?_) (c_listPart_f (by omega) (by omega) h0 hB hP a s i hf)
      obtain ⟨hr, hw⟩ := hq
      subst hw
      refine ⟨?_, ⟨h0, hB, hP, hL, hXS, ⟨_, _, hS⟩, hO, ⟨_, _, hQ⟩, ⟨_, hC⟩, ⟨_, hWt⟩, ⟨_, _, _, hD⟩, ⟨_, hT, hTC⟩, ⟨_, hX, hXf⟩, hc16, hdc, htl, htc⟩, FX.rf⟩
      rw [hr, cdLP_n hcw, cdA_1 hf]; rfl
set_option maxRecDepth 20000 in
theorem r_listPart {P : PSt} {L : LSt} {pr : Nat → Nat} {O : OSt} {mp : Nat} {mk : Nat → UInt32} {T : List Nat} {a0 a39 a63 a64 : Nat} {t : Nat} (hA : AD w a0 a39 a63 a64) (hM : IM G.2.2.1 w P L pr O mp mk T t) (hIP : IP P L pr O mp mk T) (a : Int32) (s : Int32) (i : Int32) : XC G mX11_listPart 9 0 0 [.ref a39, .int a, .int s, .int i] w (fun r w' => ∃ v : Int32, r = .inl (some (.int v)) ∧ (cdLP a s i P.1 (listN P.2.1 L pr (idx s) 5 (idx a) 1).length = 0 → v = nI ((listN P.2.1 L pr (idx s) 5 (idx a) 1).getD (idx i) (0, 0)).1) ∧ FM w w' ∧ IM G.2.2.1 w' P L pr O mp mk T (cdLP a s i P.1 (listN P.2.1 L pr (idx s) 5 (idx a) 1).length)) := by
  obtain ⟨-, rfl, rfl, rfl, rfl⟩ := hA
  have hM0 := hM
  obtain ⟨⟨en, h9⟩, hP, hL, hCh, hO, ⟨kf, hKf⟩, ⟨fM, hMk, hMf⟩, ⟨lt, h60⟩, ⟨ea, h61⟩, ⟨eb, h62⟩⟩ := hM
  obtain ⟨hPI, hk16, hLW, hOI, hpr, hmp0, hmz, hT20, hch⟩ := hIP
  refine XC.mono (fun r w' hq => ?_) (m_listPart rfl hLW.1 hLW.2.1 hpr hk16 hLW.2.2 h9 hL hCh hP h61 h62 a s i)
  obtain ⟨v, hv, hv2, hw⟩ := hq
  refine ⟨v, hv, (fun h => by
    by_cases h1 : cdA a s P.1 = 0
    · rw [cdLP_0 h1] at h
      refine hv2 h1 ?_
      unfold cdI at h
      cases hi : inP i (listN P.2.1 L pr (idx s) 5 (idx a) 1).length with
      | true => rfl
      | false => rw [hi] at h; cases h
    · rw [cdLP_n h1] at h; exact absurd h h1), ?_⟩
  by_cases hcw : cdA a s P.1 = 0
  · skip
    rw [if_pos hcw] at hw
    try simp only [if_pos hcw]
    rw [cdLP_0 hcw]
    subst hw
    exact ⟨(by repeat (first | exact FM.rf | refine FM.set ?_ (by decide) (by decide))), ⟨⟨_, ⟨h9.1, rfl⟩⟩, hP, hL, hCh, hO, ⟨_, hKf⟩, ⟨_, hMk, hMf⟩, ⟨_, h60⟩, ⟨_, ⟨h61.1, rfl⟩⟩, ⟨_, ⟨h62.1, rfl⟩⟩⟩⟩
  · skip
    rw [if_neg hcw] at hw
    subst hw
    try simp only [if_neg hcw]
    rw [cdLP_n hcw]
    exact ⟨(by repeat (first | exact FM.rf | refine FM.set ?_ (by decide) (by decide))), ⟨⟨_, ⟨h9.1, rfl⟩⟩, hP, hL, hCh, hO, ⟨_, hKf⟩, ⟨_, hMk, hMf⟩, ⟨_, h60⟩, ⟨_, h61⟩, ⟨_, h62⟩⟩⟩
set_option maxRecDepth 20000 in
theorem cx_listQuantity {P : PSt} {L : LSt} {pr : Nat → Nat} {O : OSt} {mp : Nat} {mk : Nat → UInt32} {T : List Nat} {a0 a39 a63 a64 : Nat} {dc tc : Nat} (hA : AD w a0 a39 a63 a64) (hIX : IX G.2.2.1 w P L pr O mp mk T dc tc) (hIP : IP P L pr O mp mk T) (a : Int32) (s : Int32) (i : Int32) : XC G mX10_listQuantity 9 (3 + ((if cdA a s P.1 = 0 then capL 0 dc (listN P.2.1 L pr (idx s) 5 (idx a) 1).length else dc) - dc)) (18 + 4 * ((if cdA a s P.1 = 0 then capL 0 dc (listN P.2.1 L pr (idx s) 5 (idx a) 1).length else dc) - dc)) [.ref a0, .int a, .int s, .int i] w (fun r w' => r = xr (cdLP a s i P.1 (listN P.2.1 L pr (idx s) 5 (idx a) 1).length) [eIOB, eIAE, eNSE] (.long (nL ((listN P.2.1 L pr (idx s) 5 (idx a) 1).getD (idx i) (0, 0)).2)) ∧ IX G.2.2.1 w' P L pr O mp mk T (if cdA a s P.1 = 0 then capL 0 dc (listN P.2.1 L pr (idx s) 5 (idx a) 1).length else dc) tc ∧ FX w w') := by
  obtain ⟨-, rfl, rfl, rfl, rfl⟩ := hA
  have hIX0 := hIX
  obtain ⟨h0, hB, hP, hL, hXS, ⟨hc, hl, hS⟩, hO, ⟨qa, qb, hQ⟩, ⟨cc, hC⟩, ⟨cw, hWt⟩, ⟨dn, da, db, hD⟩, ⟨tt, hT, hTC⟩, ⟨fX, hX, hXf⟩, hc16, hdc, htl, htc⟩ := hIX
  obtain ⟨hPI, hk16, hLW, hOI, hpr, hmp0, hmz, hT20, hch⟩ := hIP
  have hcap : dc < 2 ^ 19 := by omega
  have htcap : tc < 2 ^ 19 := by omega
  by_cases hcw : cdA a s P.1 = 0
  · simp only [if_pos hcw]
    refine XC.mono (fun r w' hq => ⟨hq.1, ?_⟩) (c_listQuantity h0 hB hP hL hS rfl hLW.1 hpr hLW.2.2 hk16 hD hc16 hcap a s i)
    have hw := hq.2
    unfold lstX at hw
    rw [if_pos hcw] at hw
    try simp only [if_pos hcw]
    have hlen : (listN P.2.1 L pr (idx s) 5 (idx a) 1).length ≤ 1296 := xsN_len hLW.2.2
    have cg := capL_ge (n := 0) (cap := dc) (k := (listN P.2.1 L pr (idx s) 5 (idx a) 1).length) (by omega) (by omega)
    have cl := capL_le (n := 0) (cap := dc) (b := 2592) (k := (listN P.2.1 L pr (idx s) 5 (idx a) 1).length) (by omega) hdc (by omega)
    obtain ⟨q1, q2, a1, b1, hw, -⟩ := hw
    subst hw
    exact ⟨⟨h0, hB, hP, hL, hXS, ⟨_, _, ⟨⟨hS.1.1, rfl⟩, ⟨hS.2.1, rfl⟩⟩⟩, hO, ⟨_, _, hQ⟩, ⟨_, hC⟩, ⟨_, hWt⟩, ⟨_, _, _, ⟨⟨hD.1.1, rfl⟩, ⟨hD.2.1.1, rfl⟩, ⟨hD.2.2.1, rfl⟩⟩⟩, ⟨_, hT, hTC⟩, ⟨_, hX, hXf⟩, (by omega), cl, htl, htc⟩, (by repeat (first | exact FX.rf | refine FX.relT ?_ | refine FX.relD ?_ | refine FX.set ?_ (by decide)))⟩
  · simp only [if_neg hcw]
    by_cases hp : inP a P.1 = true
    · have hsf : btw s 1 999 = false := by cases hb : btw s 1 999 with | false => rfl | true => exact absurd (cdA_0 hp hb) hcw
      have he : (listN P.2.1 L pr (idx s) 5 (idx a) 1) = [] := listN_no hLW.1 (idx_out hsf)
      have e1 : dc - dc = capL 0 dc (listN P.2.1 L pr (idx s) 5 (idx a) 1).length - dc := by rw [he]; rfl
      rw [e1]
      refine XC.mono (fun r w' hq => ⟨hq.1, ?_⟩) (c_listQuantity h0 hB hP hL hS rfl hLW.1 hpr hLW.2.2 hk16 hD hc16 hcap a s i)
      have hw := hq.2
      unfold lstX at hw
      rw [if_neg hcw] at hw
      subst hw
      try simp only [if_neg hcw]
      exact ⟨⟨h0, hB, hP, hL, hXS, ⟨_, _, hS⟩, hO, ⟨_, _, hQ⟩, ⟨_, hC⟩, ⟨_, hWt⟩, ⟨_, _, _, hD⟩, ⟨_, hT, hTC⟩, ⟨_, hX, hXf⟩, hc16, hdc, htl, htc⟩, FX.rf⟩
    · have hf : inP a P.1 = false := by cases hb : inP a P.1 with | false => rfl | true => exact absurd hb hp
      refine XC.mono (fun r w' hq => ?_) (c_listQuantity_f (by omega) (by omega) h0 hB hP a s i hf)
      obtain ⟨hr, hw⟩ := hq
      subst hw
      refine ⟨?_, ⟨h0, hB, hP, hL, hXS, ⟨_, _, hS⟩, hO, ⟨_, _, hQ⟩, ⟨_, hC⟩, ⟨_, hWt⟩, ⟨_, _, _, hD⟩, ⟨_, hT, hTC⟩, ⟨_, hX, hXf⟩, hc16, hdc, htl, htc⟩, FX.rf⟩
      rw [hr, cdLP_n hcw, cdA_1 hf]; rfl
set_option maxRecDepth 20000 in
theorem r_listQuantity {P : PSt} {L : LSt} {pr : Nat → Nat} {O : OSt} {mp : Nat} {mk : Nat → UInt32} {T : List Nat} {a0 a39 a63 a64 : Nat} {t : Nat} (hA : AD w a0 a39 a63 a64) (hM : IM G.2.2.1 w P L pr O mp mk T t) (hIP : IP P L pr O mp mk T) (a : Int32) (s : Int32) (i : Int32) : XC G mX11_listQuantity 9 0 0 [.ref a39, .int a, .int s, .int i] w (fun r w' => ∃ v : Int64, r = .inl (some (.long v)) ∧ (cdLP a s i P.1 (listN P.2.1 L pr (idx s) 5 (idx a) 1).length = 0 → v = nL ((listN P.2.1 L pr (idx s) 5 (idx a) 1).getD (idx i) (0, 0)).2) ∧ FM w w' ∧ IM G.2.2.1 w' P L pr O mp mk T (cdLP a s i P.1 (listN P.2.1 L pr (idx s) 5 (idx a) 1).length)) := by
  obtain ⟨-, rfl, rfl, rfl, rfl⟩ := hA
  have hM0 := hM
  obtain ⟨⟨en, h9⟩, hP, hL, hCh, hO, ⟨kf, hKf⟩, ⟨fM, hMk, hMf⟩, ⟨lt, h60⟩, ⟨ea, h61⟩, ⟨eb, h62⟩⟩ := hM
  obtain ⟨hPI, hk16, hLW, hOI, hpr, hmp0, hmz, hT20, hch⟩ := hIP
  refine XC.mono (fun r w' hq => ?_) (m_listQuantity rfl hLW.1 hLW.2.1 hpr hk16 hLW.2.2 h9 hL hCh hP h61 h62 a s i)
  obtain ⟨v, hv, hv2, hw⟩ := hq
  refine ⟨v, hv, (fun h => by
    by_cases h1 : cdA a s P.1 = 0
    · rw [cdLP_0 h1] at h
      refine hv2 h1 ?_
      unfold cdI at h
      cases hi : inP i (listN P.2.1 L pr (idx s) 5 (idx a) 1).length with
      | true => rfl
      | false => rw [hi] at h; cases h
    · rw [cdLP_n h1] at h; exact absurd h h1), ?_⟩
  by_cases hcw : cdA a s P.1 = 0
  · skip
    rw [if_pos hcw] at hw
    try simp only [if_pos hcw]
    rw [cdLP_0 hcw]
    subst hw
    exact ⟨(by repeat (first | exact FM.rf | refine FM.set ?_ (by decide) (by decide))), ⟨⟨_, ⟨h9.1, rfl⟩⟩, hP, hL, hCh, hO, ⟨_, hKf⟩, ⟨_, hMk, hMf⟩, ⟨_, h60⟩, ⟨_, ⟨h61.1, rfl⟩⟩, ⟨_, ⟨h62.1, rfl⟩⟩⟩⟩
  · skip
    rw [if_neg hcw] at hw
    subst hw
    try simp only [if_neg hcw]
    rw [cdLP_n hcw]
    exact ⟨(by repeat (first | exact FM.rf | refine FM.set ?_ (by decide) (by decide))), ⟨⟨_, ⟨h9.1, rfl⟩⟩, hP, hL, hCh, hO, ⟨_, hKf⟩, ⟨_, hMk, hMf⟩, ⟨_, h60⟩, ⟨_, h61⟩, ⟨_, h62⟩⟩⟩
set_option maxRecDepth 20000 in
theorem cx_writeList {P : PSt} {L : LSt} {pr : Nat → Nat} {O : OSt} {mp : Nat} {mk : Nat → UInt32} {T : List Nat} {a0 a39 a63 a64 : Nat} {dc tc : Nat} (hA : AD w a0 a39 a63 a64) (hIX : IX G.2.2.1 w P L pr O mp mk T dc tc) (hIP : IP P L pr O mp mk T) (a : Int32) (s : Int32) : XC G mX10_writeList 9 (2 + ((if cdA a s P.1 = 0 then capL 0 dc (listN P.2.1 L pr (idx s) 5 (idx a) 1).length else dc) - dc) + ((if cdA a s P.1 = 0 then (capF 0 tc (lstP false (listN P.2.1 L pr (idx s) 5 (idx a) 1))) else tc) - tc)) (12 + 4 * ((if cdA a s P.1 = 0 then capL 0 dc (listN P.2.1 L pr (idx s) 5 (idx a) 1).length else dc) - dc) + 2 * ((if cdA a s P.1 = 0 then (capF 0 tc (lstP false (listN P.2.1 L pr (idx s) 5 (idx a) 1))) else tc) - tc)) [.ref a0, .int a, .int s] w (fun r w' => r = xr (cdA a s P.1) [eIOB, eIAE] (.int (nI (lstT false (listN P.2.1 L pr (idx s) 5 (idx a) 1)).length)) ∧ IX G.2.2.1 w' P L pr O mp mk (if (cdA a s P.1) = 0 then lstT false (listN P.2.1 L pr (idx s) 5 (idx a) 1) else T) (if cdA a s P.1 = 0 then capL 0 dc (listN P.2.1 L pr (idx s) 5 (idx a) 1).length else dc) (if cdA a s P.1 = 0 then (capF 0 tc (lstP false (listN P.2.1 L pr (idx s) 5 (idx a) 1))) else tc) ∧ FX w w') := by
  obtain ⟨-, rfl, rfl, rfl, rfl⟩ := hA
  have hIX0 := hIX
  obtain ⟨h0, hB, hP, hL, hXS, ⟨hc, hl, hS⟩, hO, ⟨qa, qb, hQ⟩, ⟨cc, hC⟩, ⟨cw, hWt⟩, ⟨dn, da, db, hD⟩, ⟨tt, hT, hTC⟩, ⟨fX, hX, hXf⟩, hc16, hdc, htl, htc⟩ := hIX
  obtain ⟨hPI, hk16, hLW, hOI, hpr, hmp0, hmz, hT20, hch⟩ := hIP
  have hcap : dc < 2 ^ 19 := by omega
  have htcap : tc < 2 ^ 19 := by omega
  by_cases hcw : cdA a s P.1 = 0
  · simp only [if_pos hcw]
    refine XC.mono (fun r w' hq => ⟨hq.1, ?_⟩) (c_writeList h0 hB hP hL hS rfl hLW.1 hpr hLW.2.2 hk16 hD hc16 hcap hT htcap a s)
    have hw := hq.2
    unfold txX at hw
    rw [if_pos hcw] at hw
    try simp only [if_pos hcw]
    have hlen : (listN P.2.1 L pr (idx s) 5 (idx a) 1).length ≤ 1296 := xsN_len hLW.2.2
    have cg := capL_ge (n := 0) (cap := dc) (k := (listN P.2.1 L pr (idx s) 5 (idx a) 1).length) (by omega) (by omega)
    have cl := capL_le (n := 0) (cap := dc) (b := 2592) (k := (listN P.2.1 L pr (idx s) 5 (idx a) 1).length) (by omega) hdc (by omega)
    have hxb : ∀ x ∈ listN P.2.1 L pr (idx s) 5 (idx a) 1, x.1 < 100 ∧ x.2 < 10 ^ 7 := fun x hx => by have := listN_mem hLW.1 hx; have h16 := hLW.1.1; omega
    have hTl := lstT_len (xs := listN P.2.1 L pr (idx s) 5 (idx a) 1) (c := false) hxb
    have hsum : (lstP false (listN P.2.1 L pr (idx s) 5 (idx a) 1)).sum = (lstT false (listN P.2.1 L pr (idx s) 5 (idx a) 1)).length := lstP_sum
    have fg := capF_ge (a := lstP false (listN P.2.1 L pr (idx s) 5 (idx a) 1)) (n := 0) (cap := tc) (by omega)
    have fl := capF_le (a := lstP false (listN P.2.1 L pr (idx s) 5 (idx a) 1)) (n := 0) (cap := tc) (b := 40000) htc (by omega)
    obtain ⟨q1, q2, a1, b1, q, t1, hw, -, htc1⟩ := hw
    subst hw
    exact ⟨⟨h0, hB, hP, hL, hXS, ⟨_, _, ⟨⟨hS.1.1, rfl⟩, ⟨hS.2.1, rfl⟩⟩⟩, hO, ⟨_, _, hQ⟩, ⟨_, hC⟩, ⟨_, hWt⟩, ⟨_, _, _, ⟨⟨hD.1.1, rfl⟩, ⟨hD.2.1.1, rfl⟩, ⟨hD.2.2.1, rfl⟩⟩⟩, ⟨_, ⟨⟨hT.1.1, rfl⟩, ⟨hT.2.1, rfl⟩⟩, htc1⟩, ⟨_, hX, hXf⟩, (by omega), cl, (by omega), fl⟩, (by repeat (first | exact FX.rf | refine FX.relT ?_ | refine FX.relD ?_ | refine FX.set ?_ (by decide)))⟩
  · simp only [if_neg hcw]
    by_cases hp : inP a P.1 = true
    · have hsf : btw s 1 999 = false := by cases hb : btw s 1 999 with | false => rfl | true => exact absurd (cdA_0 hp hb) hcw
      have he : (listN P.2.1 L pr (idx s) 5 (idx a) 1) = [] := listN_no hLW.1 (idx_out hsf)
      have e1 : dc - dc = capL 0 dc (listN P.2.1 L pr (idx s) 5 (idx a) 1).length - dc := by rw [he]; rfl
      have e2 : tc - tc = capF 0 tc (lstP false (listN P.2.1 L pr (idx s) 5 (idx a) 1)) - tc := by rw [he]; rfl
      rw [e1, e2]
      refine XC.mono (fun r w' hq => ⟨hq.1, ?_⟩) (c_writeList h0 hB hP hL hS rfl hLW.1 hpr hLW.2.2 hk16 hD hc16 hcap hT htcap a s)
      have hw := hq.2
      unfold txX at hw
      rw [if_neg hcw] at hw
      subst hw
      try simp only [if_neg hcw]
      exact ⟨⟨h0, hB, hP, hL, hXS, ⟨_, _, hS⟩, hO, ⟨_, _, hQ⟩, ⟨_, hC⟩, ⟨_, hWt⟩, ⟨_, _, _, hD⟩, ⟨_, hT, hTC⟩, ⟨_, hX, hXf⟩, hc16, hdc, htl, htc⟩, FX.rf⟩
    · have hf : inP a P.1 = false := by cases hb : inP a P.1 with | false => rfl | true => exact absurd hb hp
      refine XC.mono (fun r w' hq => ?_) (c_writeList_f (by omega) (by omega) h0 hB hP a s hf)
      obtain ⟨hr, hw⟩ := hq
      subst hw
      refine ⟨?_, ⟨h0, hB, hP, hL, hXS, ⟨_, _, hS⟩, hO, ⟨_, _, hQ⟩, ⟨_, hC⟩, ⟨_, hWt⟩, ⟨_, _, _, hD⟩, ⟨_, hT, hTC⟩, ⟨_, hX, hXf⟩, hc16, hdc, htl, htc⟩, FX.rf⟩
      rw [hr, cdA_1 hf]; rfl
set_option maxRecDepth 20000 in
theorem r_writeList {P : PSt} {L : LSt} {pr : Nat → Nat} {O : OSt} {mp : Nat} {mk : Nat → UInt32} {T : List Nat} {a0 a39 a63 a64 : Nat} {t : Nat} (hA : AD w a0 a39 a63 a64) (hM : IM G.2.2.1 w P L pr O mp mk T t) (hIP : IP P L pr O mp mk T) (a : Int32) (s : Int32) : XC G mX11_writeList 9 0 0 [.ref a39, .int a, .int s] w (fun r w' => ∃ v : Int32, r = .inl (some (.int v)) ∧ (cdA a s P.1 = 0 → v = nI (lstT false (listN P.2.1 L pr (idx s) 5 (idx a) 1)).length) ∧ FM w w' ∧ IM G.2.2.1 w' P L pr O mp mk (if (cdA a s P.1) = 0 then lstT false (listN P.2.1 L pr (idx s) 5 (idx a) 1) else T) (cdA a s P.1)) := by
  obtain ⟨-, rfl, rfl, rfl, rfl⟩ := hA
  have hM0 := hM
  obtain ⟨⟨en, h9⟩, hP, hL, hCh, hO, ⟨kf, hKf⟩, ⟨fM, hMk, hMf⟩, ⟨lt, h60⟩, ⟨ea, h61⟩, ⟨eb, h62⟩⟩ := hM
  obtain ⟨hPI, hk16, hLW, hOI, hpr, hmp0, hmz, hT20, hch⟩ := hIP
  refine XC.mono (fun r w' hq => ?_) (m_writeList rfl hLW.1 hLW.2.1 hpr hk16 hLW.2.2 h9 hL hCh hP h61 h62 h60 a s)
  obtain ⟨v, hv, hv2, hw⟩ := hq
  refine ⟨v, hv, hv2, ?_⟩
  by_cases hcw : cdA a s P.1 = 0
  · skip
    rw [if_pos hcw] at hw
    try simp only [if_pos hcw]
    rw [hcw]
    subst hw
    exact ⟨(by repeat (first | exact FM.rf | refine FM.set ?_ (by decide) (by decide))), ⟨⟨_, ⟨h9.1, rfl⟩⟩, hP, hL, hCh, hO, ⟨_, hKf⟩, ⟨_, hMk, hMf⟩, ⟨_, ⟨h60.1, rfl⟩⟩, ⟨_, ⟨h61.1, rfl⟩⟩, ⟨_, ⟨h62.1, rfl⟩⟩⟩⟩
  · skip
    rw [if_neg hcw] at hw
    subst hw
    try simp only [if_neg hcw]
    exact ⟨(by repeat (first | exact FM.rf | refine FM.set ?_ (by decide) (by decide))), ⟨⟨_, ⟨h9.1, rfl⟩⟩, hP, hL, hCh, hO, ⟨_, hKf⟩, ⟨_, hMk, hMf⟩, ⟨_, h60⟩, ⟨_, h61⟩, ⟨_, h62⟩⟩⟩
set_option maxRecDepth 20000 in
theorem cx_charAt {P : PSt} {L : LSt} {pr : Nat → Nat} {O : OSt} {mp : Nat} {mk : Nat → UInt32} {T : List Nat} {a0 a39 a63 a64 : Nat} {dc tc : Nat} (hA : AD w a0 a39 a63 a64) (hIX : IX G.2.2.1 w P L pr O mp mk T dc tc) (hIP : IP P L pr O mp mk T) (i : Int32) : XC G mX10_charAt 7 (1) (6) [.ref a0, .int i] w (fun r w' => r = xr (cdP i T.length) [eIOB] (.int (nI (T.getD (idx i) 0))) ∧ IX G.2.2.1 w' P L pr O mp mk T dc tc ∧ FX w w') := by
  obtain ⟨-, rfl, rfl, rfl, rfl⟩ := hA
  have hIX0 := hIX
  obtain ⟨h0, hB, hP, hL, hXS, ⟨hc, hl, hS⟩, hO, ⟨qa, qb, hQ⟩, ⟨cc, hC⟩, ⟨cw, hWt⟩, ⟨dn, da, db, hD⟩, ⟨tt, hT, hTC⟩, ⟨fX, hX, hXf⟩, hc16, hdc, htl, htc⟩ := hIX
  obtain ⟨hPI, hk16, hLW, hOI, hpr, hmp0, hmz, hT20, hch⟩ := hIP
  have hcap : dc < 2 ^ 19 := by omega
  have htcap : tc < 2 ^ 19 := by omega
  refine XC.mono (fun r w' hq => ⟨hq.1, ?_⟩) (c_charAt h0 hT htl (by omega) hTC hch i)
  have hw := hq.2
  subst hw
  exact ⟨⟨h0, hB, hP, hL, hXS, ⟨_, _, hS⟩, hO, ⟨_, _, hQ⟩, ⟨_, hC⟩, ⟨_, hWt⟩, ⟨_, _, _, hD⟩, ⟨_, hT, hTC⟩, ⟨_, hX, hXf⟩, hc16, hdc, htl, htc⟩, FX.rf⟩
set_option maxRecDepth 20000 in
theorem r_charAt {P : PSt} {L : LSt} {pr : Nat → Nat} {O : OSt} {mp : Nat} {mk : Nat → UInt32} {T : List Nat} {a0 a39 a63 a64 : Nat} {t : Nat} (hA : AD w a0 a39 a63 a64) (hM : IM G.2.2.1 w P L pr O mp mk T t) (hIP : IP P L pr O mp mk T) (i : Int32) : XC G mX11_charAt 1 0 0 [.ref a39, .int i] w (fun r w' => ∃ v : Int32, r = .inl (some (.int v)) ∧ (cdP i T.length = 0 → v = nI (T.getD (idx i) 0)) ∧ FM w w' ∧ IM G.2.2.1 w' P L pr O mp mk T (cdP i T.length)) := by
  obtain ⟨-, rfl, rfl, rfl, rfl⟩ := hA
  have hM0 := hM
  obtain ⟨⟨en, h9⟩, hP, hL, hCh, hO, ⟨kf, hKf⟩, ⟨fM, hMk, hMf⟩, ⟨lt, h60⟩, ⟨ea, h61⟩, ⟨eb, h62⟩⟩ := hM
  obtain ⟨hPI, hk16, hLW, hOI, hpr, hmp0, hmz, hT20, hch⟩ := hIP
  refine XC.mono (fun r w' hq => ?_) (m_charAt h9 h60 rfl hT20 hch i)
  obtain ⟨v, hv, hv2, hw⟩ := hq
  refine ⟨v, hv, hv2, ?_⟩
  subst hw
  exact ⟨(by repeat (first | exact FM.rf | refine FM.set ?_ (by decide) (by decide))), ⟨⟨_, ⟨h9.1, rfl⟩⟩, hP, hL, hCh, hO, ⟨_, hKf⟩, ⟨_, hMk, hMf⟩, ⟨_, h60⟩, ⟨_, h61⟩, ⟨_, h62⟩⟩⟩
set_option maxRecDepth 20000 in
theorem cx_quantity {P : PSt} {L : LSt} {pr : Nat → Nat} {O : OSt} {mp : Nat} {mk : Nat → UInt32} {T : List Nat} {a0 a39 a63 a64 : Nat} {dc tc : Nat} (hA : AD w a0 a39 a63 a64) (hIX : IX G.2.2.1 w P L pr O mp mk T dc tc) (hIP : IP P L pr O mp mk T) (a : Int32) (b : Int32) (s : Int32) : XC G mX10_quantity 7 (4) (24) [.ref a0, .int a, .int b, .int s] w (fun r w' => r = xr (cdQ a b s P.1) [eIOB, eIAE] (.long (nL (hasN L pr (idx s) 5 (idx a) (idx b)))) ∧ IX G.2.2.1 w' P L pr O mp mk T dc tc ∧ FX w w') := by
  obtain ⟨-, rfl, rfl, rfl, rfl⟩ := hA
  have hIX0 := hIX
  obtain ⟨h0, hB, hP, hL, hXS, ⟨hc, hl, hS⟩, hO, ⟨qa, qb, hQ⟩, ⟨cc, hC⟩, ⟨cw, hWt⟩, ⟨dn, da, db, hD⟩, ⟨tt, hT, hTC⟩, ⟨fX, hX, hXf⟩, hc16, hdc, htl, htc⟩ := hIX
  obtain ⟨hPI, hk16, hLW, hOI, hpr, hmp0, hmz, hT20, hch⟩ := hIP
  have hcap : dc < 2 ^ 19 := by omega
  have htcap : tc < 2 ^ 19 := by omega
  refine XC.mono (fun r w' hq => ⟨hq.1, ?_⟩) (c_quantity h0 hB hP hL hS rfl hLW.1 hpr hLW.2.2 hQ a b s)
  have hw := hq.2
  by_cases hcw : cdQ a b s P.1 = 0
  · skip
    rw [if_pos hcw] at hw
    try simp only [if_pos hcw]
    obtain ⟨x1, y1, hw⟩ := hw
    subst hw
    exact ⟨⟨h0, hB, hP, hL, hXS, ⟨_, _, ⟨⟨hS.1.1, rfl⟩, ⟨hS.2.1, rfl⟩⟩⟩, hO, ⟨_, _, ⟨hQ.1, ⟨hQ.2.1.1, rfl⟩, ⟨hQ.2.2.1, rfl⟩⟩⟩, ⟨_, hC⟩, ⟨_, hWt⟩, ⟨_, _, _, hD⟩, ⟨_, hT, hTC⟩, ⟨_, hX, hXf⟩, hc16, hdc, htl, htc⟩, (by repeat (first | exact FX.rf | refine FX.relT ?_ | refine FX.relD ?_ | refine FX.set ?_ (by decide)))⟩
  · skip
    rw [if_neg hcw] at hw
    subst hw
    try simp only [if_neg hcw]
    exact ⟨⟨h0, hB, hP, hL, hXS, ⟨_, _, hS⟩, hO, ⟨_, _, hQ⟩, ⟨_, hC⟩, ⟨_, hWt⟩, ⟨_, _, _, hD⟩, ⟨_, hT, hTC⟩, ⟨_, hX, hXf⟩, hc16, hdc, htl, htc⟩, FX.rf⟩
set_option maxRecDepth 20000 in
theorem r_quantity {P : PSt} {L : LSt} {pr : Nat → Nat} {O : OSt} {mp : Nat} {mk : Nat → UInt32} {T : List Nat} {a0 a39 a63 a64 : Nat} {t : Nat} (hA : AD w a0 a39 a63 a64) (hM : IM G.2.2.1 w P L pr O mp mk T t) (hIP : IP P L pr O mp mk T) (a : Int32) (b : Int32) (s : Int32) : XC G mX11_quantity 8 0 0 [.ref a39, .int a, .int b, .int s] w (fun r w' => ∃ v : Int64, r = .inl (some (.long v)) ∧ (cdQ a b s P.1 = 0 → v = nL (hasN L pr (idx s) 5 (idx a) (idx b))) ∧ FM w w' ∧ IM G.2.2.1 w' P L pr O mp mk T (cdQ a b s P.1)) := by
  obtain ⟨-, rfl, rfl, rfl, rfl⟩ := hA
  have hM0 := hM
  obtain ⟨⟨en, h9⟩, hP, hL, hCh, hO, ⟨kf, hKf⟩, ⟨fM, hMk, hMf⟩, ⟨lt, h60⟩, ⟨ea, h61⟩, ⟨eb, h62⟩⟩ := hM
  obtain ⟨hPI, hk16, hLW, hOI, hpr, hmp0, hmz, hT20, hch⟩ := hIP
  refine XC.mono (fun r w' hq => ?_) (m_quantity h9 hL rfl hLW.1 hCh hLW.2.1 hpr hLW.2.2 a b s)
  obtain ⟨v, hv, hv2, hw⟩ := hq
  refine ⟨v, hv, hv2, ?_⟩
  subst hw
  exact ⟨(by repeat (first | exact FM.rf | refine FM.set ?_ (by decide) (by decide))), ⟨⟨_, ⟨h9.1, rfl⟩⟩, hP, hL, hCh, hO, ⟨_, hKf⟩, ⟨_, hMk, hMf⟩, ⟨_, h60⟩, ⟨_, h61⟩, ⟨_, h62⟩⟩⟩
set_option maxRecDepth 20000 in
theorem cx_quantityByWalking {P : PSt} {L : LSt} {pr : Nat → Nat} {O : OSt} {mp : Nat} {mk : Nat → UInt32} {T : List Nat} {a0 a39 a63 a64 : Nat} {dc tc : Nat} (hA : AD w a0 a39 a63 a64) (hIX : IX G.2.2.1 w P L pr O mp mk T dc tc) (hIP : IP P L pr O mp mk T) (a : Int32) (b : Int32) (s : Int32) : XC G mX10_quantityByWalking 7 (4) (24) [.ref a0, .int a, .int b, .int s] w (fun r w' => r = xr (cdQ a b s P.1) [eIOB, eIAE] (.long (nL (hasN L pr (idx s) 5 (idx a) (idx b)))) ∧ IX G.2.2.1 w' P L pr O mp mk T dc tc ∧ FX w w') := by
  obtain ⟨-, rfl, rfl, rfl, rfl⟩ := hA
  have hIX0 := hIX
  obtain ⟨h0, hB, hP, hL, hXS, ⟨hc, hl, hS⟩, hO, ⟨qa, qb, hQ⟩, ⟨cc, hC⟩, ⟨cw, hWt⟩, ⟨dn, da, db, hD⟩, ⟨tt, hT, hTC⟩, ⟨fX, hX, hXf⟩, hc16, hdc, htl, htc⟩ := hIX
  obtain ⟨hPI, hk16, hLW, hOI, hpr, hmp0, hmz, hT20, hch⟩ := hIP
  have hcap : dc < 2 ^ 19 := by omega
  have htcap : tc < 2 ^ 19 := by omega
  refine XC.mono (fun r w' hq => ⟨hq.1, ?_⟩) (c_quantityW (qa := qa) (qb := qb) h0 hB hP hL hS rfl hLW.1 hpr hLW.2.2 a b s)
  have hw := hq.2
  by_cases hcw : cdQ a b s P.1 = 0
  · skip
    rw [if_pos hcw] at hw
    try simp only [if_pos hcw]
    subst hw
    exact ⟨⟨h0, hB, hP, hL, hXS, ⟨_, _, ⟨⟨hS.1.1, rfl⟩, ⟨hS.2.1, rfl⟩⟩⟩, hO, ⟨_, _, hQ⟩, ⟨_, hC⟩, ⟨_, hWt⟩, ⟨_, _, _, hD⟩, ⟨_, hT, hTC⟩, ⟨_, hX, hXf⟩, hc16, hdc, htl, htc⟩, (by repeat (first | exact FX.rf | refine FX.relT ?_ | refine FX.relD ?_ | refine FX.set ?_ (by decide)))⟩
  · skip
    rw [if_neg hcw] at hw
    subst hw
    try simp only [if_neg hcw]
    exact ⟨⟨h0, hB, hP, hL, hXS, ⟨_, _, hS⟩, hO, ⟨_, _, hQ⟩, ⟨_, hC⟩, ⟨_, hWt⟩, ⟨_, _, _, hD⟩, ⟨_, hT, hTC⟩, ⟨_, hX, hXf⟩, hc16, hdc, htl, htc⟩, FX.rf⟩
set_option maxRecDepth 20000 in
theorem r_quantityByWalking {P : PSt} {L : LSt} {pr : Nat → Nat} {O : OSt} {mp : Nat} {mk : Nat → UInt32} {T : List Nat} {a0 a39 a63 a64 : Nat} {t : Nat} (hA : AD w a0 a39 a63 a64) (hM : IM G.2.2.1 w P L pr O mp mk T t) (hIP : IP P L pr O mp mk T) (a : Int32) (b : Int32) (s : Int32) : XC G mX11_quantityByWalking 9 0 0 [.ref a39, .int a, .int b, .int s] w (fun r w' => ∃ v : Int64, r = .inl (some (.long v)) ∧ (cdQ a b s P.1 = 0 → v = nL (hasN L pr (idx s) 5 (idx a) (idx b))) ∧ FM w w' ∧ IM G.2.2.1 w' P L pr O mp mk T (cdQ a b s P.1)) := by
  obtain ⟨-, rfl, rfl, rfl, rfl⟩ := hA
  have hM0 := hM
  obtain ⟨⟨en, h9⟩, hP, hL, hCh, hO, ⟨kf, hKf⟩, ⟨fM, hMk, hMf⟩, ⟨lt, h60⟩, ⟨ea, h61⟩, ⟨eb, h62⟩⟩ := hM
  obtain ⟨hPI, hk16, hLW, hOI, hpr, hmp0, hmz, hT20, hch⟩ := hIP
  refine XC.mono (fun r w' hq => ?_) (m_quantityW h9 hL rfl hLW.1 hCh hLW.2.1 hpr hLW.2.2 a b s)
  obtain ⟨v, hv, hv2, hw⟩ := hq
  refine ⟨v, hv, hv2, ?_⟩
  subst hw
  exact ⟨(by repeat (first | exact FM.rf | refine FM.set ?_ (by decide) (by decide))), ⟨⟨_, ⟨h9.1, rfl⟩⟩, hP, hL, hCh, hO, ⟨_, hKf⟩, ⟨_, hMk, hMf⟩, ⟨_, h60⟩, ⟨_, h61⟩, ⟨_, h62⟩⟩⟩
set_option maxRecDepth 20000 in
theorem cx_whereUsed {P : PSt} {L : LSt} {pr : Nat → Nat} {O : OSt} {mp : Nat} {mk : Nat → UInt32} {T : List Nat} {a0 a39 a63 a64 : Nat} {dc tc : Nat} (hA : AD w a0 a39 a63 a64) (hIX : IX G.2.2.1 w P L pr O mp mk T dc tc) (hIP : IP P L pr O mp mk T) (a : Int32) (s : Int32) : XC G mX10_whereUsed 7 (3) (18) [.ref a0, .int a, .int s] w (fun r w' => r = xr (cdA a s P.1) [eIOB, eIAE] (.int (nI (cntB (fun p => decide (p ≠ idx a) && decide (hasN L pr (idx s) 5 p (idx a) ≠ 0)) P.1))) ∧ IX G.2.2.1 w' P L pr O mp mk T dc tc ∧ FX w w') := by
  obtain ⟨-, rfl, rfl, rfl, rfl⟩ := hA
  have hIX0 := hIX
  obtain ⟨h0, hB, hP, hL, hXS, ⟨hc, hl, hS⟩, hO, ⟨qa, qb, hQ⟩, ⟨cc, hC⟩, ⟨cw, hWt⟩, ⟨dn, da, db, hD⟩, ⟨tt, hT, hTC⟩, ⟨fX, hX, hXf⟩, hc16, hdc, htl, htc⟩ := hIX
  obtain ⟨hPI, hk16, hLW, hOI, hpr, hmp0, hmz, hT20, hch⟩ := hIP
  have hcap : dc < 2 ^ 19 := by omega
  have htcap : tc < 2 ^ 19 := by omega
  refine XC.mono (fun r w' hq => ⟨hq.1, ?_⟩) (c_whereUsed h0 hB hP hL hS rfl hLW.1 hpr hLW.2.2 hQ a s)
  have hw := hq.2
  by_cases hcw : cdA a s P.1 = 0
  · skip
    rw [if_pos hcw] at hw
    try simp only [if_pos hcw]
    obtain ⟨x1, y1, hw⟩ := hw
    subst hw
    exact ⟨⟨h0, hB, hP, hL, hXS, ⟨_, _, ⟨⟨hS.1.1, rfl⟩, ⟨hS.2.1, rfl⟩⟩⟩, hO, ⟨_, _, ⟨hQ.1, ⟨hQ.2.1.1, rfl⟩, ⟨hQ.2.2.1, rfl⟩⟩⟩, ⟨_, hC⟩, ⟨_, hWt⟩, ⟨_, _, _, hD⟩, ⟨_, hT, hTC⟩, ⟨_, hX, hXf⟩, hc16, hdc, htl, htc⟩, (by repeat (first | exact FX.rf | refine FX.relT ?_ | refine FX.relD ?_ | refine FX.set ?_ (by decide)))⟩
  · skip
    rw [if_neg hcw] at hw
    subst hw
    try simp only [if_neg hcw]
    exact ⟨⟨h0, hB, hP, hL, hXS, ⟨_, _, hS⟩, hO, ⟨_, _, hQ⟩, ⟨_, hC⟩, ⟨_, hWt⟩, ⟨_, _, _, hD⟩, ⟨_, hT, hTC⟩, ⟨_, hX, hXf⟩, hc16, hdc, htl, htc⟩, FX.rf⟩
set_option maxRecDepth 20000 in
theorem r_whereUsed {P : PSt} {L : LSt} {pr : Nat → Nat} {O : OSt} {mp : Nat} {mk : Nat → UInt32} {T : List Nat} {a0 a39 a63 a64 : Nat} {t : Nat} (hA : AD w a0 a39 a63 a64) (hM : IM G.2.2.1 w P L pr O mp mk T t) (hIP : IP P L pr O mp mk T) (a : Int32) (s : Int32) : XC G mX11_whereUsed 8 0 0 [.ref a39, .int a, .int s] w (fun r w' => ∃ v : Int32, r = .inl (some (.int v)) ∧ (cdA a s P.1 = 0 → v = nI (cntB (fun p => decide (p ≠ idx a) && decide (hasN L pr (idx s) 5 p (idx a) ≠ 0)) P.1)) ∧ FM w w' ∧ IM G.2.2.1 w' P L pr O mp mk T (cdA a s P.1)) := by
  obtain ⟨-, rfl, rfl, rfl, rfl⟩ := hA
  have hM0 := hM
  obtain ⟨⟨en, h9⟩, hP, hL, hCh, hO, ⟨kf, hKf⟩, ⟨fM, hMk, hMf⟩, ⟨lt, h60⟩, ⟨ea, h61⟩, ⟨eb, h62⟩⟩ := hM
  obtain ⟨hPI, hk16, hLW, hOI, hpr, hmp0, hmz, hT20, hch⟩ := hIP
  refine XC.mono (fun r w' hq => ?_) (m_whereUsed h9 hL rfl hLW.1 hCh hLW.2.1 hpr hLW.2.2 a s)
  obtain ⟨v, hv, hv2, hw⟩ := hq
  refine ⟨v, hv, hv2, ?_⟩
  subst hw
  exact ⟨(by repeat (first | exact FM.rf | refine FM.set ?_ (by decide) (by decide))), ⟨⟨_, ⟨h9.1, rfl⟩⟩, hP, hL, hCh, hO, ⟨_, hKf⟩, ⟨_, hMk, hMf⟩, ⟨_, h60⟩, ⟨_, h61⟩, ⟨_, h62⟩⟩⟩
set_option maxRecDepth 20000 in
theorem cx_levels {P : PSt} {L : LSt} {pr : Nat → Nat} {O : OSt} {mp : Nat} {mk : Nat → UInt32} {T : List Nat} {a0 a39 a63 a64 : Nat} {dc tc : Nat} (hA : AD w a0 a39 a63 a64) (hIX : IX G.2.2.1 w P L pr O mp mk T dc tc) (hIP : IP P L pr O mp mk T) (a : Int32) (s : Int32) : XC G mX10_levels 7 (3) (18) [.ref a0, .int a, .int s] w (fun r w' => r = xr (cdA a s P.1) [eIOB, eIAE] (.int (nI (dptN L pr (idx s) 5 (idx a)))) ∧ IX G.2.2.1 w' P L pr O mp mk T dc tc ∧ FX w w') := by
  obtain ⟨-, rfl, rfl, rfl, rfl⟩ := hA
  have hIX0 := hIX
  obtain ⟨h0, hB, hP, hL, hXS, ⟨hc, hl, hS⟩, hO, ⟨qa, qb, hQ⟩, ⟨cc, hC⟩, ⟨cw, hWt⟩, ⟨dn, da, db, hD⟩, ⟨tt, hT, hTC⟩, ⟨fX, hX, hXf⟩, hc16, hdc, htl, htc⟩ := hIX
  obtain ⟨hPI, hk16, hLW, hOI, hpr, hmp0, hmz, hT20, hch⟩ := hIP
  have hcap : dc < 2 ^ 19 := by omega
  have htcap : tc < 2 ^ 19 := by omega
  refine XC.mono (fun r w' hq => ⟨hq.1, ?_⟩) (c_levels (qa := qa) (qb := qb) h0 hB hP hL hS rfl hLW.1 hpr hLW.2.1 a s)
  have hw := hq.2
  by_cases hcw : cdA a s P.1 = 0
  · skip
    rw [if_pos hcw] at hw
    try simp only [if_pos hcw]
    subst hw
    exact ⟨⟨h0, hB, hP, hL, hXS, ⟨_, _, ⟨⟨hS.1.1, rfl⟩, ⟨hS.2.1, rfl⟩⟩⟩, hO, ⟨_, _, hQ⟩, ⟨_, hC⟩, ⟨_, hWt⟩, ⟨_, _, _, hD⟩, ⟨_, hT, hTC⟩, ⟨_, hX, hXf⟩, hc16, hdc, htl, htc⟩, (by repeat (first | exact FX.rf | refine FX.relT ?_ | refine FX.relD ?_ | refine FX.set ?_ (by decide)))⟩
  · skip
    rw [if_neg hcw] at hw
    subst hw
    try simp only [if_neg hcw]
    exact ⟨⟨h0, hB, hP, hL, hXS, ⟨_, _, hS⟩, hO, ⟨_, _, hQ⟩, ⟨_, hC⟩, ⟨_, hWt⟩, ⟨_, _, _, hD⟩, ⟨_, hT, hTC⟩, ⟨_, hX, hXf⟩, hc16, hdc, htl, htc⟩, FX.rf⟩
set_option maxRecDepth 20000 in
theorem r_levels {P : PSt} {L : LSt} {pr : Nat → Nat} {O : OSt} {mp : Nat} {mk : Nat → UInt32} {T : List Nat} {a0 a39 a63 a64 : Nat} {t : Nat} (hA : AD w a0 a39 a63 a64) (hM : IM G.2.2.1 w P L pr O mp mk T t) (hIP : IP P L pr O mp mk T) (a : Int32) (s : Int32) : XC G mX11_levels 8 0 0 [.ref a39, .int a, .int s] w (fun r w' => ∃ v : Int32, r = .inl (some (.int v)) ∧ (cdA a s P.1 = 0 → v = nI (dptN L pr (idx s) 5 (idx a))) ∧ FM w w' ∧ IM G.2.2.1 w' P L pr O mp mk T (cdA a s P.1)) := by
  obtain ⟨-, rfl, rfl, rfl, rfl⟩ := hA
  have hM0 := hM
  obtain ⟨⟨en, h9⟩, hP, hL, hCh, hO, ⟨kf, hKf⟩, ⟨fM, hMk, hMf⟩, ⟨lt, h60⟩, ⟨ea, h61⟩, ⟨eb, h62⟩⟩ := hM
  obtain ⟨hPI, hk16, hLW, hOI, hpr, hmp0, hmz, hT20, hch⟩ := hIP
  refine XC.mono (fun r w' hq => ?_) (m_levels h9 hL rfl hLW.1 hCh hLW.2.1 hpr hLW.2.2 a s)
  obtain ⟨v, hv, hv2, hw⟩ := hq
  refine ⟨v, hv, hv2, ?_⟩
  subst hw
  exact ⟨(by repeat (first | exact FM.rf | refine FM.set ?_ (by decide) (by decide))), ⟨⟨_, ⟨h9.1, rfl⟩⟩, hP, hL, hCh, hO, ⟨_, hKf⟩, ⟨_, hMk, hMf⟩, ⟨_, h60⟩, ⟨_, h61⟩, ⟨_, h62⟩⟩⟩
set_option maxRecDepth 20000 in
theorem cx_cost {P : PSt} {L : LSt} {pr : Nat → Nat} {O : OSt} {mp : Nat} {mk : Nat → UInt32} {T : List Nat} {a0 a39 a63 a64 : Nat} {dc tc : Nat} (hA : AD w a0 a39 a63 a64) (hIX : IX G.2.2.1 w P L pr O mp mk T dc tc) (hIP : IP P L pr O mp mk T) (a : Int32) (s : Int32) : XC G mX10_cost 7 (3) (18) [.ref a0, .int a, .int s] w (fun r w' => r = xr (cdA a s P.1) [eIOB, eIAE] (.float ((priF P L pr (idx s) 5 (idx a)))) ∧ IX G.2.2.1 w' P L pr O mp mk T dc tc ∧ FX w w') := by
  obtain ⟨-, rfl, rfl, rfl, rfl⟩ := hA
  have hIX0 := hIX
  obtain ⟨h0, hB, hP, hL, hXS, ⟨hc, hl, hS⟩, hO, ⟨qa, qb, hQ⟩, ⟨cc, hC⟩, ⟨cw, hWt⟩, ⟨dn, da, db, hD⟩, ⟨tt, hT, hTC⟩, ⟨fX, hX, hXf⟩, hc16, hdc, htl, htc⟩ := hIX
  obtain ⟨hPI, hk16, hLW, hOI, hpr, hmp0, hmz, hT20, hch⟩ := hIP
  have hcap : dc < 2 ^ 19 := by omega
  have htcap : tc < 2 ^ 19 := by omega
  refine XC.mono (fun r w' hq => ⟨hq.1, ?_⟩) (c_cost h0 hB hP hL hS rfl hLW.1 hLW.2.2 hPI hpr hC a s)
  have hw := hq.2
  by_cases hcw : cdA a s P.1 = 0
  · skip
    rw [if_pos hcw] at hw
    try simp only [if_pos hcw]
    obtain ⟨c1, hw⟩ := hw
    subst hw
    exact ⟨⟨h0, hB, hP, hL, hXS, ⟨_, _, ⟨⟨hS.1.1, rfl⟩, ⟨hS.2.1, rfl⟩⟩⟩, hO, ⟨_, _, hQ⟩, ⟨_, ⟨hC.1, ⟨hC.2.1, rfl⟩⟩⟩, ⟨_, hWt⟩, ⟨_, _, _, hD⟩, ⟨_, hT, hTC⟩, ⟨_, hX, hXf⟩, hc16, hdc, htl, htc⟩, (by repeat (first | exact FX.rf | refine FX.relT ?_ | refine FX.relD ?_ | refine FX.set ?_ (by decide)))⟩
  · skip
    rw [if_neg hcw] at hw
    subst hw
    try simp only [if_neg hcw]
    exact ⟨⟨h0, hB, hP, hL, hXS, ⟨_, _, hS⟩, hO, ⟨_, _, hQ⟩, ⟨_, hC⟩, ⟨_, hWt⟩, ⟨_, _, _, hD⟩, ⟨_, hT, hTC⟩, ⟨_, hX, hXf⟩, hc16, hdc, htl, htc⟩, FX.rf⟩
set_option maxRecDepth 20000 in
theorem r_cost {P : PSt} {L : LSt} {pr : Nat → Nat} {O : OSt} {mp : Nat} {mk : Nat → UInt32} {T : List Nat} {a0 a39 a63 a64 : Nat} {t : Nat} (hA : AD w a0 a39 a63 a64) (hM : IM G.2.2.1 w P L pr O mp mk T t) (hIP : IP P L pr O mp mk T) (a : Int32) (s : Int32) : XC G mX11_cost 13 0 0 [.ref a39, .int a, .int s] w (fun r w' => ∃ v : UInt32, r = .inl (some (.float v)) ∧ (cdA a s P.1 = 0 → v = (priF P L pr (idx s) 5 (idx a))) ∧ FM w w' ∧ IM G.2.2.1 w' P L pr O mp mk T (cdA a s P.1)) := by
  obtain ⟨-, rfl, rfl, rfl, rfl⟩ := hA
  have hM0 := hM
  obtain ⟨⟨en, h9⟩, hP, hL, hCh, hO, ⟨kf, hKf⟩, ⟨fM, hMk, hMf⟩, ⟨lt, h60⟩, ⟨ea, h61⟩, ⟨eb, h62⟩⟩ := hM
  obtain ⟨hPI, hk16, hLW, hOI, hpr, hmp0, hmz, hT20, hch⟩ := hIP
  refine XC.mono (fun r w' hq => ?_) (m_cost h9 hL hP rfl hLW.1 hCh hLW.2.1 hpr hLW.2.2 rfl hPI a s)
  obtain ⟨v, hv, hv2, hw⟩ := hq
  refine ⟨v, hv, hv2, ?_⟩
  subst hw
  exact ⟨(by repeat (first | exact FM.rf | refine FM.set ?_ (by decide) (by decide))), ⟨⟨_, ⟨h9.1, rfl⟩⟩, hP, hL, hCh, hO, ⟨_, hKf⟩, ⟨_, hMk, hMf⟩, ⟨_, h60⟩, ⟨_, h61⟩, ⟨_, h62⟩⟩⟩
set_option maxRecDepth 20000 in
theorem cx_costByWalking {P : PSt} {L : LSt} {pr : Nat → Nat} {O : OSt} {mp : Nat} {mk : Nat → UInt32} {T : List Nat} {a0 a39 a63 a64 : Nat} {dc tc : Nat} (hA : AD w a0 a39 a63 a64) (hIX : IX G.2.2.1 w P L pr O mp mk T dc tc) (hIP : IP P L pr O mp mk T) (a : Int32) (s : Int32) : XC G mX10_costByWalking 7 (3) (18) [.ref a0, .int a, .int s] w (fun r w' => r = xr (cdA a s P.1) [eIOB, eIAE] (.float ((priF P L pr (idx s) 5 (idx a)))) ∧ IX G.2.2.1 w' P L pr O mp mk T dc tc ∧ FX w w') := by
  obtain ⟨-, rfl, rfl, rfl, rfl⟩ := hA
  have hIX0 := hIX
  obtain ⟨h0, hB, hP, hL, hXS, ⟨hc, hl, hS⟩, hO, ⟨qa, qb, hQ⟩, ⟨cc, hC⟩, ⟨cw, hWt⟩, ⟨dn, da, db, hD⟩, ⟨tt, hT, hTC⟩, ⟨fX, hX, hXf⟩, hc16, hdc, htl, htc⟩ := hIX
  obtain ⟨hPI, hk16, hLW, hOI, hpr, hmp0, hmz, hT20, hch⟩ := hIP
  have hcap : dc < 2 ^ 19 := by omega
  have htcap : tc < 2 ^ 19 := by omega
  refine XC.mono (fun r w' hq => ⟨hq.1, ?_⟩) (c_costW h0 hB hP hL hS rfl hLW.1 hLW.2.2 hPI hpr a s)
  have hw := hq.2
  by_cases hcw : cdA a s P.1 = 0
  · skip
    rw [if_pos hcw] at hw
    try simp only [if_pos hcw]
    subst hw
    exact ⟨⟨h0, hB, hP, hL, hXS, ⟨_, _, ⟨⟨hS.1.1, rfl⟩, ⟨hS.2.1, rfl⟩⟩⟩, hO, ⟨_, _, hQ⟩, ⟨_, hC⟩, ⟨_, hWt⟩, ⟨_, _, _, hD⟩, ⟨_, hT, hTC⟩, ⟨_, hX, hXf⟩, hc16, hdc, htl, htc⟩, (by repeat (first | exact FX.rf | refine FX.relT ?_ | refine FX.relD ?_ | refine FX.set ?_ (by decide)))⟩
  · skip
    rw [if_neg hcw] at hw
    subst hw
    try simp only [if_neg hcw]
    exact ⟨⟨h0, hB, hP, hL, hXS, ⟨_, _, hS⟩, hO, ⟨_, _, hQ⟩, ⟨_, hC⟩, ⟨_, hWt⟩, ⟨_, _, _, hD⟩, ⟨_, hT, hTC⟩, ⟨_, hX, hXf⟩, hc16, hdc, htl, htc⟩, FX.rf⟩
set_option maxRecDepth 20000 in
theorem r_costByWalking {P : PSt} {L : LSt} {pr : Nat → Nat} {O : OSt} {mp : Nat} {mk : Nat → UInt32} {T : List Nat} {a0 a39 a63 a64 : Nat} {t : Nat} (hA : AD w a0 a39 a63 a64) (hM : IM G.2.2.1 w P L pr O mp mk T t) (hIP : IP P L pr O mp mk T) (a : Int32) (s : Int32) : XC G mX11_costByWalking 14 0 0 [.ref a39, .int a, .int s] w (fun r w' => ∃ v : UInt32, r = .inl (some (.float v)) ∧ (cdA a s P.1 = 0 → v = (priF P L pr (idx s) 5 (idx a))) ∧ FM w w' ∧ IM G.2.2.1 w' P L pr O mp mk T (cdA a s P.1)) := by
  obtain ⟨-, rfl, rfl, rfl, rfl⟩ := hA
  have hM0 := hM
  obtain ⟨⟨en, h9⟩, hP, hL, hCh, hO, ⟨kf, hKf⟩, ⟨fM, hMk, hMf⟩, ⟨lt, h60⟩, ⟨ea, h61⟩, ⟨eb, h62⟩⟩ := hM
  obtain ⟨hPI, hk16, hLW, hOI, hpr, hmp0, hmz, hT20, hch⟩ := hIP
  refine XC.mono (fun r w' hq => ?_) (m_costW h9 hL hP rfl hLW.1 hCh hLW.2.1 hpr hLW.2.2 rfl hPI a s)
  obtain ⟨v, hv, hv2, hw⟩ := hq
  refine ⟨v, hv, hv2, ?_⟩
  subst hw
  exact ⟨(by repeat (first | exact FM.rf | refine FM.set ?_ (by decide) (by decide))), ⟨⟨_, ⟨h9.1, rfl⟩⟩, hP, hL, hCh, hO, ⟨_, hKf⟩, ⟨_, hMk, hMf⟩, ⟨_, h60⟩, ⟨_, h61⟩, ⟨_, h62⟩⟩⟩
set_option maxRecDepth 20000 in
theorem cx_costBits {P : PSt} {L : LSt} {pr : Nat → Nat} {O : OSt} {mp : Nat} {mk : Nat → UInt32} {T : List Nat} {a0 a39 a63 a64 : Nat} {dc tc : Nat} (hA : AD w a0 a39 a63 a64) (hIX : IX G.2.2.1 w P L pr O mp mk T dc tc) (hIP : IP P L pr O mp mk T) (a : Int32) (s : Int32) : XC G mX10_costBits 7 (3) (18) [.ref a0, .int a, .int s] w (fun r w' => r = xr (cdA a s P.1) [eIOB, eIAE] (.int ((priF P L pr (idx s) 5 (idx a)).toInt32)) ∧ IX G.2.2.1 w' P L pr O mp mk T dc tc ∧ FX w w') := by
  obtain ⟨-, rfl, rfl, rfl, rfl⟩ := hA
  have hIX0 := hIX
  obtain ⟨h0, hB, hP, hL, hXS, ⟨hc, hl, hS⟩, hO, ⟨qa, qb, hQ⟩, ⟨cc, hC⟩, ⟨cw, hWt⟩, ⟨dn, da, db, hD⟩, ⟨tt, hT, hTC⟩, ⟨fX, hX, hXf⟩, hc16, hdc, htl, htc⟩ := hIX
  obtain ⟨hPI, hk16, hLW, hOI, hpr, hmp0, hmz, hT20, hch⟩ := hIP
  have hcap : dc < 2 ^ 19 := by omega
  have htcap : tc < 2 ^ 19 := by omega
  refine XC.mono (fun r w' hq => ⟨hq.1, ?_⟩) (c_costBits h0 hB hP hL hS rfl hLW.1 hLW.2.2 hPI hpr hC a s)
  have hw := hq.2
  by_cases hcw : cdA a s P.1 = 0
  · skip
    rw [if_pos hcw] at hw
    try simp only [if_pos hcw]
    obtain ⟨c1, hw⟩ := hw
    subst hw
    exact ⟨⟨h0, hB, hP, hL, hXS, ⟨_, _, ⟨⟨hS.1.1, rfl⟩, ⟨hS.2.1, rfl⟩⟩⟩, hO, ⟨_, _, hQ⟩, ⟨_, ⟨hC.1, ⟨hC.2.1, rfl⟩⟩⟩, ⟨_, hWt⟩, ⟨_, _, _, hD⟩, ⟨_, hT, hTC⟩, ⟨_, hX, hXf⟩, hc16, hdc, htl, htc⟩, (by repeat (first | exact FX.rf | refine FX.relT ?_ | refine FX.relD ?_ | refine FX.set ?_ (by decide)))⟩
  · skip
    rw [if_neg hcw] at hw
    subst hw
    try simp only [if_neg hcw]
    exact ⟨⟨h0, hB, hP, hL, hXS, ⟨_, _, hS⟩, hO, ⟨_, _, hQ⟩, ⟨_, hC⟩, ⟨_, hWt⟩, ⟨_, _, _, hD⟩, ⟨_, hT, hTC⟩, ⟨_, hX, hXf⟩, hc16, hdc, htl, htc⟩, FX.rf⟩
set_option maxRecDepth 20000 in
theorem r_costBits {P : PSt} {L : LSt} {pr : Nat → Nat} {O : OSt} {mp : Nat} {mk : Nat → UInt32} {T : List Nat} {a0 a39 a63 a64 : Nat} {t : Nat} (hA : AD w a0 a39 a63 a64) (hM : IM G.2.2.1 w P L pr O mp mk T t) (hIP : IP P L pr O mp mk T) (a : Int32) (s : Int32) : XC G mX11_costBits 13 0 0 [.ref a39, .int a, .int s] w (fun r w' => ∃ v : Int32, r = .inl (some (.int v)) ∧ (cdA a s P.1 = 0 → v = (priF P L pr (idx s) 5 (idx a)).toInt32) ∧ FM w w' ∧ IM G.2.2.1 w' P L pr O mp mk T (cdA a s P.1)) := by
  obtain ⟨-, rfl, rfl, rfl, rfl⟩ := hA
  have hM0 := hM
  obtain ⟨⟨en, h9⟩, hP, hL, hCh, hO, ⟨kf, hKf⟩, ⟨fM, hMk, hMf⟩, ⟨lt, h60⟩, ⟨ea, h61⟩, ⟨eb, h62⟩⟩ := hM
  obtain ⟨hPI, hk16, hLW, hOI, hpr, hmp0, hmz, hT20, hch⟩ := hIP
  refine XC.mono (fun r w' hq => ?_) (m_costBits h9 hL hP rfl hLW.1 hCh hLW.2.1 hpr hLW.2.2 rfl hPI a s)
  obtain ⟨v, hv, hv2, hw⟩ := hq
  refine ⟨v, hv, hv2, ?_⟩
  subst hw
  exact ⟨(by repeat (first | exact FM.rf | refine FM.set ?_ (by decide) (by decide))), ⟨⟨_, ⟨h9.1, rfl⟩⟩, hP, hL, hCh, hO, ⟨_, hKf⟩, ⟨_, hMk, hMf⟩, ⟨_, h60⟩, ⟨_, h61⟩, ⟨_, h62⟩⟩⟩
set_option maxRecDepth 20000 in
theorem cx_costCents {P : PSt} {L : LSt} {pr : Nat → Nat} {O : OSt} {mp : Nat} {mk : Nat → UInt32} {T : List Nat} {a0 a39 a63 a64 : Nat} {dc tc : Nat} (hA : AD w a0 a39 a63 a64) (hIX : IX G.2.2.1 w P L pr O mp mk T dc tc) (hIP : IP P L pr O mp mk T) (a : Int32) (s : Int32) : XC G mX10_costCents 7 (3) (18) [.ref a0, .int a, .int s] w (fun r w' => r = xr (cdA a s P.1) [eIOB, eIAE] (.int (FP.f2i (FP.fmul (priF P L pr (idx s) 5 (idx a)) 1120403456))) ∧ IX G.2.2.1 w' P L pr O mp mk T dc tc ∧ FX w w') := by
  obtain ⟨-, rfl, rfl, rfl, rfl⟩ := hA
  have hIX0 := hIX
  obtain ⟨h0, hB, hP, hL, hXS, ⟨hc, hl, hS⟩, hO, ⟨qa, qb, hQ⟩, ⟨cc, hC⟩, ⟨cw, hWt⟩, ⟨dn, da, db, hD⟩, ⟨tt, hT, hTC⟩, ⟨fX, hX, hXf⟩, hc16, hdc, htl, htc⟩ := hIX
  obtain ⟨hPI, hk16, hLW, hOI, hpr, hmp0, hmz, hT20, hch⟩ := hIP
  have hcap : dc < 2 ^ 19 := by omega
  have htcap : tc < 2 ^ 19 := by omega
  refine XC.mono (fun r w' hq => ⟨hq.1, ?_⟩) (c_costCents h0 hB hP hL hS rfl hLW.1 hLW.2.2 hPI hpr hC a s)
  have hw := hq.2
  by_cases hcw : cdA a s P.1 = 0
  · skip
    rw [if_pos hcw] at hw
    try simp only [if_pos hcw]
    obtain ⟨c1, hw⟩ := hw
    subst hw
    exact ⟨⟨h0, hB, hP, hL, hXS, ⟨_, _, ⟨⟨hS.1.1, rfl⟩, ⟨hS.2.1, rfl⟩⟩⟩, hO, ⟨_, _, hQ⟩, ⟨_, ⟨hC.1, ⟨hC.2.1, rfl⟩⟩⟩, ⟨_, hWt⟩, ⟨_, _, _, hD⟩, ⟨_, hT, hTC⟩, ⟨_, hX, hXf⟩, hc16, hdc, htl, htc⟩, (by repeat (first | exact FX.rf | refine FX.relT ?_ | refine FX.relD ?_ | refine FX.set ?_ (by decide)))⟩
  · skip
    rw [if_neg hcw] at hw
    subst hw
    try simp only [if_neg hcw]
    exact ⟨⟨h0, hB, hP, hL, hXS, ⟨_, _, hS⟩, hO, ⟨_, _, hQ⟩, ⟨_, hC⟩, ⟨_, hWt⟩, ⟨_, _, _, hD⟩, ⟨_, hT, hTC⟩, ⟨_, hX, hXf⟩, hc16, hdc, htl, htc⟩, FX.rf⟩
set_option maxRecDepth 20000 in
theorem r_costCents {P : PSt} {L : LSt} {pr : Nat → Nat} {O : OSt} {mp : Nat} {mk : Nat → UInt32} {T : List Nat} {a0 a39 a63 a64 : Nat} {t : Nat} (hA : AD w a0 a39 a63 a64) (hM : IM G.2.2.1 w P L pr O mp mk T t) (hIP : IP P L pr O mp mk T) (a : Int32) (s : Int32) : XC G mX11_costCents 13 0 0 [.ref a39, .int a, .int s] w (fun r w' => ∃ v : Int32, r = .inl (some (.int v)) ∧ (cdA a s P.1 = 0 → v = FP.f2i (FP.fmul (priF P L pr (idx s) 5 (idx a)) 1120403456)) ∧ FM w w' ∧ IM G.2.2.1 w' P L pr O mp mk T (cdA a s P.1)) := by
  obtain ⟨-, rfl, rfl, rfl, rfl⟩ := hA
  have hM0 := hM
  obtain ⟨⟨en, h9⟩, hP, hL, hCh, hO, ⟨kf, hKf⟩, ⟨fM, hMk, hMf⟩, ⟨lt, h60⟩, ⟨ea, h61⟩, ⟨eb, h62⟩⟩ := hM
  obtain ⟨hPI, hk16, hLW, hOI, hpr, hmp0, hmz, hT20, hch⟩ := hIP
  refine XC.mono (fun r w' hq => ?_) (m_costCents h9 hL hP rfl hLW.1 hCh hLW.2.1 hpr hLW.2.2 rfl hPI a s)
  obtain ⟨v, hv, hv2, hw⟩ := hq
  refine ⟨v, hv, hv2, ?_⟩
  subst hw
  exact ⟨(by repeat (first | exact FM.rf | refine FM.set ?_ (by decide) (by decide))), ⟨⟨_, ⟨h9.1, rfl⟩⟩, hP, hL, hCh, hO, ⟨_, hKf⟩, ⟨_, hMk, hMf⟩, ⟨_, h60⟩, ⟨_, h61⟩, ⟨_, h62⟩⟩⟩
set_option maxRecDepth 20000 in
theorem cx_dearest {P : PSt} {L : LSt} {pr : Nat → Nat} {O : OSt} {mp : Nat} {mk : Nat → UInt32} {T : List Nat} {a0 a39 a63 a64 : Nat} {dc tc : Nat} (hA : AD w a0 a39 a63 a64) (hIX : IX G.2.2.1 w P L pr O mp mk T dc tc) (hIP : IP P L pr O mp mk T) (a : Int32) (s : Int32) : XC G mX10_dearest 7 (4) (24) [.ref a0, .int a, .int s] w (fun r w' => r = xr (cdD a s P.1 (dstF L pr (idx s) (idx a) (mrF L (priF P L pr (idx s) 5)) 6)) [eIOB, eIAE, eNSE] (.int (oI (dstF L pr (idx s) (idx a) (mrF L (priF P L pr (idx s) 5)) 6))) ∧ IX G.2.2.1 w' P L pr O mp mk T dc tc ∧ FX w w') := by
  obtain ⟨-, rfl, rfl, rfl, rfl⟩ := hA
  have hIX0 := hIX
  obtain ⟨h0, hB, hP, hL, hXS, ⟨hc, hl, hS⟩, hO, ⟨qa, qb, hQ⟩, ⟨cc, hC⟩, ⟨cw, hWt⟩, ⟨dn, da, db, hD⟩, ⟨tt, hT, hTC⟩, ⟨fX, hX, hXf⟩, hc16, hdc, htl, htc⟩ := hIX
  obtain ⟨hPI, hk16, hLW, hOI, hpr, hmp0, hmz, hT20, hch⟩ := hIP
  have hcap : dc < 2 ^ 19 := by omega
  have htcap : tc < 2 ^ 19 := by omega
  refine XC.mono (fun r w' hq => ⟨hq.1, ?_⟩) (c_dearest h0 hB hP hL hS rfl hLW.1 hLW.2.2 hPI hpr hC a s)
  have hw := hq.2
  by_cases hcw : cdA a s P.1 = 0
  · skip
    rw [if_pos hcw] at hw
    try simp only [if_pos hcw]
    obtain ⟨c1, hw⟩ := hw
    subst hw
    exact ⟨⟨h0, hB, hP, hL, hXS, ⟨_, _, ⟨⟨hS.1.1, rfl⟩, ⟨hS.2.1, rfl⟩⟩⟩, hO, ⟨_, _, hQ⟩, ⟨_, ⟨hC.1, ⟨hC.2.1, rfl⟩⟩⟩, ⟨_, hWt⟩, ⟨_, _, _, hD⟩, ⟨_, hT, hTC⟩, ⟨_, hX, hXf⟩, hc16, hdc, htl, htc⟩, (by repeat (first | exact FX.rf | refine FX.relT ?_ | refine FX.relD ?_ | refine FX.set ?_ (by decide)))⟩
  · skip
    rw [if_neg hcw] at hw
    subst hw
    try simp only [if_neg hcw]
    exact ⟨⟨h0, hB, hP, hL, hXS, ⟨_, _, hS⟩, hO, ⟨_, _, hQ⟩, ⟨_, hC⟩, ⟨_, hWt⟩, ⟨_, _, _, hD⟩, ⟨_, hT, hTC⟩, ⟨_, hX, hXf⟩, hc16, hdc, htl, htc⟩, FX.rf⟩
set_option maxRecDepth 20000 in
theorem r_dearest {P : PSt} {L : LSt} {pr : Nat → Nat} {O : OSt} {mp : Nat} {mk : Nat → UInt32} {T : List Nat} {a0 a39 a63 a64 : Nat} {t : Nat} (hA : AD w a0 a39 a63 a64) (hM : IM G.2.2.1 w P L pr O mp mk T t) (hIP : IP P L pr O mp mk T) (a : Int32) (s : Int32) : XC G mX11_dearest 14 0 0 [.ref a39, .int a, .int s] w (fun r w' => ∃ v : Int32, r = .inl (some (.int v)) ∧ (cdD a s P.1 (dstF L pr (idx s) (idx a) (mrF L (priF P L pr (idx s) 5)) 6) = 0 → v = oI (dstF L pr (idx s) (idx a) (mrF L (priF P L pr (idx s) 5)) 6)) ∧ FM w w' ∧ IM G.2.2.1 w' P L pr O mp mk T (cdD a s P.1 (dstF L pr (idx s) (idx a) (mrF L (priF P L pr (idx s) 5)) 6))) := by
  obtain ⟨-, rfl, rfl, rfl, rfl⟩ := hA
  have hM0 := hM
  obtain ⟨⟨en, h9⟩, hP, hL, hCh, hO, ⟨kf, hKf⟩, ⟨fM, hMk, hMf⟩, ⟨lt, h60⟩, ⟨ea, h61⟩, ⟨eb, h62⟩⟩ := hM
  obtain ⟨hPI, hk16, hLW, hOI, hpr, hmp0, hmz, hT20, hch⟩ := hIP
  refine XC.mono (fun r w' hq => ?_) (m_dearest h9 hL hP rfl hLW.1 hCh hLW.2.1 hpr hLW.2.2 rfl hPI a s)
  obtain ⟨v, hv, hv2, hw⟩ := hq
  refine ⟨v, hv, hv2, ?_⟩
  subst hw
  exact ⟨(by repeat (first | exact FM.rf | refine FM.set ?_ (by decide) (by decide))), ⟨⟨_, ⟨h9.1, rfl⟩⟩, hP, hL, hCh, hO, ⟨_, hKf⟩, ⟨_, hMk, hMf⟩, ⟨_, h60⟩, ⟨_, h61⟩, ⟨_, h62⟩⟩⟩
set_option maxRecDepth 20000 in
theorem cx_weight {P : PSt} {L : LSt} {pr : Nat → Nat} {O : OSt} {mp : Nat} {mk : Nat → UInt32} {T : List Nat} {a0 a39 a63 a64 : Nat} {dc tc : Nat} (hA : AD w a0 a39 a63 a64) (hIX : IX G.2.2.1 w P L pr O mp mk T dc tc) (hIP : IP P L pr O mp mk T) (a : Int32) (s : Int32) : XC G mX10_weight 7 (3) (18) [.ref a0, .int a, .int s] w (fun r w' => r = xr (cdA a s P.1) [eIOB, eIAE] (.double ((masF P L pr (idx s) 5 (idx a)))) ∧ IX G.2.2.1 w' P L pr O mp mk T dc tc ∧ FX w w') := by
  obtain ⟨-, rfl, rfl, rfl, rfl⟩ := hA
  have hIX0 := hIX
  obtain ⟨h0, hB, hP, hL, hXS, ⟨hc, hl, hS⟩, hO, ⟨qa, qb, hQ⟩, ⟨cc, hC⟩, ⟨cw, hWt⟩, ⟨dn, da, db, hD⟩, ⟨tt, hT, hTC⟩, ⟨fX, hX, hXf⟩, hc16, hdc, htl, htc⟩ := hIX
  obtain ⟨hPI, hk16, hLW, hOI, hpr, hmp0, hmz, hT20, hch⟩ := hIP
  have hcap : dc < 2 ^ 19 := by omega
  have htcap : tc < 2 ^ 19 := by omega
  refine XC.mono (fun r w' hq => ⟨hq.1, ?_⟩) (c_weight h0 hB hP hL hS rfl hLW.1 hLW.2.2 hPI hpr hWt a s)
  have hw := hq.2
  by_cases hcw : cdA a s P.1 = 0
  · skip
    rw [if_pos hcw] at hw
    try simp only [if_pos hcw]
    obtain ⟨c1, hw⟩ := hw
    subst hw
    exact ⟨⟨h0, hB, hP, hL, hXS, ⟨_, _, ⟨⟨hS.1.1, rfl⟩, ⟨hS.2.1, rfl⟩⟩⟩, hO, ⟨_, _, hQ⟩, ⟨_, hC⟩, ⟨_, ⟨hWt.1, ⟨hWt.2.1, rfl⟩⟩⟩, ⟨_, _, _, hD⟩, ⟨_, hT, hTC⟩, ⟨_, hX, hXf⟩, hc16, hdc, htl, htc⟩, (by repeat (first | exact FX.rf | refine FX.relT ?_ | refine FX.relD ?_ | refine FX.set ?_ (by decide)))⟩
  · skip
    rw [if_neg hcw] at hw
    subst hw
    try simp only [if_neg hcw]
    exact ⟨⟨h0, hB, hP, hL, hXS, ⟨_, _, hS⟩, hO, ⟨_, _, hQ⟩, ⟨_, hC⟩, ⟨_, hWt⟩, ⟨_, _, _, hD⟩, ⟨_, hT, hTC⟩, ⟨_, hX, hXf⟩, hc16, hdc, htl, htc⟩, FX.rf⟩
set_option maxRecDepth 20000 in
theorem r_weight {P : PSt} {L : LSt} {pr : Nat → Nat} {O : OSt} {mp : Nat} {mk : Nat → UInt32} {T : List Nat} {a0 a39 a63 a64 : Nat} {t : Nat} (hA : AD w a0 a39 a63 a64) (hM : IM G.2.2.1 w P L pr O mp mk T t) (hIP : IP P L pr O mp mk T) (a : Int32) (s : Int32) : XC G mX11_weight 8 0 0 [.ref a39, .int a, .int s] w (fun r w' => ∃ v : UInt64, r = .inl (some (.double v)) ∧ (cdA a s P.1 = 0 → v = (masF P L pr (idx s) 5 (idx a))) ∧ FM w w' ∧ IM G.2.2.1 w' P L pr O mp mk T (cdA a s P.1)) := by
  obtain ⟨-, rfl, rfl, rfl, rfl⟩ := hA
  have hM0 := hM
  obtain ⟨⟨en, h9⟩, hP, hL, hCh, hO, ⟨kf, hKf⟩, ⟨fM, hMk, hMf⟩, ⟨lt, h60⟩, ⟨ea, h61⟩, ⟨eb, h62⟩⟩ := hM
  obtain ⟨hPI, hk16, hLW, hOI, hpr, hmp0, hmz, hT20, hch⟩ := hIP
  refine XC.mono (fun r w' hq => ?_) (m_weight h9 hL hP rfl hLW.1 hCh hLW.2.1 hpr hLW.2.2 rfl hPI a s)
  obtain ⟨v, hv, hv2, hw⟩ := hq
  refine ⟨v, hv, hv2, ?_⟩
  subst hw
  exact ⟨(by repeat (first | exact FM.rf | refine FM.set ?_ (by decide) (by decide))), ⟨⟨_, ⟨h9.1, rfl⟩⟩, hP, hL, hCh, hO, ⟨_, hKf⟩, ⟨_, hMk, hMf⟩, ⟨_, h60⟩, ⟨_, h61⟩, ⟨_, h62⟩⟩⟩
set_option maxRecDepth 20000 in
theorem cx_weightBits {P : PSt} {L : LSt} {pr : Nat → Nat} {O : OSt} {mp : Nat} {mk : Nat → UInt32} {T : List Nat} {a0 a39 a63 a64 : Nat} {dc tc : Nat} (hA : AD w a0 a39 a63 a64) (hIX : IX G.2.2.1 w P L pr O mp mk T dc tc) (hIP : IP P L pr O mp mk T) (a : Int32) (s : Int32) : XC G mX10_weightBits 7 (3) (18) [.ref a0, .int a, .int s] w (fun r w' => r = xr (cdA a s P.1) [eIOB, eIAE] (.long ((masF P L pr (idx s) 5 (idx a)).toInt64)) ∧ IX G.2.2.1 w' P L pr O mp mk T dc tc ∧ FX w w') := by
  obtain ⟨-, rfl, rfl, rfl, rfl⟩ := hA
  have hIX0 := hIX
  obtain ⟨h0, hB, hP, hL, hXS, ⟨hc, hl, hS⟩, hO, ⟨qa, qb, hQ⟩, ⟨cc, hC⟩, ⟨cw, hWt⟩, ⟨dn, da, db, hD⟩, ⟨tt, hT, hTC⟩, ⟨fX, hX, hXf⟩, hc16, hdc, htl, htc⟩ := hIX
  obtain ⟨hPI, hk16, hLW, hOI, hpr, hmp0, hmz, hT20, hch⟩ := hIP
  have hcap : dc < 2 ^ 19 := by omega
  have htcap : tc < 2 ^ 19 := by omega
  refine XC.mono (fun r w' hq => ⟨hq.1, ?_⟩) (c_weightBits h0 hB hP hL hS rfl hLW.1 hLW.2.2 hPI hpr hWt a s)
  have hw := hq.2
  by_cases hcw : cdA a s P.1 = 0
  · skip
    rw [if_pos hcw] at hw
    try simp only [if_pos hcw]
    obtain ⟨c1, hw⟩ := hw
    subst hw
    exact ⟨⟨h0, hB, hP, hL, hXS, ⟨_, _, ⟨⟨hS.1.1, rfl⟩, ⟨hS.2.1, rfl⟩⟩⟩, hO, ⟨_, _, hQ⟩, ⟨_, hC⟩, ⟨_, ⟨hWt.1, ⟨hWt.2.1, rfl⟩⟩⟩, ⟨_, _, _, hD⟩, ⟨_, hT, hTC⟩, ⟨_, hX, hXf⟩, hc16, hdc, htl, htc⟩, (by repeat (first | exact FX.rf | refine FX.relT ?_ | refine FX.relD ?_ | refine FX.set ?_ (by decide)))⟩
  · skip
    rw [if_neg hcw] at hw
    subst hw
    try simp only [if_neg hcw]
    exact ⟨⟨h0, hB, hP, hL, hXS, ⟨_, _, hS⟩, hO, ⟨_, _, hQ⟩, ⟨_, hC⟩, ⟨_, hWt⟩, ⟨_, _, _, hD⟩, ⟨_, hT, hTC⟩, ⟨_, hX, hXf⟩, hc16, hdc, htl, htc⟩, FX.rf⟩
set_option maxRecDepth 20000 in
theorem r_weightBits {P : PSt} {L : LSt} {pr : Nat → Nat} {O : OSt} {mp : Nat} {mk : Nat → UInt32} {T : List Nat} {a0 a39 a63 a64 : Nat} {t : Nat} (hA : AD w a0 a39 a63 a64) (hM : IM G.2.2.1 w P L pr O mp mk T t) (hIP : IP P L pr O mp mk T) (a : Int32) (s : Int32) : XC G mX11_weightBits 8 0 0 [.ref a39, .int a, .int s] w (fun r w' => ∃ v : Int64, r = .inl (some (.long v)) ∧ (cdA a s P.1 = 0 → v = (masF P L pr (idx s) 5 (idx a)).toInt64) ∧ FM w w' ∧ IM G.2.2.1 w' P L pr O mp mk T (cdA a s P.1)) := by
  obtain ⟨-, rfl, rfl, rfl, rfl⟩ := hA
  have hM0 := hM
  obtain ⟨⟨en, h9⟩, hP, hL, hCh, hO, ⟨kf, hKf⟩, ⟨fM, hMk, hMf⟩, ⟨lt, h60⟩, ⟨ea, h61⟩, ⟨eb, h62⟩⟩ := hM
  obtain ⟨hPI, hk16, hLW, hOI, hpr, hmp0, hmz, hT20, hch⟩ := hIP
  refine XC.mono (fun r w' hq => ?_) (m_weightBits h9 hL hP rfl hLW.1 hCh hLW.2.1 hpr hLW.2.2 rfl hPI a s)
  obtain ⟨v, hv, hv2, hw⟩ := hq
  refine ⟨v, hv, hv2, ?_⟩
  subst hw
  exact ⟨(by repeat (first | exact FM.rf | refine FM.set ?_ (by decide) (by decide))), ⟨⟨_, ⟨h9.1, rfl⟩⟩, hP, hL, hCh, hO, ⟨_, hKf⟩, ⟨_, hMk, hMf⟩, ⟨_, h60⟩, ⟨_, h61⟩, ⟨_, h62⟩⟩⟩
set_option maxRecDepth 20000 in
theorem cx_markCosts {P : PSt} {L : LSt} {pr : Nat → Nat} {O : OSt} {mp : Nat} {mk : Nat → UInt32} {T : List Nat} {a0 a39 a63 a64 : Nat} {dc tc : Nat} (hA : AD w a0 a39 a63 a64) (hIX : IX G.2.2.1 w P L pr O mp mk T dc tc) (hIP : IP P L pr O mp mk T) (s : Int32) : XC G mX10_markCosts 7 (2) (12) [.ref a0, .int s] w (fun r w' => r = xr (cdM s) [eIAE] (.int (nI P.1)) ∧ IX G.2.2.1 w' P L pr O (if (cdM s) = 0 then P.1 else mp) (if (cdM s) = 0 then (fun x => priF P L pr (idx s) 5 x) else mk) T dc tc ∧ FX w w') := by
  obtain ⟨-, rfl, rfl, rfl, rfl⟩ := hA
  have hIX0 := hIX
  obtain ⟨h0, hB, hP, hL, hXS, ⟨hc, hl, hS⟩, hO, ⟨qa, qb, hQ⟩, ⟨cc, hC⟩, ⟨cw, hWt⟩, ⟨dn, da, db, hD⟩, ⟨tt, hT, hTC⟩, ⟨fX, hX, hXf⟩, hc16, hdc, htl, htc⟩ := hIX
  obtain ⟨hPI, hk16, hLW, hOI, hpr, hmp0, hmz, hT20, hch⟩ := hIP
  have hcap : dc < 2 ^ 19 := by omega
  have htcap : tc < 2 ^ 19 := by omega
  refine XC.mono (fun r w' hq => ⟨hq.1, ?_⟩) (c_markCosts h0 hB hP hL hS rfl hLW.1 hLW.2.2 hPI hpr hC hX s)
  have hw := hq.2
  by_cases hcw : cdM s = 0
  · skip
    rw [if_pos hcw] at hw
    try simp only [if_pos hcw]
    obtain ⟨c1, f1, hw, hf1⟩ := hw
    subst hw
    exact ⟨⟨⟨h0.1, rfl⟩, hB, hP, hL, hXS, ⟨_, _, ⟨⟨hS.1.1, rfl⟩, ⟨hS.2.1, rfl⟩⟩⟩, hO, ⟨_, _, hQ⟩, ⟨_, ⟨hC.1, ⟨hC.2.1, rfl⟩⟩⟩, ⟨_, hWt⟩, ⟨_, _, _, hD⟩, ⟨_, hT, hTC⟩, ⟨_, ⟨hX.1, rfl⟩, hf1⟩, hc16, hdc, htl, htc⟩, (by repeat (first | exact FX.rf | refine FX.relT ?_ | refine FX.relD ?_ | refine FX.set ?_ (by decide)))⟩
  · skip
    rw [if_neg hcw] at hw
    subst hw
    try simp only [if_neg hcw]
    exact ⟨⟨h0, hB, hP, hL, hXS, ⟨_, _, hS⟩, hO, ⟨_, _, hQ⟩, ⟨_, hC⟩, ⟨_, hWt⟩, ⟨_, _, _, hD⟩, ⟨_, hT, hTC⟩, ⟨_, hX, hXf⟩, hc16, hdc, htl, htc⟩, FX.rf⟩
set_option maxRecDepth 20000 in
theorem r_markCosts {P : PSt} {L : LSt} {pr : Nat → Nat} {O : OSt} {mp : Nat} {mk : Nat → UInt32} {T : List Nat} {a0 a39 a63 a64 : Nat} {t : Nat} (hA : AD w a0 a39 a63 a64) (hM : IM G.2.2.1 w P L pr O mp mk T t) (hIP : IP P L pr O mp mk T) (s : Int32) : XC G mX11_markCosts 13 0 0 [.ref a39, .int s] w (fun r w' => ∃ v : Int32, r = .inl (some (.int v)) ∧ (cdM s = 0 → v = nI P.1) ∧ FM w w' ∧ IM G.2.2.1 w' P L pr O (if (cdM s) = 0 then P.1 else mp) (if (cdM s) = 0 then (fun x => priF P L pr (idx s) 5 x) else mk) T (cdM s)) := by
  obtain ⟨-, rfl, rfl, rfl, rfl⟩ := hA
  have hM0 := hM
  obtain ⟨⟨en, h9⟩, hP, hL, hCh, hO, ⟨kf, hKf⟩, ⟨fM, hMk, hMf⟩, ⟨lt, h60⟩, ⟨ea, h61⟩, ⟨eb, h62⟩⟩ := hM
  obtain ⟨hPI, hk16, hLW, hOI, hpr, hmp0, hmz, hT20, hch⟩ := hIP
  refine XC.mono (fun r w' hq => ?_) (m_markCosts h9 hL hP rfl hLW.1 hCh hLW.2.1 hpr hLW.2.2 rfl hPI hMk s)
  obtain ⟨v, hv, hv2, hw⟩ := hq
  refine ⟨v, hv, hv2, ?_⟩
  by_cases hcw : cdM s = 0
  · skip
    rw [if_pos hcw] at hw
    try simp only [if_pos hcw]
    rw [hcw]
    obtain ⟨f1, hw, hf1⟩ := hw
    subst hw
    exact ⟨(by repeat (first | exact FM.rf | refine FM.set ?_ (by decide) (by decide))), ⟨⟨_, ⟨h9.1, rfl⟩⟩, hP, hL, hCh, hO, ⟨_, hKf⟩, ⟨_, ⟨hMk.1, rfl⟩, hf1⟩, ⟨_, h60⟩, ⟨_, h61⟩, ⟨_, h62⟩⟩⟩
  · skip
    rw [if_neg hcw] at hw
    subst hw
    try simp only [if_neg hcw]
    exact ⟨(by repeat (first | exact FM.rf | refine FM.set ?_ (by decide) (by decide))), ⟨⟨_, ⟨h9.1, rfl⟩⟩, hP, hL, hCh, hO, ⟨_, hKf⟩, ⟨_, hMk, hMf⟩, ⟨_, h60⟩, ⟨_, h61⟩, ⟨_, h62⟩⟩⟩
set_option maxRecDepth 20000 in
theorem cx_costChange {P : PSt} {L : LSt} {pr : Nat → Nat} {O : OSt} {mp : Nat} {mk : Nat → UInt32} {T : List Nat} {a0 a39 a63 a64 : Nat} {dc tc : Nat} (hA : AD w a0 a39 a63 a64) (hIX : IX G.2.2.1 w P L pr O mp mk T dc tc) (hIP : IP P L pr O mp mk T) (a : Int32) (s : Int32) : XC G mX10_costChange 7 (4) (24) [.ref a0, .int a, .int s] w (fun r w' => r = xr (cdH a s P.1 mp) [eIOB, eIAE, eNSE] (.float (FP.fsub (priF P L pr (idx s) 5 (idx a)) (mk (idx a)))) ∧ IX G.2.2.1 w' P L pr O mp mk T dc tc ∧ FX w w') := by
  obtain ⟨-, rfl, rfl, rfl, rfl⟩ := hA
  have hIX0 := hIX
  obtain ⟨h0, hB, hP, hL, hXS, ⟨hc, hl, hS⟩, hO, ⟨qa, qb, hQ⟩, ⟨cc, hC⟩, ⟨cw, hWt⟩, ⟨dn, da, db, hD⟩, ⟨tt, hT, hTC⟩, ⟨fX, hX, hXf⟩, hc16, hdc, htl, htc⟩ := hIX
  obtain ⟨hPI, hk16, hLW, hOI, hpr, hmp0, hmz, hT20, hch⟩ := hIP
  have hcap : dc < 2 ^ 19 := by omega
  have htcap : tc < 2 ^ 19 := by omega
  have hXz : ∀ x, x < mp → Z32 120 234 (fX x) := fun x hx => by rw [hXf x hx]; exact hmz x hx
  have hmp : mp ≤ 16 := Nat.le_trans hmp0 hPI.1
  refine XC.mono (fun r w' hq => ?_) (c_costChange h0 hB hP hL hS rfl hLW.1 hLW.2.2 hPI hpr hC hX hmp hXz a s)
  refine ⟨?_, ?_⟩
  · by_cases hc0 : cdH a s P.1 mp = 0
    · have hx : idx a < mp := cdH_lt hc0
      rw [← hXf _ hx]; exact hq.1
    · exact hq.1.trans (xr_nz hc0)
  have hw := hq.2
  by_cases hcw : cdH a s P.1 mp = 0
  · skip
    rw [if_pos hcw] at hw
    try simp only [if_pos hcw]
    obtain ⟨c1, hw⟩ := hw
    subst hw
    exact ⟨⟨h0, hB, hP, hL, hXS, ⟨_, _, ⟨⟨hS.1.1, rfl⟩, ⟨hS.2.1, rfl⟩⟩⟩, hO, ⟨_, _, hQ⟩, ⟨_, ⟨hC.1, ⟨hC.2.1, rfl⟩⟩⟩, ⟨_, hWt⟩, ⟨_, _, _, hD⟩, ⟨_, hT, hTC⟩, ⟨_, hX, hXf⟩, hc16, hdc, htl, htc⟩, (by repeat (first | exact FX.rf | refine FX.relT ?_ | refine FX.relD ?_ | refine FX.set ?_ (by decide)))⟩
  · skip
    rw [if_neg hcw] at hw
    subst hw
    try simp only [if_neg hcw]
    exact ⟨⟨h0, hB, hP, hL, hXS, ⟨_, _, hS⟩, hO, ⟨_, _, hQ⟩, ⟨_, hC⟩, ⟨_, hWt⟩, ⟨_, _, _, hD⟩, ⟨_, hT, hTC⟩, ⟨_, hX, hXf⟩, hc16, hdc, htl, htc⟩, FX.rf⟩
set_option maxRecDepth 20000 in
theorem r_costChange {P : PSt} {L : LSt} {pr : Nat → Nat} {O : OSt} {mp : Nat} {mk : Nat → UInt32} {T : List Nat} {a0 a39 a63 a64 : Nat} {t : Nat} (hA : AD w a0 a39 a63 a64) (hM : IM G.2.2.1 w P L pr O mp mk T t) (hIP : IP P L pr O mp mk T) (a : Int32) (s : Int32) : XC G mX11_costChange 13 0 0 [.ref a39, .int a, .int s] w (fun r w' => ∃ v : UInt32, r = .inl (some (.float v)) ∧ (cdH a s P.1 mp = 0 → v = FP.fsub (priF P L pr (idx s) 5 (idx a)) (mk (idx a))) ∧ FM w w' ∧ IM G.2.2.1 w' P L pr O mp mk T (cdH a s P.1 mp)) := by
  obtain ⟨-, rfl, rfl, rfl, rfl⟩ := hA
  have hM0 := hM
  obtain ⟨⟨en, h9⟩, hP, hL, hCh, hO, ⟨kf, hKf⟩, ⟨fM, hMk, hMf⟩, ⟨lt, h60⟩, ⟨ea, h61⟩, ⟨eb, h62⟩⟩ := hM
  obtain ⟨hPI, hk16, hLW, hOI, hpr, hmp0, hmz, hT20, hch⟩ := hIP
  have hMz : ∀ x, x < mp → Z32 120 234 (fM x) := fun x hx => by rw [hMf x hx]; exact hmz x hx
  have hmp : mp ≤ 16 := Nat.le_trans hmp0 hPI.1
  refine XC.mono (fun r w' hq => ?_) (m_costChange h9 hL hP rfl hLW.1 hCh hLW.2.1 hpr hLW.2.2 rfl hPI hMk hmp hMz a s)
  obtain ⟨v, hv, hv2, hw⟩ := hq
  refine ⟨v, hv, (fun hc0 => by rw [hv2 hc0, hMf _ (cdH_lt hc0)]), ?_⟩
  subst hw
  exact ⟨(by repeat (first | exact FM.rf | refine FM.set ?_ (by decide) (by decide))), ⟨⟨_, ⟨h9.1, rfl⟩⟩, hP, hL, hCh, hO, ⟨_, hKf⟩, ⟨_, hMk, hMf⟩, ⟨_, h60⟩, ⟨_, h61⟩, ⟨_, h62⟩⟩⟩
set_option maxRecDepth 20000 in
theorem cx_order {P : PSt} {L : LSt} {pr : Nat → Nat} {O : OSt} {mp : Nat} {mk : Nat → UInt32} {T : List Nat} {a0 a39 a63 a64 : Nat} {dc tc : Nat} (hA : AD w a0 a39 a63 a64) (hIX : IX G.2.2.1 w P L pr O mp mk T dc tc) (hIP : IP P L pr O mp mk T) (p : Int32) (s : Int32) (u : Int32) : XC G mX10_order 7 (3) (18) [.ref a0, .int p, .int s, .int u] w (fun r w' => r = xr (cdO p s u P.1 O.1) [eIOB, eIAE, eISE] (.int (nI O.1)) ∧ IX G.2.2.1 w' P L pr (if (cdO p s u P.1 O.1) = 0 then addO O (idx p) (idx s) (idx u) pr else O) mp mk T dc tc ∧ FX w w') := by
  obtain ⟨-, rfl, rfl, rfl, rfl⟩ := hA
  have hIX0 := hIX
  obtain ⟨h0, hB, hP, hL, hXS, ⟨hc, hl, hS⟩, hO, ⟨qa, qb, hQ⟩, ⟨cc, hC⟩, ⟨cw, hWt⟩, ⟨dn, da, db, hD⟩, ⟨tt, hT, hTC⟩, ⟨fX, hX, hXf⟩, hc16, hdc, htl, htc⟩ := hIX
  obtain ⟨hPI, hk16, hLW, hOI, hpr, hmp0, hmz, hT20, hch⟩ := hIP
  have hcap : dc < 2 ^ 19 := by omega
  have htcap : tc < 2 ^ 19 := by omega
  refine XC.mono (fun r w' hq => ⟨hq.1, ?_⟩) (c_order h0 hB hP rfl hPI.1 hO hOI p s u)
  have hw := hq.2
  by_cases hcw : cdO p s u P.1 O.1 = 0
  · skip
    rw [if_pos hcw] at hw
    try simp only [if_pos hcw]
    subst hw
    exact ⟨⟨h0, hB, hP, hL, hXS, ⟨_, _, hS⟩, ⟨⟨hO.1.1, rfl⟩, ⟨hO.2.1.1, rfl⟩, ⟨hO.2.2.1.1, rfl⟩, ⟨hO.2.2.2.1.1, rfl⟩, ⟨hO.2.2.2.2.1.1, rfl⟩, ⟨hO.2.2.2.2.2.1, rfl⟩⟩, ⟨_, _, hQ⟩, ⟨_, hC⟩, ⟨_, hWt⟩, ⟨_, _, _, hD⟩, ⟨_, hT, hTC⟩, ⟨_, hX, hXf⟩, hc16, hdc, htl, htc⟩, (by repeat (first | exact FX.rf | refine FX.relT ?_ | refine FX.relD ?_ | refine FX.set ?_ (by decide)))⟩
  · skip
    rw [if_neg hcw] at hw
    subst hw
    try simp only [if_neg hcw]
    exact ⟨⟨h0, hB, hP, hL, hXS, ⟨_, _, hS⟩, hO, ⟨_, _, hQ⟩, ⟨_, hC⟩, ⟨_, hWt⟩, ⟨_, _, _, hD⟩, ⟨_, hT, hTC⟩, ⟨_, hX, hXf⟩, hc16, hdc, htl, htc⟩, FX.rf⟩
set_option maxRecDepth 20000 in
theorem r_order {P : PSt} {L : LSt} {pr : Nat → Nat} {O : OSt} {mp : Nat} {mk : Nat → UInt32} {T : List Nat} {a0 a39 a63 a64 : Nat} {t : Nat} (hA : AD w a0 a39 a63 a64) (hM : IM G.2.2.1 w P L pr O mp mk T t) (hIP : IP P L pr O mp mk T) (p : Int32) (s : Int32) (u : Int32) : XC G mX11_order 3 0 0 [.ref a39, .int p, .int s, .int u] w (fun r w' => ∃ v : Int32, r = .inl (some (.int v)) ∧ (cdO p s u P.1 O.1 = 0 → v = nI O.1) ∧ FM w w' ∧ IM G.2.2.1 w' P L pr (if (cdO p s u P.1 O.1) = 0 then addO O (idx p) (idx s) (idx u) pr else O) mp mk T (cdO p s u P.1 O.1)) := by
  obtain ⟨-, rfl, rfl, rfl, rfl⟩ := hA
  have hM0 := hM
  obtain ⟨⟨en, h9⟩, hP, hL, hCh, hO, ⟨kf, hKf⟩, ⟨fM, hMk, hMf⟩, ⟨lt, h60⟩, ⟨ea, h61⟩, ⟨eb, h62⟩⟩ := hM
  obtain ⟨hPI, hk16, hLW, hOI, hpr, hmp0, hmz, hT20, hch⟩ := hIP
  refine XC.mono (fun r w' hq => ?_) (m_order h9 hPI.1 hO rfl hOI hCh p s u)
  obtain ⟨v, hv, hv2, hw⟩ := hq
  refine ⟨v, hv, hv2, ?_⟩
  by_cases hcw : cdO p s u P.1 O.1 = 0
  · skip
    rw [if_pos hcw] at hw
    try simp only [if_pos hcw]
    rw [hcw]
    subst hw
    exact ⟨(by repeat (first | exact FM.rf | refine FM.set ?_ (by decide) (by decide))), ⟨⟨_, ⟨h9.1, rfl⟩⟩, hP, hL, hCh, ⟨⟨hO.1.1, rfl⟩, ⟨hO.2.1.1, rfl⟩, ⟨hO.2.2.1.1, rfl⟩, ⟨hO.2.2.2.1.1, rfl⟩, hO.2.2.2.2⟩, ⟨_, hKf⟩, ⟨_, hMk, hMf⟩, ⟨_, h60⟩, ⟨_, h61⟩, ⟨_, h62⟩⟩⟩
  · skip
    rw [if_neg hcw] at hw
    subst hw
    try simp only [if_neg hcw]
    exact ⟨(by repeat (first | exact FM.rf | refine FM.set ?_ (by decide) (by decide))), ⟨⟨_, ⟨h9.1, rfl⟩⟩, hP, hL, hCh, hO, ⟨_, hKf⟩, ⟨_, hMk, hMf⟩, ⟨_, h60⟩, ⟨_, h61⟩, ⟨_, h62⟩⟩⟩
set_option maxRecDepth 20000 in
theorem cx_cancel {P : PSt} {L : LSt} {pr : Nat → Nat} {O : OSt} {mp : Nat} {mk : Nat → UInt32} {T : List Nat} {a0 a39 a63 a64 : Nat} {dc tc : Nat} (hA : AD w a0 a39 a63 a64) (hIX : IX G.2.2.1 w P L pr O mp mk T dc tc) (hIP : IP P L pr O mp mk T) (o : Int32) : XC G mX10_cancel 7 (2) (12) [.ref a0, .int o] w (fun r w' => r = xr (cdX o O) [eIOB, eISE] (.int (nI (cntB (fun k => !(canO O (idx o)).2.2.2.2.2 k) O.1))) ∧ IX G.2.2.1 w' P L pr (if (cdX o O) = 0 then canO O (idx o) else O) mp mk T dc tc ∧ FX w w') := by
  obtain ⟨-, rfl, rfl, rfl, rfl⟩ := hA
  have hIX0 := hIX
  obtain ⟨h0, hB, hP, hL, hXS, ⟨hc, hl, hS⟩, hO, ⟨qa, qb, hQ⟩, ⟨cc, hC⟩, ⟨cw, hWt⟩, ⟨dn, da, db, hD⟩, ⟨tt, hT, hTC⟩, ⟨fX, hX, hXf⟩, hc16, hdc, htl, htc⟩ := hIX
  obtain ⟨hPI, hk16, hLW, hOI, hpr, hmp0, hmz, hT20, hch⟩ := hIP
  have hcap : dc < 2 ^ 19 := by omega
  have htcap : tc < 2 ^ 19 := by omega
  refine XC.mono (fun r w' hq => ⟨hq.1, ?_⟩) (c_cancel h0 hO hOI o)
  have hw := hq.2
  by_cases hcw : cdX o O = 0
  · skip
    rw [if_pos hcw] at hw
    try simp only [if_pos hcw]
    subst hw
    exact ⟨⟨h0, hB, hP, hL, hXS, ⟨_, _, hS⟩, ⟨hO.1, hO.2.1, hO.2.2.1, hO.2.2.2.1, hO.2.2.2.2.1, ⟨hO.2.2.2.2.2.1, rfl⟩⟩, ⟨_, _, hQ⟩, ⟨_, hC⟩, ⟨_, hWt⟩, ⟨_, _, _, hD⟩, ⟨_, hT, hTC⟩, ⟨_, hX, hXf⟩, hc16, hdc, htl, htc⟩, (by repeat (first | exact FX.rf | refine FX.relT ?_ | refine FX.relD ?_ | refine FX.set ?_ (by decide)))⟩
  · skip
    rw [if_neg hcw] at hw
    subst hw
    try simp only [if_neg hcw]
    exact ⟨⟨h0, hB, hP, hL, hXS, ⟨_, _, hS⟩, hO, ⟨_, _, hQ⟩, ⟨_, hC⟩, ⟨_, hWt⟩, ⟨_, _, _, hD⟩, ⟨_, hT, hTC⟩, ⟨_, hX, hXf⟩, hc16, hdc, htl, htc⟩, FX.rf⟩
set_option maxRecDepth 20000 in
theorem r_cancel {P : PSt} {L : LSt} {pr : Nat → Nat} {O : OSt} {mp : Nat} {mk : Nat → UInt32} {T : List Nat} {a0 a39 a63 a64 : Nat} {t : Nat} (hA : AD w a0 a39 a63 a64) (hM : IM G.2.2.1 w P L pr O mp mk T t) (hIP : IP P L pr O mp mk T) (o : Int32) : XC G mX11_cancel 3 0 0 [.ref a39, .int o] w (fun r w' => ∃ v : Int32, r = .inl (some (.int v)) ∧ (cdX o O = 0 → v = nI (cntB (fun k => !(canO O (idx o)).2.2.2.2.2 k) O.1)) ∧ FM w w' ∧ IM G.2.2.1 w' P L pr (if (cdX o O) = 0 then canO O (idx o) else O) mp mk T (cdX o O)) := by
  obtain ⟨-, rfl, rfl, rfl, rfl⟩ := hA
  have hM0 := hM
  obtain ⟨⟨en, h9⟩, hP, hL, hCh, hO, ⟨kf, hKf⟩, ⟨fM, hMk, hMf⟩, ⟨lt, h60⟩, ⟨ea, h61⟩, ⟨eb, h62⟩⟩ := hM
  obtain ⟨hPI, hk16, hLW, hOI, hpr, hmp0, hmz, hT20, hch⟩ := hIP
  refine XC.mono (fun r w' hq => ?_) (m_cancel h9 hO rfl hOI o)
  obtain ⟨v, hv, hv2, hw⟩ := hq
  refine ⟨v, hv, hv2, ?_⟩
  by_cases hcw : cdX o O = 0
  · skip
    rw [if_pos hcw] at hw
    try simp only [if_pos hcw]
    rw [hcw]
    subst hw
    exact ⟨(by repeat (first | exact FM.rf | refine FM.set ?_ (by decide) (by decide))), ⟨⟨_, ⟨h9.1, rfl⟩⟩, hP, hL, hCh, ⟨hO.1, hO.2.1, hO.2.2.1, hO.2.2.2.1, ⟨hO.2.2.2.2.1, rfl⟩⟩, ⟨_, hKf⟩, ⟨_, hMk, hMf⟩, ⟨_, h60⟩, ⟨_, h61⟩, ⟨_, h62⟩⟩⟩
  · skip
    rw [if_neg hcw] at hw
    subst hw
    try simp only [if_neg hcw]
    exact ⟨(by repeat (first | exact FM.rf | refine FM.set ?_ (by decide) (by decide))), ⟨⟨_, ⟨h9.1, rfl⟩⟩, hP, hL, hCh, hO, ⟨_, hKf⟩, ⟨_, hMk, hMf⟩, ⟨_, h60⟩, ⟨_, h61⟩, ⟨_, h62⟩⟩⟩
set_option maxRecDepth 20000 in
theorem cx_orderCost {P : PSt} {L : LSt} {pr : Nat → Nat} {O : OSt} {mp : Nat} {mk : Nat → UInt32} {T : List Nat} {a0 a39 a63 a64 : Nat} {dc tc : Nat} (hA : AD w a0 a39 a63 a64) (hIX : IX G.2.2.1 w P L pr O mp mk T dc tc) (hIP : IP P L pr O mp mk T) (a : Int32) : XC G mX10_orderCost 7 (2) (12) [.ref a0, .int a] w (fun r w' => r = xr (cdP a O.1) [eIOB] (.float (ocF P L O (idx a))) ∧ IX G.2.2.1 w' P L pr O mp mk T dc tc ∧ FX w w') := by
  obtain ⟨-, rfl, rfl, rfl, rfl⟩ := hA
  have hIX0 := hIX
  obtain ⟨h0, hB, hP, hL, hXS, ⟨hc, hl, hS⟩, hO, ⟨qa, qb, hQ⟩, ⟨cc, hC⟩, ⟨cw, hWt⟩, ⟨dn, da, db, hD⟩, ⟨tt, hT, hTC⟩, ⟨fX, hX, hXf⟩, hc16, hdc, htl, htc⟩ := hIX
  obtain ⟨hPI, hk16, hLW, hOI, hpr, hmp0, hmz, hT20, hch⟩ := hIP
  have hcap : dc < 2 ^ 19 := by omega
  have htcap : tc < 2 ^ 19 := by omega
  refine XC.mono (fun r w' hq => ⟨hq.1, ?_⟩) (c_orderCost h0 hB hP hL hS rfl hLW.1 hLW.2.2 hPI hC hO hOI a)
  have hw := hq.2
  by_cases hcw : cdP a O.1 = 0
  · skip
    rw [if_pos hcw] at hw
    try simp only [if_pos hcw]
    obtain ⟨c1, hw⟩ := hw
    subst hw
    exact ⟨⟨h0, hB, hP, hL, hXS, ⟨_, _, ⟨⟨hS.1.1, rfl⟩, ⟨hS.2.1, rfl⟩⟩⟩, hO, ⟨_, _, hQ⟩, ⟨_, ⟨hC.1, ⟨hC.2.1, rfl⟩⟩⟩, ⟨_, hWt⟩, ⟨_, _, _, hD⟩, ⟨_, hT, hTC⟩, ⟨_, hX, hXf⟩, hc16, hdc, htl, htc⟩, (by repeat (first | exact FX.rf | refine FX.relT ?_ | refine FX.relD ?_ | refine FX.set ?_ (by decide)))⟩
  · skip
    rw [if_neg hcw] at hw
    subst hw
    try simp only [if_neg hcw]
    exact ⟨⟨h0, hB, hP, hL, hXS, ⟨_, _, hS⟩, hO, ⟨_, _, hQ⟩, ⟨_, hC⟩, ⟨_, hWt⟩, ⟨_, _, _, hD⟩, ⟨_, hT, hTC⟩, ⟨_, hX, hXf⟩, hc16, hdc, htl, htc⟩, FX.rf⟩
set_option maxRecDepth 20000 in
theorem r_orderCost {P : PSt} {L : LSt} {pr : Nat → Nat} {O : OSt} {mp : Nat} {mk : Nat → UInt32} {T : List Nat} {a0 a39 a63 a64 : Nat} {t : Nat} (hA : AD w a0 a39 a63 a64) (hM : IM G.2.2.1 w P L pr O mp mk T t) (hIP : IP P L pr O mp mk T) (a : Int32) : XC G mX11_orderCost 13 0 0 [.ref a39, .int a] w (fun r w' => ∃ v : UInt32, r = .inl (some (.float v)) ∧ (cdP a O.1 = 0 → v = ocF P L O (idx a)) ∧ FM w w' ∧ IM G.2.2.1 w' P L pr O mp mk T (cdP a O.1)) := by
  obtain ⟨-, rfl, rfl, rfl, rfl⟩ := hA
  have hM0 := hM
  obtain ⟨⟨en, h9⟩, hP, hL, hCh, hO, ⟨kf, hKf⟩, ⟨fM, hMk, hMf⟩, ⟨lt, h60⟩, ⟨ea, h61⟩, ⟨eb, h62⟩⟩ := hM
  obtain ⟨hPI, hk16, hLW, hOI, hpr, hmp0, hmz, hT20, hch⟩ := hIP
  refine XC.mono (fun r w' hq => ?_) (m_orderCost h9 hL hP rfl hLW.1 hCh hLW.2.1 hpr hLW.2.2 rfl hPI hO rfl hOI hKf a)
  obtain ⟨v, hv, hv2, hw⟩ := hq
  refine ⟨v, hv, hv2, ?_⟩
  by_cases hcw : cdP a O.1 = 0
  · obtain ⟨kf1, hw⟩ := hw.1 hcw
    rw [hcw]
    subst hw
    exact ⟨(by repeat (first | exact FM.rf | refine FM.set ?_ (by decide) (by decide))), ⟨⟨_, ⟨h9.1, rfl⟩⟩, hP, hL, ⟨hCh.1, rfl⟩, hO, ⟨_, ⟨hKf.1, rfl⟩⟩, ⟨_, hMk, hMf⟩, ⟨_, h60⟩, ⟨_, h61⟩, ⟨_, h62⟩⟩⟩
  · have hw := hw.2 hcw
    subst hw
    exact ⟨(by repeat (first | exact FM.rf | refine FM.set ?_ (by decide) (by decide))), ⟨⟨_, ⟨h9.1, rfl⟩⟩, hP, hL, hCh, hO, ⟨_, hKf⟩, ⟨_, hMk, hMf⟩, ⟨_, h60⟩, ⟨_, h61⟩, ⟨_, h62⟩⟩⟩
set_option maxRecDepth 20000 in
theorem cx_need {P : PSt} {L : LSt} {pr : Nat → Nat} {O : OSt} {mp : Nat} {mk : Nat → UInt32} {T : List Nat} {a0 a39 a63 a64 : Nat} {dc tc : Nat} (hA : AD w a0 a39 a63 a64) (hIX : IX G.2.2.1 w P L pr O mp mk T dc tc) (hIP : IP P L pr O mp mk T) (c : Int32) : XC G mX10_need 7 (2) (12) [.ref a0, .int c] w (fun r w' => r = xr (cdP c P.1) [eIOB] (.long (nL (needN L O (idx c) O.1))) ∧ IX G.2.2.1 w' P L pr O mp mk T dc tc ∧ FX w w') := by
  obtain ⟨-, rfl, rfl, rfl, rfl⟩ := hA
  have hIX0 := hIX
  obtain ⟨h0, hB, hP, hL, hXS, ⟨hc, hl, hS⟩, hO, ⟨qa, qb, hQ⟩, ⟨cc, hC⟩, ⟨cw, hWt⟩, ⟨dn, da, db, hD⟩, ⟨tt, hT, hTC⟩, ⟨fX, hX, hXf⟩, hc16, hdc, htl, htc⟩ := hIX
  obtain ⟨hPI, hk16, hLW, hOI, hpr, hmp0, hmz, hT20, hch⟩ := hIP
  have hcap : dc < 2 ^ 19 := by omega
  have htcap : tc < 2 ^ 19 := by omega
  refine XC.mono (fun r w' hq => ⟨hq.1, ?_⟩) (c_need h0 hB hP hL hS rfl hLW.1 hLW.2.2 hQ hO hOI c)
  have hw := hq.2
  by_cases hcw : cdP c P.1 = 0
  · skip
    rw [if_pos hcw] at hw
    try simp only [if_pos hcw]
    obtain ⟨l1, c1, x1, y1, hw⟩ := hw
    subst hw
    exact ⟨⟨h0, hB, hP, hL, hXS, ⟨_, _, ⟨⟨hS.1.1, rfl⟩, ⟨hS.2.1, rfl⟩⟩⟩, hO, ⟨_, _, ⟨hQ.1, ⟨hQ.2.1.1, rfl⟩, ⟨hQ.2.2.1, rfl⟩⟩⟩, ⟨_, hC⟩, ⟨_, hWt⟩, ⟨_, _, _, hD⟩, ⟨_, hT, hTC⟩, ⟨_, hX, hXf⟩, hc16, hdc, htl, htc⟩, (by repeat (first | exact FX.rf | refine FX.relT ?_ | refine FX.relD ?_ | refine FX.set ?_ (by decide)))⟩
  · skip
    rw [if_neg hcw] at hw
    subst hw
    try simp only [if_neg hcw]
    exact ⟨⟨h0, hB, hP, hL, hXS, ⟨_, _, hS⟩, hO, ⟨_, _, hQ⟩, ⟨_, hC⟩, ⟨_, hWt⟩, ⟨_, _, _, hD⟩, ⟨_, hT, hTC⟩, ⟨_, hX, hXf⟩, hc16, hdc, htl, htc⟩, FX.rf⟩
set_option maxRecDepth 20000 in
theorem r_need {P : PSt} {L : LSt} {pr : Nat → Nat} {O : OSt} {mp : Nat} {mk : Nat → UInt32} {T : List Nat} {a0 a39 a63 a64 : Nat} {t : Nat} (hA : AD w a0 a39 a63 a64) (hM : IM G.2.2.1 w P L pr O mp mk T t) (hIP : IP P L pr O mp mk T) (c : Int32) : XC G mX11_need 8 0 0 [.ref a39, .int c] w (fun r w' => ∃ v : Int64, r = .inl (some (.long v)) ∧ (cdP c P.1 = 0 → v = nL (needN L O (idx c) O.1)) ∧ FM w w' ∧ IM G.2.2.1 w' P L pr O mp mk T (cdP c P.1)) := by
  obtain ⟨-, rfl, rfl, rfl, rfl⟩ := hA
  have hM0 := hM
  obtain ⟨⟨en, h9⟩, hP, hL, hCh, hO, ⟨kf, hKf⟩, ⟨fM, hMk, hMf⟩, ⟨lt, h60⟩, ⟨ea, h61⟩, ⟨eb, h62⟩⟩ := hM
  obtain ⟨hPI, hk16, hLW, hOI, hpr, hmp0, hmz, hT20, hch⟩ := hIP
  refine XC.mono (fun r w' hq => ?_) (m_need h9 hL rfl hLW.1 hCh hLW.2.1 hLW.2.2 hO rfl hOI hKf c)
  obtain ⟨v, hv, hv2, hw⟩ := hq
  refine ⟨v, hv, hv2, ?_⟩
  by_cases hcw : cdP c P.1 = 0
  · obtain ⟨kf1, hw⟩ := hw.1 hcw
    rw [hcw]
    subst hw
    exact ⟨(by repeat (first | exact FM.rf | refine FM.set ?_ (by decide) (by decide))), ⟨⟨_, ⟨h9.1, rfl⟩⟩, hP, hL, ⟨hCh.1, rfl⟩, hO, ⟨_, ⟨hKf.1, rfl⟩⟩, ⟨_, hMk, hMf⟩, ⟨_, h60⟩, ⟨_, h61⟩, ⟨_, h62⟩⟩⟩
  · have hw := hw.2 hcw
    subst hw
    exact ⟨(by repeat (first | exact FM.rf | refine FM.set ?_ (by decide) (by decide))), ⟨⟨_, ⟨h9.1, rfl⟩⟩, hP, hL, hCh, hO, ⟨_, hKf⟩, ⟨_, hMk, hMf⟩, ⟨_, h60⟩, ⟨_, h61⟩, ⟨_, h62⟩⟩⟩
end Calls
