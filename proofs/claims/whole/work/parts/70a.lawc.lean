/-! THE LAW'S HELPERS (walks by gen/spec70.py) -/
section LawC
variable {G : Gx} {w : Wd}
abbrev mLaw (nm : String) (hh : List (Nat × Nat × Nat × Nat)) : Mth := (RL, ⟨RL, nm, "([I)Z"⟩, cL_law, 9, some .boolean, hh)
def QL : XRes → Wd → Prop := fun r _ => r = .inl (some (.int 1))
theorem lcmp_self (x : Int64) : lg_cmp x x = 0 := by
  unfold lg_cmp
  simp
theorem nn_weight {P : PSt} {L : LSt} {pr : Nat → Nat} {O : OSt} {mp : Nat} {mk : Nat → UInt32} {T : List Nat} (h : IP P L pr O mp mk T) {a s : Int32} (hcd : cdA a s P.1 = 0) : vf_n64 (masF P L pr (idx s) 5 (idx a)) := by
  have h16 := h.1.1
  exact z_nnd (mas5_z h.2.2.1.1 rfl h.1 (inP_i (by omega) (cdA_inv hcd).1)) (by omega)
theorem r_thrown {a0 a39 a63 a64 t np nl no nm nw en : Nat} (hA : AD w a0 a39 a63 a64) (h9 : M0 w t np nl no nm nw en) : XC G mX11_thrown 0 0 0 [.ref a39] w (fun r w' => r = .inl (some (.int (nI t))) ∧ w' = w) := by
  obtain ⟨-, -, rfl, -, -⟩ := hA
  exact m_thrown h9
theorem cx_parts {P : PSt} {L : LSt} {pr : Nat → Nat} {O : OSt} {mp : Nat} {mk : Nat → UInt32} {T : List Nat} {a0 a39 a63 a64 : Nat} {dc tc : Nat} (hA : AD w a0 a39 a63 a64) (hIX : IX G.2.2.1 w P L pr O mp mk T dc tc) (hIP : IP P L pr O mp mk T) : XC G mX10_parts 0 0 0 [.ref a0] w (fun r w' => r = .inl (some (.int (nI P.1))) ∧ w' = w) := by
  obtain ⟨-, rfl, -, -, -⟩ := hA
  exact c_parts hIX.1 hIX.2.1 hIX.2.2.1 hIP.1.1
theorem cx_lines {P : PSt} {L : LSt} {pr : Nat → Nat} {O : OSt} {mp : Nat} {mk : Nat → UInt32} {T : List Nat} {a0 a39 a63 a64 : Nat} {dc tc : Nat} (hA : AD w a0 a39 a63 a64) (hIX : IX G.2.2.1 w P L pr O mp mk T dc tc) (hIP : IP P L pr O mp mk T) : XC G mX10_lines 7 0 0 [.ref a0] w (fun r w' => r = .inl (some (.int (nI (ln L)))) ∧ w' = w) := by
  obtain ⟨-, rfl, -, -, -⟩ := hA
  exact c_lines hIX.1 hIX.2.1 hIX.2.2.2.1
theorem cx_isConsistent {P : PSt} {L : LSt} {pr : Nat → Nat} {O : OSt} {mp : Nat} {mk : Nat → UInt32} {T : List Nat} {a0 a39 a63 a64 : Nat} {dc tc : Nat} (hA : AD w a0 a39 a63 a64) (hIX : IX G.2.2.1 w P L pr O mp mk T dc tc) (hIP : IP P L pr O mp mk T) : XC G mX10_isConsistent 7 0 0 [.ref a0] w (fun r w' => r = .inl (some (.int 1)) ∧ w' = w) := by
  obtain ⟨-, rfl, -, -, -⟩ := hA
  obtain ⟨hPI, hk16, hLW, hOI, hpr, hmp0, hmz, hT20, hch⟩ := hIP
  exact c_isConsistent hIX.1 hIX.2.1 hIX.2.2.1 hIX.2.2.2.1 hIX.2.2.2.2.1 hIX.2.2.2.2.2.2.1 rfl hPI hLW.1 hLW.2.1 hLW.2.2 hOI hpr hmp0
theorem r_parts {P : PSt} {L : LSt} {pr : Nat → Nat} {O : OSt} {mp : Nat} {mk : Nat → UInt32} {T : List Nat} {a0 a39 a63 a64 : Nat} {t : Nat} (hA : AD w a0 a39 a63 a64) (hM : IM G.2.2.1 w P L pr O mp mk T t) : XC G mX11_parts 0 0 0 [.ref a39] w (fun r w' => r = .inl (some (.int (nI P.1))) ∧ FM w w' ∧ IM G.2.2.1 w' P L pr O mp mk T 0) := by
  obtain ⟨-, -, rfl, -, -⟩ := hA
  obtain ⟨⟨en, h9⟩, hR⟩ := hM
  refine XC.mono (fun r w' hq => ⟨hq.1, ?_⟩) (m_parts h9)
  have hw := hq.2
  subst hw
  exact ⟨FM.set FM.rf (by decide) (by decide), ⟨_, ⟨h9.1, rfl⟩⟩, hR⟩
theorem r_lines {P : PSt} {L : LSt} {pr : Nat → Nat} {O : OSt} {mp : Nat} {mk : Nat → UInt32} {T : List Nat} {a0 a39 a63 a64 : Nat} {t : Nat} (hA : AD w a0 a39 a63 a64) (hM : IM G.2.2.1 w P L pr O mp mk T t) : XC G mX11_lines 0 0 0 [.ref a39] w (fun r w' => r = .inl (some (.int (nI (ln L)))) ∧ FM w w' ∧ IM G.2.2.1 w' P L pr O mp mk T 0) := by
  obtain ⟨-, -, rfl, -, -⟩ := hA
  obtain ⟨⟨en, h9⟩, hR⟩ := hM
  refine XC.mono (fun r w' hq => ⟨hq.1, ?_⟩) (m_lines h9)
  have hw := hq.2
  subst hw
  exact ⟨FM.set FM.rf (by decide) (by decide), ⟨_, ⟨h9.1, rfl⟩⟩, hR⟩
theorem r_isConsistent {P : PSt} {L : LSt} {pr : Nat → Nat} {O : OSt} {mp : Nat} {mk : Nat → UInt32} {T : List Nat} {a0 a39 a63 a64 : Nat} {t : Nat} (hA : AD w a0 a39 a63 a64) (hM : IM G.2.2.1 w P L pr O mp mk T t) : XC G mX11_isConsistent 0 0 0 [.ref a39] w (fun r w' => r = .inl (some (.int (1))) ∧ FM w w' ∧ IM G.2.2.1 w' P L pr O mp mk T 0) := by
  obtain ⟨-, -, rfl, -, -⟩ := hA
  obtain ⟨⟨en, h9⟩, hR⟩ := hM
  refine XC.mono (fun r w' hq => ⟨hq.1, ?_⟩) (m_isConsistent h9)
  have hw := hq.2
  subst hw
  exact ⟨FM.set FM.rf (by decide) (by decide), ⟨_, ⟨h9.1, rfl⟩⟩, hR⟩
set_option maxRecDepth 20000 in
theorem law_addPart {P : PSt} {L : LSt} {pr : Nat → Nat} {O : OSt} {mp : Nat} {mk : Nat → UInt32} {T : List Nat} {a0 a39 a63 a64 : Nat} {dc tc t : Nat} {nm : String} {hh : List (Nat × Nat × Nat × Nat)} {gc2 gs2 x0 : Nat} {ou : Nat → Int64} {ov : Nat → UInt64} (hA : AD w a0 a39 a63 a64) (hIX : IX G.2.2.1 w P L pr O mp mk T dc tc) (hM : IM G.2.2.1 w P L pr O mp mk T t) (hO : OUTS G.2.2.1 w ou ov) (hIP : IP P L pr O mp mk T) (hLn : G.2.2.2.2.2.1 < 2 ^ 31) (hx0 : x0 + 7 ≤ G.2.2.2.2.2.1) (k : Nat) (hk : k < 65536) (c : Int32) (g : Int32) (ek_ : ((G.2.2.2.2.2.2 (x0 + 1)).toUInt32 % 65536).toInt32 = nI k) (ec_ : G.2.2.2.2.2.2 (x0 + 2) = c) (eg_ : G.2.2.2.2.2.2 (x0 + 3) = g) (hn : ∀ w', AD w' a0 a39 a63 a64 → IX G.2.2.1 w' (addP P (cdAdd (nI k) c g P.1) k (idx c) (idx g)) L pr O mp mk T dc tc → IM G.2.2.1 w' (addP P (cdAdd (nI k) c g P.1) k (idx c) (idx g)) L pr O mp mk T (cdAdd (nI k) c g P.1) → (∃ ou ov, OUTS G.2.2.1 w' ou ov) → XJ G (mLaw nm hh) 20 gc2 gs2 2918 [(0, .ref G.2.2.2.2.1), (1, .ref a0), (2, .ref a39), (3, .ref a63), (4, .ref a64), (5, .int (nI x0))] [] w' QL) : XJ G (mLaw nm hh) 20 (4 + gc2) (24 + gs2) 216 [(0, .ref G.2.2.2.2.1), (1, .ref a0), (2, .ref a39), (3, .ref a63), (4, .ref a64), (5, .int (nI x0))] [] w QL := by
  refine X_aload_n dL_law_216 (i := 1) rfl rfl ?_
  refine X_aload_n dL_law_217 (i := 0) rfl rfl ?_
  refine X_iload dL_law_218 (i := 5) rfl ?_
  refine X_iconst (v := 1) dL_law_220 (by decide) ?_
  refine X_iadd dL_law_221 ?_
  refine XJ.top (v' := .int (nI (x0 + 1))) (by rw [show (1 : Int32) = nI 1 from rfl, nI_add]) ?_
  refine X_sld rfl (by omega) hLn dL_law_222 ?_
  refine X_i2c dL_law_223 ek_ ?_
  refine X_aload_n dL_law_224 (i := 0) rfl rfl ?_
  refine X_iload dL_law_225 (i := 5) rfl ?_
  refine X_iconst (v := 2) dL_law_227 (by decide) ?_
  refine X_iadd dL_law_228 ?_
  refine XJ.top (v' := .int (nI (x0 + 2))) (by rw [show (2 : Int32) = nI 2 from rfl, nI_add]) ?_
  refine X_sld rfl (by omega) hLn dL_law_229 ?_
  refine XJ.top (v' := .int c) (by rw [ec_]) ?_
  refine X_aload_n dL_law_230 (i := 0) rfl rfl ?_
  refine X_iload dL_law_231 (i := 5) rfl ?_
  refine X_iconst (v := 3) dL_law_233 (by decide) ?_
  refine X_iadd dL_law_234 ?_
  refine XJ.top (v' := .int (nI (x0 + 3))) (by rw [show (3 : Int32) = nI 3 from rfl, nI_add]) ?_
  refine X_sld rfl (by omega) hLn dL_law_235 ?_
  refine XJ.top (v' := .int g) (by rw [eg_]) ?_
  refine X_aload_n dL_law_236 (i := 3) rfl rfl ?_
  refine X_callSW (gc2 := gc2) (gs2 := gs2) (k_addPart hA hIX hM hO hIP k hk c g) kmL_addPart rfl lL_146 sL_addPart rfl rfl (Nat.le_of_ble_eq_true rfl) (by decide) dL_law_237 (Nat.le_refl _) (Nat.le_refl _) (fun E w1 hq => nomatch hq.1) (fun v w1 hq => ?_)
  obtain ⟨hv, hA1, hX1, hM1, ou1, ov1, hO1, hlv⟩ := hq
  cases hv
  have hM10 := hM1
  obtain ⟨⟨en1, h9a⟩, -⟩ := hM1
  refine X_istore (i := 6) (lo' := [(6, _), (0, _), (1, _), (2, _), (3, _), (4, _), (5, _)]) dL_law_240 (Nat.le_of_ble_eq_true rfl) rfl ?_
  refine X_aload_n dL_law_242 (i := 2) rfl rfl ?_
  refine X_aload_n dL_law_243 (i := 0) rfl rfl ?_
  refine X_iload dL_law_244 (i := 5) rfl ?_
  refine X_iconst (v := 1) dL_law_246 (by decide) ?_
  refine X_iadd dL_law_247 ?_
  refine XJ.top (v' := .int (nI (x0 + 1))) (by rw [show (1 : Int32) = nI 1 from rfl, nI_add]) ?_
  refine X_sld rfl (by omega) hLn dL_law_248 ?_
  refine X_i2c dL_law_249 ek_ ?_
  refine X_aload_n dL_law_250 (i := 0) rfl rfl ?_
  refine X_iload dL_law_251 (i := 5) rfl ?_
  refine X_iconst (v := 2) dL_law_253 (by decide) ?_
  refine X_iadd dL_law_254 ?_
  refine XJ.top (v' := .int (nI (x0 + 2))) (by rw [show (2 : Int32) = nI 2 from rfl, nI_add]) ?_
  refine X_sld rfl (by omega) hLn dL_law_255 ?_
  refine XJ.top (v' := .int c) (by rw [ec_]) ?_
  refine X_aload_n dL_law_256 (i := 0) rfl rfl ?_
  refine X_iload dL_law_257 (i := 5) rfl ?_
  refine X_iconst (v := 3) dL_law_259 (by decide) ?_
  refine X_iadd dL_law_260 ?_
  refine XJ.top (v' := .int (nI (x0 + 3))) (by rw [show (3 : Int32) = nI 3 from rfl, nI_add]) ?_
  refine X_sld rfl (by omega) hLn dL_law_261 ?_
  refine XJ.top (v' := .int g) (by rw [eg_]) ?_
  refine X_callV (gc2 := gc2) (gs2 := gs2) (r_addPart hA1 hM10 hIP k hk c g) (i := 39) h9a hA1.2.2.1 rfl kmX11_addPart rfl lL_151 iX11_addPart vX11_addPart rfl rfl (Nat.le_of_ble_eq_true rfl) (by decide) dL_law_262 (by omega) (by omega) (fun E w1 hq => by obtain ⟨_, h, _⟩ := hq; nomatch h) (fun v w1 hq => ?_)
  obtain ⟨v1, hv, hv2, hF2, hM2⟩ := hq
  cases hv
  have hA2 := hA1.fm hF2
  have hX2 := hX1.fm hF2
  have hO2 := hO1.fm hF2
  have hM20 := hM2
  obtain ⟨⟨en2, h9b⟩, -⟩ := hM2
  refine X_istore (i := 7) (lo' := [(7, _), (6, _), (0, _), (1, _), (2, _), (3, _), (4, _), (5, _)]) dL_law_265 (Nat.le_of_ble_eq_true rfl) rfl ?_
  refine X_aload_n dL_law_267 (i := 2) rfl rfl ?_
  refine X_callV (gc2 := gc2) (gs2 := gs2) (r_thrown hA2 h9b) (i := 39) h9b hA2.2.2.1 rfl kmX11_thrown rfl lL_152 iX11_thrown vX11_thrown rfl rfl (Nat.le_of_ble_eq_true rfl) (by decide) dL_law_268 (by omega) (by omega) (fun E w1 hq => nomatch hq.1) (fun v w1 hq => ?_)
  have hv := hq.1
  obtain rfl := hq.2.symm
  cases hv
  refine X_iload dL_law_271 (i := 6) rfl ?_
  refine X_icmp_eq (tgt := 278) dL_law_273 (by decide) (fun h1 => ?_) (fun h1 => ?_)
  · refine X_iload dL_law_278 (i := 6) rfl ?_
    refine X_if_ne (tgt := 295) dL_law_280 (by decide) (fun h2 => ?_) (fun h2 => ?_)
    · refine X_goto (tgt := 2918) dL_law_295 (by decide) ?_
      exact XJ.lcs (lo' := [(0, .ref G.2.2.2.2.1), (1, .ref a0), (2, .ref a39), (3, .ref a63), (4, .ref a64), (5, .int (nI x0))]) ⟨rfl, rfl, rfl, rfl, rfl, rfl, trivial⟩ (hn _ hA2 hX2 hM20 ⟨_, _, hO2⟩)
    · have hle : cdAdd (nI k) c g P.1 ≤ 2 := cdAdd_le
      have hcd : cdAdd (nI k) c g P.1 = 0 := (nI_eq (b := 0) (by omega) (by decide)).mp h2
      refine X_aload_n dL_law_283 (i := 3) rfl rfl ?_
      refine X_iconst (v := 0) dL_law_284 (by decide) ?_
      refine X_lald (i := 63) hO2.1 hA2.2.2.2.1 (show (0 : Int32) = nI 0 from rfl) (by decide) (by decide) dL_law_285 ?_
      refine XJ.top (v' := .long ((nI P.1 : Int32).toInt64)) (by rw [hlv hcd]) ?_
      refine X_iload dL_law_286 (i := 7) rfl ?_
      refine XJ.top (v' := .int (nI P.1)) (by rw [hv2 hcd]) ?_
      refine X_i2l dL_law_288 rfl ?_
      refine X_lcmp dL_law_289 ?_
      refine XJ.top (v' := .int 0) (congrArg Value.int (lcmp_self _)) ?_
      refine X_if_eq (tgt := 295) dL_law_290 (by decide) (fun h3 => ?_) (fun h3 => ?_)
      · refine X_goto (tgt := 2918) dL_law_295 (by decide) ?_
        exact XJ.lcs (lo' := [(0, .ref G.2.2.2.2.1), (1, .ref a0), (2, .ref a39), (3, .ref a63), (4, .ref a64), (5, .int (nI x0))]) ⟨rfl, rfl, rfl, rfl, rfl, rfl, trivial⟩ (hn _ hA2 hX2 hM20 ⟨_, _, hO2⟩)
      · exact absurd rfl h3
  · exact absurd rfl h1
set_option maxRecDepth 20000 in
theorem law_setPrice {P : PSt} {L : LSt} {pr : Nat → Nat} {O : OSt} {mp : Nat} {mk : Nat → UInt32} {T : List Nat} {a0 a39 a63 a64 : Nat} {dc tc t : Nat} {nm : String} {hh : List (Nat × Nat × Nat × Nat)} {gc2 gs2 x0 : Nat} {ou : Nat → Int64} {ov : Nat → UInt64} (hA : AD w a0 a39 a63 a64) (hIX : IX G.2.2.1 w P L pr O mp mk T dc tc) (hM : IM G.2.2.1 w P L pr O mp mk T t) (hO : OUTS G.2.2.1 w ou ov) (hIP : IP P L pr O mp mk T) (hLn : G.2.2.2.2.2.1 < 2 ^ 31) (hx0 : x0 + 7 ≤ G.2.2.2.2.2.1) (p : Int32) (c : Int32) (ep_ : G.2.2.2.2.2.2 (x0 + 1) = p) (ec_ : G.2.2.2.2.2.2 (x0 + 2) = c) (hn : ∀ w', AD w' a0 a39 a63 a64 → IX G.2.2.1 w' ((P.1, P.2.1, upIf (cdPC p c P.1) P.2.2.1 (idx p) (idx c), P.2.2.2)) L pr O mp mk T dc tc → IM G.2.2.1 w' ((P.1, P.2.1, upIf (cdPC p c P.1) P.2.2.1 (idx p) (idx c), P.2.2.2)) L pr O mp mk T (cdPC p c P.1) → (∃ ou ov, OUTS G.2.2.1 w' ou ov) → XJ G (mLaw nm hh) 20 gc2 gs2 2918 [(0, .ref G.2.2.2.2.1), (1, .ref a0), (2, .ref a39), (3, .ref a63), (4, .ref a64), (5, .int (nI x0))] [] w' QL) : XJ G (mLaw nm hh) 20 (2 + gc2) (12 + gs2) 298 [(0, .ref G.2.2.2.2.1), (1, .ref a0), (2, .ref a39), (3, .ref a63), (4, .ref a64), (5, .int (nI x0))] [] w QL := by
  refine X_aload_n dL_law_298 (i := 1) rfl rfl ?_
  refine X_aload_n dL_law_299 (i := 0) rfl rfl ?_
  refine X_iload dL_law_300 (i := 5) rfl ?_
  refine X_iconst (v := 1) dL_law_302 (by decide) ?_
  refine X_iadd dL_law_303 ?_
  refine XJ.top (v' := .int (nI (x0 + 1))) (by rw [show (1 : Int32) = nI 1 from rfl, nI_add]) ?_
  refine X_sld rfl (by omega) hLn dL_law_304 ?_
  refine XJ.top (v' := .int p) (by rw [ep_]) ?_
  refine X_aload_n dL_law_305 (i := 0) rfl rfl ?_
  refine X_iload dL_law_306 (i := 5) rfl ?_
  refine X_iconst (v := 2) dL_law_308 (by decide) ?_
  refine X_iadd dL_law_309 ?_
  refine XJ.top (v' := .int (nI (x0 + 2))) (by rw [show (2 : Int32) = nI 2 from rfl, nI_add]) ?_
  refine X_sld rfl (by omega) hLn dL_law_310 ?_
  refine XJ.top (v' := .int c) (by rw [ec_]) ?_
  refine X_aload_n dL_law_311 (i := 3) rfl rfl ?_
  refine X_callSW (gc2 := gc2) (gs2 := gs2) (k_setPrice hA hIX hM hO hIP p c) kmL_setPrice rfl lL_156 sL_setPrice rfl rfl (Nat.le_of_ble_eq_true rfl) (by decide) dL_law_312 (Nat.le_refl _) (Nat.le_refl _) (fun E w1 hq => nomatch hq.1) (fun v w1 hq => ?_)
  obtain ⟨hv, hA1, hX1, hM1, ou1, ov1, hO1, hlv⟩ := hq
  cases hv
  have hM10 := hM1
  obtain ⟨⟨en1, h9a⟩, -⟩ := hM1
  refine X_istore (i := 6) (lo' := [(6, _), (0, _), (1, _), (2, _), (3, _), (4, _), (5, _)]) dL_law_315 (Nat.le_of_ble_eq_true rfl) rfl ?_
  refine X_aload_n dL_law_317 (i := 2) rfl rfl ?_
  refine X_aload_n dL_law_318 (i := 0) rfl rfl ?_
  refine X_iload dL_law_319 (i := 5) rfl ?_
  refine X_iconst (v := 1) dL_law_321 (by decide) ?_
  refine X_iadd dL_law_322 ?_
  refine XJ.top (v' := .int (nI (x0 + 1))) (by rw [show (1 : Int32) = nI 1 from rfl, nI_add]) ?_
  refine X_sld rfl (by omega) hLn dL_law_323 ?_
  refine XJ.top (v' := .int p) (by rw [ep_]) ?_
  refine X_aload_n dL_law_324 (i := 0) rfl rfl ?_
  refine X_iload dL_law_325 (i := 5) rfl ?_
  refine X_iconst (v := 2) dL_law_327 (by decide) ?_
  refine X_iadd dL_law_328 ?_
  refine XJ.top (v' := .int (nI (x0 + 2))) (by rw [show (2 : Int32) = nI 2 from rfl, nI_add]) ?_
  refine X_sld rfl (by omega) hLn dL_law_329 ?_
  refine XJ.top (v' := .int c) (by rw [ec_]) ?_
  refine X_callV (gc2 := gc2) (gs2 := gs2) (r_setPrice hA1 hM10 hIP p c) (i := 39) h9a hA1.2.2.1 rfl kmX11_setPrice rfl lL_159 iX11_setPrice vX11_setPrice rfl rfl (Nat.le_of_ble_eq_true rfl) (by decide) dL_law_330 (by omega) (by omega) (fun E w1 hq => by obtain ⟨_, h, _⟩ := hq; nomatch h) (fun v w1 hq => ?_)
  obtain ⟨v1, hv, hv2, hF2, hM2⟩ := hq
  cases hv
  have hA2 := hA1.fm hF2
  have hX2 := hX1.fm hF2
  have hO2 := hO1.fm hF2
  have hM20 := hM2
  obtain ⟨⟨en2, h9b⟩, -⟩ := hM2
  refine X_istore (i := 7) (lo' := [(7, _), (6, _), (0, _), (1, _), (2, _), (3, _), (4, _), (5, _)]) dL_law_333 (Nat.le_of_ble_eq_true rfl) rfl ?_
  refine X_aload_n dL_law_335 (i := 2) rfl rfl ?_
  refine X_callV (gc2 := gc2) (gs2 := gs2) (r_thrown hA2 h9b) (i := 39) h9b hA2.2.2.1 rfl kmX11_thrown rfl lL_152 iX11_thrown vX11_thrown rfl rfl (Nat.le_of_ble_eq_true rfl) (by decide) dL_law_336 (by omega) (by omega) (fun E w1 hq => nomatch hq.1) (fun v w1 hq => ?_)
  have hv := hq.1
  obtain rfl := hq.2.symm
  cases hv
  refine X_iload dL_law_339 (i := 6) rfl ?_
  refine X_icmp_eq (tgt := 346) dL_law_341 (by decide) (fun h1 => ?_) (fun h1 => ?_)
  · refine X_iload dL_law_346 (i := 6) rfl ?_
    refine X_if_ne (tgt := 363) dL_law_348 (by decide) (fun h2 => ?_) (fun h2 => ?_)
    · refine X_goto (tgt := 2918) dL_law_363 (by decide) ?_
      exact XJ.lcs (lo' := [(0, .ref G.2.2.2.2.1), (1, .ref a0), (2, .ref a39), (3, .ref a63), (4, .ref a64), (5, .int (nI x0))]) ⟨rfl, rfl, rfl, rfl, rfl, rfl, trivial⟩ (hn _ hA2 hX2 hM20 ⟨_, _, hO2⟩)
    · have hle : cdPC p c P.1 ≤ 2 := cdPC_le
      have hcd : cdPC p c P.1 = 0 := (nI_eq (b := 0) (by omega) (by decide)).mp h2
      refine X_aload_n dL_law_351 (i := 3) rfl rfl ?_
      refine X_iconst (v := 0) dL_law_352 (by decide) ?_
      refine X_lald (i := 63) hO2.1 hA2.2.2.2.1 (show (0 : Int32) = nI 0 from rfl) (by decide) (by decide) dL_law_353 ?_
      refine XJ.top (v' := .long ((nI (P.2.2.1 (idx p)) : Int32).toInt64)) (by rw [hlv hcd]) ?_
      refine X_iload dL_law_354 (i := 7) rfl ?_
      refine XJ.top (v' := .int (nI (P.2.2.1 (idx p)))) (by rw [hv2 hcd]) ?_
      refine X_i2l dL_law_356 rfl ?_
      refine X_lcmp dL_law_357 ?_
      refine XJ.top (v' := .int 0) (congrArg Value.int (lcmp_self _)) ?_
      refine X_if_eq (tgt := 363) dL_law_358 (by decide) (fun h3 => ?_) (fun h3 => ?_)
      · refine X_goto (tgt := 2918) dL_law_363 (by decide) ?_
        exact XJ.lcs (lo' := [(0, .ref G.2.2.2.2.1), (1, .ref a0), (2, .ref a39), (3, .ref a63), (4, .ref a64), (5, .int (nI x0))]) ⟨rfl, rfl, rfl, rfl, rfl, rfl, trivial⟩ (hn _ hA2 hX2 hM20 ⟨_, _, hO2⟩)
      · exact absurd rfl h3
  · exact absurd rfl h1
set_option maxRecDepth 20000 in
theorem law_setGrams {P : PSt} {L : LSt} {pr : Nat → Nat} {O : OSt} {mp : Nat} {mk : Nat → UInt32} {T : List Nat} {a0 a39 a63 a64 : Nat} {dc tc t : Nat} {nm : String} {hh : List (Nat × Nat × Nat × Nat)} {gc2 gs2 x0 : Nat} {ou : Nat → Int64} {ov : Nat → UInt64} (hA : AD w a0 a39 a63 a64) (hIX : IX G.2.2.1 w P L pr O mp mk T dc tc) (hM : IM G.2.2.1 w P L pr O mp mk T t) (hO : OUTS G.2.2.1 w ou ov) (hIP : IP P L pr O mp mk T) (hLn : G.2.2.2.2.2.1 < 2 ^ 31) (hx0 : x0 + 7 ≤ G.2.2.2.2.2.1) (p : Int32) (c : Int32) (ep_ : G.2.2.2.2.2.2 (x0 + 1) = p) (ec_ : G.2.2.2.2.2.2 (x0 + 2) = c) (hn : ∀ w', AD w' a0 a39 a63 a64 → IX G.2.2.1 w' ((P.1, P.2.1, P.2.2.1, upIf (cdPC p c P.1) P.2.2.2 (idx p) (idx c))) L pr O mp mk T dc tc → IM G.2.2.1 w' ((P.1, P.2.1, P.2.2.1, upIf (cdPC p c P.1) P.2.2.2 (idx p) (idx c))) L pr O mp mk T (cdPC p c P.1) → (∃ ou ov, OUTS G.2.2.1 w' ou ov) → XJ G (mLaw nm hh) 20 gc2 gs2 2918 [(0, .ref G.2.2.2.2.1), (1, .ref a0), (2, .ref a39), (3, .ref a63), (4, .ref a64), (5, .int (nI x0))] [] w' QL) : XJ G (mLaw nm hh) 20 (2 + gc2) (12 + gs2) 366 [(0, .ref G.2.2.2.2.1), (1, .ref a0), (2, .ref a39), (3, .ref a63), (4, .ref a64), (5, .int (nI x0))] [] w QL := by
  refine X_aload_n dL_law_366 (i := 1) rfl rfl ?_
  refine X_aload_n dL_law_367 (i := 0) rfl rfl ?_
  refine X_iload dL_law_368 (i := 5) rfl ?_
  refine X_iconst (v := 1) dL_law_370 (by decide) ?_
  refine X_iadd dL_law_371 ?_
  refine XJ.top (v' := .int (nI (x0 + 1))) (by rw [show (1 : Int32) = nI 1 from rfl, nI_add]) ?_
  refine X_sld rfl (by omega) hLn dL_law_372 ?_
  refine XJ.top (v' := .int p) (by rw [ep_]) ?_
  refine X_aload_n dL_law_373 (i := 0) rfl rfl ?_
  refine X_iload dL_law_374 (i := 5) rfl ?_
  refine X_iconst (v := 2) dL_law_376 (by decide) ?_
  refine X_iadd dL_law_377 ?_
  refine XJ.top (v' := .int (nI (x0 + 2))) (by rw [show (2 : Int32) = nI 2 from rfl, nI_add]) ?_
  refine X_sld rfl (by omega) hLn dL_law_378 ?_
  refine XJ.top (v' := .int c) (by rw [ec_]) ?_
  refine X_aload_n dL_law_379 (i := 3) rfl rfl ?_
  refine X_callSW (gc2 := gc2) (gs2 := gs2) (k_setGrams hA hIX hM hO hIP p c) kmL_setGrams rfl lL_160 sL_setGrams rfl rfl (Nat.le_of_ble_eq_true rfl) (by decide) dL_law_380 (Nat.le_refl _) (Nat.le_refl _) (fun E w1 hq => nomatch hq.1) (fun v w1 hq => ?_)
  obtain ⟨hv, hA1, hX1, hM1, ou1, ov1, hO1, hlv⟩ := hq
  cases hv
  have hM10 := hM1
  obtain ⟨⟨en1, h9a⟩, -⟩ := hM1
  refine X_istore (i := 6) (lo' := [(6, _), (0, _), (1, _), (2, _), (3, _), (4, _), (5, _)]) dL_law_383 (Nat.le_of_ble_eq_true rfl) rfl ?_
  refine X_aload_n dL_law_385 (i := 2) rfl rfl ?_
  refine X_aload_n dL_law_386 (i := 0) rfl rfl ?_
  refine X_iload dL_law_387 (i := 5) rfl ?_
  refine X_iconst (v := 1) dL_law_389 (by decide) ?_
  refine X_iadd dL_law_390 ?_
  refine XJ.top (v' := .int (nI (x0 + 1))) (by rw [show (1 : Int32) = nI 1 from rfl, nI_add]) ?_
  refine X_sld rfl (by omega) hLn dL_law_391 ?_
  refine XJ.top (v' := .int p) (by rw [ep_]) ?_
  refine X_aload_n dL_law_392 (i := 0) rfl rfl ?_
  refine X_iload dL_law_393 (i := 5) rfl ?_
  refine X_iconst (v := 2) dL_law_395 (by decide) ?_
  refine X_iadd dL_law_396 ?_
  refine XJ.top (v' := .int (nI (x0 + 2))) (by rw [show (2 : Int32) = nI 2 from rfl, nI_add]) ?_
  refine X_sld rfl (by omega) hLn dL_law_397 ?_
  refine XJ.top (v' := .int c) (by rw [ec_]) ?_
  refine X_callV (gc2 := gc2) (gs2 := gs2) (r_setGrams hA1 hM10 hIP p c) (i := 39) h9a hA1.2.2.1 rfl kmX11_setGrams rfl lL_162 iX11_setGrams vX11_setGrams rfl rfl (Nat.le_of_ble_eq_true rfl) (by decide) dL_law_398 (by omega) (by omega) (fun E w1 hq => by obtain ⟨_, h, _⟩ := hq; nomatch h) (fun v w1 hq => ?_)
  obtain ⟨v1, hv, hv2, hF2, hM2⟩ := hq
  cases hv
  have hA2 := hA1.fm hF2
  have hX2 := hX1.fm hF2
  have hO2 := hO1.fm hF2
  have hM20 := hM2
  obtain ⟨⟨en2, h9b⟩, -⟩ := hM2
  refine X_istore (i := 7) (lo' := [(7, _), (6, _), (0, _), (1, _), (2, _), (3, _), (4, _), (5, _)]) dL_law_401 (Nat.le_of_ble_eq_true rfl) rfl ?_
  refine X_aload_n dL_law_403 (i := 2) rfl rfl ?_
  refine X_callV (gc2 := gc2) (gs2 := gs2) (r_thrown hA2 h9b) (i := 39) h9b hA2.2.2.1 rfl kmX11_thrown rfl lL_152 iX11_thrown vX11_thrown rfl rfl (Nat.le_of_ble_eq_true rfl) (by decide) dL_law_404 (by omega) (by omega) (fun E w1 hq => nomatch hq.1) (fun v w1 hq => ?_)
  have hv := hq.1
  obtain rfl := hq.2.symm
  cases hv
  refine X_iload dL_law_407 (i := 6) rfl ?_
  refine X_icmp_eq (tgt := 414) dL_law_409 (by decide) (fun h1 => ?_) (fun h1 => ?_)
  · refine X_iload dL_law_414 (i := 6) rfl ?_
    refine X_if_ne (tgt := 431) dL_law_416 (by decide) (fun h2 => ?_) (fun h2 => ?_)
    · refine X_goto (tgt := 2918) dL_law_431 (by decide) ?_
      exact XJ.lcs (lo' := [(0, .ref G.2.2.2.2.1), (1, .ref a0), (2, .ref a39), (3, .ref a63), (4, .ref a64), (5, .int (nI x0))]) ⟨rfl, rfl, rfl, rfl, rfl, rfl, trivial⟩ (hn _ hA2 hX2 hM20 ⟨_, _, hO2⟩)
    · have hle : cdPC p c P.1 ≤ 2 := cdPC_le
      have hcd : cdPC p c P.1 = 0 := (nI_eq (b := 0) (by omega) (by decide)).mp h2
      refine X_aload_n dL_law_419 (i := 3) rfl rfl ?_
      refine X_iconst (v := 0) dL_law_420 (by decide) ?_
      refine X_lald (i := 63) hO2.1 hA2.2.2.2.1 (show (0 : Int32) = nI 0 from rfl) (by decide) (by decide) dL_law_421 ?_
      refine XJ.top (v' := .long ((nI (P.2.2.2 (idx p)) : Int32).toInt64)) (by rw [hlv hcd]) ?_
      refine X_iload dL_law_422 (i := 7) rfl ?_
      refine XJ.top (v' := .int (nI (P.2.2.2 (idx p)))) (by rw [hv2 hcd]) ?_
      refine X_i2l dL_law_424 rfl ?_
      refine X_lcmp dL_law_425 ?_
      refine XJ.top (v' := .int 0) (congrArg Value.int (lcmp_self _)) ?_
      refine X_if_eq (tgt := 431) dL_law_426 (by decide) (fun h3 => ?_) (fun h3 => ?_)
      · refine X_goto (tgt := 2918) dL_law_431 (by decide) ?_
        exact XJ.lcs (lo' := [(0, .ref G.2.2.2.2.1), (1, .ref a0), (2, .ref a39), (3, .ref a63), (4, .ref a64), (5, .int (nI x0))]) ⟨rfl, rfl, rfl, rfl, rfl, rfl, trivial⟩ (hn _ hA2 hX2 hM20 ⟨_, _, hO2⟩)
      · exact absurd rfl h3
  · exact absurd rfl h1
set_option maxRecDepth 20000 in
theorem law_setKind {P : PSt} {L : LSt} {pr : Nat → Nat} {O : OSt} {mp : Nat} {mk : Nat → UInt32} {T : List Nat} {a0 a39 a63 a64 : Nat} {dc tc t : Nat} {nm : String} {hh : List (Nat × Nat × Nat × Nat)} {gc2 gs2 x0 : Nat} {ou : Nat → Int64} {ov : Nat → UInt64} (hA : AD w a0 a39 a63 a64) (hIX : IX G.2.2.1 w P L pr O mp mk T dc tc) (hM : IM G.2.2.1 w P L pr O mp mk T t) (hO : OUTS G.2.2.1 w ou ov) (hIP : IP P L pr O mp mk T) (hLn : G.2.2.2.2.2.1 < 2 ^ 31) (hx0 : x0 + 7 ≤ G.2.2.2.2.2.1) (p : Int32) (k : Nat) (hk : k < 65536) (ep_ : G.2.2.2.2.2.2 (x0 + 1) = p) (ek_ : ((G.2.2.2.2.2.2 (x0 + 2)).toUInt32 % 65536).toInt32 = nI k) (hn : ∀ w', AD w' a0 a39 a63 a64 → IX G.2.2.1 w' ((P.1, upIf (cdPK p (nI k) P.1) P.2.1 (idx p) k, P.2.2.1, P.2.2.2)) L pr O mp mk T dc tc → IM G.2.2.1 w' ((P.1, upIf (cdPK p (nI k) P.1) P.2.1 (idx p) k, P.2.2.1, P.2.2.2)) L pr O mp mk T (cdPK p (nI k) P.1) → (∃ ou ov, OUTS G.2.2.1 w' ou ov) → XJ G (mLaw nm hh) 20 gc2 gs2 2918 [(0, .ref G.2.2.2.2.1), (1, .ref a0), (2, .ref a39), (3, .ref a63), (4, .ref a64), (5, .int (nI x0))] [] w' QL) : XJ G (mLaw nm hh) 20 (2 + gc2) (12 + gs2) 434 [(0, .ref G.2.2.2.2.1), (1, .ref a0), (2, .ref a39), (3, .ref a63), (4, .ref a64), (5, .int (nI x0))] [] w QL := by
  refine X_aload_n dL_law_434 (i := 1) rfl rfl ?_
  refine X_aload_n dL_law_435 (i := 0) rfl rfl ?_
  refine X_iload dL_law_436 (i := 5) rfl ?_
  refine X_iconst (v := 1) dL_law_438 (by decide) ?_
  refine X_iadd dL_law_439 ?_
  refine XJ.top (v' := .int (nI (x0 + 1))) (by rw [show (1 : Int32) = nI 1 from rfl, nI_add]) ?_
  refine X_sld rfl (by omega) hLn dL_law_440 ?_
  refine XJ.top (v' := .int p) (by rw [ep_]) ?_
  refine X_aload_n dL_law_441 (i := 0) rfl rfl ?_
  refine X_iload dL_law_442 (i := 5) rfl ?_
  refine X_iconst (v := 2) dL_law_444 (by decide) ?_
  refine X_iadd dL_law_445 ?_
  refine XJ.top (v' := .int (nI (x0 + 2))) (by rw [show (2 : Int32) = nI 2 from rfl, nI_add]) ?_
  refine X_sld rfl (by omega) hLn dL_law_446 ?_
  refine X_i2c dL_law_447 ek_ ?_
  refine X_aload_n dL_law_448 (i := 3) rfl rfl ?_
  refine X_callSW (gc2 := gc2) (gs2 := gs2) (k_setKind hA hIX hM hO hIP p k hk) kmL_setKind rfl lL_163 sL_setKind rfl rfl (Nat.le_of_ble_eq_true rfl) (by decide) dL_law_449 (Nat.le_refl _) (Nat.le_refl _) (fun E w1 hq => nomatch hq.1) (fun v w1 hq => ?_)
  obtain ⟨hv, hA1, hX1, hM1, ou1, ov1, hO1, hlv⟩ := hq
  cases hv
  have hM10 := hM1
  obtain ⟨⟨en1, h9a⟩, -⟩ := hM1
  refine X_istore (i := 6) (lo' := [(6, _), (0, _), (1, _), (2, _), (3, _), (4, _), (5, _)]) dL_law_452 (Nat.le_of_ble_eq_true rfl) rfl ?_
  refine X_aload_n dL_law_454 (i := 2) rfl rfl ?_
  refine X_aload_n dL_law_455 (i := 0) rfl rfl ?_
  refine X_iload dL_law_456 (i := 5) rfl ?_
  refine X_iconst (v := 1) dL_law_458 (by decide) ?_
  refine X_iadd dL_law_459 ?_
  refine XJ.top (v' := .int (nI (x0 + 1))) (by rw [show (1 : Int32) = nI 1 from rfl, nI_add]) ?_
  refine X_sld rfl (by omega) hLn dL_law_460 ?_
  refine XJ.top (v' := .int p) (by rw [ep_]) ?_
  refine X_aload_n dL_law_461 (i := 0) rfl rfl ?_
  refine X_iload dL_law_462 (i := 5) rfl ?_
  refine X_iconst (v := 2) dL_law_464 (by decide) ?_
  refine X_iadd dL_law_465 ?_
  refine XJ.top (v' := .int (nI (x0 + 2))) (by rw [show (2 : Int32) = nI 2 from rfl, nI_add]) ?_
  refine X_sld rfl (by omega) hLn dL_law_466 ?_
  refine X_i2c dL_law_467 ek_ ?_
  refine X_callV (gc2 := gc2) (gs2 := gs2) (r_setKind hA1 hM10 hIP p k hk) (i := 39) h9a hA1.2.2.1 rfl kmX11_setKind rfl lL_166 iX11_setKind vX11_setKind rfl rfl (Nat.le_of_ble_eq_true rfl) (by decide) dL_law_468 (by omega) (by omega) (fun E w1 hq => by obtain ⟨_, h, _⟩ := hq; nomatch h) (fun v w1 hq => ?_)
  obtain ⟨v1, hv, hv2, hF2, hM2⟩ := hq
  cases hv
  have hA2 := hA1.fm hF2
  have hX2 := hX1.fm hF2
  have hO2 := hO1.fm hF2
  have hM20 := hM2
  obtain ⟨⟨en2, h9b⟩, -⟩ := hM2
  refine X_istore (i := 7) (lo' := [(7, _), (6, _), (0, _), (1, _), (2, _), (3, _), (4, _), (5, _)]) dL_law_471 (Nat.le_of_ble_eq_true rfl) rfl ?_
  refine X_aload_n dL_law_473 (i := 2) rfl rfl ?_
  refine X_callV (gc2 := gc2) (gs2 := gs2) (r_thrown hA2 h9b) (i := 39) h9b hA2.2.2.1 rfl kmX11_thrown rfl lL_152 iX11_thrown vX11_thrown rfl rfl (Nat.le_of_ble_eq_true rfl) (by decide) dL_law_474 (by omega) (by omega) (fun E w1 hq => nomatch hq.1) (fun v w1 hq => ?_)
  have hv := hq.1
  obtain rfl := hq.2.symm
  cases hv
  refine X_iload dL_law_477 (i := 6) rfl ?_
  refine X_icmp_eq (tgt := 484) dL_law_479 (by decide) (fun h1 => ?_) (fun h1 => ?_)
  · refine X_iload dL_law_484 (i := 6) rfl ?_
    refine X_if_ne (tgt := 501) dL_law_486 (by decide) (fun h2 => ?_) (fun h2 => ?_)
    · refine X_goto (tgt := 2918) dL_law_501 (by decide) ?_
      exact XJ.lcs (lo' := [(0, .ref G.2.2.2.2.1), (1, .ref a0), (2, .ref a39), (3, .ref a63), (4, .ref a64), (5, .int (nI x0))]) ⟨rfl, rfl, rfl, rfl, rfl, rfl, trivial⟩ (hn _ hA2 hX2 hM20 ⟨_, _, hO2⟩)
    · have hle : cdPK p (nI k) P.1 ≤ 2 := cdPK_le
      have hcd : cdPK p (nI k) P.1 = 0 := (nI_eq (b := 0) (by omega) (by decide)).mp h2
      refine X_aload_n dL_law_489 (i := 3) rfl rfl ?_
      refine X_iconst (v := 0) dL_law_490 (by decide) ?_
      refine X_lald (i := 63) hO2.1 hA2.2.2.2.1 (show (0 : Int32) = nI 0 from rfl) (by decide) (by decide) dL_law_491 ?_
      refine XJ.top (v' := .long ((nI (P.2.1 (idx p)) : Int32).toInt64)) (by rw [hlv hcd]) ?_
      refine X_iload dL_law_492 (i := 7) rfl ?_
      refine XJ.top (v' := .int (nI (P.2.1 (idx p)))) (by rw [hv2 hcd]) ?_
      refine X_i2l dL_law_494 rfl ?_
      refine X_lcmp dL_law_495 ?_
      refine XJ.top (v' := .int 0) (congrArg Value.int (lcmp_self _)) ?_
      refine X_if_eq (tgt := 501) dL_law_496 (by decide) (fun h3 => ?_) (fun h3 => ?_)
      · refine X_goto (tgt := 2918) dL_law_501 (by decide) ?_
        exact XJ.lcs (lo' := [(0, .ref G.2.2.2.2.1), (1, .ref a0), (2, .ref a39), (3, .ref a63), (4, .ref a64), (5, .int (nI x0))]) ⟨rfl, rfl, rfl, rfl, rfl, rfl, trivial⟩ (hn _ hA2 hX2 hM20 ⟨_, _, hO2⟩)
      · exact absurd rfl h3
  · exact absurd rfl h1
set_option maxRecDepth 20000 in
theorem law_kind {P : PSt} {L : LSt} {pr : Nat → Nat} {O : OSt} {mp : Nat} {mk : Nat → UInt32} {T : List Nat} {a0 a39 a63 a64 : Nat} {dc tc t : Nat} {nm : String} {hh : List (Nat × Nat × Nat × Nat)} {gc2 gs2 x0 : Nat} {ou : Nat → Int64} {ov : Nat → UInt64} (hA : AD w a0 a39 a63 a64) (hIX : IX G.2.2.1 w P L pr O mp mk T dc tc) (hM : IM G.2.2.1 w P L pr O mp mk T t) (hO : OUTS G.2.2.1 w ou ov) (hIP : IP P L pr O mp mk T) (hLn : G.2.2.2.2.2.1 < 2 ^ 31) (hx0 : x0 + 7 ≤ G.2.2.2.2.2.1) (p : Int32) (ep_ : G.2.2.2.2.2.2 (x0 + 1) = p) (hn : ∀ w', AD w' a0 a39 a63 a64 → IX G.2.2.1 w' P L pr O mp mk T dc tc → IM G.2.2.1 w' P L pr O mp mk T (cdP p P.1) → (∃ ou ov, OUTS G.2.2.1 w' ou ov) → XJ G (mLaw nm hh) 20 gc2 gs2 2918 [(0, .ref G.2.2.2.2.1), (1, .ref a0), (2, .ref a39), (3, .ref a63), (4, .ref a64), (5, .int (nI x0))] [] w' QL) : XJ G (mLaw nm hh) 20 (1 + gc2) (6 + gs2) 517 [(0, .ref G.2.2.2.2.1), (1, .ref a0), (2, .ref a39), (3, .ref a63), (4, .ref a64), (5, .int (nI x0))] [] w QL := by
  refine X_aload_n dL_law_517 (i := 1) rfl rfl ?_
  refine X_aload_n dL_law_518 (i := 0) rfl rfl ?_
  refine X_iload dL_law_519 (i := 5) rfl ?_
  refine X_iconst (v := 1) dL_law_521 (by decide) ?_
  refine X_iadd dL_law_522 ?_
  refine XJ.top (v' := .int (nI (x0 + 1))) (by rw [show (1 : Int32) = nI 1 from rfl, nI_add]) ?_
  refine X_sld rfl (by omega) hLn dL_law_523 ?_
  refine XJ.top (v' := .int p) (by rw [ep_]) ?_
  refine X_aload_n dL_law_524 (i := 3) rfl rfl ?_
  refine X_callSW (gc2 := gc2) (gs2 := gs2) (k_kind hA hIX hM hO hIP p) kmL_kind rfl lL_171 sL_kind rfl rfl (Nat.le_of_ble_eq_true rfl) (by decide) dL_law_525 (Nat.le_refl _) (Nat.le_refl _) (fun E w1 hq => nomatch hq.1) (fun v w1 hq => ?_)
  obtain ⟨hv, hA1, hX1, hM1, ou1, ov1, hO1, hlv⟩ := hq
  cases hv
  have hM10 := hM1
  obtain ⟨⟨en1, h9a⟩, -⟩ := hM1
  refine X_istore (i := 6) (lo' := [(6, _), (0, _), (1, _), (2, _), (3, _), (4, _), (5, _)]) dL_law_528 (Nat.le_of_ble_eq_true rfl) rfl ?_
  refine X_aload_n dL_law_530 (i := 2) rfl rfl ?_
  refine X_aload_n dL_law_531 (i := 0) rfl rfl ?_
  refine X_iload dL_law_532 (i := 5) rfl ?_
  refine X_iconst (v := 1) dL_law_534 (by decide) ?_
  refine X_iadd dL_law_535 ?_
  refine XJ.top (v' := .int (nI (x0 + 1))) (by rw [show (1 : Int32) = nI 1 from rfl, nI_add]) ?_
  refine X_sld rfl (by omega) hLn dL_law_536 ?_
  refine XJ.top (v' := .int p) (by rw [ep_]) ?_
  refine X_callV (gc2 := gc2) (gs2 := gs2) (r_kind hA1 hM10 hIP p) (i := 39) h9a hA1.2.2.1 rfl kmX11_kind rfl lL_174 iX11_kind vX11_kind rfl rfl (Nat.le_of_ble_eq_true rfl) (by decide) dL_law_537 (by omega) (by omega) (fun E w1 hq => by obtain ⟨_, h, _⟩ := hq; nomatch h) (fun v w1 hq => ?_)
  obtain ⟨v1, hv, hv2, hF2, hM2⟩ := hq
  cases hv
  have hA2 := hA1.fm hF2
  have hX2 := hX1.fm hF2
  have hO2 := hO1.fm hF2
  have hM20 := hM2
  obtain ⟨⟨en2, h9b⟩, -⟩ := hM2
  refine X_istore (i := 7) (lo' := [(7, _), (6, _), (0, _), (1, _), (2, _), (3, _), (4, _), (5, _)]) dL_law_540 (Nat.le_of_ble_eq_true rfl) rfl ?_
  refine X_aload_n dL_law_542 (i := 2) rfl rfl ?_
  refine X_callV (gc2 := gc2) (gs2 := gs2) (r_thrown hA2 h9b) (i := 39) h9b hA2.2.2.1 rfl kmX11_thrown rfl lL_152 iX11_thrown vX11_thrown rfl rfl (Nat.le_of_ble_eq_true rfl) (by decide) dL_law_543 (by omega) (by omega) (fun E w1 hq => nomatch hq.1) (fun v w1 hq => ?_)
  have hv := hq.1
  obtain rfl := hq.2.symm
  cases hv
  refine X_iload dL_law_546 (i := 6) rfl ?_
  refine X_icmp_eq (tgt := 553) dL_law_548 (by decide) (fun h1 => ?_) (fun h1 => ?_)
  · refine X_iload dL_law_553 (i := 6) rfl ?_
    refine X_if_ne (tgt := 570) dL_law_555 (by decide) (fun h2 => ?_) (fun h2 => ?_)
    · refine X_goto (tgt := 2918) dL_law_570 (by decide) ?_
      exact XJ.lcs (lo' := [(0, .ref G.2.2.2.2.1), (1, .ref a0), (2, .ref a39), (3, .ref a63), (4, .ref a64), (5, .int (nI x0))]) ⟨rfl, rfl, rfl, rfl, rfl, rfl, trivial⟩ (hn _ hA2 hX2 hM20 ⟨_, _, hO2⟩)
    · have hle : cdP p P.1 ≤ 1 := cdP_le
      have hcd : cdP p P.1 = 0 := (nI_eq (b := 0) (by omega) (by decide)).mp h2
      refine X_aload_n dL_law_558 (i := 3) rfl rfl ?_
      refine X_iconst (v := 0) dL_law_559 (by decide) ?_
      refine X_lald (i := 63) hO2.1 hA2.2.2.2.1 (show (0 : Int32) = nI 0 from rfl) (by decide) (by decide) dL_law_560 ?_
      refine XJ.top (v' := .long ((nI (P.2.1 (idx p)) : Int32).toInt64)) (by rw [hlv hcd]) ?_
      refine X_iload dL_law_561 (i := 7) rfl ?_
      refine XJ.top (v' := .int (nI (P.2.1 (idx p)))) (by rw [hv2 hcd]) ?_
      refine X_i2l dL_law_563 rfl ?_
      refine X_lcmp dL_law_564 ?_
      refine XJ.top (v' := .int 0) (congrArg Value.int (lcmp_self _)) ?_
      refine X_if_eq (tgt := 570) dL_law_565 (by decide) (fun h3 => ?_) (fun h3 => ?_)
      · refine X_goto (tgt := 2918) dL_law_570 (by decide) ?_
        exact XJ.lcs (lo' := [(0, .ref G.2.2.2.2.1), (1, .ref a0), (2, .ref a39), (3, .ref a63), (4, .ref a64), (5, .int (nI x0))]) ⟨rfl, rfl, rfl, rfl, rfl, rfl, trivial⟩ (hn _ hA2 hX2 hM20 ⟨_, _, hO2⟩)
      · exact absurd rfl h3
  · exact absurd rfl h1
set_option maxRecDepth 20000 in
theorem law_addLine {P : PSt} {L : LSt} {pr : Nat → Nat} {O : OSt} {mp : Nat} {mk : Nat → UInt32} {T : List Nat} {a0 a39 a63 a64 : Nat} {dc tc t : Nat} {nm : String} {hh : List (Nat × Nat × Nat × Nat)} {gc2 gs2 x0 : Nat} {ou : Nat → Int64} {ov : Nat → UInt64} (hA : AD w a0 a39 a63 a64) (hIX : IX G.2.2.1 w P L pr O mp mk T dc tc) (hM : IM G.2.2.1 w P L pr O mp mk T t) (hO : OUTS G.2.2.1 w ou ov) (hIP : IP P L pr O mp mk T) (hLn : G.2.2.2.2.2.1 < 2 ^ 31) (hx0 : x0 + 7 ≤ G.2.2.2.2.2.1) (p : Int32) (k : Int32) (c : Int32) (q : Int32) (a : Int32) (b : Int32) (ep_ : G.2.2.2.2.2.2 (x0 + 1) = p) (ek_ : G.2.2.2.2.2.2 (x0 + 2) = k) (ec_ : G.2.2.2.2.2.2 (x0 + 3) = c) (eq_ : G.2.2.2.2.2.2 (x0 + 4) = q) (ea_ : G.2.2.2.2.2.2 (x0 + 5) = a) (eb_ : G.2.2.2.2.2.2 (x0 + 6) = b) (hn : ∀ w', AD w' a0 a39 a63 a64 → IX G.2.2.1 w' P (if (cdAL P.1 L p k c q a b) = 0 then newL L (idx p) (idx k) (idx c) (idx q) 0 (idx a) (idx b) 0 0 else L) pr O mp mk T dc tc → IM G.2.2.1 w' P (if (cdAL P.1 L p k c q a b) = 0 then newL L (idx p) (idx k) (idx c) (idx q) 0 (idx a) (idx b) 0 0 else L) pr O mp mk T (cdAL P.1 L p k c q a b) → (∃ ou ov, OUTS G.2.2.1 w' ou ov) → XJ G (mLaw nm hh) 20 gc2 gs2 2918 [(0, .ref G.2.2.2.2.1), (1, .ref a0), (2, .ref a39), (3, .ref a63), (4, .ref a64), (5, .int (nI x0))] [] w' QL) : XJ G (mLaw nm hh) 20 (8 + gc2) (48 + gs2) 573 [(0, .ref G.2.2.2.2.1), (1, .ref a0), (2, .ref a39), (3, .ref a63), (4, .ref a64), (5, .int (nI x0))] [] w QL := by
  refine X_aload_n dL_law_573 (i := 1) rfl rfl ?_
  refine X_aload_n dL_law_574 (i := 0) rfl rfl ?_
  refine X_iload dL_law_575 (i := 5) rfl ?_
  refine X_iconst (v := 1) dL_law_577 (by decide) ?_
  refine X_iadd dL_law_578 ?_
  refine XJ.top (v' := .int (nI (x0 + 1))) (by rw [show (1 : Int32) = nI 1 from rfl, nI_add]) ?_
  refine X_sld rfl (by omega) hLn dL_law_579 ?_
  refine XJ.top (v' := .int p) (by rw [ep_]) ?_
  refine X_aload_n dL_law_580 (i := 0) rfl rfl ?_
  refine X_iload dL_law_581 (i := 5) rfl ?_
  refine X_iconst (v := 2) dL_law_583 (by decide) ?_
  refine X_iadd dL_law_584 ?_
  refine XJ.top (v' := .int (nI (x0 + 2))) (by rw [show (2 : Int32) = nI 2 from rfl, nI_add]) ?_
  refine X_sld rfl (by omega) hLn dL_law_585 ?_
  refine XJ.top (v' := .int k) (by rw [ek_]) ?_
  refine X_aload_n dL_law_586 (i := 0) rfl rfl ?_
  refine X_iload dL_law_587 (i := 5) rfl ?_
  refine X_iconst (v := 3) dL_law_589 (by decide) ?_
  refine X_iadd dL_law_590 ?_
  refine XJ.top (v' := .int (nI (x0 + 3))) (by rw [show (3 : Int32) = nI 3 from rfl, nI_add]) ?_
  refine X_sld rfl (by omega) hLn dL_law_591 ?_
  refine XJ.top (v' := .int c) (by rw [ec_]) ?_
  refine X_aload_n dL_law_592 (i := 0) rfl rfl ?_
  refine X_iload dL_law_593 (i := 5) rfl ?_
  refine X_iconst (v := 4) dL_law_595 (by decide) ?_
  refine X_iadd dL_law_596 ?_
  refine XJ.top (v' := .int (nI (x0 + 4))) (by rw [show (4 : Int32) = nI 4 from rfl, nI_add]) ?_
  refine X_sld rfl (by omega) hLn dL_law_597 ?_
  refine XJ.top (v' := .int q) (by rw [eq_]) ?_
  refine X_aload_n dL_law_598 (i := 0) rfl rfl ?_
  refine X_iload dL_law_599 (i := 5) rfl ?_
  refine X_iconst (v := 5) dL_law_601 (by decide) ?_
  refine X_iadd dL_law_602 ?_
  refine XJ.top (v' := .int (nI (x0 + 5))) (by rw [show (5 : Int32) = nI 5 from rfl, nI_add]) ?_
  refine X_sld rfl (by omega) hLn dL_law_603 ?_
  refine XJ.top (v' := .int a) (by rw [ea_]) ?_
  refine X_aload_n dL_law_604 (i := 0) rfl rfl ?_
  refine X_iload dL_law_605 (i := 5) rfl ?_
  refine X_bipush (v := 6) dL_law_607 (by decide) ?_
  refine X_iadd dL_law_609 ?_
  refine XJ.top (v' := .int (nI (x0 + 6))) (by rw [show (6 : Int32) = nI 6 from rfl, nI_add]) ?_
  refine X_sld rfl (by omega) hLn dL_law_610 ?_
  refine XJ.top (v' := .int b) (by rw [eb_]) ?_
  refine X_aload_n dL_law_611 (i := 3) rfl rfl ?_
  refine X_callSW (gc2 := gc2) (gs2 := gs2) (k_addLine hA hIX hM hO hIP p k c q a b) kmL_addLine rfl lL_175 sL_addLine rfl rfl (Nat.le_of_ble_eq_true rfl) (by decide) dL_law_612 (Nat.le_refl _) (Nat.le_refl _) (fun E w1 hq => nomatch hq.1) (fun v w1 hq => ?_)
  obtain ⟨hv, hA1, hX1, hM1, ou1, ov1, hO1, hlv⟩ := hq
  cases hv
  have hM10 := hM1
  obtain ⟨⟨en1, h9a⟩, -⟩ := hM1
  refine X_istore (i := 6) (lo' := [(6, _), (0, _), (1, _), (2, _), (3, _), (4, _), (5, _)]) dL_law_615 (Nat.le_of_ble_eq_true rfl) rfl ?_
  refine X_aload_n dL_law_617 (i := 2) rfl rfl ?_
  refine X_aload_n dL_law_618 (i := 0) rfl rfl ?_
  refine X_iload dL_law_619 (i := 5) rfl ?_
  refine X_iconst (v := 1) dL_law_621 (by decide) ?_
  refine X_iadd dL_law_622 ?_
  refine XJ.top (v' := .int (nI (x0 + 1))) (by rw [show (1 : Int32) = nI 1 from rfl, nI_add]) ?_
  refine X_sld rfl (by omega) hLn dL_law_623 ?_
  refine XJ.top (v' := .int p) (by rw [ep_]) ?_
  refine X_aload_n dL_law_624 (i := 0) rfl rfl ?_
  refine X_iload dL_law_625 (i := 5) rfl ?_
  refine X_iconst (v := 2) dL_law_627 (by decide) ?_
  refine X_iadd dL_law_628 ?_
  refine XJ.top (v' := .int (nI (x0 + 2))) (by rw [show (2 : Int32) = nI 2 from rfl, nI_add]) ?_
  refine X_sld rfl (by omega) hLn dL_law_629 ?_
  refine XJ.top (v' := .int k) (by rw [ek_]) ?_
  refine X_aload_n dL_law_630 (i := 0) rfl rfl ?_
  refine X_iload dL_law_631 (i := 5) rfl ?_
  refine X_iconst (v := 3) dL_law_633 (by decide) ?_
  refine X_iadd dL_law_634 ?_
  refine XJ.top (v' := .int (nI (x0 + 3))) (by rw [show (3 : Int32) = nI 3 from rfl, nI_add]) ?_
  refine X_sld rfl (by omega) hLn dL_law_635 ?_
  refine XJ.top (v' := .int c) (by rw [ec_]) ?_
  refine X_aload_n dL_law_636 (i := 0) rfl rfl ?_
  refine X_iload dL_law_637 (i := 5) rfl ?_
  refine X_iconst (v := 4) dL_law_639 (by decide) ?_
  refine X_iadd dL_law_640 ?_
  refine XJ.top (v' := .int (nI (x0 + 4))) (by rw [show (4 : Int32) = nI 4 from rfl, nI_add]) ?_
  refine X_sld rfl (by omega) hLn dL_law_641 ?_
  refine XJ.top (v' := .int q) (by rw [eq_]) ?_
  refine X_aload_n dL_law_642 (i := 0) rfl rfl ?_
  refine X_iload dL_law_643 (i := 5) rfl ?_
  refine X_iconst (v := 5) dL_law_645 (by decide) ?_
  refine X_iadd dL_law_646 ?_
  refine XJ.top (v' := .int (nI (x0 + 5))) (by rw [show (5 : Int32) = nI 5 from rfl, nI_add]) ?_
  refine X_sld rfl (by omega) hLn dL_law_647 ?_
  refine XJ.top (v' := .int a) (by rw [ea_]) ?_
  refine X_aload_n dL_law_648 (i := 0) rfl rfl ?_
  refine X_iload dL_law_649 (i := 5) rfl ?_
  refine X_bipush (v := 6) dL_law_651 (by decide) ?_
  refine X_iadd dL_law_653 ?_
  refine XJ.top (v' := .int (nI (x0 + 6))) (by rw [show (6 : Int32) = nI 6 from rfl, nI_add]) ?_
  refine X_sld rfl (by omega) hLn dL_law_654 ?_
  refine XJ.top (v' := .int b) (by rw [eb_]) ?_
  refine X_callV (gc2 := gc2) (gs2 := gs2) (r_addLine hA1 hM10 hIP p k c q a b) (i := 39) h9a hA1.2.2.1 rfl kmX11_addLine rfl lL_178 iX11_addLine vX11_addLine rfl rfl (Nat.le_of_ble_eq_true rfl) (by decide) dL_law_655 (by omega) (by omega) (fun E w1 hq => by obtain ⟨_, h, _⟩ := hq; nomatch h) (fun v w1 hq => ?_)
  obtain ⟨v1, hv, hv2, hF2, hM2⟩ := hq
  cases hv
  have hA2 := hA1.fm hF2
  have hX2 := hX1.fm hF2
  have hO2 := hO1.fm hF2
  have hM20 := hM2
  obtain ⟨⟨en2, h9b⟩, -⟩ := hM2
  refine X_istore (i := 7) (lo' := [(7, _), (6, _), (0, _), (1, _), (2, _), (3, _), (4, _), (5, _)]) dL_law_658 (Nat.le_of_ble_eq_true rfl) rfl ?_
  refine X_aload_n dL_law_660 (i := 2) rfl rfl ?_
  refine X_callV (gc2 := gc2) (gs2 := gs2) (r_thrown hA2 h9b) (i := 39) h9b hA2.2.2.1 rfl kmX11_thrown rfl lL_152 iX11_thrown vX11_thrown rfl rfl (Nat.le_of_ble_eq_true rfl) (by decide) dL_law_661 (by omega) (by omega) (fun E w1 hq => nomatch hq.1) (fun v w1 hq => ?_)
  have hv := hq.1
  obtain rfl := hq.2.symm
  cases hv
  refine X_iload dL_law_664 (i := 6) rfl ?_
  refine X_icmp_eq (tgt := 671) dL_law_666 (by decide) (fun h1 => ?_) (fun h1 => ?_)
  · refine X_iload dL_law_671 (i := 6) rfl ?_
    refine X_if_ne (tgt := 688) dL_law_673 (by decide) (fun h2 => ?_) (fun h2 => ?_)
    · refine X_goto (tgt := 2918) dL_law_688 (by decide) ?_
      exact XJ.lcs (lo' := [(0, .ref G.2.2.2.2.1), (1, .ref a0), (2, .ref a39), (3, .ref a63), (4, .ref a64), (5, .int (nI x0))]) ⟨rfl, rfl, rfl, rfl, rfl, rfl, trivial⟩ (hn _ hA2 hX2 hM20 ⟨_, _, hO2⟩)
    · have hle : cdAL P.1 L p k c q a b ≤ 4 := cdAL_le
      have hcd : cdAL P.1 L p k c q a b = 0 := (nI_eq (b := 0) (by omega) (by decide)).mp h2
      refine X_aload_n dL_law_676 (i := 3) rfl rfl ?_
      refine X_iconst (v := 0) dL_law_677 (by decide) ?_
      refine X_lald (i := 63) hO2.1 hA2.2.2.2.1 (show (0 : Int32) = nI 0 from rfl) (by decide) (by decide) dL_law_678 ?_
      refine XJ.top (v' := .long ((nI (ln L) : Int32).toInt64)) (by rw [hlv hcd]) ?_
      refine X_iload dL_law_679 (i := 7) rfl ?_
      refine XJ.top (v' := .int (nI (ln L))) (by rw [hv2 hcd]) ?_
      refine X_i2l dL_law_681 rfl ?_
      refine X_lcmp dL_law_682 ?_
      refine XJ.top (v' := .int 0) (congrArg Value.int (lcmp_self _)) ?_
      refine X_if_eq (tgt := 688) dL_law_683 (by decide) (fun h3 => ?_) (fun h3 => ?_)
      · refine X_goto (tgt := 2918) dL_law_688 (by decide) ?_
        exact XJ.lcs (lo' := [(0, .ref G.2.2.2.2.1), (1, .ref a0), (2, .ref a39), (3, .ref a63), (4, .ref a64), (5, .int (nI x0))]) ⟨rfl, rfl, rfl, rfl, rfl, rfl, trivial⟩ (hn _ hA2 hX2 hM20 ⟨_, _, hO2⟩)
      · exact absurd rfl h3
  · exact absurd rfl h1
set_option maxRecDepth 20000 in
theorem law_addVariant {P : PSt} {L : LSt} {pr : Nat → Nat} {O : OSt} {mp : Nat} {mk : Nat → UInt32} {T : List Nat} {a0 a39 a63 a64 : Nat} {dc tc t : Nat} {nm : String} {hh : List (Nat × Nat × Nat × Nat)} {gc2 gs2 x0 : Nat} {ou : Nat → Int64} {ov : Nat → UInt64} (hA : AD w a0 a39 a63 a64) (hIX : IX G.2.2.1 w P L pr O mp mk T dc tc) (hM : IM G.2.2.1 w P L pr O mp mk T t) (hO : OUTS G.2.2.1 w ou ov) (hIP : IP P L pr O mp mk T) (hLn : G.2.2.2.2.2.1 < 2 ^ 31) (hx0 : x0 + 7 ≤ G.2.2.2.2.2.1) (p : Int32) (k : Int32) (c : Int32) (q : Int32) (o : Int32) (s : Int32) (ep_ : G.2.2.2.2.2.2 (x0 + 1) = p) (ek_ : G.2.2.2.2.2.2 (x0 + 2) = k) (ec_ : G.2.2.2.2.2.2 (x0 + 3) = c) (eq_ : G.2.2.2.2.2.2 (x0 + 4) = q) (eo_ : G.2.2.2.2.2.2 (x0 + 5) = o) (es_ : G.2.2.2.2.2.2 (x0 + 6) = s) (hn : ∀ w', AD w' a0 a39 a63 a64 → IX G.2.2.1 w' P (if (cdAV P.1 L p k c q o s) = 0 then newL L (idx p) (idx k) (idx c) (idx q) 0 1 999 (idx o + 1) (idx s) else L) pr O mp mk T dc tc → IM G.2.2.1 w' P (if (cdAV P.1 L p k c q o s) = 0 then newL L (idx p) (idx k) (idx c) (idx q) 0 1 999 (idx o + 1) (idx s) else L) pr O mp mk T (cdAV P.1 L p k c q o s) → (∃ ou ov, OUTS G.2.2.1 w' ou ov) → XJ G (mLaw nm hh) 20 gc2 gs2 2918 [(0, .ref G.2.2.2.2.1), (1, .ref a0), (2, .ref a39), (3, .ref a63), (4, .ref a64), (5, .int (nI x0))] [] w' QL) : XJ G (mLaw nm hh) 20 (8 + gc2) (48 + gs2) 691 [(0, .ref G.2.2.2.2.1), (1, .ref a0), (2, .ref a39), (3, .ref a63), (4, .ref a64), (5, .int (nI x0))] [] w QL := by
  refine X_aload_n dL_law_691 (i := 1) rfl rfl ?_
  refine X_aload_n dL_law_692 (i := 0) rfl rfl ?_
  refine X_iload dL_law_693 (i := 5) rfl ?_
  refine X_iconst (v := 1) dL_law_695 (by decide) ?_
  refine X_iadd dL_law_696 ?_
  refine XJ.top (v' := .int (nI (x0 + 1))) (by rw [show (1 : Int32) = nI 1 from rfl, nI_add]) ?_
  refine X_sld rfl (by omega) hLn dL_law_697 ?_
  refine XJ.top (v' := .int p) (by rw [ep_]) ?_
  refine X_aload_n dL_law_698 (i := 0) rfl rfl ?_
  refine X_iload dL_law_699 (i := 5) rfl ?_
  refine X_iconst (v := 2) dL_law_701 (by decide) ?_
  refine X_iadd dL_law_702 ?_
  refine XJ.top (v' := .int (nI (x0 + 2))) (by rw [show (2 : Int32) = nI 2 from rfl, nI_add]) ?_
  refine X_sld rfl (by omega) hLn dL_law_703 ?_
  refine XJ.top (v' := .int k) (by rw [ek_]) ?_
  refine X_aload_n dL_law_704 (i := 0) rfl rfl ?_
  refine X_iload dL_law_705 (i := 5) rfl ?_
  refine X_iconst (v := 3) dL_law_707 (by decide) ?_
  refine X_iadd dL_law_708 ?_
  refine XJ.top (v' := .int (nI (x0 + 3))) (by rw [show (3 : Int32) = nI 3 from rfl, nI_add]) ?_
  refine X_sld rfl (by omega) hLn dL_law_709 ?_
  refine XJ.top (v' := .int c) (by rw [ec_]) ?_
  refine X_aload_n dL_law_710 (i := 0) rfl rfl ?_
  refine X_iload dL_law_711 (i := 5) rfl ?_
  refine X_iconst (v := 4) dL_law_713 (by decide) ?_
  refine X_iadd dL_law_714 ?_
  refine XJ.top (v' := .int (nI (x0 + 4))) (by rw [show (4 : Int32) = nI 4 from rfl, nI_add]) ?_
  refine X_sld rfl (by omega) hLn dL_law_715 ?_
  refine XJ.top (v' := .int q) (by rw [eq_]) ?_
  refine X_aload_n dL_law_716 (i := 0) rfl rfl ?_
  refine X_iload dL_law_717 (i := 5) rfl ?_
  refine X_iconst (v := 5) dL_law_719 (by decide) ?_
  refine X_iadd dL_law_720 ?_
  refine XJ.top (v' := .int (nI (x0 + 5))) (by rw [show (5 : Int32) = nI 5 from rfl, nI_add]) ?_
  refine X_sld rfl (by omega) hLn dL_law_721 ?_
  refine XJ.top (v' := .int o) (by rw [eo_]) ?_
  refine X_aload_n dL_law_722 (i := 0) rfl rfl ?_
  refine X_iload dL_law_723 (i := 5) rfl ?_
  refine X_bipush (v := 6) dL_law_725 (by decide) ?_
  refine X_iadd dL_law_727 ?_
  refine XJ.top (v' := .int (nI (x0 + 6))) (by rw [show (6 : Int32) = nI 6 from rfl, nI_add]) ?_
  refine X_sld rfl (by omega) hLn dL_law_728 ?_
  refine XJ.top (v' := .int s) (by rw [es_]) ?_
  refine X_aload_n dL_law_729 (i := 3) rfl rfl ?_
  refine X_callSW (gc2 := gc2) (gs2 := gs2) (k_addVariant hA hIX hM hO hIP p k c q o s) kmL_addVariant rfl lL_179 sL_addVariant rfl rfl (Nat.le_of_ble_eq_true rfl) (by decide) dL_law_730 (Nat.le_refl _) (Nat.le_refl _) (fun E w1 hq => nomatch hq.1) (fun v w1 hq => ?_)
  obtain ⟨hv, hA1, hX1, hM1, ou1, ov1, hO1, hlv⟩ := hq
  cases hv
  have hM10 := hM1
  obtain ⟨⟨en1, h9a⟩, -⟩ := hM1
  refine X_istore (i := 6) (lo' := [(6, _), (0, _), (1, _), (2, _), (3, _), (4, _), (5, _)]) dL_law_733 (Nat.le_of_ble_eq_true rfl) rfl ?_
  refine X_aload_n dL_law_735 (i := 2) rfl rfl ?_
  refine X_aload_n dL_law_736 (i := 0) rfl rfl ?_
  refine X_iload dL_law_737 (i := 5) rfl ?_
  refine X_iconst (v := 1) dL_law_739 (by decide) ?_
  refine X_iadd dL_law_740 ?_
  refine XJ.top (v' := .int (nI (x0 + 1))) (by rw [show (1 : Int32) = nI 1 from rfl, nI_add]) ?_
  refine X_sld rfl (by omega) hLn dL_law_741 ?_
  refine XJ.top (v' := .int p) (by rw [ep_]) ?_
  refine X_aload_n dL_law_742 (i := 0) rfl rfl ?_
  refine X_iload dL_law_743 (i := 5) rfl ?_
  refine X_iconst (v := 2) dL_law_745 (by decide) ?_
  refine X_iadd dL_law_746 ?_
  refine XJ.top (v' := .int (nI (x0 + 2))) (by rw [show (2 : Int32) = nI 2 from rfl, nI_add]) ?_
  refine X_sld rfl (by omega) hLn dL_law_747 ?_
  refine XJ.top (v' := .int k) (by rw [ek_]) ?_
  refine X_aload_n dL_law_748 (i := 0) rfl rfl ?_
  refine X_iload dL_law_749 (i := 5) rfl ?_
  refine X_iconst (v := 3) dL_law_751 (by decide) ?_
  refine X_iadd dL_law_752 ?_
  refine XJ.top (v' := .int (nI (x0 + 3))) (by rw [show (3 : Int32) = nI 3 from rfl, nI_add]) ?_
  refine X_sld rfl (by omega) hLn dL_law_753 ?_
  refine XJ.top (v' := .int c) (by rw [ec_]) ?_
  refine X_aload_n dL_law_754 (i := 0) rfl rfl ?_
  refine X_iload dL_law_755 (i := 5) rfl ?_
  refine X_iconst (v := 4) dL_law_757 (by decide) ?_
  refine X_iadd dL_law_758 ?_
  refine XJ.top (v' := .int (nI (x0 + 4))) (by rw [show (4 : Int32) = nI 4 from rfl, nI_add]) ?_
  refine X_sld rfl (by omega) hLn dL_law_759 ?_
  refine XJ.top (v' := .int q) (by rw [eq_]) ?_
  refine X_aload_n dL_law_760 (i := 0) rfl rfl ?_
  refine X_iload dL_law_761 (i := 5) rfl ?_
  refine X_iconst (v := 5) dL_law_763 (by decide) ?_
  refine X_iadd dL_law_764 ?_
  refine XJ.top (v' := .int (nI (x0 + 5))) (by rw [show (5 : Int32) = nI 5 from rfl, nI_add]) ?_
  refine X_sld rfl (by omega) hLn dL_law_765 ?_
  refine XJ.top (v' := .int o) (by rw [eo_]) ?_
  refine X_aload_n dL_law_766 (i := 0) rfl rfl ?_
  refine X_iload dL_law_767 (i := 5) rfl ?_
  refine X_bipush (v := 6) dL_law_769 (by decide) ?_
  refine X_iadd dL_law_771 ?_
  refine XJ.top (v' := .int (nI (x0 + 6))) (by rw [show (6 : Int32) = nI 6 from rfl, nI_add]) ?_
  refine X_sld rfl (by omega) hLn dL_law_772 ?_
  refine XJ.top (v' := .int s) (by rw [es_]) ?_
  refine X_callV (gc2 := gc2) (gs2 := gs2) (r_addVariant hA1 hM10 hIP p k c q o s) (i := 39) h9a hA1.2.2.1 rfl kmX11_addVariant rfl lL_181 iX11_addVariant vX11_addVariant rfl rfl (Nat.le_of_ble_eq_true rfl) (by decide) dL_law_773 (by omega) (by omega) (fun E w1 hq => by obtain ⟨_, h, _⟩ := hq; nomatch h) (fun v w1 hq => ?_)
  obtain ⟨v1, hv, hv2, hF2, hM2⟩ := hq
  cases hv
  have hA2 := hA1.fm hF2
  have hX2 := hX1.fm hF2
  have hO2 := hO1.fm hF2
  have hM20 := hM2
  obtain ⟨⟨en2, h9b⟩, -⟩ := hM2
  refine X_istore (i := 7) (lo' := [(7, _), (6, _), (0, _), (1, _), (2, _), (3, _), (4, _), (5, _)]) dL_law_776 (Nat.le_of_ble_eq_true rfl) rfl ?_
  refine X_aload_n dL_law_778 (i := 2) rfl rfl ?_
  refine X_callV (gc2 := gc2) (gs2 := gs2) (r_thrown hA2 h9b) (i := 39) h9b hA2.2.2.1 rfl kmX11_thrown rfl lL_152 iX11_thrown vX11_thrown rfl rfl (Nat.le_of_ble_eq_true rfl) (by decide) dL_law_779 (by omega) (by omega) (fun E w1 hq => nomatch hq.1) (fun v w1 hq => ?_)
  have hv := hq.1
  obtain rfl := hq.2.symm
  cases hv
  refine X_iload dL_law_782 (i := 6) rfl ?_
  refine X_icmp_eq (tgt := 789) dL_law_784 (by decide) (fun h1 => ?_) (fun h1 => ?_)
  · refine X_iload dL_law_789 (i := 6) rfl ?_
    refine X_if_ne (tgt := 806) dL_law_791 (by decide) (fun h2 => ?_) (fun h2 => ?_)
    · refine X_goto (tgt := 2918) dL_law_806 (by decide) ?_
      exact XJ.lcs (lo' := [(0, .ref G.2.2.2.2.1), (1, .ref a0), (2, .ref a39), (3, .ref a63), (4, .ref a64), (5, .int (nI x0))]) ⟨rfl, rfl, rfl, rfl, rfl, rfl, trivial⟩ (hn _ hA2 hX2 hM20 ⟨_, _, hO2⟩)
    · have hle : cdAV P.1 L p k c q o s ≤ 4 := cdAV_le
      have hcd : cdAV P.1 L p k c q o s = 0 := (nI_eq (b := 0) (by omega) (by decide)).mp h2
      refine X_aload_n dL_law_794 (i := 3) rfl rfl ?_
      refine X_iconst (v := 0) dL_law_795 (by decide) ?_
      refine X_lald (i := 63) hO2.1 hA2.2.2.2.1 (show (0 : Int32) = nI 0 from rfl) (by decide) (by decide) dL_law_796 ?_
      refine XJ.top (v' := .long ((nI (ln L) : Int32).toInt64)) (by rw [hlv hcd]) ?_
      refine X_iload dL_law_797 (i := 7) rfl ?_
      refine XJ.top (v' := .int (nI (ln L))) (by rw [hv2 hcd]) ?_
      refine X_i2l dL_law_799 rfl ?_
      refine X_lcmp dL_law_800 ?_
      refine XJ.top (v' := .int 0) (congrArg Value.int (lcmp_self _)) ?_
      refine X_if_eq (tgt := 806) dL_law_801 (by decide) (fun h3 => ?_) (fun h3 => ?_)
      · refine X_goto (tgt := 2918) dL_law_806 (by decide) ?_
        exact XJ.lcs (lo' := [(0, .ref G.2.2.2.2.1), (1, .ref a0), (2, .ref a39), (3, .ref a63), (4, .ref a64), (5, .int (nI x0))]) ⟨rfl, rfl, rfl, rfl, rfl, rfl, trivial⟩ (hn _ hA2 hX2 hM20 ⟨_, _, hO2⟩)
      · exact absurd rfl h3
  · exact absurd rfl h1
set_option maxRecDepth 20000 in
theorem law_replaceFrom {P : PSt} {L : LSt} {pr : Nat → Nat} {O : OSt} {mp : Nat} {mk : Nat → UInt32} {T : List Nat} {a0 a39 a63 a64 : Nat} {dc tc t : Nat} {nm : String} {hh : List (Nat × Nat × Nat × Nat)} {gc2 gs2 x0 : Nat} {ou : Nat → Int64} {ov : Nat → UInt64} (hA : AD w a0 a39 a63 a64) (hIX : IX G.2.2.1 w P L pr O mp mk T dc tc) (hM : IM G.2.2.1 w P L pr O mp mk T t) (hO : OUTS G.2.2.1 w ou ov) (hIP : IP P L pr O mp mk T) (hLn : G.2.2.2.2.2.1 < 2 ^ 31) (hx0 : x0 + 7 ≤ G.2.2.2.2.2.1) (l : Int32) (s : Int32) (c : Int32) (q : Int32) (el_ : G.2.2.2.2.2.2 (x0 + 1) = l) (es_ : G.2.2.2.2.2.2 (x0 + 2) = s) (ec_ : G.2.2.2.2.2.2 (x0 + 3) = c) (eq_ : G.2.2.2.2.2.2 (x0 + 4) = q) (hn : ∀ w', AD w' a0 a39 a63 a64 → IX G.2.2.1 w' P (if (cdRF P.1 L l s c q) = 0 then repL L (idx l) (idx s) (idx c) (idx q) else L) pr O mp mk T dc tc → IM G.2.2.1 w' P (if (cdRF P.1 L l s c q) = 0 then repL L (idx l) (idx s) (idx c) (idx q) else L) pr O mp mk T (cdRF P.1 L l s c q) → (∃ ou ov, OUTS G.2.2.1 w' ou ov) → XJ G (mLaw nm hh) 20 gc2 gs2 2918 [(0, .ref G.2.2.2.2.1), (1, .ref a0), (2, .ref a39), (3, .ref a63), (4, .ref a64), (5, .int (nI x0))] [] w' QL) : XJ G (mLaw nm hh) 20 (8 + gc2) (48 + gs2) 809 [(0, .ref G.2.2.2.2.1), (1, .ref a0), (2, .ref a39), (3, .ref a63), (4, .ref a64), (5, .int (nI x0))] [] w QL := by
  refine X_aload_n dL_law_809 (i := 1) rfl rfl ?_
  refine X_aload_n dL_law_810 (i := 0) rfl rfl ?_
  refine X_iload dL_law_811 (i := 5) rfl ?_
  refine X_iconst (v := 1) dL_law_813 (by decide) ?_
  refine X_iadd dL_law_814 ?_
  refine XJ.top (v' := .int (nI (x0 + 1))) (by rw [show (1 : Int32) = nI 1 from rfl, nI_add]) ?_
  refine X_sld rfl (by omega) hLn dL_law_815 ?_
  refine XJ.top (v' := .int l) (by rw [el_]) ?_
  refine X_aload_n dL_law_816 (i := 0) rfl rfl ?_
  refine X_iload dL_law_817 (i := 5) rfl ?_
  refine X_iconst (v := 2) dL_law_819 (by decide) ?_
  refine X_iadd dL_law_820 ?_
  refine XJ.top (v' := .int (nI (x0 + 2))) (by rw [show (2 : Int32) = nI 2 from rfl, nI_add]) ?_
  refine X_sld rfl (by omega) hLn dL_law_821 ?_
  refine XJ.top (v' := .int s) (by rw [es_]) ?_
  refine X_aload_n dL_law_822 (i := 0) rfl rfl ?_
  refine X_iload dL_law_823 (i := 5) rfl ?_
  refine X_iconst (v := 3) dL_law_825 (by decide) ?_
  refine X_iadd dL_law_826 ?_
  refine XJ.top (v' := .int (nI (x0 + 3))) (by rw [show (3 : Int32) = nI 3 from rfl, nI_add]) ?_
  refine X_sld rfl (by omega) hLn dL_law_827 ?_
  refine XJ.top (v' := .int c) (by rw [ec_]) ?_
  refine X_aload_n dL_law_828 (i := 0) rfl rfl ?_
  refine X_iload dL_law_829 (i := 5) rfl ?_
  refine X_iconst (v := 4) dL_law_831 (by decide) ?_
  refine X_iadd dL_law_832 ?_
  refine XJ.top (v' := .int (nI (x0 + 4))) (by rw [show (4 : Int32) = nI 4 from rfl, nI_add]) ?_
  refine X_sld rfl (by omega) hLn dL_law_833 ?_
  refine XJ.top (v' := .int q) (by rw [eq_]) ?_
  refine X_aload_n dL_law_834 (i := 3) rfl rfl ?_
  refine X_callSW (gc2 := gc2) (gs2 := gs2) (k_replaceFrom hA hIX hM hO hIP l s c q) kmL_replaceFrom rfl lL_182 sL_replaceFrom rfl rfl (Nat.le_of_ble_eq_true rfl) (by decide) dL_law_835 (Nat.le_refl _) (Nat.le_refl _) (fun E w1 hq => nomatch hq.1) (fun v w1 hq => ?_)
  obtain ⟨hv, hA1, hX1, hM1, ou1, ov1, hO1, hlv⟩ := hq
  cases hv
  have hM10 := hM1
  obtain ⟨⟨en1, h9a⟩, -⟩ := hM1
  refine X_istore (i := 6) (lo' := [(6, _), (0, _), (1, _), (2, _), (3, _), (4, _), (5, _)]) dL_law_838 (Nat.le_of_ble_eq_true rfl) rfl ?_
  refine X_aload_n dL_law_840 (i := 2) rfl rfl ?_
  refine X_aload_n dL_law_841 (i := 0) rfl rfl ?_
  refine X_iload dL_law_842 (i := 5) rfl ?_
  refine X_iconst (v := 1) dL_law_844 (by decide) ?_
  refine X_iadd dL_law_845 ?_
  refine XJ.top (v' := .int (nI (x0 + 1))) (by rw [show (1 : Int32) = nI 1 from rfl, nI_add]) ?_
  refine X_sld rfl (by omega) hLn dL_law_846 ?_
  refine XJ.top (v' := .int l) (by rw [el_]) ?_
  refine X_aload_n dL_law_847 (i := 0) rfl rfl ?_
  refine X_iload dL_law_848 (i := 5) rfl ?_
  refine X_iconst (v := 2) dL_law_850 (by decide) ?_
  refine X_iadd dL_law_851 ?_
  refine XJ.top (v' := .int (nI (x0 + 2))) (by rw [show (2 : Int32) = nI 2 from rfl, nI_add]) ?_
  refine X_sld rfl (by omega) hLn dL_law_852 ?_
  refine XJ.top (v' := .int s) (by rw [es_]) ?_
  refine X_aload_n dL_law_853 (i := 0) rfl rfl ?_
  refine X_iload dL_law_854 (i := 5) rfl ?_
  refine X_iconst (v := 3) dL_law_856 (by decide) ?_
  refine X_iadd dL_law_857 ?_
  refine XJ.top (v' := .int (nI (x0 + 3))) (by rw [show (3 : Int32) = nI 3 from rfl, nI_add]) ?_
  refine X_sld rfl (by omega) hLn dL_law_858 ?_
  refine XJ.top (v' := .int c) (by rw [ec_]) ?_
  refine X_aload_n dL_law_859 (i := 0) rfl rfl ?_
  refine X_iload dL_law_860 (i := 5) rfl ?_
  refine X_iconst (v := 4) dL_law_862 (by decide) ?_
  refine X_iadd dL_law_863 ?_
  refine XJ.top (v' := .int (nI (x0 + 4))) (by rw [show (4 : Int32) = nI 4 from rfl, nI_add]) ?_
  refine X_sld rfl (by omega) hLn dL_law_864 ?_
  refine XJ.top (v' := .int q) (by rw [eq_]) ?_
  refine X_callV (gc2 := gc2) (gs2 := gs2) (r_replaceFrom hA1 hM10 hIP l s c q) (i := 39) h9a hA1.2.2.1 rfl kmX11_replaceFrom rfl lL_185 iX11_replaceFrom vX11_replaceFrom rfl rfl (Nat.le_of_ble_eq_true rfl) (by decide) dL_law_865 (by omega) (by omega) (fun E w1 hq => by obtain ⟨_, h, _⟩ := hq; nomatch h) (fun v w1 hq => ?_)
  obtain ⟨v1, hv, hv2, hF2, hM2⟩ := hq
  cases hv
  have hA2 := hA1.fm hF2
  have hX2 := hX1.fm hF2
  have hO2 := hO1.fm hF2
  have hM20 := hM2
  obtain ⟨⟨en2, h9b⟩, -⟩ := hM2
  refine X_istore (i := 7) (lo' := [(7, _), (6, _), (0, _), (1, _), (2, _), (3, _), (4, _), (5, _)]) dL_law_868 (Nat.le_of_ble_eq_true rfl) rfl ?_
  refine X_aload_n dL_law_870 (i := 2) rfl rfl ?_
  refine X_callV (gc2 := gc2) (gs2 := gs2) (r_thrown hA2 h9b) (i := 39) h9b hA2.2.2.1 rfl kmX11_thrown rfl lL_152 iX11_thrown vX11_thrown rfl rfl (Nat.le_of_ble_eq_true rfl) (by decide) dL_law_871 (by omega) (by omega) (fun E w1 hq => nomatch hq.1) (fun v w1 hq => ?_)
  have hv := hq.1
  obtain rfl := hq.2.symm
  cases hv
  refine X_iload dL_law_874 (i := 6) rfl ?_
  refine X_icmp_eq (tgt := 881) dL_law_876 (by decide) (fun h1 => ?_) (fun h1 => ?_)
  · refine X_iload dL_law_881 (i := 6) rfl ?_
    refine X_if_ne (tgt := 898) dL_law_883 (by decide) (fun h2 => ?_) (fun h2 => ?_)
    · refine X_goto (tgt := 2918) dL_law_898 (by decide) ?_
      exact XJ.lcs (lo' := [(0, .ref G.2.2.2.2.1), (1, .ref a0), (2, .ref a39), (3, .ref a63), (4, .ref a64), (5, .int (nI x0))]) ⟨rfl, rfl, rfl, rfl, rfl, rfl, trivial⟩ (hn _ hA2 hX2 hM20 ⟨_, _, hO2⟩)
    · have hle : cdRF P.1 L l s c q ≤ 4 := cdRF_le
      have hcd : cdRF P.1 L l s c q = 0 := (nI_eq (b := 0) (by omega) (by decide)).mp h2
      refine X_aload_n dL_law_886 (i := 3) rfl rfl ?_
      refine X_iconst (v := 0) dL_law_887 (by decide) ?_
      refine X_lald (i := 63) hO2.1 hA2.2.2.2.1 (show (0 : Int32) = nI 0 from rfl) (by decide) (by decide) dL_law_888 ?_
      refine XJ.top (v' := .long ((nI (ln L) : Int32).toInt64)) (by rw [hlv hcd]) ?_
      refine X_iload dL_law_889 (i := 7) rfl ?_
      refine XJ.top (v' := .int (nI (ln L))) (by rw [hv2 hcd]) ?_
      refine X_i2l dL_law_891 rfl ?_
      refine X_lcmp dL_law_892 ?_
      refine XJ.top (v' := .int 0) (congrArg Value.int (lcmp_self _)) ?_
      refine X_if_eq (tgt := 898) dL_law_893 (by decide) (fun h3 => ?_) (fun h3 => ?_)
      · refine X_goto (tgt := 2918) dL_law_898 (by decide) ?_
        exact XJ.lcs (lo' := [(0, .ref G.2.2.2.2.1), (1, .ref a0), (2, .ref a39), (3, .ref a63), (4, .ref a64), (5, .int (nI x0))]) ⟨rfl, rfl, rfl, rfl, rfl, rfl, trivial⟩ (hn _ hA2 hX2 hM20 ⟨_, _, hO2⟩)
      · exact absurd rfl h3
  · exact absurd rfl h1
set_option maxRecDepth 20000 in
theorem law_endBefore {P : PSt} {L : LSt} {pr : Nat → Nat} {O : OSt} {mp : Nat} {mk : Nat → UInt32} {T : List Nat} {a0 a39 a63 a64 : Nat} {dc tc t : Nat} {nm : String} {hh : List (Nat × Nat × Nat × Nat)} {gc2 gs2 x0 : Nat} {ou : Nat → Int64} {ov : Nat → UInt64} (hA : AD w a0 a39 a63 a64) (hIX : IX G.2.2.1 w P L pr O mp mk T dc tc) (hM : IM G.2.2.1 w P L pr O mp mk T t) (hO : OUTS G.2.2.1 w ou ov) (hIP : IP P L pr O mp mk T) (hLn : G.2.2.2.2.2.1 < 2 ^ 31) (hx0 : x0 + 7 ≤ G.2.2.2.2.2.1) (l : Int32) (s : Int32) (el_ : G.2.2.2.2.2.2 (x0 + 1) = l) (es_ : G.2.2.2.2.2.2 (x0 + 2) = s) (hn : ∀ w', AD w' a0 a39 a63 a64 → IX G.2.2.1 w' P (if (cdEB L l s) = 0 then cutL L (idx l) (idx s - 1) else L) pr O mp mk T dc tc → IM G.2.2.1 w' P (if (cdEB L l s) = 0 then cutL L (idx l) (idx s - 1) else L) pr O mp mk T (cdEB L l s) → (∃ ou ov, OUTS G.2.2.1 w' ou ov) → XJ G (mLaw nm hh) 20 gc2 gs2 2918 [(0, .ref G.2.2.2.2.1), (1, .ref a0), (2, .ref a39), (3, .ref a63), (4, .ref a64), (5, .int (nI x0))] [] w' QL) : XJ G (mLaw nm hh) 20 (2 + gc2) (12 + gs2) 901 [(0, .ref G.2.2.2.2.1), (1, .ref a0), (2, .ref a39), (3, .ref a63), (4, .ref a64), (5, .int (nI x0))] [] w QL := by
  refine X_aload_n dL_law_901 (i := 1) rfl rfl ?_
  refine X_aload_n dL_law_902 (i := 0) rfl rfl ?_
  refine X_iload dL_law_903 (i := 5) rfl ?_
  refine X_iconst (v := 1) dL_law_905 (by decide) ?_
  refine X_iadd dL_law_906 ?_
  refine XJ.top (v' := .int (nI (x0 + 1))) (by rw [show (1 : Int32) = nI 1 from rfl, nI_add]) ?_
  refine X_sld rfl (by omega) hLn dL_law_907 ?_
  refine XJ.top (v' := .int l) (by rw [el_]) ?_
  refine X_aload_n dL_law_908 (i := 0) rfl rfl ?_
  refine X_iload dL_law_909 (i := 5) rfl ?_
  refine X_iconst (v := 2) dL_law_911 (by decide) ?_
  refine X_iadd dL_law_912 ?_
  refine XJ.top (v' := .int (nI (x0 + 2))) (by rw [show (2 : Int32) = nI 2 from rfl, nI_add]) ?_
  refine X_sld rfl (by omega) hLn dL_law_913 ?_
  refine XJ.top (v' := .int s) (by rw [es_]) ?_
  refine X_aload_n dL_law_914 (i := 3) rfl rfl ?_
  refine X_callSW (gc2 := gc2) (gs2 := gs2) (k_endBefore hA hIX hM hO hIP l s) kmL_endBefore rfl lL_186 sL_endBefore rfl rfl (Nat.le_of_ble_eq_true rfl) (by decide) dL_law_915 (Nat.le_refl _) (Nat.le_refl _) (fun E w1 hq => nomatch hq.1) (fun v w1 hq => ?_)
  obtain ⟨hv, hA1, hX1, hM1, ou1, ov1, hO1, hlv⟩ := hq
  cases hv
  have hM10 := hM1
  obtain ⟨⟨en1, h9a⟩, -⟩ := hM1
  refine X_istore (i := 6) (lo' := [(6, _), (0, _), (1, _), (2, _), (3, _), (4, _), (5, _)]) dL_law_918 (Nat.le_of_ble_eq_true rfl) rfl ?_
  refine X_aload_n dL_law_920 (i := 2) rfl rfl ?_
  refine X_aload_n dL_law_921 (i := 0) rfl rfl ?_
  refine X_iload dL_law_922 (i := 5) rfl ?_
  refine X_iconst (v := 1) dL_law_924 (by decide) ?_
  refine X_iadd dL_law_925 ?_
  refine XJ.top (v' := .int (nI (x0 + 1))) (by rw [show (1 : Int32) = nI 1 from rfl, nI_add]) ?_
  refine X_sld rfl (by omega) hLn dL_law_926 ?_
  refine XJ.top (v' := .int l) (by rw [el_]) ?_
  refine X_aload_n dL_law_927 (i := 0) rfl rfl ?_
  refine X_iload dL_law_928 (i := 5) rfl ?_
  refine X_iconst (v := 2) dL_law_930 (by decide) ?_
  refine X_iadd dL_law_931 ?_
  refine XJ.top (v' := .int (nI (x0 + 2))) (by rw [show (2 : Int32) = nI 2 from rfl, nI_add]) ?_
  refine X_sld rfl (by omega) hLn dL_law_932 ?_
  refine XJ.top (v' := .int s) (by rw [es_]) ?_
  refine X_callV (gc2 := gc2) (gs2 := gs2) (r_endBefore hA1 hM10 hIP l s) (i := 39) h9a hA1.2.2.1 rfl kmX11_endBefore rfl lL_188 iX11_endBefore vX11_endBefore rfl rfl (Nat.le_of_ble_eq_true rfl) (by decide) dL_law_933 (by omega) (by omega) (fun E w1 hq => by obtain ⟨_, h, _⟩ := hq; nomatch h) (fun v w1 hq => ?_)
  obtain ⟨v1, hv, hv2, hF2, hM2⟩ := hq
  cases hv
  have hA2 := hA1.fm hF2
  have hX2 := hX1.fm hF2
  have hO2 := hO1.fm hF2
  have hM20 := hM2
  obtain ⟨⟨en2, h9b⟩, -⟩ := hM2
  refine X_istore (i := 7) (lo' := [(7, _), (6, _), (0, _), (1, _), (2, _), (3, _), (4, _), (5, _)]) dL_law_936 (Nat.le_of_ble_eq_true rfl) rfl ?_
  refine X_aload_n dL_law_938 (i := 2) rfl rfl ?_
  refine X_callV (gc2 := gc2) (gs2 := gs2) (r_thrown hA2 h9b) (i := 39) h9b hA2.2.2.1 rfl kmX11_thrown rfl lL_152 iX11_thrown vX11_thrown rfl rfl (Nat.le_of_ble_eq_true rfl) (by decide) dL_law_939 (by omega) (by omega) (fun E w1 hq => nomatch hq.1) (fun v w1 hq => ?_)
  have hv := hq.1
  obtain rfl := hq.2.symm
  cases hv
  refine X_iload dL_law_942 (i := 6) rfl ?_
  refine X_icmp_eq (tgt := 949) dL_law_944 (by decide) (fun h1 => ?_) (fun h1 => ?_)
  · refine X_iload dL_law_949 (i := 6) rfl ?_
    refine X_if_ne (tgt := 966) dL_law_951 (by decide) (fun h2 => ?_) (fun h2 => ?_)
    · refine X_goto (tgt := 2918) dL_law_966 (by decide) ?_
      exact XJ.lcs (lo' := [(0, .ref G.2.2.2.2.1), (1, .ref a0), (2, .ref a39), (3, .ref a63), (4, .ref a64), (5, .int (nI x0))]) ⟨rfl, rfl, rfl, rfl, rfl, rfl, trivial⟩ (hn _ hA2 hX2 hM20 ⟨_, _, hO2⟩)
    · have hle : cdEB L l s ≤ 2 := cdEB_le
      have hcd : cdEB L l s = 0 := (nI_eq (b := 0) (by omega) (by decide)).mp h2
      refine X_aload_n dL_law_954 (i := 3) rfl rfl ?_
      refine X_iconst (v := 0) dL_law_955 (by decide) ?_
      refine X_lald (i := 63) hO2.1 hA2.2.2.2.1 (show (0 : Int32) = nI 0 from rfl) (by decide) (by decide) dL_law_956 ?_
      refine XJ.top (v' := .long ((nI (la L (idx l)) : Int32).toInt64)) (by rw [hlv hcd]) ?_
      refine X_iload dL_law_957 (i := 7) rfl ?_
      refine XJ.top (v' := .int (nI (la L (idx l)))) (by rw [hv2 hcd]) ?_
      refine X_i2l dL_law_959 rfl ?_
      refine X_lcmp dL_law_960 ?_
      refine XJ.top (v' := .int 0) (congrArg Value.int (lcmp_self _)) ?_
      refine X_if_eq (tgt := 966) dL_law_961 (by decide) (fun h3 => ?_) (fun h3 => ?_)
      · refine X_goto (tgt := 2918) dL_law_966 (by decide) ?_
        exact XJ.lcs (lo' := [(0, .ref G.2.2.2.2.1), (1, .ref a0), (2, .ref a39), (3, .ref a63), (4, .ref a64), (5, .int (nI x0))]) ⟨rfl, rfl, rfl, rfl, rfl, rfl, trivial⟩ (hn _ hA2 hX2 hM20 ⟨_, _, hO2⟩)
      · exact absurd rfl h3
  · exact absurd rfl h1
set_option maxRecDepth 20000 in
theorem law_setScrap {P : PSt} {L : LSt} {pr : Nat → Nat} {O : OSt} {mp : Nat} {mk : Nat → UInt32} {T : List Nat} {a0 a39 a63 a64 : Nat} {dc tc t : Nat} {nm : String} {hh : List (Nat × Nat × Nat × Nat)} {gc2 gs2 x0 : Nat} {ou : Nat → Int64} {ov : Nat → UInt64} (hA : AD w a0 a39 a63 a64) (hIX : IX G.2.2.1 w P L pr O mp mk T dc tc) (hM : IM G.2.2.1 w P L pr O mp mk T t) (hO : OUTS G.2.2.1 w ou ov) (hIP : IP P L pr O mp mk T) (hLn : G.2.2.2.2.2.1 < 2 ^ 31) (hx0 : x0 + 7 ≤ G.2.2.2.2.2.1) (l : Int32) (c : Int32) (el_ : G.2.2.2.2.2.2 (x0 + 1) = l) (ec_ : G.2.2.2.2.2.2 (x0 + 2) = c) (hn : ∀ w', AD w' a0 a39 a63 a64 → IX G.2.2.1 w' P (if (cdSS L l c) = 0 then (ln L, pa L, po L, ch L, qt L, va_up (sc L) (idx l) (idx c), fi L, la L, op L, cs L) else L) pr O mp mk T dc tc → IM G.2.2.1 w' P (if (cdSS L l c) = 0 then (ln L, pa L, po L, ch L, qt L, va_up (sc L) (idx l) (idx c), fi L, la L, op L, cs L) else L) pr O mp mk T (cdSS L l c) → (∃ ou ov, OUTS G.2.2.1 w' ou ov) → XJ G (mLaw nm hh) 20 gc2 gs2 2918 [(0, .ref G.2.2.2.2.1), (1, .ref a0), (2, .ref a39), (3, .ref a63), (4, .ref a64), (5, .int (nI x0))] [] w' QL) : XJ G (mLaw nm hh) 20 (2 + gc2) (12 + gs2) 969 [(0, .ref G.2.2.2.2.1), (1, .ref a0), (2, .ref a39), (3, .ref a63), (4, .ref a64), (5, .int (nI x0))] [] w QL := by
  refine X_aload_n dL_law_969 (i := 1) rfl rfl ?_
  refine X_aload_n dL_law_970 (i := 0) rfl rfl ?_
  refine X_iload dL_law_971 (i := 5) rfl ?_
  refine X_iconst (v := 1) dL_law_973 (by decide) ?_
  refine X_iadd dL_law_974 ?_
  refine XJ.top (v' := .int (nI (x0 + 1))) (by rw [show (1 : Int32) = nI 1 from rfl, nI_add]) ?_
  refine X_sld rfl (by omega) hLn dL_law_975 ?_
  refine XJ.top (v' := .int l) (by rw [el_]) ?_
  refine X_aload_n dL_law_976 (i := 0) rfl rfl ?_
  refine X_iload dL_law_977 (i := 5) rfl ?_
  refine X_iconst (v := 2) dL_law_979 (by decide) ?_
  refine X_iadd dL_law_980 ?_
  refine XJ.top (v' := .int (nI (x0 + 2))) (by rw [show (2 : Int32) = nI 2 from rfl, nI_add]) ?_
  refine X_sld rfl (by omega) hLn dL_law_981 ?_
  refine XJ.top (v' := .int c) (by rw [ec_]) ?_
  refine X_aload_n dL_law_982 (i := 3) rfl rfl ?_
  refine X_callSW (gc2 := gc2) (gs2 := gs2) (k_setScrap hA hIX hM hO hIP l c) kmL_setScrap rfl lL_189 sL_setScrap rfl rfl (Nat.le_of_ble_eq_true rfl) (by decide) dL_law_983 (Nat.le_refl _) (Nat.le_refl _) (fun E w1 hq => nomatch hq.1) (fun v w1 hq => ?_)
  obtain ⟨hv, hA1, hX1, hM1, ou1, ov1, hO1, hlv⟩ := hq
  cases hv
  have hM10 := hM1
  obtain ⟨⟨en1, h9a⟩, -⟩ := hM1
  refine X_istore (i := 6) (lo' := [(6, _), (0, _), (1, _), (2, _), (3, _), (4, _), (5, _)]) dL_law_986 (Nat.le_of_ble_eq_true rfl) rfl ?_
  refine X_aload_n dL_law_988 (i := 2) rfl rfl ?_
  refine X_aload_n dL_law_989 (i := 0) rfl rfl ?_
  refine X_iload dL_law_990 (i := 5) rfl ?_
  refine X_iconst (v := 1) dL_law_992 (by decide) ?_
  refine X_iadd dL_law_993 ?_
  refine XJ.top (v' := .int (nI (x0 + 1))) (by rw [show (1 : Int32) = nI 1 from rfl, nI_add]) ?_
  refine X_sld rfl (by omega) hLn dL_law_994 ?_
  refine XJ.top (v' := .int l) (by rw [el_]) ?_
  refine X_aload_n dL_law_995 (i := 0) rfl rfl ?_
  refine X_iload dL_law_996 (i := 5) rfl ?_
  refine X_iconst (v := 2) dL_law_998 (by decide) ?_
  refine X_iadd dL_law_999 ?_
  refine XJ.top (v' := .int (nI (x0 + 2))) (by rw [show (2 : Int32) = nI 2 from rfl, nI_add]) ?_
  refine X_sld rfl (by omega) hLn dL_law_1000 ?_
  refine XJ.top (v' := .int c) (by rw [ec_]) ?_
  refine X_callV (gc2 := gc2) (gs2 := gs2) (r_setScrap hA1 hM10 hIP l c) (i := 39) h9a hA1.2.2.1 rfl kmX11_setScrap rfl lL_191 iX11_setScrap vX11_setScrap rfl rfl (Nat.le_of_ble_eq_true rfl) (by decide) dL_law_1001 (by omega) (by omega) (fun E w1 hq => by obtain ⟨_, h, _⟩ := hq; nomatch h) (fun v w1 hq => ?_)
  obtain ⟨v1, hv, hv2, hF2, hM2⟩ := hq
  cases hv
  have hA2 := hA1.fm hF2
  have hX2 := hX1.fm hF2
  have hO2 := hO1.fm hF2
  have hM20 := hM2
  obtain ⟨⟨en2, h9b⟩, -⟩ := hM2
  refine X_istore (i := 7) (lo' := [(7, _), (6, _), (0, _), (1, _), (2, _), (3, _), (4, _), (5, _)]) dL_law_1004 (Nat.le_of_ble_eq_true rfl) rfl ?_
  refine X_aload_n dL_law_1006 (i := 2) rfl rfl ?_
  refine X_callV (gc2 := gc2) (gs2 := gs2) (r_thrown hA2 h9b) (i := 39) h9b hA2.2.2.1 rfl kmX11_thrown rfl lL_152 iX11_thrown vX11_thrown rfl rfl (Nat.le_of_ble_eq_true rfl) (by decide) dL_law_1007 (by omega) (by omega) (fun E w1 hq => nomatch hq.1) (fun v w1 hq => ?_)
  have hv := hq.1
  obtain rfl := hq.2.symm
  cases hv
  refine X_iload dL_law_1010 (i := 6) rfl ?_
  refine X_icmp_eq (tgt := 1017) dL_law_1012 (by decide) (fun h1 => ?_) (fun h1 => ?_)
  · refine X_iload dL_law_1017 (i := 6) rfl ?_
    refine X_if_ne (tgt := 1034) dL_law_1019 (by decide) (fun h2 => ?_) (fun h2 => ?_)
    · refine X_goto (tgt := 2918) dL_law_1034 (by decide) ?_
      exact XJ.lcs (lo' := [(0, .ref G.2.2.2.2.1), (1, .ref a0), (2, .ref a39), (3, .ref a63), (4, .ref a64), (5, .int (nI x0))]) ⟨rfl, rfl, rfl, rfl, rfl, rfl, trivial⟩ (hn _ hA2 hX2 hM20 ⟨_, _, hO2⟩)
    · have hle : cdSS L l c ≤ 2 := cdSS_le
      have hcd : cdSS L l c = 0 := (nI_eq (b := 0) (by omega) (by decide)).mp h2
      refine X_aload_n dL_law_1022 (i := 3) rfl rfl ?_
      refine X_iconst (v := 0) dL_law_1023 (by decide) ?_
      refine X_lald (i := 63) hO2.1 hA2.2.2.2.1 (show (0 : Int32) = nI 0 from rfl) (by decide) (by decide) dL_law_1024 ?_
      refine XJ.top (v' := .long ((nI (sc L (idx l)) : Int32).toInt64)) (by rw [hlv hcd]) ?_
      refine X_iload dL_law_1025 (i := 7) rfl ?_
      refine XJ.top (v' := .int (nI (sc L (idx l)))) (by rw [hv2 hcd]) ?_
      refine X_i2l dL_law_1027 rfl ?_
      refine X_lcmp dL_law_1028 ?_
      refine XJ.top (v' := .int 0) (congrArg Value.int (lcmp_self _)) ?_
      refine X_if_eq (tgt := 1034) dL_law_1029 (by decide) (fun h3 => ?_) (fun h3 => ?_)
      · refine X_goto (tgt := 2918) dL_law_1034 (by decide) ?_
        exact XJ.lcs (lo' := [(0, .ref G.2.2.2.2.1), (1, .ref a0), (2, .ref a39), (3, .ref a63), (4, .ref a64), (5, .int (nI x0))]) ⟨rfl, rfl, rfl, rfl, rfl, rfl, trivial⟩ (hn _ hA2 hX2 hM20 ⟨_, _, hO2⟩)
      · exact absurd rfl h3
  · exact absurd rfl h1
set_option maxRecDepth 20000 in
theorem law_lastSerial {P : PSt} {L : LSt} {pr : Nat → Nat} {O : OSt} {mp : Nat} {mk : Nat → UInt32} {T : List Nat} {a0 a39 a63 a64 : Nat} {dc tc t : Nat} {nm : String} {hh : List (Nat × Nat × Nat × Nat)} {gc2 gs2 x0 : Nat} {ou : Nat → Int64} {ov : Nat → UInt64} (hA : AD w a0 a39 a63 a64) (hIX : IX G.2.2.1 w P L pr O mp mk T dc tc) (hM : IM G.2.2.1 w P L pr O mp mk T t) (hO : OUTS G.2.2.1 w ou ov) (hIP : IP P L pr O mp mk T) (hLn : G.2.2.2.2.2.1 < 2 ^ 31) (hx0 : x0 + 7 ≤ G.2.2.2.2.2.1) (l : Int32) (el_ : G.2.2.2.2.2.2 (x0 + 1) = l) (hn : ∀ w', AD w' a0 a39 a63 a64 → IX G.2.2.1 w' P L pr O mp mk T dc tc → IM G.2.2.1 w' P L pr O mp mk T (cdP l (ln L)) → (∃ ou ov, OUTS G.2.2.1 w' ou ov) → XJ G (mLaw nm hh) 20 gc2 gs2 2918 [(0, .ref G.2.2.2.2.1), (1, .ref a0), (2, .ref a39), (3, .ref a63), (4, .ref a64), (5, .int (nI x0))] [] w' QL) : XJ G (mLaw nm hh) 20 (1 + gc2) (6 + gs2) 1050 [(0, .ref G.2.2.2.2.1), (1, .ref a0), (2, .ref a39), (3, .ref a63), (4, .ref a64), (5, .int (nI x0))] [] w QL := by
  refine X_aload_n dL_law_1050 (i := 1) rfl rfl ?_
  refine X_aload_n dL_law_1051 (i := 0) rfl rfl ?_
  refine X_iload dL_law_1052 (i := 5) rfl ?_
  refine X_iconst (v := 1) dL_law_1054 (by decide) ?_
  refine X_iadd dL_law_1055 ?_
  refine XJ.top (v' := .int (nI (x0 + 1))) (by rw [show (1 : Int32) = nI 1 from rfl, nI_add]) ?_
  refine X_sld rfl (by omega) hLn dL_law_1056 ?_
  refine XJ.top (v' := .int l) (by rw [el_]) ?_
  refine X_aload_n dL_law_1057 (i := 3) rfl rfl ?_
  refine X_callSW (gc2 := gc2) (gs2 := gs2) (k_lastSerial hA hIX hM hO hIP l) kmL_lastSerial rfl lL_196 sL_lastSerial rfl rfl (Nat.le_of_ble_eq_true rfl) (by decide) dL_law_1058 (Nat.le_refl _) (Nat.le_refl _) (fun E w1 hq => nomatch hq.1) (fun v w1 hq => ?_)
  obtain ⟨hv, hA1, hX1, hM1, ou1, ov1, hO1, hlv⟩ := hq
  cases hv
  have hM10 := hM1
  obtain ⟨⟨en1, h9a⟩, -⟩ := hM1
  refine X_istore (i := 6) (lo' := [(6, _), (0, _), (1, _), (2, _), (3, _), (4, _), (5, _)]) dL_law_1061 (Nat.le_of_ble_eq_true rfl) rfl ?_
  refine X_aload_n dL_law_1063 (i := 2) rfl rfl ?_
  refine X_aload_n dL_law_1064 (i := 0) rfl rfl ?_
  refine X_iload dL_law_1065 (i := 5) rfl ?_
  refine X_iconst (v := 1) dL_law_1067 (by decide) ?_
  refine X_iadd dL_law_1068 ?_
  refine XJ.top (v' := .int (nI (x0 + 1))) (by rw [show (1 : Int32) = nI 1 from rfl, nI_add]) ?_
  refine X_sld rfl (by omega) hLn dL_law_1069 ?_
  refine XJ.top (v' := .int l) (by rw [el_]) ?_
  refine X_callV (gc2 := gc2) (gs2 := gs2) (r_lastSerial hA1 hM10 hIP l) (i := 39) h9a hA1.2.2.1 rfl kmX11_lastSerial rfl lL_198 iX11_lastSerial vX11_lastSerial rfl rfl (Nat.le_of_ble_eq_true rfl) (by decide) dL_law_1070 (by omega) (by omega) (fun E w1 hq => by obtain ⟨_, h, _⟩ := hq; nomatch h) (fun v w1 hq => ?_)
  obtain ⟨v1, hv, hv2, hF2, hM2⟩ := hq
  cases hv
  have hA2 := hA1.fm hF2
  have hX2 := hX1.fm hF2
  have hO2 := hO1.fm hF2
  have hM20 := hM2
  obtain ⟨⟨en2, h9b⟩, -⟩ := hM2
  refine X_istore (i := 7) (lo' := [(7, _), (6, _), (0, _), (1, _), (2, _), (3, _), (4, _), (5, _)]) dL_law_1073 (Nat.le_of_ble_eq_true rfl) rfl ?_
  refine X_aload_n dL_law_1075 (i := 2) rfl rfl ?_
  refine X_callV (gc2 := gc2) (gs2 := gs2) (r_thrown hA2 h9b) (i := 39) h9b hA2.2.2.1 rfl kmX11_thrown rfl lL_152 iX11_thrown vX11_thrown rfl rfl (Nat.le_of_ble_eq_true rfl) (by decide) dL_law_1076 (by omega) (by omega) (fun E w1 hq => nomatch hq.1) (fun v w1 hq => ?_)
  have hv := hq.1
  obtain rfl := hq.2.symm
  cases hv
  refine X_iload dL_law_1079 (i := 6) rfl ?_
  refine X_icmp_eq (tgt := 1086) dL_law_1081 (by decide) (fun h1 => ?_) (fun h1 => ?_)
  · refine X_iload dL_law_1086 (i := 6) rfl ?_
    refine X_if_ne (tgt := 1103) dL_law_1088 (by decide) (fun h2 => ?_) (fun h2 => ?_)
    · refine X_goto (tgt := 2918) dL_law_1103 (by decide) ?_
      exact XJ.lcs (lo' := [(0, .ref G.2.2.2.2.1), (1, .ref a0), (2, .ref a39), (3, .ref a63), (4, .ref a64), (5, .int (nI x0))]) ⟨rfl, rfl, rfl, rfl, rfl, rfl, trivial⟩ (hn _ hA2 hX2 hM20 ⟨_, _, hO2⟩)
    · have hle : cdP l (ln L) ≤ 1 := cdP_le
      have hcd : cdP l (ln L) = 0 := (nI_eq (b := 0) (by omega) (by decide)).mp h2
      refine X_aload_n dL_law_1091 (i := 3) rfl rfl ?_
      refine X_iconst (v := 0) dL_law_1092 (by decide) ?_
      refine X_lald (i := 63) hO2.1 hA2.2.2.2.1 (show (0 : Int32) = nI 0 from rfl) (by decide) (by decide) dL_law_1093 ?_
      refine XJ.top (v' := .long ((nI (la L (idx l)) : Int32).toInt64)) (by rw [hlv hcd]) ?_
      refine X_iload dL_law_1094 (i := 7) rfl ?_
      refine XJ.top (v' := .int (nI (la L (idx l)))) (by rw [hv2 hcd]) ?_
      refine X_i2l dL_law_1096 rfl ?_
      refine X_lcmp dL_law_1097 ?_
      refine XJ.top (v' := .int 0) (congrArg Value.int (lcmp_self _)) ?_
      refine X_if_eq (tgt := 1103) dL_law_1098 (by decide) (fun h3 => ?_) (fun h3 => ?_)
      · refine X_goto (tgt := 2918) dL_law_1103 (by decide) ?_
        exact XJ.lcs (lo' := [(0, .ref G.2.2.2.2.1), (1, .ref a0), (2, .ref a39), (3, .ref a63), (4, .ref a64), (5, .int (nI x0))]) ⟨rfl, rfl, rfl, rfl, rfl, rfl, trivial⟩ (hn _ hA2 hX2 hM20 ⟨_, _, hO2⟩)
      · exact absurd rfl h3
  · exact absurd rfl h1
set_option maxRecDepth 20000 in
theorem law_holds {P : PSt} {L : LSt} {pr : Nat → Nat} {O : OSt} {mp : Nat} {mk : Nat → UInt32} {T : List Nat} {a0 a39 a63 a64 : Nat} {dc tc t : Nat} {nm : String} {hh : List (Nat × Nat × Nat × Nat)} {gc2 gs2 x0 : Nat} {ou : Nat → Int64} {ov : Nat → UInt64} (hA : AD w a0 a39 a63 a64) (hIX : IX G.2.2.1 w P L pr O mp mk T dc tc) (hM : IM G.2.2.1 w P L pr O mp mk T t) (hO : OUTS G.2.2.1 w ou ov) (hIP : IP P L pr O mp mk T) (hLn : G.2.2.2.2.2.1 < 2 ^ 31) (hx0 : x0 + 7 ≤ G.2.2.2.2.2.1) (l : Int32) (s : Int32) (el_ : G.2.2.2.2.2.2 (x0 + 1) = l) (es_ : G.2.2.2.2.2.2 (x0 + 2) = s) (hn : ∀ w', AD w' a0 a39 a63 a64 → IX G.2.2.1 w' P L pr O mp mk T dc tc → IM G.2.2.1 w' P L pr O mp mk T (cdA l s (ln L)) → (∃ ou ov, OUTS G.2.2.1 w' ou ov) → XJ G (mLaw nm hh) 20 gc2 gs2 2918 [(0, .ref G.2.2.2.2.1), (1, .ref a0), (2, .ref a39), (3, .ref a63), (4, .ref a64), (5, .int (nI x0))] [] w' QL) : XJ G (mLaw nm hh) 20 (2 + gc2) (12 + gs2) 1106 [(0, .ref G.2.2.2.2.1), (1, .ref a0), (2, .ref a39), (3, .ref a63), (4, .ref a64), (5, .int (nI x0))] [] w QL := by
  refine X_aload_n dL_law_1106 (i := 1) rfl rfl ?_
  refine X_aload_n dL_law_1107 (i := 0) rfl rfl ?_
  refine X_iload dL_law_1108 (i := 5) rfl ?_
  refine X_iconst (v := 1) dL_law_1110 (by decide) ?_
  refine X_iadd dL_law_1111 ?_
  refine XJ.top (v' := .int (nI (x0 + 1))) (by rw [show (1 : Int32) = nI 1 from rfl, nI_add]) ?_
  refine X_sld rfl (by omega) hLn dL_law_1112 ?_
  refine XJ.top (v' := .int l) (by rw [el_]) ?_
  refine X_aload_n dL_law_1113 (i := 0) rfl rfl ?_
  refine X_iload dL_law_1114 (i := 5) rfl ?_
  refine X_iconst (v := 2) dL_law_1116 (by decide) ?_
  refine X_iadd dL_law_1117 ?_
  refine XJ.top (v' := .int (nI (x0 + 2))) (by rw [show (2 : Int32) = nI 2 from rfl, nI_add]) ?_
  refine X_sld rfl (by omega) hLn dL_law_1118 ?_
  refine XJ.top (v' := .int s) (by rw [es_]) ?_
  refine X_aload_n dL_law_1119 (i := 3) rfl rfl ?_
  refine X_callSW (gc2 := gc2) (gs2 := gs2) (k_holds hA hIX hM hO hIP l s) kmL_holds rfl lL_199 sL_holds rfl rfl (Nat.le_of_ble_eq_true rfl) (by decide) dL_law_1120 (Nat.le_refl _) (Nat.le_refl _) (fun E w1 hq => nomatch hq.1) (fun v w1 hq => ?_)
  obtain ⟨hv, hA1, hX1, hM1, ou1, ov1, hO1, hlv⟩ := hq
  cases hv
  have hM10 := hM1
  obtain ⟨⟨en1, h9a⟩, -⟩ := hM1
  refine X_istore (i := 6) (lo' := [(6, _), (0, _), (1, _), (2, _), (3, _), (4, _), (5, _)]) dL_law_1123 (Nat.le_of_ble_eq_true rfl) rfl ?_
  refine X_aload_n dL_law_1125 (i := 2) rfl rfl ?_
  refine X_aload_n dL_law_1126 (i := 0) rfl rfl ?_
  refine X_iload dL_law_1127 (i := 5) rfl ?_
  refine X_iconst (v := 1) dL_law_1129 (by decide) ?_
  refine X_iadd dL_law_1130 ?_
  refine XJ.top (v' := .int (nI (x0 + 1))) (by rw [show (1 : Int32) = nI 1 from rfl, nI_add]) ?_
  refine X_sld rfl (by omega) hLn dL_law_1131 ?_
  refine XJ.top (v' := .int l) (by rw [el_]) ?_
  refine X_aload_n dL_law_1132 (i := 0) rfl rfl ?_
  refine X_iload dL_law_1133 (i := 5) rfl ?_
  refine X_iconst (v := 2) dL_law_1135 (by decide) ?_
  refine X_iadd dL_law_1136 ?_
  refine XJ.top (v' := .int (nI (x0 + 2))) (by rw [show (2 : Int32) = nI 2 from rfl, nI_add]) ?_
  refine X_sld rfl (by omega) hLn dL_law_1137 ?_
  refine XJ.top (v' := .int s) (by rw [es_]) ?_
  refine X_callV (gc2 := gc2) (gs2 := gs2) (r_holds hA1 hM10 hIP l s) (i := 39) h9a hA1.2.2.1 rfl kmX11_holds rfl lL_201 iX11_holds vX11_holds rfl rfl (Nat.le_of_ble_eq_true rfl) (by decide) dL_law_1138 (by omega) (by omega) (fun E w1 hq => by obtain ⟨_, h, _⟩ := hq; nomatch h) (fun v w1 hq => ?_)
  obtain ⟨v1, hv, hv2, hF2, hM2⟩ := hq
  cases hv
  have hA2 := hA1.fm hF2
  have hX2 := hX1.fm hF2
  have hO2 := hO1.fm hF2
  have hM20 := hM2
  obtain ⟨⟨en2, h9b⟩, -⟩ := hM2
  refine X_istore (i := 7) (lo' := [(7, _), (6, _), (0, _), (1, _), (2, _), (3, _), (4, _), (5, _)]) dL_law_1141 (Nat.le_of_ble_eq_true rfl) rfl ?_
  refine X_aload_n dL_law_1143 (i := 2) rfl rfl ?_
  refine X_callV (gc2 := gc2) (gs2 := gs2) (r_thrown hA2 h9b) (i := 39) h9b hA2.2.2.1 rfl kmX11_thrown rfl lL_152 iX11_thrown vX11_thrown rfl rfl (Nat.le_of_ble_eq_true rfl) (by decide) dL_law_1144 (by omega) (by omega) (fun E w1 hq => nomatch hq.1) (fun v w1 hq => ?_)
  have hv := hq.1
  obtain rfl := hq.2.symm
  cases hv
  refine X_iload dL_law_1147 (i := 6) rfl ?_
  refine X_icmp_eq (tgt := 1154) dL_law_1149 (by decide) (fun h1 => ?_) (fun h1 => ?_)
  · refine X_iload dL_law_1154 (i := 6) rfl ?_
    refine X_if_ne (tgt := 1178) dL_law_1156 (by decide) (fun h2 => ?_) (fun h2 => ?_)
    · refine X_goto (tgt := 2918) dL_law_1178 (by decide) ?_
      exact XJ.lcs (lo' := [(0, .ref G.2.2.2.2.1), (1, .ref a0), (2, .ref a39), (3, .ref a63), (4, .ref a64), (5, .int (nI x0))]) ⟨rfl, rfl, rfl, rfl, rfl, rfl, trivial⟩ (hn _ hA2 hX2 hM20 ⟨_, _, hO2⟩)
    · have hle : cdA l s (ln L) ≤ 2 := cdA_le
      have hcd : cdA l s (ln L) = 0 := (nI_eq (b := 0) (by omega) (by decide)).mp h2
      refine X_aload_n dL_law_1159 (i := 3) rfl rfl ?_
      refine X_iconst (v := 0) dL_law_1160 (by decide) ?_
      refine X_lald (i := 63) hO2.1 hA2.2.2.2.1 (show (0 : Int32) = nI 0 from rfl) (by decide) (by decide) dL_law_1161 ?_
      refine XJ.top (v' := .long (bL (hld L pr (idx s) (idx l)))) (by rw [hlv hcd]) ?_
      refine X_iload dL_law_1162 (i := 7) rfl ?_
      refine XJ.top (v' := .int (bI (hld L pr (idx s) (idx l)))) (by rw [hv2 hcd]) ?_
      refine X_if_eq (tgt := 1171) dL_law_1164 (by decide) (fun h4 => ?_) (fun h4 => ?_)
      · have hbb := bI_eq h4
        refine X_lconst (v := 0) dL_law_1171 rfl ?_
        refine X_lcmp dL_law_1172 ?_
        refine XJ.top (v' := .int 0) (by rw [hbb]; exact congrArg Value.int (lcmp_self _)) ?_
        refine X_if_eq (tgt := 1178) dL_law_1173 (by decide) (fun h3 => ?_) (fun h3 => ?_)
        · refine X_goto (tgt := 2918) dL_law_1178 (by decide) ?_
          exact XJ.lcs (lo' := [(0, .ref G.2.2.2.2.1), (1, .ref a0), (2, .ref a39), (3, .ref a63), (4, .ref a64), (5, .int (nI x0))]) ⟨rfl, rfl, rfl, rfl, rfl, rfl, trivial⟩ (hn _ hA2 hX2 hM20 ⟨_, _, hO2⟩)
        · exact absurd rfl h3
      · have hbb := bI_ne h4
        refine X_lconst (v := 1) dL_law_1167 rfl ?_
        refine X_goto (tgt := 1172) dL_law_1168 (by decide) ?_
        refine X_lcmp dL_law_1172 ?_
        refine XJ.top (v' := .int 0) (by rw [hbb]; exact congrArg Value.int (lcmp_self _)) ?_
        refine X_if_eq (tgt := 1178) dL_law_1173 (by decide) (fun h3 => ?_) (fun h3 => ?_)
        · refine X_goto (tgt := 2918) dL_law_1178 (by decide) ?_
          exact XJ.lcs (lo' := [(0, .ref G.2.2.2.2.1), (1, .ref a0), (2, .ref a39), (3, .ref a63), (4, .ref a64), (5, .int (nI x0))]) ⟨rfl, rfl, rfl, rfl, rfl, rfl, trivial⟩ (hn _ hA2 hX2 hM20 ⟨_, _, hO2⟩)
        · exact absurd rfl h3
  · exact absurd rfl h1
set_option maxRecDepth 20000 in
theorem law_setChoice {P : PSt} {L : LSt} {pr : Nat → Nat} {O : OSt} {mp : Nat} {mk : Nat → UInt32} {T : List Nat} {a0 a39 a63 a64 : Nat} {dc tc t : Nat} {nm : String} {hh : List (Nat × Nat × Nat × Nat)} {gc2 gs2 x0 : Nat} {ou : Nat → Int64} {ov : Nat → UInt64} (hA : AD w a0 a39 a63 a64) (hIX : IX G.2.2.1 w P L pr O mp mk T dc tc) (hM : IM G.2.2.1 w P L pr O mp mk T t) (hO : OUTS G.2.2.1 w ou ov) (hIP : IP P L pr O mp mk T) (hLn : G.2.2.2.2.2.1 < 2 ^ 31) (hx0 : x0 + 7 ≤ G.2.2.2.2.2.1) (l : Int32) (c : Int32) (el_ : G.2.2.2.2.2.2 (x0 + 1) = l) (ec_ : G.2.2.2.2.2.2 (x0 + 2) = c) (hn : ∀ w', AD w' a0 a39 a63 a64 → IX G.2.2.1 w' P L (if (cdSC l c) = 0 then va_up pr (idx l) (idx c) else pr) O mp mk T dc tc → IM G.2.2.1 w' P L (if (cdSC l c) = 0 then va_up pr (idx l) (idx c) else pr) O mp mk T (cdSC l c) → (∃ ou ov, OUTS G.2.2.1 w' ou ov) → XJ G (mLaw nm hh) 20 gc2 gs2 2918 [(0, .ref G.2.2.2.2.1), (1, .ref a0), (2, .ref a39), (3, .ref a63), (4, .ref a64), (5, .int (nI x0))] [] w' QL) : XJ G (mLaw nm hh) 20 (2 + gc2) (12 + gs2) 1181 [(0, .ref G.2.2.2.2.1), (1, .ref a0), (2, .ref a39), (3, .ref a63), (4, .ref a64), (5, .int (nI x0))] [] w QL := by
  refine X_aload_n dL_law_1181 (i := 1) rfl rfl ?_
  refine X_aload_n dL_law_1182 (i := 0) rfl rfl ?_
  refine X_iload dL_law_1183 (i := 5) rfl ?_
  refine X_iconst (v := 1) dL_law_1185 (by decide) ?_
  refine X_iadd dL_law_1186 ?_
  refine XJ.top (v' := .int (nI (x0 + 1))) (by rw [show (1 : Int32) = nI 1 from rfl, nI_add]) ?_
  refine X_sld rfl (by omega) hLn dL_law_1187 ?_
  refine XJ.top (v' := .int l) (by rw [el_]) ?_
  refine X_aload_n dL_law_1188 (i := 0) rfl rfl ?_
  refine X_iload dL_law_1189 (i := 5) rfl ?_
  refine X_iconst (v := 2) dL_law_1191 (by decide) ?_
  refine X_iadd dL_law_1192 ?_
  refine XJ.top (v' := .int (nI (x0 + 2))) (by rw [show (2 : Int32) = nI 2 from rfl, nI_add]) ?_
  refine X_sld rfl (by omega) hLn dL_law_1193 ?_
  refine XJ.top (v' := .int c) (by rw [ec_]) ?_
  refine X_aload_n dL_law_1194 (i := 3) rfl rfl ?_
  refine X_callSW (gc2 := gc2) (gs2 := gs2) (k_setChoice hA hIX hM hO hIP l c) kmL_setChoice rfl lL_202 sL_setChoice rfl rfl (Nat.le_of_ble_eq_true rfl) (by decide) dL_law_1195 (Nat.le_refl _) (Nat.le_refl _) (fun E w1 hq => nomatch hq.1) (fun v w1 hq => ?_)
  obtain ⟨hv, hA1, hX1, hM1, ou1, ov1, hO1, hlv⟩ := hq
  cases hv
  have hM10 := hM1
  obtain ⟨⟨en1, h9a⟩, -⟩ := hM1
  refine X_istore (i := 6) (lo' := [(6, _), (0, _), (1, _), (2, _), (3, _), (4, _), (5, _)]) dL_law_1198 (Nat.le_of_ble_eq_true rfl) rfl ?_
  refine X_aload_n dL_law_1200 (i := 2) rfl rfl ?_
  refine X_aload_n dL_law_1201 (i := 0) rfl rfl ?_
  refine X_iload dL_law_1202 (i := 5) rfl ?_
  refine X_iconst (v := 1) dL_law_1204 (by decide) ?_
  refine X_iadd dL_law_1205 ?_
  refine XJ.top (v' := .int (nI (x0 + 1))) (by rw [show (1 : Int32) = nI 1 from rfl, nI_add]) ?_
  refine X_sld rfl (by omega) hLn dL_law_1206 ?_
  refine XJ.top (v' := .int l) (by rw [el_]) ?_
  refine X_aload_n dL_law_1207 (i := 0) rfl rfl ?_
  refine X_iload dL_law_1208 (i := 5) rfl ?_
  refine X_iconst (v := 2) dL_law_1210 (by decide) ?_
  refine X_iadd dL_law_1211 ?_
  refine XJ.top (v' := .int (nI (x0 + 2))) (by rw [show (2 : Int32) = nI 2 from rfl, nI_add]) ?_
  refine X_sld rfl (by omega) hLn dL_law_1212 ?_
  refine XJ.top (v' := .int c) (by rw [ec_]) ?_
  refine X_callV (gc2 := gc2) (gs2 := gs2) (r_setChoice hA1 hM10 hIP l c) (i := 39) h9a hA1.2.2.1 rfl kmX11_setChoice rfl lL_204 iX11_setChoice vX11_setChoice rfl rfl (Nat.le_of_ble_eq_true rfl) (by decide) dL_law_1213 (by omega) (by omega) (fun E w1 hq => by obtain ⟨_, h, _⟩ := hq; nomatch h) (fun v w1 hq => ?_)
  obtain ⟨v1, hv, hv2, hF2, hM2⟩ := hq
  cases hv
  have hA2 := hA1.fm hF2
  have hX2 := hX1.fm hF2
  have hO2 := hO1.fm hF2
  have hM20 := hM2
  obtain ⟨⟨en2, h9b⟩, -⟩ := hM2
  refine X_istore (i := 7) (lo' := [(7, _), (6, _), (0, _), (1, _), (2, _), (3, _), (4, _), (5, _)]) dL_law_1216 (Nat.le_of_ble_eq_true rfl) rfl ?_
  refine X_aload_n dL_law_1218 (i := 2) rfl rfl ?_
  refine X_callV (gc2 := gc2) (gs2 := gs2) (r_thrown hA2 h9b) (i := 39) h9b hA2.2.2.1 rfl kmX11_thrown rfl lL_152 iX11_thrown vX11_thrown rfl rfl (Nat.le_of_ble_eq_true rfl) (by decide) dL_law_1219 (by omega) (by omega) (fun E w1 hq => nomatch hq.1) (fun v w1 hq => ?_)
  have hv := hq.1
  obtain rfl := hq.2.symm
  cases hv
  refine X_iload dL_law_1222 (i := 6) rfl ?_
  refine X_icmp_eq (tgt := 1229) dL_law_1224 (by decide) (fun h1 => ?_) (fun h1 => ?_)
  · refine X_iload dL_law_1229 (i := 6) rfl ?_
    refine X_if_ne (tgt := 1246) dL_law_1231 (by decide) (fun h2 => ?_) (fun h2 => ?_)
    · refine X_goto (tgt := 2918) dL_law_1246 (by decide) ?_
      exact XJ.lcs (lo' := [(0, .ref G.2.2.2.2.1), (1, .ref a0), (2, .ref a39), (3, .ref a63), (4, .ref a64), (5, .int (nI x0))]) ⟨rfl, rfl, rfl, rfl, rfl, rfl, trivial⟩ (hn _ hA2 hX2 hM20 ⟨_, _, hO2⟩)
    · have hle : cdSC l c ≤ 2 := cdSC_le
      have hcd : cdSC l c = 0 := (nI_eq (b := 0) (by omega) (by decide)).mp h2
      refine X_aload_n dL_law_1234 (i := 3) rfl rfl ?_
      refine X_iconst (v := 0) dL_law_1235 (by decide) ?_
      refine X_lald (i := 63) hO2.1 hA2.2.2.2.1 (show (0 : Int32) = nI 0 from rfl) (by decide) (by decide) dL_law_1236 ?_
      refine XJ.top (v' := .long ((nI (pr (idx l)) : Int32).toInt64)) (by rw [hlv hcd]) ?_
      refine X_iload dL_law_1237 (i := 7) rfl ?_
      refine XJ.top (v' := .int (nI (pr (idx l)))) (by rw [hv2 hcd]) ?_
      refine X_i2l dL_law_1239 rfl ?_
      refine X_lcmp dL_law_1240 ?_
      refine XJ.top (v' := .int 0) (congrArg Value.int (lcmp_self _)) ?_
      refine X_if_eq (tgt := 1246) dL_law_1241 (by decide) (fun h3 => ?_) (fun h3 => ?_)
      · refine X_goto (tgt := 2918) dL_law_1246 (by decide) ?_
        exact XJ.lcs (lo' := [(0, .ref G.2.2.2.2.1), (1, .ref a0), (2, .ref a39), (3, .ref a63), (4, .ref a64), (5, .int (nI x0))]) ⟨rfl, rfl, rfl, rfl, rfl, rfl, trivial⟩ (hn _ hA2 hX2 hM20 ⟨_, _, hO2⟩)
      · exact absurd rfl h3
  · exact absurd rfl h1
set_option maxRecDepth 20000 in
theorem law_choice {P : PSt} {L : LSt} {pr : Nat → Nat} {O : OSt} {mp : Nat} {mk : Nat → UInt32} {T : List Nat} {a0 a39 a63 a64 : Nat} {dc tc t : Nat} {nm : String} {hh : List (Nat × Nat × Nat × Nat)} {gc2 gs2 x0 : Nat} {ou : Nat → Int64} {ov : Nat → UInt64} (hA : AD w a0 a39 a63 a64) (hIX : IX G.2.2.1 w P L pr O mp mk T dc tc) (hM : IM G.2.2.1 w P L pr O mp mk T t) (hO : OUTS G.2.2.1 w ou ov) (hIP : IP P L pr O mp mk T) (hLn : G.2.2.2.2.2.1 < 2 ^ 31) (hx0 : x0 + 7 ≤ G.2.2.2.2.2.1) (l : Int32) (el_ : G.2.2.2.2.2.2 (x0 + 1) = l) (hn : ∀ w', AD w' a0 a39 a63 a64 → IX G.2.2.1 w' P L pr O mp mk T dc tc → IM G.2.2.1 w' P L pr O mp mk T (cdC l) → (∃ ou ov, OUTS G.2.2.1 w' ou ov) → XJ G (mLaw nm hh) 20 gc2 gs2 2918 [(0, .ref G.2.2.2.2.1), (1, .ref a0), (2, .ref a39), (3, .ref a63), (4, .ref a64), (5, .int (nI x0))] [] w' QL) : XJ G (mLaw nm hh) 20 (1 + gc2) (6 + gs2) 1249 [(0, .ref G.2.2.2.2.1), (1, .ref a0), (2, .ref a39), (3, .ref a63), (4, .ref a64), (5, .int (nI x0))] [] w QL := by
  refine X_aload_n dL_law_1249 (i := 1) rfl rfl ?_
  refine X_aload_n dL_law_1250 (i := 0) rfl rfl ?_
  refine X_iload dL_law_1251 (i := 5) rfl ?_
  refine X_iconst (v := 1) dL_law_1253 (by decide) ?_
  refine X_iadd dL_law_1254 ?_
  refine XJ.top (v' := .int (nI (x0 + 1))) (by rw [show (1 : Int32) = nI 1 from rfl, nI_add]) ?_
  refine X_sld rfl (by omega) hLn dL_law_1255 ?_
  refine XJ.top (v' := .int l) (by rw [el_]) ?_
  refine X_aload_n dL_law_1256 (i := 3) rfl rfl ?_
  refine X_callSW (gc2 := gc2) (gs2 := gs2) (k_choice hA hIX hM hO hIP l) kmL_choice rfl lL_205 sL_choice rfl rfl (Nat.le_of_ble_eq_true rfl) (by decide) dL_law_1257 (Nat.le_refl _) (Nat.le_refl _) (fun E w1 hq => nomatch hq.1) (fun v w1 hq => ?_)
  obtain ⟨hv, hA1, hX1, hM1, ou1, ov1, hO1, hlv⟩ := hq
  cases hv
  have hM10 := hM1
  obtain ⟨⟨en1, h9a⟩, -⟩ := hM1
  refine X_istore (i := 6) (lo' := [(6, _), (0, _), (1, _), (2, _), (3, _), (4, _), (5, _)]) dL_law_1260 (Nat.le_of_ble_eq_true rfl) rfl ?_
  refine X_aload_n dL_law_1262 (i := 2) rfl rfl ?_
  refine X_aload_n dL_law_1263 (i := 0) rfl rfl ?_
  refine X_iload dL_law_1264 (i := 5) rfl ?_
  refine X_iconst (v := 1) dL_law_1266 (by decide) ?_
  refine X_iadd dL_law_1267 ?_
  refine XJ.top (v' := .int (nI (x0 + 1))) (by rw [show (1 : Int32) = nI 1 from rfl, nI_add]) ?_
  refine X_sld rfl (by omega) hLn dL_law_1268 ?_
  refine XJ.top (v' := .int l) (by rw [el_]) ?_
  refine X_callV (gc2 := gc2) (gs2 := gs2) (r_choice hA1 hM10 hIP l) (i := 39) h9a hA1.2.2.1 rfl kmX11_choice rfl lL_207 iX11_choice vX11_choice rfl rfl (Nat.le_of_ble_eq_true rfl) (by decide) dL_law_1269 (by omega) (by omega) (fun E w1 hq => by obtain ⟨_, h, _⟩ := hq; nomatch h) (fun v w1 hq => ?_)
  obtain ⟨v1, hv, hv2, hF2, hM2⟩ := hq
  cases hv
  have hA2 := hA1.fm hF2
  have hX2 := hX1.fm hF2
  have hO2 := hO1.fm hF2
  have hM20 := hM2
  obtain ⟨⟨en2, h9b⟩, -⟩ := hM2
  refine X_istore (i := 7) (lo' := [(7, _), (6, _), (0, _), (1, _), (2, _), (3, _), (4, _), (5, _)]) dL_law_1272 (Nat.le_of_ble_eq_true rfl) rfl ?_
  refine X_aload_n dL_law_1274 (i := 2) rfl rfl ?_
  refine X_callV (gc2 := gc2) (gs2 := gs2) (r_thrown hA2 h9b) (i := 39) h9b hA2.2.2.1 rfl kmX11_thrown rfl lL_152 iX11_thrown vX11_thrown rfl rfl (Nat.le_of_ble_eq_true rfl) (by decide) dL_law_1275 (by omega) (by omega) (fun E w1 hq => nomatch hq.1) (fun v w1 hq => ?_)
  have hv := hq.1
  obtain rfl := hq.2.symm
  cases hv
  refine X_iload dL_law_1278 (i := 6) rfl ?_
  refine X_icmp_eq (tgt := 1285) dL_law_1280 (by decide) (fun h1 => ?_) (fun h1 => ?_)
  · refine X_iload dL_law_1285 (i := 6) rfl ?_
    refine X_if_ne (tgt := 1302) dL_law_1287 (by decide) (fun h2 => ?_) (fun h2 => ?_)
    · refine X_goto (tgt := 2918) dL_law_1302 (by decide) ?_
      exact XJ.lcs (lo' := [(0, .ref G.2.2.2.2.1), (1, .ref a0), (2, .ref a39), (3, .ref a63), (4, .ref a64), (5, .int (nI x0))]) ⟨rfl, rfl, rfl, rfl, rfl, rfl, trivial⟩ (hn _ hA2 hX2 hM20 ⟨_, _, hO2⟩)
    · have hle : cdC l ≤ 1 := cdC_le
      have hcd : cdC l = 0 := (nI_eq (b := 0) (by omega) (by decide)).mp h2
      refine X_aload_n dL_law_1290 (i := 3) rfl rfl ?_
      refine X_iconst (v := 0) dL_law_1291 (by decide) ?_
      refine X_lald (i := 63) hO2.1 hA2.2.2.2.1 (show (0 : Int32) = nI 0 from rfl) (by decide) (by decide) dL_law_1292 ?_
      refine XJ.top (v' := .long ((nI (pr (idx l)) : Int32).toInt64)) (by rw [hlv hcd]) ?_
      refine X_iload dL_law_1293 (i := 7) rfl ?_
      refine XJ.top (v' := .int (nI (pr (idx l)))) (by rw [hv2 hcd]) ?_
      refine X_i2l dL_law_1295 rfl ?_
      refine X_lcmp dL_law_1296 ?_
      refine XJ.top (v' := .int 0) (congrArg Value.int (lcmp_self _)) ?_
      refine X_if_eq (tgt := 1302) dL_law_1297 (by decide) (fun h3 => ?_) (fun h3 => ?_)
      · refine X_goto (tgt := 2918) dL_law_1302 (by decide) ?_
        exact XJ.lcs (lo' := [(0, .ref G.2.2.2.2.1), (1, .ref a0), (2, .ref a39), (3, .ref a63), (4, .ref a64), (5, .int (nI x0))]) ⟨rfl, rfl, rfl, rfl, rfl, rfl, trivial⟩ (hn _ hA2 hX2 hM20 ⟨_, _, hO2⟩)
      · exact absurd rfl h3
  · exact absurd rfl h1
set_option maxRecDepth 20000 in
theorem law_listSize {P : PSt} {L : LSt} {pr : Nat → Nat} {O : OSt} {mp : Nat} {mk : Nat → UInt32} {T : List Nat} {a0 a39 a63 a64 : Nat} {dc tc t : Nat} {nm : String} {hh : List (Nat × Nat × Nat × Nat)} {gc2 gs2 x0 : Nat} {ou : Nat → Int64} {ov : Nat → UInt64} (hA : AD w a0 a39 a63 a64) (hIX : IX G.2.2.1 w P L pr O mp mk T dc tc) (hM : IM G.2.2.1 w P L pr O mp mk T t) (hO : OUTS G.2.2.1 w ou ov) (hIP : IP P L pr O mp mk T) (hLn : G.2.2.2.2.2.1 < 2 ^ 31) (hx0 : x0 + 7 ≤ G.2.2.2.2.2.1) (a : Int32) (s : Int32) (ea_ : G.2.2.2.2.2.2 (x0 + 1) = a) (es_ : G.2.2.2.2.2.2 (x0 + 2) = s) (hn : ∀ w', AD w' a0 a39 a63 a64 → IX G.2.2.1 w' P L pr O mp mk T (if cdA a s P.1 = 0 then capL 0 dc (listN P.2.1 L pr (idx s) 5 (idx a) 1).length else dc) tc → IM G.2.2.1 w' P L pr O mp mk T (cdA a s P.1) → (∃ ou ov, OUTS G.2.2.1 w' ou ov) → XJ G (mLaw nm hh) 20 gc2 gs2 2918 [(0, .ref G.2.2.2.2.1), (1, .ref a0), (2, .ref a39), (3, .ref a63), (4, .ref a64), (5, .int (nI x0))] [] w' QL) : XJ G (mLaw nm hh) 20 (2 + ((if cdA a s P.1 = 0 then capL 0 dc (listN P.2.1 L pr (idx s) 5 (idx a) 1).length else dc) - dc) + gc2) (12 + 4 * ((if cdA a s P.1 = 0 then capL 0 dc (listN P.2.1 L pr (idx s) 5 (idx a) 1).length else dc) - dc) + gs2) 1305 [(0, .ref G.2.2.2.2.1), (1, .ref a0), (2, .ref a39), (3, .ref a63), (4, .ref a64), (5, .int (nI x0))] [] w QL := by
  refine X_aload_n dL_law_1305 (i := 1) rfl rfl ?_
  refine X_aload_n dL_law_1306 (i := 0) rfl rfl ?_
  refine X_iload dL_law_1307 (i := 5) rfl ?_
  refine X_iconst (v := 1) dL_law_1309 (by decide) ?_
  refine X_iadd dL_law_1310 ?_
  refine XJ.top (v' := .int (nI (x0 + 1))) (by rw [show (1 : Int32) = nI 1 from rfl, nI_add]) ?_
  refine X_sld rfl (by omega) hLn dL_law_1311 ?_
  refine XJ.top (v' := .int a) (by rw [ea_]) ?_
  refine X_aload_n dL_law_1312 (i := 0) rfl rfl ?_
  refine X_iload dL_law_1313 (i := 5) rfl ?_
  refine X_iconst (v := 2) dL_law_1315 (by decide) ?_
  refine X_iadd dL_law_1316 ?_
  refine XJ.top (v' := .int (nI (x0 + 2))) (by rw [show (2 : Int32) = nI 2 from rfl, nI_add]) ?_
  refine X_sld rfl (by omega) hLn dL_law_1317 ?_
  refine XJ.top (v' := .int s) (by rw [es_]) ?_
  refine X_aload_n dL_law_1318 (i := 3) rfl rfl ?_
  refine X_callSW (gc2 := gc2) (gs2 := gs2) (k_listSize hA hIX hM hO hIP a s) kmL_listSize rfl lL_208 sL_listSize rfl rfl (Nat.le_of_ble_eq_true rfl) (by decide) dL_law_1319 (Nat.le_refl _) (Nat.le_refl _) (fun E w1 hq => nomatch hq.1) (fun v w1 hq => ?_)
  obtain ⟨hv, hA1, hX1, hM1, ou1, ov1, hO1, hlv⟩ := hq
  cases hv
  have hM10 := hM1
  obtain ⟨⟨en1, h9a⟩, -⟩ := hM1
  refine X_istore (i := 6) (lo' := [(6, _), (0, _), (1, _), (2, _), (3, _), (4, _), (5, _)]) dL_law_1322 (Nat.le_of_ble_eq_true rfl) rfl ?_
  refine X_aload_n dL_law_1324 (i := 2) rfl rfl ?_
  refine X_aload_n dL_law_1325 (i := 0) rfl rfl ?_
  refine X_iload dL_law_1326 (i := 5) rfl ?_
  refine X_iconst (v := 1) dL_law_1328 (by decide) ?_
  refine X_iadd dL_law_1329 ?_
  refine XJ.top (v' := .int (nI (x0 + 1))) (by rw [show (1 : Int32) = nI 1 from rfl, nI_add]) ?_
  refine X_sld rfl (by omega) hLn dL_law_1330 ?_
  refine XJ.top (v' := .int a) (by rw [ea_]) ?_
  refine X_aload_n dL_law_1331 (i := 0) rfl rfl ?_
  refine X_iload dL_law_1332 (i := 5) rfl ?_
  refine X_iconst (v := 2) dL_law_1334 (by decide) ?_
  refine X_iadd dL_law_1335 ?_
  refine XJ.top (v' := .int (nI (x0 + 2))) (by rw [show (2 : Int32) = nI 2 from rfl, nI_add]) ?_
  refine X_sld rfl (by omega) hLn dL_law_1336 ?_
  refine XJ.top (v' := .int s) (by rw [es_]) ?_
  refine X_callV (gc2 := gc2) (gs2 := gs2) (r_listSize hA1 hM10 hIP a s) (i := 39) h9a hA1.2.2.1 rfl kmX11_listSize rfl lL_210 iX11_listSize vX11_listSize rfl rfl (Nat.le_of_ble_eq_true rfl) (by decide) dL_law_1337 (by omega) (by omega) (fun E w1 hq => by obtain ⟨_, h, _⟩ := hq; nomatch h) (fun v w1 hq => ?_)
  obtain ⟨v1, hv, hv2, hF2, hM2⟩ := hq
  cases hv
  have hA2 := hA1.fm hF2
  have hX2 := hX1.fm hF2
  have hO2 := hO1.fm hF2
  have hM20 := hM2
  obtain ⟨⟨en2, h9b⟩, -⟩ := hM2
  refine X_istore (i := 7) (lo' := [(7, _), (6, _), (0, _), (1, _), (2, _), (3, _), (4, _), (5, _)]) dL_law_1340 (Nat.le_of_ble_eq_true rfl) rfl ?_
  refine X_aload_n dL_law_1342 (i := 2) rfl rfl ?_
  refine X_callV (gc2 := gc2) (gs2 := gs2) (r_thrown hA2 h9b) (i := 39) h9b hA2.2.2.1 rfl kmX11_thrown rfl lL_152 iX11_thrown vX11_thrown rfl rfl (Nat.le_of_ble_eq_true rfl) (by decide) dL_law_1343 (by omega) (by omega) (fun E w1 hq => nomatch hq.1) (fun v w1 hq => ?_)
  have hv := hq.1
  obtain rfl := hq.2.symm
  cases hv
  refine X_iload dL_law_1346 (i := 6) rfl ?_
  refine X_icmp_eq (tgt := 1353) dL_law_1348 (by decide) (fun h1 => ?_) (fun h1 => ?_)
  · refine X_iload dL_law_1353 (i := 6) rfl ?_
    refine X_if_ne (tgt := 1370) dL_law_1355 (by decide) (fun h2 => ?_) (fun h2 => ?_)
    · refine X_goto (tgt := 2918) dL_law_1370 (by decide) ?_
      exact XJ.lcs (lo' := [(0, .ref G.2.2.2.2.1), (1, .ref a0), (2, .ref a39), (3, .ref a63), (4, .ref a64), (5, .int (nI x0))]) ⟨rfl, rfl, rfl, rfl, rfl, rfl, trivial⟩ (hn _ hA2 hX2 hM20 ⟨_, _, hO2⟩)
    · have hle : cdA a s P.1 ≤ 2 := cdA_le
      have hcd : cdA a s P.1 = 0 := (nI_eq (b := 0) (by omega) (by decide)).mp h2
      refine X_aload_n dL_law_1358 (i := 3) rfl rfl ?_
      refine X_iconst (v := 0) dL_law_1359 (by decide) ?_
      refine X_lald (i := 63) hO2.1 hA2.2.2.2.1 (show (0 : Int32) = nI 0 from rfl) (by decide) (by decide) dL_law_1360 ?_
      refine XJ.top (v' := .long ((nI (listN P.2.1 L pr (idx s) 5 (idx a) 1).length : Int32).toInt64)) (by rw [hlv hcd]) ?_
      refine X_iload dL_law_1361 (i := 7) rfl ?_
      refine XJ.top (v' := .int (nI (listN P.2.1 L pr (idx s) 5 (idx a) 1).length)) (by rw [hv2 hcd]) ?_
      refine X_i2l dL_law_1363 rfl ?_
      refine X_lcmp dL_law_1364 ?_
      refine XJ.top (v' := .int 0) (congrArg Value.int (lcmp_self _)) ?_
      refine X_if_eq (tgt := 1370) dL_law_1365 (by decide) (fun h3 => ?_) (fun h3 => ?_)
      · refine X_goto (tgt := 2918) dL_law_1370 (by decide) ?_
        exact XJ.lcs (lo' := [(0, .ref G.2.2.2.2.1), (1, .ref a0), (2, .ref a39), (3, .ref a63), (4, .ref a64), (5, .int (nI x0))]) ⟨rfl, rfl, rfl, rfl, rfl, rfl, trivial⟩ (hn _ hA2 hX2 hM20 ⟨_, _, hO2⟩)
      · exact absurd rfl h3
  · exact absurd rfl h1
set_option maxRecDepth 20000 in
theorem law_listPart {P : PSt} {L : LSt} {pr : Nat → Nat} {O : OSt} {mp : Nat} {mk : Nat → UInt32} {T : List Nat} {a0 a39 a63 a64 : Nat} {dc tc t : Nat} {nm : String} {hh : List (Nat × Nat × Nat × Nat)} {gc2 gs2 x0 : Nat} {ou : Nat → Int64} {ov : Nat → UInt64} (hA : AD w a0 a39 a63 a64) (hIX : IX G.2.2.1 w P L pr O mp mk T dc tc) (hM : IM G.2.2.1 w P L pr O mp mk T t) (hO : OUTS G.2.2.1 w ou ov) (hIP : IP P L pr O mp mk T) (hLn : G.2.2.2.2.2.1 < 2 ^ 31) (hx0 : x0 + 7 ≤ G.2.2.2.2.2.1) (a : Int32) (s : Int32) (i : Int32) (ea_ : G.2.2.2.2.2.2 (x0 + 1) = a) (es_ : G.2.2.2.2.2.2 (x0 + 2) = s) (ei_ : G.2.2.2.2.2.2 (x0 + 3) = i) (hn : ∀ w', AD w' a0 a39 a63 a64 → IX G.2.2.1 w' P L pr O mp mk T (if cdA a s P.1 = 0 then capL 0 dc (listN P.2.1 L pr (idx s) 5 (idx a) 1).length else dc) tc → IM G.2.2.1 w' P L pr O mp mk T (cdLP a s i P.1 (listN P.2.1 L pr (idx s) 5 (idx a) 1).length) → (∃ ou ov, OUTS G.2.2.1 w' ou ov) → XJ G (mLaw nm hh) 20 gc2 gs2 2918 [(0, .ref G.2.2.2.2.1), (1, .ref a0), (2, .ref a39), (3, .ref a63), (4, .ref a64), (5, .int (nI x0))] [] w' QL) : XJ G (mLaw nm hh) 20 (3 + ((if cdA a s P.1 = 0 then capL 0 dc (listN P.2.1 L pr (idx s) 5 (idx a) 1).length else dc) - dc) + gc2) (18 + 4 * ((if cdA a s P.1 = 0 then capL 0 dc (listN P.2.1 L pr (idx s) 5 (idx a) 1).length else dc) - dc) + gs2) 1373 [(0, .ref G.2.2.2.2.1), (1, .ref a0), (2, .ref a39), (3, .ref a63), (4, .ref a64), (5, .int (nI x0))] [] w QL := by
  refine X_aload_n dL_law_1373 (i := 1) rfl rfl ?_
  refine X_aload_n dL_law_1374 (i := 0) rfl rfl ?_
  refine X_iload dL_law_1375 (i := 5) rfl ?_
  refine X_iconst (v := 1) dL_law_1377 (by decide) ?_
  refine X_iadd dL_law_1378 ?_
  refine XJ.top (v' := .int (nI (x0 + 1))) (by rw [show (1 : Int32) = nI 1 from rfl, nI_add]) ?_
  refine X_sld rfl (by omega) hLn dL_law_1379 ?_
  refine XJ.top (v' := .int a) (by rw [ea_]) ?_
  refine X_aload_n dL_law_1380 (i := 0) rfl rfl ?_
  refine X_iload dL_law_1381 (i := 5) rfl ?_
  refine X_iconst (v := 2) dL_law_1383 (by decide) ?_
  refine X_iadd dL_law_1384 ?_
  refine XJ.top (v' := .int (nI (x0 + 2))) (by rw [show (2 : Int32) = nI 2 from rfl, nI_add]) ?_
  refine X_sld rfl (by omega) hLn dL_law_1385 ?_
  refine XJ.top (v' := .int s) (by rw [es_]) ?_
  refine X_aload_n dL_law_1386 (i := 0) rfl rfl ?_
  refine X_iload dL_law_1387 (i := 5) rfl ?_
  refine X_iconst (v := 3) dL_law_1389 (by decide) ?_
  refine X_iadd dL_law_1390 ?_
  refine XJ.top (v' := .int (nI (x0 + 3))) (by rw [show (3 : Int32) = nI 3 from rfl, nI_add]) ?_
  refine X_sld rfl (by omega) hLn dL_law_1391 ?_
  refine XJ.top (v' := .int i) (by rw [ei_]) ?_
  refine X_aload_n dL_law_1392 (i := 3) rfl rfl ?_
  refine X_callSW (gc2 := gc2) (gs2 := gs2) (k_listPart hA hIX hM hO hIP a s i) kmL_listPart rfl lL_211 sL_listPart rfl rfl (Nat.le_of_ble_eq_true rfl) (by decide) dL_law_1393 (Nat.le_refl _) (Nat.le_refl _) (fun E w1 hq => nomatch hq.1) (fun v w1 hq => ?_)
  obtain ⟨hv, hA1, hX1, hM1, ou1, ov1, hO1, hlv⟩ := hq
  cases hv
  have hM10 := hM1
  obtain ⟨⟨en1, h9a⟩, -⟩ := hM1
  refine X_istore (i := 6) (lo' := [(6, _), (0, _), (1, _), (2, _), (3, _), (4, _), (5, _)]) dL_law_1396 (Nat.le_of_ble_eq_true rfl) rfl ?_
  refine X_aload_n dL_law_1398 (i := 2) rfl rfl ?_
  refine X_aload_n dL_law_1399 (i := 0) rfl rfl ?_
  refine X_iload dL_law_1400 (i := 5) rfl ?_
  refine X_iconst (v := 1) dL_law_1402 (by decide) ?_
  refine X_iadd dL_law_1403 ?_
  refine XJ.top (v' := .int (nI (x0 + 1))) (by rw [show (1 : Int32) = nI 1 from rfl, nI_add]) ?_
  refine X_sld rfl (by omega) hLn dL_law_1404 ?_
  refine XJ.top (v' := .int a) (by rw [ea_]) ?_
  refine X_aload_n dL_law_1405 (i := 0) rfl rfl ?_
  refine X_iload dL_law_1406 (i := 5) rfl ?_
  refine X_iconst (v := 2) dL_law_1408 (by decide) ?_
  refine X_iadd dL_law_1409 ?_
  refine XJ.top (v' := .int (nI (x0 + 2))) (by rw [show (2 : Int32) = nI 2 from rfl, nI_add]) ?_
  refine X_sld rfl (by omega) hLn dL_law_1410 ?_
  refine XJ.top (v' := .int s) (by rw [es_]) ?_
  refine X_aload_n dL_law_1411 (i := 0) rfl rfl ?_
  refine X_iload dL_law_1412 (i := 5) rfl ?_
  refine X_iconst (v := 3) dL_law_1414 (by decide) ?_
  refine X_iadd dL_law_1415 ?_
  refine XJ.top (v' := .int (nI (x0 + 3))) (by rw [show (3 : Int32) = nI 3 from rfl, nI_add]) ?_
  refine X_sld rfl (by omega) hLn dL_law_1416 ?_
  refine XJ.top (v' := .int i) (by rw [ei_]) ?_
  refine X_callV (gc2 := gc2) (gs2 := gs2) (r_listPart hA1 hM10 hIP a s i) (i := 39) h9a hA1.2.2.1 rfl kmX11_listPart rfl lL_214 iX11_listPart vX11_listPart rfl rfl (Nat.le_of_ble_eq_true rfl) (by decide) dL_law_1417 (by omega) (by omega) (fun E w1 hq => by obtain ⟨_, h, _⟩ := hq; nomatch h) (fun v w1 hq => ?_)
  obtain ⟨v1, hv, hv2, hF2, hM2⟩ := hq
  cases hv
  have hA2 := hA1.fm hF2
  have hX2 := hX1.fm hF2
  have hO2 := hO1.fm hF2
  have hM20 := hM2
  obtain ⟨⟨en2, h9b⟩, -⟩ := hM2
  refine X_istore (i := 7) (lo' := [(7, _), (6, _), (0, _), (1, _), (2, _), (3, _), (4, _), (5, _)]) dL_law_1420 (Nat.le_of_ble_eq_true rfl) rfl ?_
  refine X_aload_n dL_law_1422 (i := 2) rfl rfl ?_
  refine X_callV (gc2 := gc2) (gs2 := gs2) (r_thrown hA2 h9b) (i := 39) h9b hA2.2.2.1 rfl kmX11_thrown rfl lL_152 iX11_thrown vX11_thrown rfl rfl (Nat.le_of_ble_eq_true rfl) (by decide) dL_law_1423 (by omega) (by omega) (fun E w1 hq => nomatch hq.1) (fun v w1 hq => ?_)
  have hv := hq.1
  obtain rfl := hq.2.symm
  cases hv
  refine X_iload dL_law_1426 (i := 6) rfl ?_
  refine X_icmp_eq (tgt := 1433) dL_law_1428 (by decide) (fun h1 => ?_) (fun h1 => ?_)
  · refine X_iload dL_law_1433 (i := 6) rfl ?_
    refine X_if_ne (tgt := 1450) dL_law_1435 (by decide) (fun h2 => ?_) (fun h2 => ?_)
    · refine X_goto (tgt := 2918) dL_law_1450 (by decide) ?_
      exact XJ.lcs (lo' := [(0, .ref G.2.2.2.2.1), (1, .ref a0), (2, .ref a39), (3, .ref a63), (4, .ref a64), (5, .int (nI x0))]) ⟨rfl, rfl, rfl, rfl, rfl, rfl, trivial⟩ (hn _ hA2 hX2 hM20 ⟨_, _, hO2⟩)
    · have hle : cdLP a s i P.1 (listN P.2.1 L pr (idx s) 5 (idx a) 1).length ≤ 3 := cdLP_le
      have hcd : cdLP a s i P.1 (listN P.2.1 L pr (idx s) 5 (idx a) 1).length = 0 := (nI_eq (b := 0) (by omega) (by decide)).mp h2
      refine X_aload_n dL_law_1438 (i := 3) rfl rfl ?_
      refine X_iconst (v := 0) dL_law_1439 (by decide) ?_
      refine X_lald (i := 63) hO2.1 hA2.2.2.2.1 (show (0 : Int32) = nI 0 from rfl) (by decide) (by decide) dL_law_1440 ?_
      refine XJ.top (v' := .long ((nI ((listN P.2.1 L pr (idx s) 5 (idx a) 1).getD (idx i) (0, 0)).1 : Int32).toInt64)) (by rw [hlv hcd]) ?_
      refine X_iload dL_law_1441 (i := 7) rfl ?_
      refine XJ.top (v' := .int (nI ((listN P.2.1 L pr (idx s) 5 (idx a) 1).getD (idx i) (0, 0)).1)) (by rw [hv2 hcd]) ?_
      refine X_i2l dL_law_1443 rfl ?_
      refine X_lcmp dL_law_1444 ?_
      refine XJ.top (v' := .int 0) (congrArg Value.int (lcmp_self _)) ?_
      refine X_if_eq (tgt := 1450) dL_law_1445 (by decide) (fun h3 => ?_) (fun h3 => ?_)
      · refine X_goto (tgt := 2918) dL_law_1450 (by decide) ?_
        exact XJ.lcs (lo' := [(0, .ref G.2.2.2.2.1), (1, .ref a0), (2, .ref a39), (3, .ref a63), (4, .ref a64), (5, .int (nI x0))]) ⟨rfl, rfl, rfl, rfl, rfl, rfl, trivial⟩ (hn _ hA2 hX2 hM20 ⟨_, _, hO2⟩)
      · exact absurd rfl h3
  · exact absurd rfl h1
set_option maxRecDepth 20000 in
theorem law_listQuantity {P : PSt} {L : LSt} {pr : Nat → Nat} {O : OSt} {mp : Nat} {mk : Nat → UInt32} {T : List Nat} {a0 a39 a63 a64 : Nat} {dc tc t : Nat} {nm : String} {hh : List (Nat × Nat × Nat × Nat)} {gc2 gs2 x0 : Nat} {ou : Nat → Int64} {ov : Nat → UInt64} (hA : AD w a0 a39 a63 a64) (hIX : IX G.2.2.1 w P L pr O mp mk T dc tc) (hM : IM G.2.2.1 w P L pr O mp mk T t) (hO : OUTS G.2.2.1 w ou ov) (hIP : IP P L pr O mp mk T) (hLn : G.2.2.2.2.2.1 < 2 ^ 31) (hx0 : x0 + 7 ≤ G.2.2.2.2.2.1) (a : Int32) (s : Int32) (i : Int32) (ea_ : G.2.2.2.2.2.2 (x0 + 1) = a) (es_ : G.2.2.2.2.2.2 (x0 + 2) = s) (ei_ : G.2.2.2.2.2.2 (x0 + 3) = i) (hn : ∀ w', AD w' a0 a39 a63 a64 → IX G.2.2.1 w' P L pr O mp mk T (if cdA a s P.1 = 0 then capL 0 dc (listN P.2.1 L pr (idx s) 5 (idx a) 1).length else dc) tc → IM G.2.2.1 w' P L pr O mp mk T (cdLP a s i P.1 (listN P.2.1 L pr (idx s) 5 (idx a) 1).length) → (∃ ou ov, OUTS G.2.2.1 w' ou ov) → XJ G (mLaw nm hh) 20 gc2 gs2 2918 [(0, .ref G.2.2.2.2.1), (1, .ref a0), (2, .ref a39), (3, .ref a63), (4, .ref a64), (5, .int (nI x0))] [] w' QL) : XJ G (mLaw nm hh) 20 (3 + ((if cdA a s P.1 = 0 then capL 0 dc (listN P.2.1 L pr (idx s) 5 (idx a) 1).length else dc) - dc) + gc2) (18 + 4 * ((if cdA a s P.1 = 0 then capL 0 dc (listN P.2.1 L pr (idx s) 5 (idx a) 1).length else dc) - dc) + gs2) 1453 [(0, .ref G.2.2.2.2.1), (1, .ref a0), (2, .ref a39), (3, .ref a63), (4, .ref a64), (5, .int (nI x0))] [] w QL := by
  refine X_aload_n dL_law_1453 (i := 1) rfl rfl ?_
  refine X_aload_n dL_law_1454 (i := 0) rfl rfl ?_
  refine X_iload dL_law_1455 (i := 5) rfl ?_
  refine X_iconst (v := 1) dL_law_1457 (by decide) ?_
  refine X_iadd dL_law_1458 ?_
  refine XJ.top (v' := .int (nI (x0 + 1))) (by rw [show (1 : Int32) = nI 1 from rfl, nI_add]) ?_
  refine X_sld rfl (by omega) hLn dL_law_1459 ?_
  refine XJ.top (v' := .int a) (by rw [ea_]) ?_
  refine X_aload_n dL_law_1460 (i := 0) rfl rfl ?_
  refine X_iload dL_law_1461 (i := 5) rfl ?_
  refine X_iconst (v := 2) dL_law_1463 (by decide) ?_
  refine X_iadd dL_law_1464 ?_
  refine XJ.top (v' := .int (nI (x0 + 2))) (by rw [show (2 : Int32) = nI 2 from rfl, nI_add]) ?_
  refine X_sld rfl (by omega) hLn dL_law_1465 ?_
  refine XJ.top (v' := .int s) (by rw [es_]) ?_
  refine X_aload_n dL_law_1466 (i := 0) rfl rfl ?_
  refine X_iload dL_law_1467 (i := 5) rfl ?_
  refine X_iconst (v := 3) dL_law_1469 (by decide) ?_
  refine X_iadd dL_law_1470 ?_
  refine XJ.top (v' := .int (nI (x0 + 3))) (by rw [show (3 : Int32) = nI 3 from rfl, nI_add]) ?_
  refine X_sld rfl (by omega) hLn dL_law_1471 ?_
  refine XJ.top (v' := .int i) (by rw [ei_]) ?_
  refine X_aload_n dL_law_1472 (i := 3) rfl rfl ?_
  refine X_callSW (gc2 := gc2) (gs2 := gs2) (k_listQuantity hA hIX hM hO hIP a s i) kmL_listQuantity rfl lL_215 sL_listQuantity rfl rfl (Nat.le_of_ble_eq_true rfl) (by decide) dL_law_1473 (Nat.le_refl _) (Nat.le_refl _) (fun E w1 hq => nomatch hq.1) (fun v w1 hq => ?_)
  obtain ⟨hv, hA1, hX1, hM1, ou1, ov1, hO1, hlv⟩ := hq
  cases hv
  have hM10 := hM1
  obtain ⟨⟨en1, h9a⟩, -⟩ := hM1
  refine X_istore (i := 6) (lo' := [(6, _), (0, _), (1, _), (2, _), (3, _), (4, _), (5, _)]) dL_law_1476 (Nat.le_of_ble_eq_true rfl) rfl ?_
  refine X_aload_n dL_law_1478 (i := 2) rfl rfl ?_
  refine X_aload_n dL_law_1479 (i := 0) rfl rfl ?_
  refine X_iload dL_law_1480 (i := 5) rfl ?_
  refine X_iconst (v := 1) dL_law_1482 (by decide) ?_
  refine X_iadd dL_law_1483 ?_
  refine XJ.top (v' := .int (nI (x0 + 1))) (by rw [show (1 : Int32) = nI 1 from rfl, nI_add]) ?_
  refine X_sld rfl (by omega) hLn dL_law_1484 ?_
  refine XJ.top (v' := .int a) (by rw [ea_]) ?_
  refine X_aload_n dL_law_1485 (i := 0) rfl rfl ?_
  refine X_iload dL_law_1486 (i := 5) rfl ?_
  refine X_iconst (v := 2) dL_law_1488 (by decide) ?_
  refine X_iadd dL_law_1489 ?_
  refine XJ.top (v' := .int (nI (x0 + 2))) (by rw [show (2 : Int32) = nI 2 from rfl, nI_add]) ?_
  refine X_sld rfl (by omega) hLn dL_law_1490 ?_
  refine XJ.top (v' := .int s) (by rw [es_]) ?_
  refine X_aload_n dL_law_1491 (i := 0) rfl rfl ?_
  refine X_iload dL_law_1492 (i := 5) rfl ?_
  refine X_iconst (v := 3) dL_law_1494 (by decide) ?_
  refine X_iadd dL_law_1495 ?_
  refine XJ.top (v' := .int (nI (x0 + 3))) (by rw [show (3 : Int32) = nI 3 from rfl, nI_add]) ?_
  refine X_sld rfl (by omega) hLn dL_law_1496 ?_
  refine XJ.top (v' := .int i) (by rw [ei_]) ?_
  refine X_callV (gc2 := gc2) (gs2 := gs2) (r_listQuantity hA1 hM10 hIP a s i) (i := 39) h9a hA1.2.2.1 rfl kmX11_listQuantity rfl lL_217 iX11_listQuantity vX11_listQuantity rfl rfl (Nat.le_of_ble_eq_true rfl) (by decide) dL_law_1497 (by omega) (by omega) (fun E w1 hq => by obtain ⟨_, h, _⟩ := hq; nomatch h) (fun v w1 hq => ?_)
  obtain ⟨v1, hv, hv2, hF2, hM2⟩ := hq
  cases hv
  have hA2 := hA1.fm hF2
  have hX2 := hX1.fm hF2
  have hO2 := hO1.fm hF2
  have hM20 := hM2
  obtain ⟨⟨en2, h9b⟩, -⟩ := hM2
  refine X_lstore (i := 7) (lo' := [(7, _), (6, _), (0, _), (1, _), (2, _), (3, _), (4, _), (5, _)]) dL_law_1500 (Nat.le_of_ble_eq_true rfl) rfl ?_
  refine X_aload_n dL_law_1502 (i := 2) rfl rfl ?_
  refine X_callV (gc2 := gc2) (gs2 := gs2) (r_thrown hA2 h9b) (i := 39) h9b hA2.2.2.1 rfl kmX11_thrown rfl lL_152 iX11_thrown vX11_thrown rfl rfl (Nat.le_of_ble_eq_true rfl) (by decide) dL_law_1503 (by omega) (by omega) (fun E w1 hq => nomatch hq.1) (fun v w1 hq => ?_)
  have hv := hq.1
  obtain rfl := hq.2.symm
  cases hv
  refine X_iload dL_law_1506 (i := 6) rfl ?_
  refine X_icmp_eq (tgt := 1513) dL_law_1508 (by decide) (fun h1 => ?_) (fun h1 => ?_)
  · refine X_iload dL_law_1513 (i := 6) rfl ?_
    refine X_if_ne (tgt := 1529) dL_law_1515 (by decide) (fun h2 => ?_) (fun h2 => ?_)
    · refine X_goto (tgt := 2918) dL_law_1529 (by decide) ?_
      exact XJ.lcs (lo' := [(0, .ref G.2.2.2.2.1), (1, .ref a0), (2, .ref a39), (3, .ref a63), (4, .ref a64), (5, .int (nI x0))]) ⟨rfl, rfl, rfl, rfl, rfl, rfl, trivial⟩ (hn _ hA2 hX2 hM20 ⟨_, _, hO2⟩)
    · have hle : cdLP a s i P.1 (listN P.2.1 L pr (idx s) 5 (idx a) 1).length ≤ 3 := cdLP_le
      have hcd : cdLP a s i P.1 (listN P.2.1 L pr (idx s) 5 (idx a) 1).length = 0 := (nI_eq (b := 0) (by omega) (by decide)).mp h2
      refine X_aload_n dL_law_1518 (i := 3) rfl rfl ?_
      refine X_iconst (v := 0) dL_law_1519 (by decide) ?_
      refine X_lald (i := 63) hO2.1 hA2.2.2.2.1 (show (0 : Int32) = nI 0 from rfl) (by decide) (by decide) dL_law_1520 ?_
      refine XJ.top (v' := .long (nL ((listN P.2.1 L pr (idx s) 5 (idx a) 1).getD (idx i) (0, 0)).2)) (by rw [hlv hcd]) ?_
      refine X_lload dL_law_1521 (i := 7) rfl ?_
      refine XJ.top (v' := .long (nL ((listN P.2.1 L pr (idx s) 5 (idx a) 1).getD (idx i) (0, 0)).2)) (by rw [hv2 hcd]) ?_
      refine X_lcmp dL_law_1523 ?_
      refine XJ.top (v' := .int 0) (congrArg Value.int (lcmp_self _)) ?_
      refine X_if_eq (tgt := 1529) dL_law_1524 (by decide) (fun h3 => ?_) (fun h3 => ?_)
      · refine X_goto (tgt := 2918) dL_law_1529 (by decide) ?_
        exact XJ.lcs (lo' := [(0, .ref G.2.2.2.2.1), (1, .ref a0), (2, .ref a39), (3, .ref a63), (4, .ref a64), (5, .int (nI x0))]) ⟨rfl, rfl, rfl, rfl, rfl, rfl, trivial⟩ (hn _ hA2 hX2 hM20 ⟨_, _, hO2⟩)
      · exact absurd rfl h3
  · exact absurd rfl h1
set_option maxRecDepth 20000 in
theorem law_writeList {P : PSt} {L : LSt} {pr : Nat → Nat} {O : OSt} {mp : Nat} {mk : Nat → UInt32} {T : List Nat} {a0 a39 a63 a64 : Nat} {dc tc t : Nat} {nm : String} {hh : List (Nat × Nat × Nat × Nat)} {gc2 gs2 x0 : Nat} {ou : Nat → Int64} {ov : Nat → UInt64} (hA : AD w a0 a39 a63 a64) (hIX : IX G.2.2.1 w P L pr O mp mk T dc tc) (hM : IM G.2.2.1 w P L pr O mp mk T t) (hO : OUTS G.2.2.1 w ou ov) (hIP : IP P L pr O mp mk T) (hLn : G.2.2.2.2.2.1 < 2 ^ 31) (hx0 : x0 + 7 ≤ G.2.2.2.2.2.1) (a : Int32) (s : Int32) (ea_ : G.2.2.2.2.2.2 (x0 + 1) = a) (es_ : G.2.2.2.2.2.2 (x0 + 2) = s) (hn : ∀ w', AD w' a0 a39 a63 a64 → IX G.2.2.1 w' P L pr O mp mk (if (cdA a s P.1) = 0 then lstT false (listN P.2.1 L pr (idx s) 5 (idx a) 1) else T) (if cdA a s P.1 = 0 then capL 0 dc (listN P.2.1 L pr (idx s) 5 (idx a) 1).length else dc) (if cdA a s P.1 = 0 then (capF 0 tc (lstP false (listN P.2.1 L pr (idx s) 5 (idx a) 1))) else tc) → IM G.2.2.1 w' P L pr O mp mk (if (cdA a s P.1) = 0 then lstT false (listN P.2.1 L pr (idx s) 5 (idx a) 1) else T) (cdA a s P.1) → (∃ ou ov, OUTS G.2.2.1 w' ou ov) → XJ G (mLaw nm hh) 20 gc2 gs2 2918 [(0, .ref G.2.2.2.2.1), (1, .ref a0), (2, .ref a39), (3, .ref a63), (4, .ref a64), (5, .int (nI x0))] [] w' QL) : XJ G (mLaw nm hh) 20 (2 + ((if cdA a s P.1 = 0 then capL 0 dc (listN P.2.1 L pr (idx s) 5 (idx a) 1).length else dc) - dc) + ((if cdA a s P.1 = 0 then (capF 0 tc (lstP false (listN P.2.1 L pr (idx s) 5 (idx a) 1))) else tc) - tc) + gc2) (12 + 4 * ((if cdA a s P.1 = 0 then capL 0 dc (listN P.2.1 L pr (idx s) 5 (idx a) 1).length else dc) - dc) + 2 * ((if cdA a s P.1 = 0 then (capF 0 tc (lstP false (listN P.2.1 L pr (idx s) 5 (idx a) 1))) else tc) - tc) + gs2) 1532 [(0, .ref G.2.2.2.2.1), (1, .ref a0), (2, .ref a39), (3, .ref a63), (4, .ref a64), (5, .int (nI x0))] [] w QL := by
  refine X_aload_n dL_law_1532 (i := 1) rfl rfl ?_
  refine X_aload_n dL_law_1533 (i := 0) rfl rfl ?_
  refine X_iload dL_law_1534 (i := 5) rfl ?_
  refine X_iconst (v := 1) dL_law_1536 (by decide) ?_
  refine X_iadd dL_law_1537 ?_
  refine XJ.top (v' := .int (nI (x0 + 1))) (by rw [show (1 : Int32) = nI 1 from rfl, nI_add]) ?_
  refine X_sld rfl (by omega) hLn dL_law_1538 ?_
  refine XJ.top (v' := .int a) (by rw [ea_]) ?_
  refine X_aload_n dL_law_1539 (i := 0) rfl rfl ?_
  refine X_iload dL_law_1540 (i := 5) rfl ?_
  refine X_iconst (v := 2) dL_law_1542 (by decide) ?_
  refine X_iadd dL_law_1543 ?_
  refine XJ.top (v' := .int (nI (x0 + 2))) (by rw [show (2 : Int32) = nI 2 from rfl, nI_add]) ?_
  refine X_sld rfl (by omega) hLn dL_law_1544 ?_
  refine XJ.top (v' := .int s) (by rw [es_]) ?_
  refine X_aload_n dL_law_1545 (i := 3) rfl rfl ?_
  refine X_callSW (gc2 := gc2) (gs2 := gs2) (k_writeList hA hIX hM hO hIP a s) kmL_writeList rfl lL_218 sL_writeList rfl rfl (Nat.le_of_ble_eq_true rfl) (by decide) dL_law_1546 (Nat.le_refl _) (Nat.le_refl _) (fun E w1 hq => nomatch hq.1) (fun v w1 hq => ?_)
  obtain ⟨hv, hA1, hX1, hM1, ou1, ov1, hO1, hlv⟩ := hq
  cases hv
  have hM10 := hM1
  obtain ⟨⟨en1, h9a⟩, -⟩ := hM1
  refine X_istore (i := 6) (lo' := [(6, _), (0, _), (1, _), (2, _), (3, _), (4, _), (5, _)]) dL_law_1549 (Nat.le_of_ble_eq_true rfl) rfl ?_
  refine X_aload_n dL_law_1551 (i := 2) rfl rfl ?_
  refine X_aload_n dL_law_1552 (i := 0) rfl rfl ?_
  refine X_iload dL_law_1553 (i := 5) rfl ?_
  refine X_iconst (v := 1) dL_law_1555 (by decide) ?_
  refine X_iadd dL_law_1556 ?_
  refine XJ.top (v' := .int (nI (x0 + 1))) (by rw [show (1 : Int32) = nI 1 from rfl, nI_add]) ?_
  refine X_sld rfl (by omega) hLn dL_law_1557 ?_
  refine XJ.top (v' := .int a) (by rw [ea_]) ?_
  refine X_aload_n dL_law_1558 (i := 0) rfl rfl ?_
  refine X_iload dL_law_1559 (i := 5) rfl ?_
  refine X_iconst (v := 2) dL_law_1561 (by decide) ?_
  refine X_iadd dL_law_1562 ?_
  refine XJ.top (v' := .int (nI (x0 + 2))) (by rw [show (2 : Int32) = nI 2 from rfl, nI_add]) ?_
  refine X_sld rfl (by omega) hLn dL_law_1563 ?_
  refine XJ.top (v' := .int s) (by rw [es_]) ?_
  refine X_callV (gc2 := gc2) (gs2 := gs2) (r_writeList hA1 hM10 hIP a s) (i := 39) h9a hA1.2.2.1 rfl kmX11_writeList rfl lL_220 iX11_writeList vX11_writeList rfl rfl (Nat.le_of_ble_eq_true rfl) (by decide) dL_law_1564 (by omega) (by omega) (fun E w1 hq => by obtain ⟨_, h, _⟩ := hq; nomatch h) (fun v w1 hq => ?_)
  obtain ⟨v1, hv, hv2, hF2, hM2⟩ := hq
  cases hv
  have hA2 := hA1.fm hF2
  have hX2 := hX1.fm hF2
  have hO2 := hO1.fm hF2
  have hM20 := hM2
  obtain ⟨⟨en2, h9b⟩, -⟩ := hM2
  refine X_istore (i := 7) (lo' := [(7, _), (6, _), (0, _), (1, _), (2, _), (3, _), (4, _), (5, _)]) dL_law_1567 (Nat.le_of_ble_eq_true rfl) rfl ?_
  refine X_aload_n dL_law_1569 (i := 2) rfl rfl ?_
  refine X_callV (gc2 := gc2) (gs2 := gs2) (r_thrown hA2 h9b) (i := 39) h9b hA2.2.2.1 rfl kmX11_thrown rfl lL_152 iX11_thrown vX11_thrown rfl rfl (Nat.le_of_ble_eq_true rfl) (by decide) dL_law_1570 (by omega) (by omega) (fun E w1 hq => nomatch hq.1) (fun v w1 hq => ?_)
  have hv := hq.1
  obtain rfl := hq.2.symm
  cases hv
  refine X_iload dL_law_1573 (i := 6) rfl ?_
  refine X_icmp_eq (tgt := 1580) dL_law_1575 (by decide) (fun h1 => ?_) (fun h1 => ?_)
  · refine X_iload dL_law_1580 (i := 6) rfl ?_
    refine X_if_ne (tgt := 1597) dL_law_1582 (by decide) (fun h2 => ?_) (fun h2 => ?_)
    · refine X_goto (tgt := 2918) dL_law_1597 (by decide) ?_
      exact XJ.lcs (lo' := [(0, .ref G.2.2.2.2.1), (1, .ref a0), (2, .ref a39), (3, .ref a63), (4, .ref a64), (5, .int (nI x0))]) ⟨rfl, rfl, rfl, rfl, rfl, rfl, trivial⟩ (hn _ hA2 hX2 hM20 ⟨_, _, hO2⟩)
    · have hle : cdA a s P.1 ≤ 2 := cdA_le
      have hcd : cdA a s P.1 = 0 := (nI_eq (b := 0) (by omega) (by decide)).mp h2
      refine X_aload_n dL_law_1585 (i := 3) rfl rfl ?_
      refine X_iconst (v := 0) dL_law_1586 (by decide) ?_
      refine X_lald (i := 63) hO2.1 hA2.2.2.2.1 (show (0 : Int32) = nI 0 from rfl) (by decide) (by decide) dL_law_1587 ?_
      refine XJ.top (v' := .long ((nI (lstT false (listN P.2.1 L pr (idx s) 5 (idx a) 1)).length : Int32).toInt64)) (by rw [hlv hcd]) ?_
      refine X_iload dL_law_1588 (i := 7) rfl ?_
      refine XJ.top (v' := .int (nI (lstT false (listN P.2.1 L pr (idx s) 5 (idx a) 1)).length)) (by rw [hv2 hcd]) ?_
      refine X_i2l dL_law_1590 rfl ?_
      refine X_lcmp dL_law_1591 ?_
      refine XJ.top (v' := .int 0) (congrArg Value.int (lcmp_self _)) ?_
      refine X_if_eq (tgt := 1597) dL_law_1592 (by decide) (fun h3 => ?_) (fun h3 => ?_)
      · refine X_goto (tgt := 2918) dL_law_1597 (by decide) ?_
        exact XJ.lcs (lo' := [(0, .ref G.2.2.2.2.1), (1, .ref a0), (2, .ref a39), (3, .ref a63), (4, .ref a64), (5, .int (nI x0))]) ⟨rfl, rfl, rfl, rfl, rfl, rfl, trivial⟩ (hn _ hA2 hX2 hM20 ⟨_, _, hO2⟩)
      · exact absurd rfl h3
  · exact absurd rfl h1
set_option maxRecDepth 20000 in
theorem law_charAt {P : PSt} {L : LSt} {pr : Nat → Nat} {O : OSt} {mp : Nat} {mk : Nat → UInt32} {T : List Nat} {a0 a39 a63 a64 : Nat} {dc tc t : Nat} {nm : String} {hh : List (Nat × Nat × Nat × Nat)} {gc2 gs2 x0 : Nat} {ou : Nat → Int64} {ov : Nat → UInt64} (hA : AD w a0 a39 a63 a64) (hIX : IX G.2.2.1 w P L pr O mp mk T dc tc) (hM : IM G.2.2.1 w P L pr O mp mk T t) (hO : OUTS G.2.2.1 w ou ov) (hIP : IP P L pr O mp mk T) (hLn : G.2.2.2.2.2.1 < 2 ^ 31) (hx0 : x0 + 7 ≤ G.2.2.2.2.2.1) (i : Int32) (ei_ : G.2.2.2.2.2.2 (x0 + 1) = i) (hn : ∀ w', AD w' a0 a39 a63 a64 → IX G.2.2.1 w' P L pr O mp mk T dc tc → IM G.2.2.1 w' P L pr O mp mk T (cdP i T.length) → (∃ ou ov, OUTS G.2.2.1 w' ou ov) → XJ G (mLaw nm hh) 20 gc2 gs2 2918 [(0, .ref G.2.2.2.2.1), (1, .ref a0), (2, .ref a39), (3, .ref a63), (4, .ref a64), (5, .int (nI x0))] [] w' QL) : XJ G (mLaw nm hh) 20 (1 + gc2) (6 + gs2) 1600 [(0, .ref G.2.2.2.2.1), (1, .ref a0), (2, .ref a39), (3, .ref a63), (4, .ref a64), (5, .int (nI x0))] [] w QL := by
  refine X_aload_n dL_law_1600 (i := 1) rfl rfl ?_
  refine X_aload_n dL_law_1601 (i := 0) rfl rfl ?_
  refine X_iload dL_law_1602 (i := 5) rfl ?_
  refine X_iconst (v := 1) dL_law_1604 (by decide) ?_
  refine X_iadd dL_law_1605 ?_
  refine XJ.top (v' := .int (nI (x0 + 1))) (by rw [show (1 : Int32) = nI 1 from rfl, nI_add]) ?_
  refine X_sld rfl (by omega) hLn dL_law_1606 ?_
  refine XJ.top (v' := .int i) (by rw [ei_]) ?_
  refine X_aload_n dL_law_1607 (i := 3) rfl rfl ?_
  refine X_callSW (gc2 := gc2) (gs2 := gs2) (k_charAt hA hIX hM hO hIP i) kmL_charAt rfl lL_221 sL_charAt rfl rfl (Nat.le_of_ble_eq_true rfl) (by decide) dL_law_1608 (Nat.le_refl _) (Nat.le_refl _) (fun E w1 hq => nomatch hq.1) (fun v w1 hq => ?_)
  obtain ⟨hv, hA1, hX1, hM1, ou1, ov1, hO1, hlv⟩ := hq
  cases hv
  have hM10 := hM1
  obtain ⟨⟨en1, h9a⟩, -⟩ := hM1
  refine X_istore (i := 6) (lo' := [(6, _), (0, _), (1, _), (2, _), (3, _), (4, _), (5, _)]) dL_law_1611 (Nat.le_of_ble_eq_true rfl) rfl ?_
  refine X_aload_n dL_law_1613 (i := 2) rfl rfl ?_
  refine X_aload_n dL_law_1614 (i := 0) rfl rfl ?_
  refine X_iload dL_law_1615 (i := 5) rfl ?_
  refine X_iconst (v := 1) dL_law_1617 (by decide) ?_
  refine X_iadd dL_law_1618 ?_
  refine XJ.top (v' := .int (nI (x0 + 1))) (by rw [show (1 : Int32) = nI 1 from rfl, nI_add]) ?_
  refine X_sld rfl (by omega) hLn dL_law_1619 ?_
  refine XJ.top (v' := .int i) (by rw [ei_]) ?_
  refine X_callV (gc2 := gc2) (gs2 := gs2) (r_charAt hA1 hM10 hIP i) (i := 39) h9a hA1.2.2.1 rfl kmX11_charAt rfl lL_223 iX11_charAt vX11_charAt rfl rfl (Nat.le_of_ble_eq_true rfl) (by decide) dL_law_1620 (by omega) (by omega) (fun E w1 hq => by obtain ⟨_, h, _⟩ := hq; nomatch h) (fun v w1 hq => ?_)
  obtain ⟨v1, hv, hv2, hF2, hM2⟩ := hq
  cases hv
  have hA2 := hA1.fm hF2
  have hX2 := hX1.fm hF2
  have hO2 := hO1.fm hF2
  have hM20 := hM2
  obtain ⟨⟨en2, h9b⟩, -⟩ := hM2
  refine X_istore (i := 7) (lo' := [(7, _), (6, _), (0, _), (1, _), (2, _), (3, _), (4, _), (5, _)]) dL_law_1623 (Nat.le_of_ble_eq_true rfl) rfl ?_
  refine X_aload_n dL_law_1625 (i := 2) rfl rfl ?_
  refine X_callV (gc2 := gc2) (gs2 := gs2) (r_thrown hA2 h9b) (i := 39) h9b hA2.2.2.1 rfl kmX11_thrown rfl lL_152 iX11_thrown vX11_thrown rfl rfl (Nat.le_of_ble_eq_true rfl) (by decide) dL_law_1626 (by omega) (by omega) (fun E w1 hq => nomatch hq.1) (fun v w1 hq => ?_)
  have hv := hq.1
  obtain rfl := hq.2.symm
  cases hv
  refine X_iload dL_law_1629 (i := 6) rfl ?_
  refine X_icmp_eq (tgt := 1636) dL_law_1631 (by decide) (fun h1 => ?_) (fun h1 => ?_)
  · refine X_iload dL_law_1636 (i := 6) rfl ?_
    refine X_if_ne (tgt := 1653) dL_law_1638 (by decide) (fun h2 => ?_) (fun h2 => ?_)
    · refine X_goto (tgt := 2918) dL_law_1653 (by decide) ?_
      exact XJ.lcs (lo' := [(0, .ref G.2.2.2.2.1), (1, .ref a0), (2, .ref a39), (3, .ref a63), (4, .ref a64), (5, .int (nI x0))]) ⟨rfl, rfl, rfl, rfl, rfl, rfl, trivial⟩ (hn _ hA2 hX2 hM20 ⟨_, _, hO2⟩)
    · have hle : cdP i T.length ≤ 1 := cdP_le
      have hcd : cdP i T.length = 0 := (nI_eq (b := 0) (by omega) (by decide)).mp h2
      refine X_aload_n dL_law_1641 (i := 3) rfl rfl ?_
      refine X_iconst (v := 0) dL_law_1642 (by decide) ?_
      refine X_lald (i := 63) hO2.1 hA2.2.2.2.1 (show (0 : Int32) = nI 0 from rfl) (by decide) (by decide) dL_law_1643 ?_
      refine XJ.top (v' := .long ((nI (T.getD (idx i) 0) : Int32).toInt64)) (by rw [hlv hcd]) ?_
      refine X_iload dL_law_1644 (i := 7) rfl ?_
      refine XJ.top (v' := .int (nI (T.getD (idx i) 0))) (by rw [hv2 hcd]) ?_
      refine X_i2l dL_law_1646 rfl ?_
      refine X_lcmp dL_law_1647 ?_
      refine XJ.top (v' := .int 0) (congrArg Value.int (lcmp_self _)) ?_
      refine X_if_eq (tgt := 1653) dL_law_1648 (by decide) (fun h3 => ?_) (fun h3 => ?_)
      · refine X_goto (tgt := 2918) dL_law_1653 (by decide) ?_
        exact XJ.lcs (lo' := [(0, .ref G.2.2.2.2.1), (1, .ref a0), (2, .ref a39), (3, .ref a63), (4, .ref a64), (5, .int (nI x0))]) ⟨rfl, rfl, rfl, rfl, rfl, rfl, trivial⟩ (hn _ hA2 hX2 hM20 ⟨_, _, hO2⟩)
      · exact absurd rfl h3
  · exact absurd rfl h1
set_option maxRecDepth 20000 in
theorem law_quantity {P : PSt} {L : LSt} {pr : Nat → Nat} {O : OSt} {mp : Nat} {mk : Nat → UInt32} {T : List Nat} {a0 a39 a63 a64 : Nat} {dc tc t : Nat} {nm : String} {hh : List (Nat × Nat × Nat × Nat)} {gc2 gs2 x0 : Nat} {ou : Nat → Int64} {ov : Nat → UInt64} (hA : AD w a0 a39 a63 a64) (hIX : IX G.2.2.1 w P L pr O mp mk T dc tc) (hM : IM G.2.2.1 w P L pr O mp mk T t) (hO : OUTS G.2.2.1 w ou ov) (hIP : IP P L pr O mp mk T) (hLn : G.2.2.2.2.2.1 < 2 ^ 31) (hx0 : x0 + 7 ≤ G.2.2.2.2.2.1) (a : Int32) (b : Int32) (s : Int32) (ea_ : G.2.2.2.2.2.2 (x0 + 1) = a) (eb_ : G.2.2.2.2.2.2 (x0 + 2) = b) (es_ : G.2.2.2.2.2.2 (x0 + 3) = s) (hn : ∀ w', AD w' a0 a39 a63 a64 → IX G.2.2.1 w' P L pr O mp mk T dc tc → IM G.2.2.1 w' P L pr O mp mk T (cdQ a b s P.1) → (∃ ou ov, OUTS G.2.2.1 w' ou ov) → XJ G (mLaw nm hh) 20 gc2 gs2 2918 [(0, .ref G.2.2.2.2.1), (1, .ref a0), (2, .ref a39), (3, .ref a63), (4, .ref a64), (5, .int (nI x0))] [] w' QL) : XJ G (mLaw nm hh) 20 (4 + gc2) (24 + gs2) 1656 [(0, .ref G.2.2.2.2.1), (1, .ref a0), (2, .ref a39), (3, .ref a63), (4, .ref a64), (5, .int (nI x0))] [] w QL := by
  refine X_aload_n dL_law_1656 (i := 1) rfl rfl ?_
  refine X_aload_n dL_law_1657 (i := 0) rfl rfl ?_
  refine X_iload dL_law_1658 (i := 5) rfl ?_
  refine X_iconst (v := 1) dL_law_1660 (by decide) ?_
  refine X_iadd dL_law_1661 ?_
  refine XJ.top (v' := .int (nI (x0 + 1))) (by rw [show (1 : Int32) = nI 1 from rfl, nI_add]) ?_
  refine X_sld rfl (by omega) hLn dL_law_1662 ?_
  refine XJ.top (v' := .int a) (by rw [ea_]) ?_
  refine X_aload_n dL_law_1663 (i := 0) rfl rfl ?_
  refine X_iload dL_law_1664 (i := 5) rfl ?_
  refine X_iconst (v := 2) dL_law_1666 (by decide) ?_
  refine X_iadd dL_law_1667 ?_
  refine XJ.top (v' := .int (nI (x0 + 2))) (by rw [show (2 : Int32) = nI 2 from rfl, nI_add]) ?_
  refine X_sld rfl (by omega) hLn dL_law_1668 ?_
  refine XJ.top (v' := .int b) (by rw [eb_]) ?_
  refine X_aload_n dL_law_1669 (i := 0) rfl rfl ?_
  refine X_iload dL_law_1670 (i := 5) rfl ?_
  refine X_iconst (v := 3) dL_law_1672 (by decide) ?_
  refine X_iadd dL_law_1673 ?_
  refine XJ.top (v' := .int (nI (x0 + 3))) (by rw [show (3 : Int32) = nI 3 from rfl, nI_add]) ?_
  refine X_sld rfl (by omega) hLn dL_law_1674 ?_
  refine XJ.top (v' := .int s) (by rw [es_]) ?_
  refine X_aload_n dL_law_1675 (i := 3) rfl rfl ?_
  refine X_callSW (gc2 := gc2) (gs2 := gs2) (k_quantity hA hIX hM hO hIP a b s) kmL_quantity rfl lL_224 sL_quantity rfl rfl (Nat.le_of_ble_eq_true rfl) (by decide) dL_law_1676 (Nat.le_refl _) (Nat.le_refl _) (fun E w1 hq => nomatch hq.1) (fun v w1 hq => ?_)
  obtain ⟨hv, hA1, hX1, hM1, ou1, ov1, hO1, hlv⟩ := hq
  cases hv
  have hM10 := hM1
  obtain ⟨⟨en1, h9a⟩, -⟩ := hM1
  refine X_istore (i := 6) (lo' := [(6, _), (0, _), (1, _), (2, _), (3, _), (4, _), (5, _)]) dL_law_1679 (Nat.le_of_ble_eq_true rfl) rfl ?_
  refine X_aload_n dL_law_1681 (i := 2) rfl rfl ?_
  refine X_aload_n dL_law_1682 (i := 0) rfl rfl ?_
  refine X_iload dL_law_1683 (i := 5) rfl ?_
  refine X_iconst (v := 1) dL_law_1685 (by decide) ?_
  refine X_iadd dL_law_1686 ?_
  refine XJ.top (v' := .int (nI (x0 + 1))) (by rw [show (1 : Int32) = nI 1 from rfl, nI_add]) ?_
  refine X_sld rfl (by omega) hLn dL_law_1687 ?_
  refine XJ.top (v' := .int a) (by rw [ea_]) ?_
  refine X_aload_n dL_law_1688 (i := 0) rfl rfl ?_
  refine X_iload dL_law_1689 (i := 5) rfl ?_
  refine X_iconst (v := 2) dL_law_1691 (by decide) ?_
  refine X_iadd dL_law_1692 ?_
  refine XJ.top (v' := .int (nI (x0 + 2))) (by rw [show (2 : Int32) = nI 2 from rfl, nI_add]) ?_
  refine X_sld rfl (by omega) hLn dL_law_1693 ?_
  refine XJ.top (v' := .int b) (by rw [eb_]) ?_
  refine X_aload_n dL_law_1694 (i := 0) rfl rfl ?_
  refine X_iload dL_law_1695 (i := 5) rfl ?_
  refine X_iconst (v := 3) dL_law_1697 (by decide) ?_
  refine X_iadd dL_law_1698 ?_
  refine XJ.top (v' := .int (nI (x0 + 3))) (by rw [show (3 : Int32) = nI 3 from rfl, nI_add]) ?_
  refine X_sld rfl (by omega) hLn dL_law_1699 ?_
  refine XJ.top (v' := .int s) (by rw [es_]) ?_
  refine X_callV (gc2 := gc2) (gs2 := gs2) (r_quantity hA1 hM10 hIP a b s) (i := 39) h9a hA1.2.2.1 rfl kmX11_quantity rfl lL_226 iX11_quantity vX11_quantity rfl rfl (Nat.le_of_ble_eq_true rfl) (by decide) dL_law_1700 (by omega) (by omega) (fun E w1 hq => by obtain ⟨_, h, _⟩ := hq; nomatch h) (fun v w1 hq => ?_)
  obtain ⟨v1, hv, hv2, hF2, hM2⟩ := hq
  cases hv
  have hA2 := hA1.fm hF2
  have hX2 := hX1.fm hF2
  have hO2 := hO1.fm hF2
  have hM20 := hM2
  obtain ⟨⟨en2, h9b⟩, -⟩ := hM2
  refine X_lstore (i := 7) (lo' := [(7, _), (6, _), (0, _), (1, _), (2, _), (3, _), (4, _), (5, _)]) dL_law_1703 (Nat.le_of_ble_eq_true rfl) rfl ?_
  refine X_aload_n dL_law_1705 (i := 2) rfl rfl ?_
  refine X_callV (gc2 := gc2) (gs2 := gs2) (r_thrown hA2 h9b) (i := 39) h9b hA2.2.2.1 rfl kmX11_thrown rfl lL_152 iX11_thrown vX11_thrown rfl rfl (Nat.le_of_ble_eq_true rfl) (by decide) dL_law_1706 (by omega) (by omega) (fun E w1 hq => nomatch hq.1) (fun v w1 hq => ?_)
  have hv := hq.1
  obtain rfl := hq.2.symm
  cases hv
  refine X_iload dL_law_1709 (i := 6) rfl ?_
  refine X_icmp_eq (tgt := 1716) dL_law_1711 (by decide) (fun h1 => ?_) (fun h1 => ?_)
  · refine X_iload dL_law_1716 (i := 6) rfl ?_
    refine X_if_ne (tgt := 1732) dL_law_1718 (by decide) (fun h2 => ?_) (fun h2 => ?_)
    · refine X_goto (tgt := 2918) dL_law_1732 (by decide) ?_
      exact XJ.lcs (lo' := [(0, .ref G.2.2.2.2.1), (1, .ref a0), (2, .ref a39), (3, .ref a63), (4, .ref a64), (5, .int (nI x0))]) ⟨rfl, rfl, rfl, rfl, rfl, rfl, trivial⟩ (hn _ hA2 hX2 hM20 ⟨_, _, hO2⟩)
    · have hle : cdQ a b s P.1 ≤ 2 := cdQ_le
      have hcd : cdQ a b s P.1 = 0 := (nI_eq (b := 0) (by omega) (by decide)).mp h2
      refine X_aload_n dL_law_1721 (i := 3) rfl rfl ?_
      refine X_iconst (v := 0) dL_law_1722 (by decide) ?_
      refine X_lald (i := 63) hO2.1 hA2.2.2.2.1 (show (0 : Int32) = nI 0 from rfl) (by decide) (by decide) dL_law_1723 ?_
      refine XJ.top (v' := .long (nL (hasN L pr (idx s) 5 (idx a) (idx b)))) (by rw [hlv hcd]) ?_
      refine X_lload dL_law_1724 (i := 7) rfl ?_
      refine XJ.top (v' := .long (nL (hasN L pr (idx s) 5 (idx a) (idx b)))) (by rw [hv2 hcd]) ?_
      refine X_lcmp dL_law_1726 ?_
      refine XJ.top (v' := .int 0) (congrArg Value.int (lcmp_self _)) ?_
      refine X_if_eq (tgt := 1732) dL_law_1727 (by decide) (fun h3 => ?_) (fun h3 => ?_)
      · refine X_goto (tgt := 2918) dL_law_1732 (by decide) ?_
        exact XJ.lcs (lo' := [(0, .ref G.2.2.2.2.1), (1, .ref a0), (2, .ref a39), (3, .ref a63), (4, .ref a64), (5, .int (nI x0))]) ⟨rfl, rfl, rfl, rfl, rfl, rfl, trivial⟩ (hn _ hA2 hX2 hM20 ⟨_, _, hO2⟩)
      · exact absurd rfl h3
  · exact absurd rfl h1
set_option maxRecDepth 20000 in
theorem law_quantityByWalking {P : PSt} {L : LSt} {pr : Nat → Nat} {O : OSt} {mp : Nat} {mk : Nat → UInt32} {T : List Nat} {a0 a39 a63 a64 : Nat} {dc tc t : Nat} {nm : String} {hh : List (Nat × Nat × Nat × Nat)} {gc2 gs2 x0 : Nat} {ou : Nat → Int64} {ov : Nat → UInt64} (hA : AD w a0 a39 a63 a64) (hIX : IX G.2.2.1 w P L pr O mp mk T dc tc) (hM : IM G.2.2.1 w P L pr O mp mk T t) (hO : OUTS G.2.2.1 w ou ov) (hIP : IP P L pr O mp mk T) (hLn : G.2.2.2.2.2.1 < 2 ^ 31) (hx0 : x0 + 7 ≤ G.2.2.2.2.2.1) (a : Int32) (b : Int32) (s : Int32) (ea_ : G.2.2.2.2.2.2 (x0 + 1) = a) (eb_ : G.2.2.2.2.2.2 (x0 + 2) = b) (es_ : G.2.2.2.2.2.2 (x0 + 3) = s) (hn : ∀ w', AD w' a0 a39 a63 a64 → IX G.2.2.1 w' P L pr O mp mk T dc tc → IM G.2.2.1 w' P L pr O mp mk T (cdQ a b s P.1) → (∃ ou ov, OUTS G.2.2.1 w' ou ov) → XJ G (mLaw nm hh) 20 gc2 gs2 2918 [(0, .ref G.2.2.2.2.1), (1, .ref a0), (2, .ref a39), (3, .ref a63), (4, .ref a64), (5, .int (nI x0))] [] w' QL) : XJ G (mLaw nm hh) 20 (4 + gc2) (24 + gs2) 1735 [(0, .ref G.2.2.2.2.1), (1, .ref a0), (2, .ref a39), (3, .ref a63), (4, .ref a64), (5, .int (nI x0))] [] w QL := by
  refine X_aload_n dL_law_1735 (i := 1) rfl rfl ?_
  refine X_aload_n dL_law_1736 (i := 0) rfl rfl ?_
  refine X_iload dL_law_1737 (i := 5) rfl ?_
  refine X_iconst (v := 1) dL_law_1739 (by decide) ?_
  refine X_iadd dL_law_1740 ?_
  refine XJ.top (v' := .int (nI (x0 + 1))) (by rw [show (1 : Int32) = nI 1 from rfl, nI_add]) ?_
  refine X_sld rfl (by omega) hLn dL_law_1741 ?_
  refine XJ.top (v' := .int a) (by rw [ea_]) ?_
  refine X_aload_n dL_law_1742 (i := 0) rfl rfl ?_
  refine X_iload dL_law_1743 (i := 5) rfl ?_
  refine X_iconst (v := 2) dL_law_1745 (by decide) ?_
  refine X_iadd dL_law_1746 ?_
  refine XJ.top (v' := .int (nI (x0 + 2))) (by rw [show (2 : Int32) = nI 2 from rfl, nI_add]) ?_
  refine X_sld rfl (by omega) hLn dL_law_1747 ?_
  refine XJ.top (v' := .int b) (by rw [eb_]) ?_
  refine X_aload_n dL_law_1748 (i := 0) rfl rfl ?_
  refine X_iload dL_law_1749 (i := 5) rfl ?_
  refine X_iconst (v := 3) dL_law_1751 (by decide) ?_
  refine X_iadd dL_law_1752 ?_
  refine XJ.top (v' := .int (nI (x0 + 3))) (by rw [show (3 : Int32) = nI 3 from rfl, nI_add]) ?_
  refine X_sld rfl (by omega) hLn dL_law_1753 ?_
  refine XJ.top (v' := .int s) (by rw [es_]) ?_
  refine X_aload_n dL_law_1754 (i := 3) rfl rfl ?_
  refine X_callSW (gc2 := gc2) (gs2 := gs2) (k_quantityByWalking hA hIX hM hO hIP a b s) kmL_quantityByWalking rfl lL_227 sL_quantityByWalking rfl rfl (Nat.le_of_ble_eq_true rfl) (by decide) dL_law_1755 (Nat.le_refl _) (Nat.le_refl _) (fun E w1 hq => nomatch hq.1) (fun v w1 hq => ?_)
  obtain ⟨hv, hA1, hX1, hM1, ou1, ov1, hO1, hlv⟩ := hq
  cases hv
  have hM10 := hM1
  obtain ⟨⟨en1, h9a⟩, -⟩ := hM1
  refine X_istore (i := 6) (lo' := [(6, _), (0, _), (1, _), (2, _), (3, _), (4, _), (5, _)]) dL_law_1758 (Nat.le_of_ble_eq_true rfl) rfl ?_
  refine X_aload_n dL_law_1760 (i := 2) rfl rfl ?_
  refine X_aload_n dL_law_1761 (i := 0) rfl rfl ?_
  refine X_iload dL_law_1762 (i := 5) rfl ?_
  refine X_iconst (v := 1) dL_law_1764 (by decide) ?_
  refine X_iadd dL_law_1765 ?_
  refine XJ.top (v' := .int (nI (x0 + 1))) (by rw [show (1 : Int32) = nI 1 from rfl, nI_add]) ?_
  refine X_sld rfl (by omega) hLn dL_law_1766 ?_
  refine XJ.top (v' := .int a) (by rw [ea_]) ?_
  refine X_aload_n dL_law_1767 (i := 0) rfl rfl ?_
  refine X_iload dL_law_1768 (i := 5) rfl ?_
  refine X_iconst (v := 2) dL_law_1770 (by decide) ?_
  refine X_iadd dL_law_1771 ?_
  refine XJ.top (v' := .int (nI (x0 + 2))) (by rw [show (2 : Int32) = nI 2 from rfl, nI_add]) ?_
  refine X_sld rfl (by omega) hLn dL_law_1772 ?_
  refine XJ.top (v' := .int b) (by rw [eb_]) ?_
  refine X_aload_n dL_law_1773 (i := 0) rfl rfl ?_
  refine X_iload dL_law_1774 (i := 5) rfl ?_
  refine X_iconst (v := 3) dL_law_1776 (by decide) ?_
  refine X_iadd dL_law_1777 ?_
  refine XJ.top (v' := .int (nI (x0 + 3))) (by rw [show (3 : Int32) = nI 3 from rfl, nI_add]) ?_
  refine X_sld rfl (by omega) hLn dL_law_1778 ?_
  refine XJ.top (v' := .int s) (by rw [es_]) ?_
  refine X_callV (gc2 := gc2) (gs2 := gs2) (r_quantityByWalking hA1 hM10 hIP a b s) (i := 39) h9a hA1.2.2.1 rfl kmX11_quantityByWalking rfl lL_229 iX11_quantityByWalking vX11_quantityByWalking rfl rfl (Nat.le_of_ble_eq_true rfl) (by decide) dL_law_1779 (by omega) (by omega) (fun E w1 hq => by obtain ⟨_, h, _⟩ := hq; nomatch h) (fun v w1 hq => ?_)
  obtain ⟨v1, hv, hv2, hF2, hM2⟩ := hq
  cases hv
  have hA2 := hA1.fm hF2
  have hX2 := hX1.fm hF2
  have hO2 := hO1.fm hF2
  have hM20 := hM2
  obtain ⟨⟨en2, h9b⟩, -⟩ := hM2
  refine X_lstore (i := 7) (lo' := [(7, _), (6, _), (0, _), (1, _), (2, _), (3, _), (4, _), (5, _)]) dL_law_1782 (Nat.le_of_ble_eq_true rfl) rfl ?_
  refine X_aload_n dL_law_1784 (i := 2) rfl rfl ?_
  refine X_callV (gc2 := gc2) (gs2 := gs2) (r_thrown hA2 h9b) (i := 39) h9b hA2.2.2.1 rfl kmX11_thrown rfl lL_152 iX11_thrown vX11_thrown rfl rfl (Nat.le_of_ble_eq_true rfl) (by decide) dL_law_1785 (by omega) (by omega) (fun E w1 hq => nomatch hq.1) (fun v w1 hq => ?_)
  have hv := hq.1
  obtain rfl := hq.2.symm
  cases hv
  refine X_iload dL_law_1788 (i := 6) rfl ?_
  refine X_icmp_eq (tgt := 1795) dL_law_1790 (by decide) (fun h1 => ?_) (fun h1 => ?_)
  · refine X_iload dL_law_1795 (i := 6) rfl ?_
    refine X_if_ne (tgt := 1811) dL_law_1797 (by decide) (fun h2 => ?_) (fun h2 => ?_)
    · refine X_goto (tgt := 2918) dL_law_1811 (by decide) ?_
      exact XJ.lcs (lo' := [(0, .ref G.2.2.2.2.1), (1, .ref a0), (2, .ref a39), (3, .ref a63), (4, .ref a64), (5, .int (nI x0))]) ⟨rfl, rfl, rfl, rfl, rfl, rfl, trivial⟩ (hn _ hA2 hX2 hM20 ⟨_, _, hO2⟩)
    · have hle : cdQ a b s P.1 ≤ 2 := cdQ_le
      have hcd : cdQ a b s P.1 = 0 := (nI_eq (b := 0) (by omega) (by decide)).mp h2
      refine X_aload_n dL_law_1800 (i := 3) rfl rfl ?_
      refine X_iconst (v := 0) dL_law_1801 (by decide) ?_
      refine X_lald (i := 63) hO2.1 hA2.2.2.2.1 (show (0 : Int32) = nI 0 from rfl) (by decide) (by decide) dL_law_1802 ?_
      refine XJ.top (v' := .long (nL (hasN L pr (idx s) 5 (idx a) (idx b)))) (by rw [hlv hcd]) ?_
      refine X_lload dL_law_1803 (i := 7) rfl ?_
      refine XJ.top (v' := .long (nL (hasN L pr (idx s) 5 (idx a) (idx b)))) (by rw [hv2 hcd]) ?_
      refine X_lcmp dL_law_1805 ?_
      refine XJ.top (v' := .int 0) (congrArg Value.int (lcmp_self _)) ?_
      refine X_if_eq (tgt := 1811) dL_law_1806 (by decide) (fun h3 => ?_) (fun h3 => ?_)
      · refine X_goto (tgt := 2918) dL_law_1811 (by decide) ?_
        exact XJ.lcs (lo' := [(0, .ref G.2.2.2.2.1), (1, .ref a0), (2, .ref a39), (3, .ref a63), (4, .ref a64), (5, .int (nI x0))]) ⟨rfl, rfl, rfl, rfl, rfl, rfl, trivial⟩ (hn _ hA2 hX2 hM20 ⟨_, _, hO2⟩)
      · exact absurd rfl h3
  · exact absurd rfl h1
set_option maxRecDepth 20000 in
theorem law_whereUsed {P : PSt} {L : LSt} {pr : Nat → Nat} {O : OSt} {mp : Nat} {mk : Nat → UInt32} {T : List Nat} {a0 a39 a63 a64 : Nat} {dc tc t : Nat} {nm : String} {hh : List (Nat × Nat × Nat × Nat)} {gc2 gs2 x0 : Nat} {ou : Nat → Int64} {ov : Nat → UInt64} (hA : AD w a0 a39 a63 a64) (hIX : IX G.2.2.1 w P L pr O mp mk T dc tc) (hM : IM G.2.2.1 w P L pr O mp mk T t) (hO : OUTS G.2.2.1 w ou ov) (hIP : IP P L pr O mp mk T) (hLn : G.2.2.2.2.2.1 < 2 ^ 31) (hx0 : x0 + 7 ≤ G.2.2.2.2.2.1) (a : Int32) (s : Int32) (ea_ : G.2.2.2.2.2.2 (x0 + 1) = a) (es_ : G.2.2.2.2.2.2 (x0 + 2) = s) (hn : ∀ w', AD w' a0 a39 a63 a64 → IX G.2.2.1 w' P L pr O mp mk T dc tc → IM G.2.2.1 w' P L pr O mp mk T (cdA a s P.1) → (∃ ou ov, OUTS G.2.2.1 w' ou ov) → XJ G (mLaw nm hh) 20 gc2 gs2 2918 [(0, .ref G.2.2.2.2.1), (1, .ref a0), (2, .ref a39), (3, .ref a63), (4, .ref a64), (5, .int (nI x0))] [] w' QL) : XJ G (mLaw nm hh) 20 (3 + gc2) (18 + gs2) 1814 [(0, .ref G.2.2.2.2.1), (1, .ref a0), (2, .ref a39), (3, .ref a63), (4, .ref a64), (5, .int (nI x0))] [] w QL := by
  refine X_aload_n dL_law_1814 (i := 1) rfl rfl ?_
  refine X_aload_n dL_law_1815 (i := 0) rfl rfl ?_
  refine X_iload dL_law_1816 (i := 5) rfl ?_
  refine X_iconst (v := 1) dL_law_1818 (by decide) ?_
  refine X_iadd dL_law_1819 ?_
  refine XJ.top (v' := .int (nI (x0 + 1))) (by rw [show (1 : Int32) = nI 1 from rfl, nI_add]) ?_
  refine X_sld rfl (by omega) hLn dL_law_1820 ?_
  refine XJ.top (v' := .int a) (by rw [ea_]) ?_
  refine X_aload_n dL_law_1821 (i := 0) rfl rfl ?_
  refine X_iload dL_law_1822 (i := 5) rfl ?_
  refine X_iconst (v := 2) dL_law_1824 (by decide) ?_
  refine X_iadd dL_law_1825 ?_
  refine XJ.top (v' := .int (nI (x0 + 2))) (by rw [show (2 : Int32) = nI 2 from rfl, nI_add]) ?_
  refine X_sld rfl (by omega) hLn dL_law_1826 ?_
  refine XJ.top (v' := .int s) (by rw [es_]) ?_
  refine X_aload_n dL_law_1827 (i := 3) rfl rfl ?_
  refine X_callSW (gc2 := gc2) (gs2 := gs2) (k_whereUsed hA hIX hM hO hIP a s) kmL_whereUsed rfl lL_230 sL_whereUsed rfl rfl (Nat.le_of_ble_eq_true rfl) (by decide) dL_law_1828 (Nat.le_refl _) (Nat.le_refl _) (fun E w1 hq => nomatch hq.1) (fun v w1 hq => ?_)
  obtain ⟨hv, hA1, hX1, hM1, ou1, ov1, hO1, hlv⟩ := hq
  cases hv
  have hM10 := hM1
  obtain ⟨⟨en1, h9a⟩, -⟩ := hM1
  refine X_istore (i := 6) (lo' := [(6, _), (0, _), (1, _), (2, _), (3, _), (4, _), (5, _)]) dL_law_1831 (Nat.le_of_ble_eq_true rfl) rfl ?_
  refine X_aload_n dL_law_1833 (i := 2) rfl rfl ?_
  refine X_aload_n dL_law_1834 (i := 0) rfl rfl ?_
  refine X_iload dL_law_1835 (i := 5) rfl ?_
  refine X_iconst (v := 1) dL_law_1837 (by decide) ?_
  refine X_iadd dL_law_1838 ?_
  refine XJ.top (v' := .int (nI (x0 + 1))) (by rw [show (1 : Int32) = nI 1 from rfl, nI_add]) ?_
  refine X_sld rfl (by omega) hLn dL_law_1839 ?_
  refine XJ.top (v' := .int a) (by rw [ea_]) ?_
  refine X_aload_n dL_law_1840 (i := 0) rfl rfl ?_
  refine X_iload dL_law_1841 (i := 5) rfl ?_
  refine X_iconst (v := 2) dL_law_1843 (by decide) ?_
  refine X_iadd dL_law_1844 ?_
  refine XJ.top (v' := .int (nI (x0 + 2))) (by rw [show (2 : Int32) = nI 2 from rfl, nI_add]) ?_
  refine X_sld rfl (by omega) hLn dL_law_1845 ?_
  refine XJ.top (v' := .int s) (by rw [es_]) ?_
  refine X_callV (gc2 := gc2) (gs2 := gs2) (r_whereUsed hA1 hM10 hIP a s) (i := 39) h9a hA1.2.2.1 rfl kmX11_whereUsed rfl lL_232 iX11_whereUsed vX11_whereUsed rfl rfl (Nat.le_of_ble_eq_true rfl) (by decide) dL_law_1846 (by omega) (by omega) (fun E w1 hq => by obtain ⟨_, h, _⟩ := hq; nomatch h) (fun v w1 hq => ?_)
  obtain ⟨v1, hv, hv2, hF2, hM2⟩ := hq
  cases hv
  have hA2 := hA1.fm hF2
  have hX2 := hX1.fm hF2
  have hO2 := hO1.fm hF2
  have hM20 := hM2
  obtain ⟨⟨en2, h9b⟩, -⟩ := hM2
  refine X_istore (i := 7) (lo' := [(7, _), (6, _), (0, _), (1, _), (2, _), (3, _), (4, _), (5, _)]) dL_law_1849 (Nat.le_of_ble_eq_true rfl) rfl ?_
  refine X_aload_n dL_law_1851 (i := 2) rfl rfl ?_
  refine X_callV (gc2 := gc2) (gs2 := gs2) (r_thrown hA2 h9b) (i := 39) h9b hA2.2.2.1 rfl kmX11_thrown rfl lL_152 iX11_thrown vX11_thrown rfl rfl (Nat.le_of_ble_eq_true rfl) (by decide) dL_law_1852 (by omega) (by omega) (fun E w1 hq => nomatch hq.1) (fun v w1 hq => ?_)
  have hv := hq.1
  obtain rfl := hq.2.symm
  cases hv
  refine X_iload dL_law_1855 (i := 6) rfl ?_
  refine X_icmp_eq (tgt := 1862) dL_law_1857 (by decide) (fun h1 => ?_) (fun h1 => ?_)
  · refine X_iload dL_law_1862 (i := 6) rfl ?_
    refine X_if_ne (tgt := 1879) dL_law_1864 (by decide) (fun h2 => ?_) (fun h2 => ?_)
    · refine X_goto (tgt := 2918) dL_law_1879 (by decide) ?_
      exact XJ.lcs (lo' := [(0, .ref G.2.2.2.2.1), (1, .ref a0), (2, .ref a39), (3, .ref a63), (4, .ref a64), (5, .int (nI x0))]) ⟨rfl, rfl, rfl, rfl, rfl, rfl, trivial⟩ (hn _ hA2 hX2 hM20 ⟨_, _, hO2⟩)
    · have hle : cdA a s P.1 ≤ 2 := cdA_le
      have hcd : cdA a s P.1 = 0 := (nI_eq (b := 0) (by omega) (by decide)).mp h2
      refine X_aload_n dL_law_1867 (i := 3) rfl rfl ?_
      refine X_iconst (v := 0) dL_law_1868 (by decide) ?_
      refine X_lald (i := 63) hO2.1 hA2.2.2.2.1 (show (0 : Int32) = nI 0 from rfl) (by decide) (by decide) dL_law_1869 ?_
      refine XJ.top (v' := .long ((nI (cntB (fun p => decide (p ≠ idx a) && decide (hasN L pr (idx s) 5 p (idx a) ≠ 0)) P.1) : Int32).toInt64)) (by rw [hlv hcd]) ?_
      refine X_iload dL_law_1870 (i := 7) rfl ?_
      refine XJ.top (v' := .int (nI (cntB (fun p => decide (p ≠ idx a) && decide (hasN L pr (idx s) 5 p (idx a) ≠ 0)) P.1))) (by rw [hv2 hcd]) ?_
      refine X_i2l dL_law_1872 rfl ?_
      refine X_lcmp dL_law_1873 ?_
      refine XJ.top (v' := .int 0) (congrArg Value.int (lcmp_self _)) ?_
      refine X_if_eq (tgt := 1879) dL_law_1874 (by decide) (fun h3 => ?_) (fun h3 => ?_)
      · refine X_goto (tgt := 2918) dL_law_1879 (by decide) ?_
        exact XJ.lcs (lo' := [(0, .ref G.2.2.2.2.1), (1, .ref a0), (2, .ref a39), (3, .ref a63), (4, .ref a64), (5, .int (nI x0))]) ⟨rfl, rfl, rfl, rfl, rfl, rfl, trivial⟩ (hn _ hA2 hX2 hM20 ⟨_, _, hO2⟩)
      · exact absurd rfl h3
  · exact absurd rfl h1
set_option maxRecDepth 20000 in
theorem law_levels {P : PSt} {L : LSt} {pr : Nat → Nat} {O : OSt} {mp : Nat} {mk : Nat → UInt32} {T : List Nat} {a0 a39 a63 a64 : Nat} {dc tc t : Nat} {nm : String} {hh : List (Nat × Nat × Nat × Nat)} {gc2 gs2 x0 : Nat} {ou : Nat → Int64} {ov : Nat → UInt64} (hA : AD w a0 a39 a63 a64) (hIX : IX G.2.2.1 w P L pr O mp mk T dc tc) (hM : IM G.2.2.1 w P L pr O mp mk T t) (hO : OUTS G.2.2.1 w ou ov) (hIP : IP P L pr O mp mk T) (hLn : G.2.2.2.2.2.1 < 2 ^ 31) (hx0 : x0 + 7 ≤ G.2.2.2.2.2.1) (a : Int32) (s : Int32) (ea_ : G.2.2.2.2.2.2 (x0 + 1) = a) (es_ : G.2.2.2.2.2.2 (x0 + 2) = s) (hn : ∀ w', AD w' a0 a39 a63 a64 → IX G.2.2.1 w' P L pr O mp mk T dc tc → IM G.2.2.1 w' P L pr O mp mk T (cdA a s P.1) → (∃ ou ov, OUTS G.2.2.1 w' ou ov) → XJ G (mLaw nm hh) 20 gc2 gs2 2918 [(0, .ref G.2.2.2.2.1), (1, .ref a0), (2, .ref a39), (3, .ref a63), (4, .ref a64), (5, .int (nI x0))] [] w' QL) : XJ G (mLaw nm hh) 20 (3 + gc2) (18 + gs2) 1882 [(0, .ref G.2.2.2.2.1), (1, .ref a0), (2, .ref a39), (3, .ref a63), (4, .ref a64), (5, .int (nI x0))] [] w QL := by
  refine X_aload_n dL_law_1882 (i := 1) rfl rfl ?_
  refine X_aload_n dL_law_1883 (i := 0) rfl rfl ?_
  refine X_iload dL_law_1884 (i := 5) rfl ?_
  refine X_iconst (v := 1) dL_law_1886 (by decide) ?_
  refine X_iadd dL_law_1887 ?_
  refine XJ.top (v' := .int (nI (x0 + 1))) (by rw [show (1 : Int32) = nI 1 from rfl, nI_add]) ?_
  refine X_sld rfl (by omega) hLn dL_law_1888 ?_
  refine XJ.top (v' := .int a) (by rw [ea_]) ?_
  refine X_aload_n dL_law_1889 (i := 0) rfl rfl ?_
  refine X_iload dL_law_1890 (i := 5) rfl ?_
  refine X_iconst (v := 2) dL_law_1892 (by decide) ?_
  refine X_iadd dL_law_1893 ?_
  refine XJ.top (v' := .int (nI (x0 + 2))) (by rw [show (2 : Int32) = nI 2 from rfl, nI_add]) ?_
  refine X_sld rfl (by omega) hLn dL_law_1894 ?_
  refine XJ.top (v' := .int s) (by rw [es_]) ?_
  refine X_aload_n dL_law_1895 (i := 3) rfl rfl ?_
  refine X_callSW (gc2 := gc2) (gs2 := gs2) (k_levels hA hIX hM hO hIP a s) kmL_levels rfl lL_233 sL_levels rfl rfl (Nat.le_of_ble_eq_true rfl) (by decide) dL_law_1896 (Nat.le_refl _) (Nat.le_refl _) (fun E w1 hq => nomatch hq.1) (fun v w1 hq => ?_)
  obtain ⟨hv, hA1, hX1, hM1, ou1, ov1, hO1, hlv⟩ := hq
  cases hv
  have hM10 := hM1
  obtain ⟨⟨en1, h9a⟩, -⟩ := hM1
  refine X_istore (i := 6) (lo' := [(6, _), (0, _), (1, _), (2, _), (3, _), (4, _), (5, _)]) dL_law_1899 (Nat.le_of_ble_eq_true rfl) rfl ?_
  refine X_aload_n dL_law_1901 (i := 2) rfl rfl ?_
  refine X_aload_n dL_law_1902 (i := 0) rfl rfl ?_
  refine X_iload dL_law_1903 (i := 5) rfl ?_
  refine X_iconst (v := 1) dL_law_1905 (by decide) ?_
  refine X_iadd dL_law_1906 ?_
  refine XJ.top (v' := .int (nI (x0 + 1))) (by rw [show (1 : Int32) = nI 1 from rfl, nI_add]) ?_
  refine X_sld rfl (by omega) hLn dL_law_1907 ?_
  refine XJ.top (v' := .int a) (by rw [ea_]) ?_
  refine X_aload_n dL_law_1908 (i := 0) rfl rfl ?_
  refine X_iload dL_law_1909 (i := 5) rfl ?_
  refine X_iconst (v := 2) dL_law_1911 (by decide) ?_
  refine X_iadd dL_law_1912 ?_
  refine XJ.top (v' := .int (nI (x0 + 2))) (by rw [show (2 : Int32) = nI 2 from rfl, nI_add]) ?_
  refine X_sld rfl (by omega) hLn dL_law_1913 ?_
  refine XJ.top (v' := .int s) (by rw [es_]) ?_
  refine X_callV (gc2 := gc2) (gs2 := gs2) (r_levels hA1 hM10 hIP a s) (i := 39) h9a hA1.2.2.1 rfl kmX11_levels rfl lL_235 iX11_levels vX11_levels rfl rfl (Nat.le_of_ble_eq_true rfl) (by decide) dL_law_1914 (by omega) (by omega) (fun E w1 hq => by obtain ⟨_, h, _⟩ := hq; nomatch h) (fun v w1 hq => ?_)
  obtain ⟨v1, hv, hv2, hF2, hM2⟩ := hq
  cases hv
  have hA2 := hA1.fm hF2
  have hX2 := hX1.fm hF2
  have hO2 := hO1.fm hF2
  have hM20 := hM2
  obtain ⟨⟨en2, h9b⟩, -⟩ := hM2
  refine X_istore (i := 7) (lo' := [(7, _), (6, _), (0, _), (1, _), (2, _), (3, _), (4, _), (5, _)]) dL_law_1917 (Nat.le_of_ble_eq_true rfl) rfl ?_
  refine X_aload_n dL_law_1919 (i := 2) rfl rfl ?_
  refine X_callV (gc2 := gc2) (gs2 := gs2) (r_thrown hA2 h9b) (i := 39) h9b hA2.2.2.1 rfl kmX11_thrown rfl lL_152 iX11_thrown vX11_thrown rfl rfl (Nat.le_of_ble_eq_true rfl) (by decide) dL_law_1920 (by omega) (by omega) (fun E w1 hq => nomatch hq.1) (fun v w1 hq => ?_)
  have hv := hq.1
  obtain rfl := hq.2.symm
  cases hv
  refine X_iload dL_law_1923 (i := 6) rfl ?_
  refine X_icmp_eq (tgt := 1930) dL_law_1925 (by decide) (fun h1 => ?_) (fun h1 => ?_)
  · refine X_iload dL_law_1930 (i := 6) rfl ?_
    refine X_if_ne (tgt := 1947) dL_law_1932 (by decide) (fun h2 => ?_) (fun h2 => ?_)
    · refine X_goto (tgt := 2918) dL_law_1947 (by decide) ?_
      exact XJ.lcs (lo' := [(0, .ref G.2.2.2.2.1), (1, .ref a0), (2, .ref a39), (3, .ref a63), (4, .ref a64), (5, .int (nI x0))]) ⟨rfl, rfl, rfl, rfl, rfl, rfl, trivial⟩ (hn _ hA2 hX2 hM20 ⟨_, _, hO2⟩)
    · have hle : cdA a s P.1 ≤ 2 := cdA_le
      have hcd : cdA a s P.1 = 0 := (nI_eq (b := 0) (by omega) (by decide)).mp h2
      refine X_aload_n dL_law_1935 (i := 3) rfl rfl ?_
      refine X_iconst (v := 0) dL_law_1936 (by decide) ?_
      refine X_lald (i := 63) hO2.1 hA2.2.2.2.1 (show (0 : Int32) = nI 0 from rfl) (by decide) (by decide) dL_law_1937 ?_
      refine XJ.top (v' := .long ((nI (dptN L pr (idx s) 5 (idx a)) : Int32).toInt64)) (by rw [hlv hcd]) ?_
      refine X_iload dL_law_1938 (i := 7) rfl ?_
      refine XJ.top (v' := .int (nI (dptN L pr (idx s) 5 (idx a)))) (by rw [hv2 hcd]) ?_
      refine X_i2l dL_law_1940 rfl ?_
      refine X_lcmp dL_law_1941 ?_
      refine XJ.top (v' := .int 0) (congrArg Value.int (lcmp_self _)) ?_
      refine X_if_eq (tgt := 1947) dL_law_1942 (by decide) (fun h3 => ?_) (fun h3 => ?_)
      · refine X_goto (tgt := 2918) dL_law_1947 (by decide) ?_
        exact XJ.lcs (lo' := [(0, .ref G.2.2.2.2.1), (1, .ref a0), (2, .ref a39), (3, .ref a63), (4, .ref a64), (5, .int (nI x0))]) ⟨rfl, rfl, rfl, rfl, rfl, rfl, trivial⟩ (hn _ hA2 hX2 hM20 ⟨_, _, hO2⟩)
      · exact absurd rfl h3
  · exact absurd rfl h1
set_option maxRecDepth 20000 in
theorem law_cost {P : PSt} {L : LSt} {pr : Nat → Nat} {O : OSt} {mp : Nat} {mk : Nat → UInt32} {T : List Nat} {a0 a39 a63 a64 : Nat} {dc tc t : Nat} {nm : String} {hh : List (Nat × Nat × Nat × Nat)} {gc2 gs2 x0 : Nat} {ou : Nat → Int64} {ov : Nat → UInt64} (hA : AD w a0 a39 a63 a64) (hIX : IX G.2.2.1 w P L pr O mp mk T dc tc) (hM : IM G.2.2.1 w P L pr O mp mk T t) (hO : OUTS G.2.2.1 w ou ov) (hIP : IP P L pr O mp mk T) (hLn : G.2.2.2.2.2.1 < 2 ^ 31) (hx0 : x0 + 7 ≤ G.2.2.2.2.2.1) (a : Int32) (s : Int32) (ea_ : G.2.2.2.2.2.2 (x0 + 1) = a) (es_ : G.2.2.2.2.2.2 (x0 + 2) = s) (hn : ∀ w', AD w' a0 a39 a63 a64 → IX G.2.2.1 w' P L pr O mp mk T dc tc → IM G.2.2.1 w' P L pr O mp mk T (cdA a s P.1) → (∃ ou ov, OUTS G.2.2.1 w' ou ov) → XJ G (mLaw nm hh) 20 gc2 gs2 2918 [(0, .ref G.2.2.2.2.1), (1, .ref a0), (2, .ref a39), (3, .ref a63), (4, .ref a64), (5, .int (nI x0))] [] w' QL) : XJ G (mLaw nm hh) 20 (3 + gc2) (18 + gs2) 1950 [(0, .ref G.2.2.2.2.1), (1, .ref a0), (2, .ref a39), (3, .ref a63), (4, .ref a64), (5, .int (nI x0))] [] w QL := by
  refine X_aload_n dL_law_1950 (i := 1) rfl rfl ?_
  refine X_aload_n dL_law_1951 (i := 0) rfl rfl ?_
  refine X_iload dL_law_1952 (i := 5) rfl ?_
  refine X_iconst (v := 1) dL_law_1954 (by decide) ?_
  refine X_iadd dL_law_1955 ?_
  refine XJ.top (v' := .int (nI (x0 + 1))) (by rw [show (1 : Int32) = nI 1 from rfl, nI_add]) ?_
  refine X_sld rfl (by omega) hLn dL_law_1956 ?_
  refine XJ.top (v' := .int a) (by rw [ea_]) ?_
  refine X_aload_n dL_law_1957 (i := 0) rfl rfl ?_
  refine X_iload dL_law_1958 (i := 5) rfl ?_
  refine X_iconst (v := 2) dL_law_1960 (by decide) ?_
  refine X_iadd dL_law_1961 ?_
  refine XJ.top (v' := .int (nI (x0 + 2))) (by rw [show (2 : Int32) = nI 2 from rfl, nI_add]) ?_
  refine X_sld rfl (by omega) hLn dL_law_1962 ?_
  refine XJ.top (v' := .int s) (by rw [es_]) ?_
  refine X_aload dL_law_1963 (i := 4) rfl ?_
  refine X_callSW (gc2 := gc2) (gs2 := gs2) (k_cost hA hIX hM hO hIP a s) kmL_cost rfl lL_236 sL_cost rfl rfl (Nat.le_of_ble_eq_true rfl) (by decide) dL_law_1965 (Nat.le_refl _) (Nat.le_refl _) (fun E w1 hq => nomatch hq.1) (fun v w1 hq => ?_)
  obtain ⟨hv, hA1, hX1, hM1, ou1, ov1, hO1, hlv⟩ := hq
  cases hv
  have hM10 := hM1
  obtain ⟨⟨en1, h9a⟩, -⟩ := hM1
  refine X_istore (i := 6) (lo' := [(6, _), (0, _), (1, _), (2, _), (3, _), (4, _), (5, _)]) dL_law_1968 (Nat.le_of_ble_eq_true rfl) rfl ?_
  refine X_aload_n dL_law_1970 (i := 2) rfl rfl ?_
  refine X_aload_n dL_law_1971 (i := 0) rfl rfl ?_
  refine X_iload dL_law_1972 (i := 5) rfl ?_
  refine X_iconst (v := 1) dL_law_1974 (by decide) ?_
  refine X_iadd dL_law_1975 ?_
  refine XJ.top (v' := .int (nI (x0 + 1))) (by rw [show (1 : Int32) = nI 1 from rfl, nI_add]) ?_
  refine X_sld rfl (by omega) hLn dL_law_1976 ?_
  refine XJ.top (v' := .int a) (by rw [ea_]) ?_
  refine X_aload_n dL_law_1977 (i := 0) rfl rfl ?_
  refine X_iload dL_law_1978 (i := 5) rfl ?_
  refine X_iconst (v := 2) dL_law_1980 (by decide) ?_
  refine X_iadd dL_law_1981 ?_
  refine XJ.top (v' := .int (nI (x0 + 2))) (by rw [show (2 : Int32) = nI 2 from rfl, nI_add]) ?_
  refine X_sld rfl (by omega) hLn dL_law_1982 ?_
  refine XJ.top (v' := .int s) (by rw [es_]) ?_
  refine X_callV (gc2 := gc2) (gs2 := gs2) (r_cost hA1 hM10 hIP a s) (i := 39) h9a hA1.2.2.1 rfl kmX11_cost rfl lL_239 iX11_cost vX11_cost rfl rfl (Nat.le_of_ble_eq_true rfl) (by decide) dL_law_1983 (by omega) (by omega) (fun E w1 hq => by obtain ⟨_, h, _⟩ := hq; nomatch h) (fun v w1 hq => ?_)
  obtain ⟨v1, hv, hv2, hF2, hM2⟩ := hq
  cases hv
  have hA2 := hA1.fm hF2
  have hX2 := hX1.fm hF2
  have hO2 := hO1.fm hF2
  have hM20 := hM2
  obtain ⟨⟨en2, h9b⟩, -⟩ := hM2
  refine X_fstore (i := 7) (lo' := [(7, _), (6, _), (0, _), (1, _), (2, _), (3, _), (4, _), (5, _)]) dL_law_1986 (Nat.le_of_ble_eq_true rfl) rfl ?_
  refine X_aload_n dL_law_1988 (i := 2) rfl rfl ?_
  refine X_callV (gc2 := gc2) (gs2 := gs2) (r_thrown hA2 h9b) (i := 39) h9b hA2.2.2.1 rfl kmX11_thrown rfl lL_152 iX11_thrown vX11_thrown rfl rfl (Nat.le_of_ble_eq_true rfl) (by decide) dL_law_1989 (by omega) (by omega) (fun E w1 hq => nomatch hq.1) (fun v w1 hq => ?_)
  have hv := hq.1
  obtain rfl := hq.2.symm
  cases hv
  refine X_iload dL_law_1992 (i := 6) rfl ?_
  refine X_icmp_eq (tgt := 1999) dL_law_1994 (by decide) (fun h1 => ?_) (fun h1 => ?_)
  · refine X_iload dL_law_1999 (i := 6) rfl ?_
    refine X_if_ne (tgt := 2037) dL_law_2001 (by decide) (fun h2 => ?_) (fun h2 => ?_)
    · refine X_goto (tgt := 2918) dL_law_2037 (by decide) ?_
      exact XJ.lcs (lo' := [(0, .ref G.2.2.2.2.1), (1, .ref a0), (2, .ref a39), (3, .ref a63), (4, .ref a64), (5, .int (nI x0))]) ⟨rfl, rfl, rfl, rfl, rfl, rfl, trivial⟩ (hn _ hA2 hX2 hM20 ⟨_, _, hO2⟩)
    · have hle : cdA a s P.1 ≤ 2 := cdA_le
      have hcd : cdA a s P.1 = 0 := (nI_eq (b := 0) (by omega) (by decide)).mp h2
      refine X_aload dL_law_2004 (i := 4) rfl ?_
      refine X_iconst (v := 0) dL_law_2006 (by decide) ?_
      refine X_dald (i := 64) hO2.2 hA2.2.2.2.2 (show (0 : Int32) = nI 0 from rfl) (by decide) (by decide) dL_law_2007 ?_
      refine XJ.top (v' := .double (FP.f2d ((priF P L pr (idx s) 5 (idx a))))) (by rw [hlv hcd]) ?_
      refine X_fload dL_law_2008 (i := 7) rfl ?_
      refine XJ.top (v' := .float ((priF P L pr (idx s) 5 (idx a)))) (by rw [hv2 hcd]) ?_
      refine X_f2d dL_law_2010 (ft_tovd (ft_f2d_nn (nn_cost hIP hcd))) ?_
      refine X_dcmp dL_law_2011 ?_
      refine XJ.top (v' := .int 0) (by rw [dcmp_selfv (ft_tovd (ft_f2d_nn (nn_cost hIP hcd)))]; rfl) ?_
      refine X_if_eq (tgt := 2037) dL_law_2012 (by decide) (fun h3 => ?_) (fun h3 => ?_)
      · refine X_goto (tgt := 2918) dL_law_2037 (by decide) ?_
        exact XJ.lcs (lo' := [(0, .ref G.2.2.2.2.1), (1, .ref a0), (2, .ref a39), (3, .ref a63), (4, .ref a64), (5, .int (nI x0))]) ⟨rfl, rfl, rfl, rfl, rfl, rfl, trivial⟩ (hn _ hA2 hX2 hM20 ⟨_, _, hO2⟩)
      · exact absurd rfl h3
  · exact absurd rfl h1
set_option maxRecDepth 20000 in
theorem law_costByWalking {P : PSt} {L : LSt} {pr : Nat → Nat} {O : OSt} {mp : Nat} {mk : Nat → UInt32} {T : List Nat} {a0 a39 a63 a64 : Nat} {dc tc t : Nat} {nm : String} {hh : List (Nat × Nat × Nat × Nat)} {gc2 gs2 x0 : Nat} {ou : Nat → Int64} {ov : Nat → UInt64} (hA : AD w a0 a39 a63 a64) (hIX : IX G.2.2.1 w P L pr O mp mk T dc tc) (hM : IM G.2.2.1 w P L pr O mp mk T t) (hO : OUTS G.2.2.1 w ou ov) (hIP : IP P L pr O mp mk T) (hLn : G.2.2.2.2.2.1 < 2 ^ 31) (hx0 : x0 + 7 ≤ G.2.2.2.2.2.1) (a : Int32) (s : Int32) (ea_ : G.2.2.2.2.2.2 (x0 + 1) = a) (es_ : G.2.2.2.2.2.2 (x0 + 2) = s) (hn : ∀ w', AD w' a0 a39 a63 a64 → IX G.2.2.1 w' P L pr O mp mk T dc tc → IM G.2.2.1 w' P L pr O mp mk T (cdA a s P.1) → (∃ ou ov, OUTS G.2.2.1 w' ou ov) → XJ G (mLaw nm hh) 20 gc2 gs2 2918 [(0, .ref G.2.2.2.2.1), (1, .ref a0), (2, .ref a39), (3, .ref a63), (4, .ref a64), (5, .int (nI x0))] [] w' QL) : XJ G (mLaw nm hh) 20 (3 + gc2) (18 + gs2) 2040 [(0, .ref G.2.2.2.2.1), (1, .ref a0), (2, .ref a39), (3, .ref a63), (4, .ref a64), (5, .int (nI x0))] [] w QL := by
  refine X_aload_n dL_law_2040 (i := 1) rfl rfl ?_
  refine X_aload_n dL_law_2041 (i := 0) rfl rfl ?_
  refine X_iload dL_law_2042 (i := 5) rfl ?_
  refine X_iconst (v := 1) dL_law_2044 (by decide) ?_
  refine X_iadd dL_law_2045 ?_
  refine XJ.top (v' := .int (nI (x0 + 1))) (by rw [show (1 : Int32) = nI 1 from rfl, nI_add]) ?_
  refine X_sld rfl (by omega) hLn dL_law_2046 ?_
  refine XJ.top (v' := .int a) (by rw [ea_]) ?_
  refine X_aload_n dL_law_2047 (i := 0) rfl rfl ?_
  refine X_iload dL_law_2048 (i := 5) rfl ?_
  refine X_iconst (v := 2) dL_law_2050 (by decide) ?_
  refine X_iadd dL_law_2051 ?_
  refine XJ.top (v' := .int (nI (x0 + 2))) (by rw [show (2 : Int32) = nI 2 from rfl, nI_add]) ?_
  refine X_sld rfl (by omega) hLn dL_law_2052 ?_
  refine XJ.top (v' := .int s) (by rw [es_]) ?_
  refine X_aload dL_law_2053 (i := 4) rfl ?_
  refine X_callSW (gc2 := gc2) (gs2 := gs2) (k_costByWalking hA hIX hM hO hIP a s) kmL_costByWalking rfl lL_240 sL_costByWalking rfl rfl (Nat.le_of_ble_eq_true rfl) (by decide) dL_law_2055 (Nat.le_refl _) (Nat.le_refl _) (fun E w1 hq => nomatch hq.1) (fun v w1 hq => ?_)
  obtain ⟨hv, hA1, hX1, hM1, ou1, ov1, hO1, hlv⟩ := hq
  cases hv
  have hM10 := hM1
  obtain ⟨⟨en1, h9a⟩, -⟩ := hM1
  refine X_istore (i := 6) (lo' := [(6, _), (0, _), (1, _), (2, _), (3, _), (4, _), (5, _)]) dL_law_2058 (Nat.le_of_ble_eq_true rfl) rfl ?_
  refine X_aload_n dL_law_2060 (i := 2) rfl rfl ?_
  refine X_aload_n dL_law_2061 (i := 0) rfl rfl ?_
  refine X_iload dL_law_2062 (i := 5) rfl ?_
  refine X_iconst (v := 1) dL_law_2064 (by decide) ?_
  refine X_iadd dL_law_2065 ?_
  refine XJ.top (v' := .int (nI (x0 + 1))) (by rw [show (1 : Int32) = nI 1 from rfl, nI_add]) ?_
  refine X_sld rfl (by omega) hLn dL_law_2066 ?_
  refine XJ.top (v' := .int a) (by rw [ea_]) ?_
  refine X_aload_n dL_law_2067 (i := 0) rfl rfl ?_
  refine X_iload dL_law_2068 (i := 5) rfl ?_
  refine X_iconst (v := 2) dL_law_2070 (by decide) ?_
  refine X_iadd dL_law_2071 ?_
  refine XJ.top (v' := .int (nI (x0 + 2))) (by rw [show (2 : Int32) = nI 2 from rfl, nI_add]) ?_
  refine X_sld rfl (by omega) hLn dL_law_2072 ?_
  refine XJ.top (v' := .int s) (by rw [es_]) ?_
  refine X_callV (gc2 := gc2) (gs2 := gs2) (r_costByWalking hA1 hM10 hIP a s) (i := 39) h9a hA1.2.2.1 rfl kmX11_costByWalking rfl lL_242 iX11_costByWalking vX11_costByWalking rfl rfl (Nat.le_of_ble_eq_true rfl) (by decide) dL_law_2073 (by omega) (by omega) (fun E w1 hq => by obtain ⟨_, h, _⟩ := hq; nomatch h) (fun v w1 hq => ?_)
  obtain ⟨v1, hv, hv2, hF2, hM2⟩ := hq
  cases hv
  have hA2 := hA1.fm hF2
  have hX2 := hX1.fm hF2
  have hO2 := hO1.fm hF2
  have hM20 := hM2
  obtain ⟨⟨en2, h9b⟩, -⟩ := hM2
  refine X_fstore (i := 7) (lo' := [(7, _), (6, _), (0, _), (1, _), (2, _), (3, _), (4, _), (5, _)]) dL_law_2076 (Nat.le_of_ble_eq_true rfl) rfl ?_
  refine X_aload_n dL_law_2078 (i := 2) rfl rfl ?_
  refine X_callV (gc2 := gc2) (gs2 := gs2) (r_thrown hA2 h9b) (i := 39) h9b hA2.2.2.1 rfl kmX11_thrown rfl lL_152 iX11_thrown vX11_thrown rfl rfl (Nat.le_of_ble_eq_true rfl) (by decide) dL_law_2079 (by omega) (by omega) (fun E w1 hq => nomatch hq.1) (fun v w1 hq => ?_)
  have hv := hq.1
  obtain rfl := hq.2.symm
  cases hv
  refine X_iload dL_law_2082 (i := 6) rfl ?_
  refine X_icmp_eq (tgt := 2089) dL_law_2084 (by decide) (fun h1 => ?_) (fun h1 => ?_)
  · refine X_iload dL_law_2089 (i := 6) rfl ?_
    refine X_if_ne (tgt := 2127) dL_law_2091 (by decide) (fun h2 => ?_) (fun h2 => ?_)
    · refine X_goto (tgt := 2918) dL_law_2127 (by decide) ?_
      exact XJ.lcs (lo' := [(0, .ref G.2.2.2.2.1), (1, .ref a0), (2, .ref a39), (3, .ref a63), (4, .ref a64), (5, .int (nI x0))]) ⟨rfl, rfl, rfl, rfl, rfl, rfl, trivial⟩ (hn _ hA2 hX2 hM20 ⟨_, _, hO2⟩)
    · have hle : cdA a s P.1 ≤ 2 := cdA_le
      have hcd : cdA a s P.1 = 0 := (nI_eq (b := 0) (by omega) (by decide)).mp h2
      refine X_aload dL_law_2094 (i := 4) rfl ?_
      refine X_iconst (v := 0) dL_law_2096 (by decide) ?_
      refine X_dald (i := 64) hO2.2 hA2.2.2.2.2 (show (0 : Int32) = nI 0 from rfl) (by decide) (by decide) dL_law_2097 ?_
      refine XJ.top (v' := .double (FP.f2d ((priF P L pr (idx s) 5 (idx a))))) (by rw [hlv hcd]) ?_
      refine X_fload dL_law_2098 (i := 7) rfl ?_
      refine XJ.top (v' := .float ((priF P L pr (idx s) 5 (idx a)))) (by rw [hv2 hcd]) ?_
      refine X_f2d dL_law_2100 (ft_tovd (ft_f2d_nn (nn_costByWalking hIP hcd))) ?_
      refine X_dcmp dL_law_2101 ?_
      refine XJ.top (v' := .int 0) (by rw [dcmp_selfv (ft_tovd (ft_f2d_nn (nn_costByWalking hIP hcd)))]; rfl) ?_
      refine X_if_eq (tgt := 2127) dL_law_2102 (by decide) (fun h3 => ?_) (fun h3 => ?_)
      · refine X_goto (tgt := 2918) dL_law_2127 (by decide) ?_
        exact XJ.lcs (lo' := [(0, .ref G.2.2.2.2.1), (1, .ref a0), (2, .ref a39), (3, .ref a63), (4, .ref a64), (5, .int (nI x0))]) ⟨rfl, rfl, rfl, rfl, rfl, rfl, trivial⟩ (hn _ hA2 hX2 hM20 ⟨_, _, hO2⟩)
      · exact absurd rfl h3
  · exact absurd rfl h1
set_option maxRecDepth 20000 in
theorem law_costBits {P : PSt} {L : LSt} {pr : Nat → Nat} {O : OSt} {mp : Nat} {mk : Nat → UInt32} {T : List Nat} {a0 a39 a63 a64 : Nat} {dc tc t : Nat} {nm : String} {hh : List (Nat × Nat × Nat × Nat)} {gc2 gs2 x0 : Nat} {ou : Nat → Int64} {ov : Nat → UInt64} (hA : AD w a0 a39 a63 a64) (hIX : IX G.2.2.1 w P L pr O mp mk T dc tc) (hM : IM G.2.2.1 w P L pr O mp mk T t) (hO : OUTS G.2.2.1 w ou ov) (hIP : IP P L pr O mp mk T) (hLn : G.2.2.2.2.2.1 < 2 ^ 31) (hx0 : x0 + 7 ≤ G.2.2.2.2.2.1) (a : Int32) (s : Int32) (ea_ : G.2.2.2.2.2.2 (x0 + 1) = a) (es_ : G.2.2.2.2.2.2 (x0 + 2) = s) (hn : ∀ w', AD w' a0 a39 a63 a64 → IX G.2.2.1 w' P L pr O mp mk T dc tc → IM G.2.2.1 w' P L pr O mp mk T (cdA a s P.1) → (∃ ou ov, OUTS G.2.2.1 w' ou ov) → XJ G (mLaw nm hh) 20 gc2 gs2 2918 [(0, .ref G.2.2.2.2.1), (1, .ref a0), (2, .ref a39), (3, .ref a63), (4, .ref a64), (5, .int (nI x0))] [] w' QL) : XJ G (mLaw nm hh) 20 (3 + gc2) (18 + gs2) 2130 [(0, .ref G.2.2.2.2.1), (1, .ref a0), (2, .ref a39), (3, .ref a63), (4, .ref a64), (5, .int (nI x0))] [] w QL := by
  refine X_aload_n dL_law_2130 (i := 1) rfl rfl ?_
  refine X_aload_n dL_law_2131 (i := 0) rfl rfl ?_
  refine X_iload dL_law_2132 (i := 5) rfl ?_
  refine X_iconst (v := 1) dL_law_2134 (by decide) ?_
  refine X_iadd dL_law_2135 ?_
  refine XJ.top (v' := .int (nI (x0 + 1))) (by rw [show (1 : Int32) = nI 1 from rfl, nI_add]) ?_
  refine X_sld rfl (by omega) hLn dL_law_2136 ?_
  refine XJ.top (v' := .int a) (by rw [ea_]) ?_
  refine X_aload_n dL_law_2137 (i := 0) rfl rfl ?_
  refine X_iload dL_law_2138 (i := 5) rfl ?_
  refine X_iconst (v := 2) dL_law_2140 (by decide) ?_
  refine X_iadd dL_law_2141 ?_
  refine XJ.top (v' := .int (nI (x0 + 2))) (by rw [show (2 : Int32) = nI 2 from rfl, nI_add]) ?_
  refine X_sld rfl (by omega) hLn dL_law_2142 ?_
  refine XJ.top (v' := .int s) (by rw [es_]) ?_
  refine X_aload_n dL_law_2143 (i := 3) rfl rfl ?_
  refine X_callSW (gc2 := gc2) (gs2 := gs2) (k_costBits hA hIX hM hO hIP a s) kmL_costBits rfl lL_243 sL_costBits rfl rfl (Nat.le_of_ble_eq_true rfl) (by decide) dL_law_2144 (Nat.le_refl _) (Nat.le_refl _) (fun E w1 hq => nomatch hq.1) (fun v w1 hq => ?_)
  obtain ⟨hv, hA1, hX1, hM1, ou1, ov1, hO1, hlv⟩ := hq
  cases hv
  have hM10 := hM1
  obtain ⟨⟨en1, h9a⟩, -⟩ := hM1
  refine X_istore (i := 6) (lo' := [(6, _), (0, _), (1, _), (2, _), (3, _), (4, _), (5, _)]) dL_law_2147 (Nat.le_of_ble_eq_true rfl) rfl ?_
  refine X_aload_n dL_law_2149 (i := 2) rfl rfl ?_
  refine X_aload_n dL_law_2150 (i := 0) rfl rfl ?_
  refine X_iload dL_law_2151 (i := 5) rfl ?_
  refine X_iconst (v := 1) dL_law_2153 (by decide) ?_
  refine X_iadd dL_law_2154 ?_
  refine XJ.top (v' := .int (nI (x0 + 1))) (by rw [show (1 : Int32) = nI 1 from rfl, nI_add]) ?_
  refine X_sld rfl (by omega) hLn dL_law_2155 ?_
  refine XJ.top (v' := .int a) (by rw [ea_]) ?_
  refine X_aload_n dL_law_2156 (i := 0) rfl rfl ?_
  refine X_iload dL_law_2157 (i := 5) rfl ?_
  refine X_iconst (v := 2) dL_law_2159 (by decide) ?_
  refine X_iadd dL_law_2160 ?_
  refine XJ.top (v' := .int (nI (x0 + 2))) (by rw [show (2 : Int32) = nI 2 from rfl, nI_add]) ?_
  refine X_sld rfl (by omega) hLn dL_law_2161 ?_
  refine XJ.top (v' := .int s) (by rw [es_]) ?_
  refine X_callV (gc2 := gc2) (gs2 := gs2) (r_costBits hA1 hM10 hIP a s) (i := 39) h9a hA1.2.2.1 rfl kmX11_costBits rfl lL_245 iX11_costBits vX11_costBits rfl rfl (Nat.le_of_ble_eq_true rfl) (by decide) dL_law_2162 (by omega) (by omega) (fun E w1 hq => by obtain ⟨_, h, _⟩ := hq; nomatch h) (fun v w1 hq => ?_)
  obtain ⟨v1, hv, hv2, hF2, hM2⟩ := hq
  cases hv
  have hA2 := hA1.fm hF2
  have hX2 := hX1.fm hF2
  have hO2 := hO1.fm hF2
  have hM20 := hM2
  obtain ⟨⟨en2, h9b⟩, -⟩ := hM2
  refine X_istore (i := 7) (lo' := [(7, _), (6, _), (0, _), (1, _), (2, _), (3, _), (4, _), (5, _)]) dL_law_2165 (Nat.le_of_ble_eq_true rfl) rfl ?_
  refine X_aload_n dL_law_2167 (i := 2) rfl rfl ?_
  refine X_callV (gc2 := gc2) (gs2 := gs2) (r_thrown hA2 h9b) (i := 39) h9b hA2.2.2.1 rfl kmX11_thrown rfl lL_152 iX11_thrown vX11_thrown rfl rfl (Nat.le_of_ble_eq_true rfl) (by decide) dL_law_2168 (by omega) (by omega) (fun E w1 hq => nomatch hq.1) (fun v w1 hq => ?_)
  have hv := hq.1
  obtain rfl := hq.2.symm
  cases hv
  refine X_iload dL_law_2171 (i := 6) rfl ?_
  refine X_icmp_eq (tgt := 2178) dL_law_2173 (by decide) (fun h1 => ?_) (fun h1 => ?_)
  · refine X_iload dL_law_2178 (i := 6) rfl ?_
    refine X_if_ne (tgt := 2195) dL_law_2180 (by decide) (fun h2 => ?_) (fun h2 => ?_)
    · refine X_goto (tgt := 2918) dL_law_2195 (by decide) ?_
      exact XJ.lcs (lo' := [(0, .ref G.2.2.2.2.1), (1, .ref a0), (2, .ref a39), (3, .ref a63), (4, .ref a64), (5, .int (nI x0))]) ⟨rfl, rfl, rfl, rfl, rfl, rfl, trivial⟩ (hn _ hA2 hX2 hM20 ⟨_, _, hO2⟩)
    · have hle : cdA a s P.1 ≤ 2 := cdA_le
      have hcd : cdA a s P.1 = 0 := (nI_eq (b := 0) (by omega) (by decide)).mp h2
      refine X_aload_n dL_law_2183 (i := 3) rfl rfl ?_
      refine X_iconst (v := 0) dL_law_2184 (by decide) ?_
      refine X_lald (i := 63) hO2.1 hA2.2.2.2.1 (show (0 : Int32) = nI 0 from rfl) (by decide) (by decide) dL_law_2185 ?_
      refine XJ.top (v' := .long (((priF P L pr (idx s) 5 (idx a)).toInt32 : Int32).toInt64)) (by rw [hlv hcd]) ?_
      refine X_iload dL_law_2186 (i := 7) rfl ?_
      refine XJ.top (v' := .int ((priF P L pr (idx s) 5 (idx a)).toInt32)) (by rw [hv2 hcd]) ?_
      refine X_i2l dL_law_2188 rfl ?_
      refine X_lcmp dL_law_2189 ?_
      refine XJ.top (v' := .int 0) (congrArg Value.int (lcmp_self _)) ?_
      refine X_if_eq (tgt := 2195) dL_law_2190 (by decide) (fun h3 => ?_) (fun h3 => ?_)
      · refine X_goto (tgt := 2918) dL_law_2195 (by decide) ?_
        exact XJ.lcs (lo' := [(0, .ref G.2.2.2.2.1), (1, .ref a0), (2, .ref a39), (3, .ref a63), (4, .ref a64), (5, .int (nI x0))]) ⟨rfl, rfl, rfl, rfl, rfl, rfl, trivial⟩ (hn _ hA2 hX2 hM20 ⟨_, _, hO2⟩)
      · exact absurd rfl h3
  · exact absurd rfl h1
set_option maxRecDepth 20000 in
theorem law_costCents {P : PSt} {L : LSt} {pr : Nat → Nat} {O : OSt} {mp : Nat} {mk : Nat → UInt32} {T : List Nat} {a0 a39 a63 a64 : Nat} {dc tc t : Nat} {nm : String} {hh : List (Nat × Nat × Nat × Nat)} {gc2 gs2 x0 : Nat} {ou : Nat → Int64} {ov : Nat → UInt64} (hA : AD w a0 a39 a63 a64) (hIX : IX G.2.2.1 w P L pr O mp mk T dc tc) (hM : IM G.2.2.1 w P L pr O mp mk T t) (hO : OUTS G.2.2.1 w ou ov) (hIP : IP P L pr O mp mk T) (hLn : G.2.2.2.2.2.1 < 2 ^ 31) (hx0 : x0 + 7 ≤ G.2.2.2.2.2.1) (a : Int32) (s : Int32) (ea_ : G.2.2.2.2.2.2 (x0 + 1) = a) (es_ : G.2.2.2.2.2.2 (x0 + 2) = s) (hn : ∀ w', AD w' a0 a39 a63 a64 → IX G.2.2.1 w' P L pr O mp mk T dc tc → IM G.2.2.1 w' P L pr O mp mk T (cdA a s P.1) → (∃ ou ov, OUTS G.2.2.1 w' ou ov) → XJ G (mLaw nm hh) 20 gc2 gs2 2918 [(0, .ref G.2.2.2.2.1), (1, .ref a0), (2, .ref a39), (3, .ref a63), (4, .ref a64), (5, .int (nI x0))] [] w' QL) : XJ G (mLaw nm hh) 20 (3 + gc2) (18 + gs2) 2198 [(0, .ref G.2.2.2.2.1), (1, .ref a0), (2, .ref a39), (3, .ref a63), (4, .ref a64), (5, .int (nI x0))] [] w QL := by
  refine X_aload_n dL_law_2198 (i := 1) rfl rfl ?_
  refine X_aload_n dL_law_2199 (i := 0) rfl rfl ?_
  refine X_iload dL_law_2200 (i := 5) rfl ?_
  refine X_iconst (v := 1) dL_law_2202 (by decide) ?_
  refine X_iadd dL_law_2203 ?_
  refine XJ.top (v' := .int (nI (x0 + 1))) (by rw [show (1 : Int32) = nI 1 from rfl, nI_add]) ?_
  refine X_sld rfl (by omega) hLn dL_law_2204 ?_
  refine XJ.top (v' := .int a) (by rw [ea_]) ?_
  refine X_aload_n dL_law_2205 (i := 0) rfl rfl ?_
  refine X_iload dL_law_2206 (i := 5) rfl ?_
  refine X_iconst (v := 2) dL_law_2208 (by decide) ?_
  refine X_iadd dL_law_2209 ?_
  refine XJ.top (v' := .int (nI (x0 + 2))) (by rw [show (2 : Int32) = nI 2 from rfl, nI_add]) ?_
  refine X_sld rfl (by omega) hLn dL_law_2210 ?_
  refine XJ.top (v' := .int s) (by rw [es_]) ?_
  refine X_aload_n dL_law_2211 (i := 3) rfl rfl ?_
  refine X_callSW (gc2 := gc2) (gs2 := gs2) (k_costCents hA hIX hM hO hIP a s) kmL_costCents rfl lL_246 sL_costCents rfl rfl (Nat.le_of_ble_eq_true rfl) (by decide) dL_law_2212 (Nat.le_refl _) (Nat.le_refl _) (fun E w1 hq => nomatch hq.1) (fun v w1 hq => ?_)
  obtain ⟨hv, hA1, hX1, hM1, ou1, ov1, hO1, hlv⟩ := hq
  cases hv
  have hM10 := hM1
  obtain ⟨⟨en1, h9a⟩, -⟩ := hM1
  refine X_istore (i := 6) (lo' := [(6, _), (0, _), (1, _), (2, _), (3, _), (4, _), (5, _)]) dL_law_2215 (Nat.le_of_ble_eq_true rfl) rfl ?_
  refine X_aload_n dL_law_2217 (i := 2) rfl rfl ?_
  refine X_aload_n dL_law_2218 (i := 0) rfl rfl ?_
  refine X_iload dL_law_2219 (i := 5) rfl ?_
  refine X_iconst (v := 1) dL_law_2221 (by decide) ?_
  refine X_iadd dL_law_2222 ?_
  refine XJ.top (v' := .int (nI (x0 + 1))) (by rw [show (1 : Int32) = nI 1 from rfl, nI_add]) ?_
  refine X_sld rfl (by omega) hLn dL_law_2223 ?_
  refine XJ.top (v' := .int a) (by rw [ea_]) ?_
  refine X_aload_n dL_law_2224 (i := 0) rfl rfl ?_
  refine X_iload dL_law_2225 (i := 5) rfl ?_
  refine X_iconst (v := 2) dL_law_2227 (by decide) ?_
  refine X_iadd dL_law_2228 ?_
  refine XJ.top (v' := .int (nI (x0 + 2))) (by rw [show (2 : Int32) = nI 2 from rfl, nI_add]) ?_
  refine X_sld rfl (by omega) hLn dL_law_2229 ?_
  refine XJ.top (v' := .int s) (by rw [es_]) ?_
  refine X_callV (gc2 := gc2) (gs2 := gs2) (r_costCents hA1 hM10 hIP a s) (i := 39) h9a hA1.2.2.1 rfl kmX11_costCents rfl lL_248 iX11_costCents vX11_costCents rfl rfl (Nat.le_of_ble_eq_true rfl) (by decide) dL_law_2230 (by omega) (by omega) (fun E w1 hq => by obtain ⟨_, h, _⟩ := hq; nomatch h) (fun v w1 hq => ?_)
  obtain ⟨v1, hv, hv2, hF2, hM2⟩ := hq
  cases hv
  have hA2 := hA1.fm hF2
  have hX2 := hX1.fm hF2
  have hO2 := hO1.fm hF2
  have hM20 := hM2
  obtain ⟨⟨en2, h9b⟩, -⟩ := hM2
  refine X_istore (i := 7) (lo' := [(7, _), (6, _), (0, _), (1, _), (2, _), (3, _), (4, _), (5, _)]) dL_law_2233 (Nat.le_of_ble_eq_true rfl) rfl ?_
  refine X_aload_n dL_law_2235 (i := 2) rfl rfl ?_
  refine X_callV (gc2 := gc2) (gs2 := gs2) (r_thrown hA2 h9b) (i := 39) h9b hA2.2.2.1 rfl kmX11_thrown rfl lL_152 iX11_thrown vX11_thrown rfl rfl (Nat.le_of_ble_eq_true rfl) (by decide) dL_law_2236 (by omega) (by omega) (fun E w1 hq => nomatch hq.1) (fun v w1 hq => ?_)
  have hv := hq.1
  obtain rfl := hq.2.symm
  cases hv
  refine X_iload dL_law_2239 (i := 6) rfl ?_
  refine X_icmp_eq (tgt := 2246) dL_law_2241 (by decide) (fun h1 => ?_) (fun h1 => ?_)
  · refine X_iload dL_law_2246 (i := 6) rfl ?_
    refine X_if_ne (tgt := 2263) dL_law_2248 (by decide) (fun h2 => ?_) (fun h2 => ?_)
    · refine X_goto (tgt := 2918) dL_law_2263 (by decide) ?_
      exact XJ.lcs (lo' := [(0, .ref G.2.2.2.2.1), (1, .ref a0), (2, .ref a39), (3, .ref a63), (4, .ref a64), (5, .int (nI x0))]) ⟨rfl, rfl, rfl, rfl, rfl, rfl, trivial⟩ (hn _ hA2 hX2 hM20 ⟨_, _, hO2⟩)
    · have hle : cdA a s P.1 ≤ 2 := cdA_le
      have hcd : cdA a s P.1 = 0 := (nI_eq (b := 0) (by omega) (by decide)).mp h2
      refine X_aload_n dL_law_2251 (i := 3) rfl rfl ?_
      refine X_iconst (v := 0) dL_law_2252 (by decide) ?_
      refine X_lald (i := 63) hO2.1 hA2.2.2.2.1 (show (0 : Int32) = nI 0 from rfl) (by decide) (by decide) dL_law_2253 ?_
      refine XJ.top (v' := .long ((FP.f2i (FP.fmul (priF P L pr (idx s) 5 (idx a)) 1120403456) : Int32).toInt64)) (by rw [hlv hcd]) ?_
      refine X_iload dL_law_2254 (i := 7) rfl ?_
      refine XJ.top (v' := .int (FP.f2i (FP.fmul (priF P L pr (idx s) 5 (idx a)) 1120403456))) (by rw [hv2 hcd]) ?_
      refine X_i2l dL_law_2256 rfl ?_
      refine X_lcmp dL_law_2257 ?_
      refine XJ.top (v' := .int 0) (congrArg Value.int (lcmp_self _)) ?_
      refine X_if_eq (tgt := 2263) dL_law_2258 (by decide) (fun h3 => ?_) (fun h3 => ?_)
      · refine X_goto (tgt := 2918) dL_law_2263 (by decide) ?_
        exact XJ.lcs (lo' := [(0, .ref G.2.2.2.2.1), (1, .ref a0), (2, .ref a39), (3, .ref a63), (4, .ref a64), (5, .int (nI x0))]) ⟨rfl, rfl, rfl, rfl, rfl, rfl, trivial⟩ (hn _ hA2 hX2 hM20 ⟨_, _, hO2⟩)
      · exact absurd rfl h3
  · exact absurd rfl h1
set_option maxRecDepth 20000 in
theorem law_dearest {P : PSt} {L : LSt} {pr : Nat → Nat} {O : OSt} {mp : Nat} {mk : Nat → UInt32} {T : List Nat} {a0 a39 a63 a64 : Nat} {dc tc t : Nat} {nm : String} {hh : List (Nat × Nat × Nat × Nat)} {gc2 gs2 x0 : Nat} {ou : Nat → Int64} {ov : Nat → UInt64} (hA : AD w a0 a39 a63 a64) (hIX : IX G.2.2.1 w P L pr O mp mk T dc tc) (hM : IM G.2.2.1 w P L pr O mp mk T t) (hO : OUTS G.2.2.1 w ou ov) (hIP : IP P L pr O mp mk T) (hLn : G.2.2.2.2.2.1 < 2 ^ 31) (hx0 : x0 + 7 ≤ G.2.2.2.2.2.1) (a : Int32) (s : Int32) (ea_ : G.2.2.2.2.2.2 (x0 + 1) = a) (es_ : G.2.2.2.2.2.2 (x0 + 2) = s) (hn : ∀ w', AD w' a0 a39 a63 a64 → IX G.2.2.1 w' P L pr O mp mk T dc tc → IM G.2.2.1 w' P L pr O mp mk T (cdD a s P.1 (dstF L pr (idx s) (idx a) (mrF L (priF P L pr (idx s) 5)) 6)) → (∃ ou ov, OUTS G.2.2.1 w' ou ov) → XJ G (mLaw nm hh) 20 gc2 gs2 2918 [(0, .ref G.2.2.2.2.1), (1, .ref a0), (2, .ref a39), (3, .ref a63), (4, .ref a64), (5, .int (nI x0))] [] w' QL) : XJ G (mLaw nm hh) 20 (4 + gc2) (24 + gs2) 2266 [(0, .ref G.2.2.2.2.1), (1, .ref a0), (2, .ref a39), (3, .ref a63), (4, .ref a64), (5, .int (nI x0))] [] w QL := by
  refine X_aload_n dL_law_2266 (i := 1) rfl rfl ?_
  refine X_aload_n dL_law_2267 (i := 0) rfl rfl ?_
  refine X_iload dL_law_2268 (i := 5) rfl ?_
  refine X_iconst (v := 1) dL_law_2270 (by decide) ?_
  refine X_iadd dL_law_2271 ?_
  refine XJ.top (v' := .int (nI (x0 + 1))) (by rw [show (1 : Int32) = nI 1 from rfl, nI_add]) ?_
  refine X_sld rfl (by omega) hLn dL_law_2272 ?_
  refine XJ.top (v' := .int a) (by rw [ea_]) ?_
  refine X_aload_n dL_law_2273 (i := 0) rfl rfl ?_
  refine X_iload dL_law_2274 (i := 5) rfl ?_
  refine X_iconst (v := 2) dL_law_2276 (by decide) ?_
  refine X_iadd dL_law_2277 ?_
  refine XJ.top (v' := .int (nI (x0 + 2))) (by rw [show (2 : Int32) = nI 2 from rfl, nI_add]) ?_
  refine X_sld rfl (by omega) hLn dL_law_2278 ?_
  refine XJ.top (v' := .int s) (by rw [es_]) ?_
  refine X_aload_n dL_law_2279 (i := 3) rfl rfl ?_
  refine X_callSW (gc2 := gc2) (gs2 := gs2) (k_dearest hA hIX hM hO hIP a s) kmL_dearest rfl lL_249 sL_dearest rfl rfl (Nat.le_of_ble_eq_true rfl) (by decide) dL_law_2280 (Nat.le_refl _) (Nat.le_refl _) (fun E w1 hq => nomatch hq.1) (fun v w1 hq => ?_)
  obtain ⟨hv, hA1, hX1, hM1, ou1, ov1, hO1, hlv⟩ := hq
  cases hv
  have hM10 := hM1
  obtain ⟨⟨en1, h9a⟩, -⟩ := hM1
  refine X_istore (i := 6) (lo' := [(6, _), (0, _), (1, _), (2, _), (3, _), (4, _), (5, _)]) dL_law_2283 (Nat.le_of_ble_eq_true rfl) rfl ?_
  refine X_aload_n dL_law_2285 (i := 2) rfl rfl ?_
  refine X_aload_n dL_law_2286 (i := 0) rfl rfl ?_
  refine X_iload dL_law_2287 (i := 5) rfl ?_
  refine X_iconst (v := 1) dL_law_2289 (by decide) ?_
  refine X_iadd dL_law_2290 ?_
  refine XJ.top (v' := .int (nI (x0 + 1))) (by rw [show (1 : Int32) = nI 1 from rfl, nI_add]) ?_
  refine X_sld rfl (by omega) hLn dL_law_2291 ?_
  refine XJ.top (v' := .int a) (by rw [ea_]) ?_
  refine X_aload_n dL_law_2292 (i := 0) rfl rfl ?_
  refine X_iload dL_law_2293 (i := 5) rfl ?_
  refine X_iconst (v := 2) dL_law_2295 (by decide) ?_
  refine X_iadd dL_law_2296 ?_
  refine XJ.top (v' := .int (nI (x0 + 2))) (by rw [show (2 : Int32) = nI 2 from rfl, nI_add]) ?_
  refine X_sld rfl (by omega) hLn dL_law_2297 ?_
  refine XJ.top (v' := .int s) (by rw [es_]) ?_
  refine X_callV (gc2 := gc2) (gs2 := gs2) (r_dearest hA1 hM10 hIP a s) (i := 39) h9a hA1.2.2.1 rfl kmX11_dearest rfl lL_251 iX11_dearest vX11_dearest rfl rfl (Nat.le_of_ble_eq_true rfl) (by decide) dL_law_2298 (by omega) (by omega) (fun E w1 hq => by obtain ⟨_, h, _⟩ := hq; nomatch h) (fun v w1 hq => ?_)
  obtain ⟨v1, hv, hv2, hF2, hM2⟩ := hq
  cases hv
  have hA2 := hA1.fm hF2
  have hX2 := hX1.fm hF2
  have hO2 := hO1.fm hF2
  have hM20 := hM2
  obtain ⟨⟨en2, h9b⟩, -⟩ := hM2
  refine X_istore (i := 7) (lo' := [(7, _), (6, _), (0, _), (1, _), (2, _), (3, _), (4, _), (5, _)]) dL_law_2301 (Nat.le_of_ble_eq_true rfl) rfl ?_
  refine X_aload_n dL_law_2303 (i := 2) rfl rfl ?_
  refine X_callV (gc2 := gc2) (gs2 := gs2) (r_thrown hA2 h9b) (i := 39) h9b hA2.2.2.1 rfl kmX11_thrown rfl lL_152 iX11_thrown vX11_thrown rfl rfl (Nat.le_of_ble_eq_true rfl) (by decide) dL_law_2304 (by omega) (by omega) (fun E w1 hq => nomatch hq.1) (fun v w1 hq => ?_)
  have hv := hq.1
  obtain rfl := hq.2.symm
  cases hv
  refine X_iload dL_law_2307 (i := 6) rfl ?_
  refine X_icmp_eq (tgt := 2314) dL_law_2309 (by decide) (fun h1 => ?_) (fun h1 => ?_)
  · refine X_iload dL_law_2314 (i := 6) rfl ?_
    refine X_if_ne (tgt := 2331) dL_law_2316 (by decide) (fun h2 => ?_) (fun h2 => ?_)
    · refine X_goto (tgt := 2918) dL_law_2331 (by decide) ?_
      exact XJ.lcs (lo' := [(0, .ref G.2.2.2.2.1), (1, .ref a0), (2, .ref a39), (3, .ref a63), (4, .ref a64), (5, .int (nI x0))]) ⟨rfl, rfl, rfl, rfl, rfl, rfl, trivial⟩ (hn _ hA2 hX2 hM20 ⟨_, _, hO2⟩)
    · have hle : cdD a s P.1 (dstF L pr (idx s) (idx a) (mrF L (priF P L pr (idx s) 5)) 6) ≤ 3 := cdD_le
      have hcd : cdD a s P.1 (dstF L pr (idx s) (idx a) (mrF L (priF P L pr (idx s) 5)) 6) = 0 := (nI_eq (b := 0) (by omega) (by decide)).mp h2
      refine X_aload_n dL_law_2319 (i := 3) rfl rfl ?_
      refine X_iconst (v := 0) dL_law_2320 (by decide) ?_
      refine X_lald (i := 63) hO2.1 hA2.2.2.2.1 (show (0 : Int32) = nI 0 from rfl) (by decide) (by decide) dL_law_2321 ?_
      refine XJ.top (v' := .long ((oI (dstF L pr (idx s) (idx a) (mrF L (priF P L pr (idx s) 5)) 6) : Int32).toInt64)) (by rw [hlv hcd]) ?_
      refine X_iload dL_law_2322 (i := 7) rfl ?_
      refine XJ.top (v' := .int (oI (dstF L pr (idx s) (idx a) (mrF L (priF P L pr (idx s) 5)) 6))) (by rw [hv2 hcd]) ?_
      refine X_i2l dL_law_2324 rfl ?_
      refine X_lcmp dL_law_2325 ?_
      refine XJ.top (v' := .int 0) (congrArg Value.int (lcmp_self _)) ?_
      refine X_if_eq (tgt := 2331) dL_law_2326 (by decide) (fun h3 => ?_) (fun h3 => ?_)
      · refine X_goto (tgt := 2918) dL_law_2331 (by decide) ?_
        exact XJ.lcs (lo' := [(0, .ref G.2.2.2.2.1), (1, .ref a0), (2, .ref a39), (3, .ref a63), (4, .ref a64), (5, .int (nI x0))]) ⟨rfl, rfl, rfl, rfl, rfl, rfl, trivial⟩ (hn _ hA2 hX2 hM20 ⟨_, _, hO2⟩)
      · exact absurd rfl h3
  · exact absurd rfl h1
set_option maxRecDepth 20000 in
theorem law_weight {P : PSt} {L : LSt} {pr : Nat → Nat} {O : OSt} {mp : Nat} {mk : Nat → UInt32} {T : List Nat} {a0 a39 a63 a64 : Nat} {dc tc t : Nat} {nm : String} {hh : List (Nat × Nat × Nat × Nat)} {gc2 gs2 x0 : Nat} {ou : Nat → Int64} {ov : Nat → UInt64} (hA : AD w a0 a39 a63 a64) (hIX : IX G.2.2.1 w P L pr O mp mk T dc tc) (hM : IM G.2.2.1 w P L pr O mp mk T t) (hO : OUTS G.2.2.1 w ou ov) (hIP : IP P L pr O mp mk T) (hLn : G.2.2.2.2.2.1 < 2 ^ 31) (hx0 : x0 + 7 ≤ G.2.2.2.2.2.1) (a : Int32) (s : Int32) (ea_ : G.2.2.2.2.2.2 (x0 + 1) = a) (es_ : G.2.2.2.2.2.2 (x0 + 2) = s) (hn : ∀ w', AD w' a0 a39 a63 a64 → IX G.2.2.1 w' P L pr O mp mk T dc tc → IM G.2.2.1 w' P L pr O mp mk T (cdA a s P.1) → (∃ ou ov, OUTS G.2.2.1 w' ou ov) → XJ G (mLaw nm hh) 20 gc2 gs2 2918 [(0, .ref G.2.2.2.2.1), (1, .ref a0), (2, .ref a39), (3, .ref a63), (4, .ref a64), (5, .int (nI x0))] [] w' QL) : XJ G (mLaw nm hh) 20 (3 + gc2) (18 + gs2) 2334 [(0, .ref G.2.2.2.2.1), (1, .ref a0), (2, .ref a39), (3, .ref a63), (4, .ref a64), (5, .int (nI x0))] [] w QL := by
  refine X_aload_n dL_law_2334 (i := 1) rfl rfl ?_
  refine X_aload_n dL_law_2335 (i := 0) rfl rfl ?_
  refine X_iload dL_law_2336 (i := 5) rfl ?_
  refine X_iconst (v := 1) dL_law_2338 (by decide) ?_
  refine X_iadd dL_law_2339 ?_
  refine XJ.top (v' := .int (nI (x0 + 1))) (by rw [show (1 : Int32) = nI 1 from rfl, nI_add]) ?_
  refine X_sld rfl (by omega) hLn dL_law_2340 ?_
  refine XJ.top (v' := .int a) (by rw [ea_]) ?_
  refine X_aload_n dL_law_2341 (i := 0) rfl rfl ?_
  refine X_iload dL_law_2342 (i := 5) rfl ?_
  refine X_iconst (v := 2) dL_law_2344 (by decide) ?_
  refine X_iadd dL_law_2345 ?_
  refine XJ.top (v' := .int (nI (x0 + 2))) (by rw [show (2 : Int32) = nI 2 from rfl, nI_add]) ?_
  refine X_sld rfl (by omega) hLn dL_law_2346 ?_
  refine XJ.top (v' := .int s) (by rw [es_]) ?_
  refine X_aload dL_law_2347 (i := 4) rfl ?_
  refine X_callSW (gc2 := gc2) (gs2 := gs2) (k_weight hA hIX hM hO hIP a s) kmL_weight rfl lL_252 sL_weight rfl rfl (Nat.le_of_ble_eq_true rfl) (by decide) dL_law_2349 (Nat.le_refl _) (Nat.le_refl _) (fun E w1 hq => nomatch hq.1) (fun v w1 hq => ?_)
  obtain ⟨hv, hA1, hX1, hM1, ou1, ov1, hO1, hlv⟩ := hq
  cases hv
  have hM10 := hM1
  obtain ⟨⟨en1, h9a⟩, -⟩ := hM1
  refine X_istore (i := 6) (lo' := [(6, _), (0, _), (1, _), (2, _), (3, _), (4, _), (5, _)]) dL_law_2352 (Nat.le_of_ble_eq_true rfl) rfl ?_
  refine X_aload_n dL_law_2354 (i := 2) rfl rfl ?_
  refine X_aload_n dL_law_2355 (i := 0) rfl rfl ?_
  refine X_iload dL_law_2356 (i := 5) rfl ?_
  refine X_iconst (v := 1) dL_law_2358 (by decide) ?_
  refine X_iadd dL_law_2359 ?_
  refine XJ.top (v' := .int (nI (x0 + 1))) (by rw [show (1 : Int32) = nI 1 from rfl, nI_add]) ?_
  refine X_sld rfl (by omega) hLn dL_law_2360 ?_
  refine XJ.top (v' := .int a) (by rw [ea_]) ?_
  refine X_aload_n dL_law_2361 (i := 0) rfl rfl ?_
  refine X_iload dL_law_2362 (i := 5) rfl ?_
  refine X_iconst (v := 2) dL_law_2364 (by decide) ?_
  refine X_iadd dL_law_2365 ?_
  refine XJ.top (v' := .int (nI (x0 + 2))) (by rw [show (2 : Int32) = nI 2 from rfl, nI_add]) ?_
  refine X_sld rfl (by omega) hLn dL_law_2366 ?_
  refine XJ.top (v' := .int s) (by rw [es_]) ?_
  refine X_callV (gc2 := gc2) (gs2 := gs2) (r_weight hA1 hM10 hIP a s) (i := 39) h9a hA1.2.2.1 rfl kmX11_weight rfl lL_254 iX11_weight vX11_weight rfl rfl (Nat.le_of_ble_eq_true rfl) (by decide) dL_law_2367 (by omega) (by omega) (fun E w1 hq => by obtain ⟨_, h, _⟩ := hq; nomatch h) (fun v w1 hq => ?_)
  obtain ⟨v1, hv, hv2, hF2, hM2⟩ := hq
  cases hv
  have hA2 := hA1.fm hF2
  have hX2 := hX1.fm hF2
  have hO2 := hO1.fm hF2
  have hM20 := hM2
  obtain ⟨⟨en2, h9b⟩, -⟩ := hM2
  refine X_dstore (i := 7) (lo' := [(7, _), (6, _), (0, _), (1, _), (2, _), (3, _), (4, _), (5, _)]) dL_law_2370 (Nat.le_of_ble_eq_true rfl) rfl ?_
  refine X_aload_n dL_law_2372 (i := 2) rfl rfl ?_
  refine X_callV (gc2 := gc2) (gs2 := gs2) (r_thrown hA2 h9b) (i := 39) h9b hA2.2.2.1 rfl kmX11_thrown rfl lL_152 iX11_thrown vX11_thrown rfl rfl (Nat.le_of_ble_eq_true rfl) (by decide) dL_law_2373 (by omega) (by omega) (fun E w1 hq => nomatch hq.1) (fun v w1 hq => ?_)
  have hv := hq.1
  obtain rfl := hq.2.symm
  cases hv
  refine X_iload dL_law_2376 (i := 6) rfl ?_
  refine X_icmp_eq (tgt := 2383) dL_law_2378 (by decide) (fun h1 => ?_) (fun h1 => ?_)
  · refine X_iload dL_law_2383 (i := 6) rfl ?_
    refine X_if_ne (tgt := 2420) dL_law_2385 (by decide) (fun h2 => ?_) (fun h2 => ?_)
    · refine X_goto (tgt := 2918) dL_law_2420 (by decide) ?_
      exact XJ.lcs (lo' := [(0, .ref G.2.2.2.2.1), (1, .ref a0), (2, .ref a39), (3, .ref a63), (4, .ref a64), (5, .int (nI x0))]) ⟨rfl, rfl, rfl, rfl, rfl, rfl, trivial⟩ (hn _ hA2 hX2 hM20 ⟨_, _, hO2⟩)
    · have hle : cdA a s P.1 ≤ 2 := cdA_le
      have hcd : cdA a s P.1 = 0 := (nI_eq (b := 0) (by omega) (by decide)).mp h2
      refine X_aload dL_law_2388 (i := 4) rfl ?_
      refine X_iconst (v := 0) dL_law_2390 (by decide) ?_
      refine X_dald (i := 64) hO2.2 hA2.2.2.2.2 (show (0 : Int32) = nI 0 from rfl) (by decide) (by decide) dL_law_2391 ?_
      refine XJ.top (v' := .double ((masF P L pr (idx s) 5 (idx a)))) (by rw [hlv hcd]) ?_
      refine X_dload dL_law_2392 (i := 7) rfl ?_
      refine XJ.top (v' := .double ((masF P L pr (idx s) 5 (idx a)))) (by rw [hv2 hcd]) ?_
      refine X_dcmp dL_law_2394 ?_
      refine XJ.top (v' := .int 0) (by rw [dcmp_selfv (nn_weight hIP hcd)]; rfl) ?_
      refine X_if_eq (tgt := 2420) dL_law_2395 (by decide) (fun h3 => ?_) (fun h3 => ?_)
      · refine X_goto (tgt := 2918) dL_law_2420 (by decide) ?_
        exact XJ.lcs (lo' := [(0, .ref G.2.2.2.2.1), (1, .ref a0), (2, .ref a39), (3, .ref a63), (4, .ref a64), (5, .int (nI x0))]) ⟨rfl, rfl, rfl, rfl, rfl, rfl, trivial⟩ (hn _ hA2 hX2 hM20 ⟨_, _, hO2⟩)
      · exact absurd rfl h3
  · exact absurd rfl h1
set_option maxRecDepth 20000 in
theorem law_weightBits {P : PSt} {L : LSt} {pr : Nat → Nat} {O : OSt} {mp : Nat} {mk : Nat → UInt32} {T : List Nat} {a0 a39 a63 a64 : Nat} {dc tc t : Nat} {nm : String} {hh : List (Nat × Nat × Nat × Nat)} {gc2 gs2 x0 : Nat} {ou : Nat → Int64} {ov : Nat → UInt64} (hA : AD w a0 a39 a63 a64) (hIX : IX G.2.2.1 w P L pr O mp mk T dc tc) (hM : IM G.2.2.1 w P L pr O mp mk T t) (hO : OUTS G.2.2.1 w ou ov) (hIP : IP P L pr O mp mk T) (hLn : G.2.2.2.2.2.1 < 2 ^ 31) (hx0 : x0 + 7 ≤ G.2.2.2.2.2.1) (a : Int32) (s : Int32) (ea_ : G.2.2.2.2.2.2 (x0 + 1) = a) (es_ : G.2.2.2.2.2.2 (x0 + 2) = s) (hn : ∀ w', AD w' a0 a39 a63 a64 → IX G.2.2.1 w' P L pr O mp mk T dc tc → IM G.2.2.1 w' P L pr O mp mk T (cdA a s P.1) → (∃ ou ov, OUTS G.2.2.1 w' ou ov) → XJ G (mLaw nm hh) 20 gc2 gs2 2918 [(0, .ref G.2.2.2.2.1), (1, .ref a0), (2, .ref a39), (3, .ref a63), (4, .ref a64), (5, .int (nI x0))] [] w' QL) : XJ G (mLaw nm hh) 20 (3 + gc2) (18 + gs2) 2423 [(0, .ref G.2.2.2.2.1), (1, .ref a0), (2, .ref a39), (3, .ref a63), (4, .ref a64), (5, .int (nI x0))] [] w QL := by
  refine X_aload_n dL_law_2423 (i := 1) rfl rfl ?_
  refine X_aload_n dL_law_2424 (i := 0) rfl rfl ?_
  refine X_iload dL_law_2425 (i := 5) rfl ?_
  refine X_iconst (v := 1) dL_law_2427 (by decide) ?_
  refine X_iadd dL_law_2428 ?_
  refine XJ.top (v' := .int (nI (x0 + 1))) (by rw [show (1 : Int32) = nI 1 from rfl, nI_add]) ?_
  refine X_sld rfl (by omega) hLn dL_law_2429 ?_
  refine XJ.top (v' := .int a) (by rw [ea_]) ?_
  refine X_aload_n dL_law_2430 (i := 0) rfl rfl ?_
  refine X_iload dL_law_2431 (i := 5) rfl ?_
  refine X_iconst (v := 2) dL_law_2433 (by decide) ?_
  refine X_iadd dL_law_2434 ?_
  refine XJ.top (v' := .int (nI (x0 + 2))) (by rw [show (2 : Int32) = nI 2 from rfl, nI_add]) ?_
  refine X_sld rfl (by omega) hLn dL_law_2435 ?_
  refine XJ.top (v' := .int s) (by rw [es_]) ?_
  refine X_aload_n dL_law_2436 (i := 3) rfl rfl ?_
  refine X_callSW (gc2 := gc2) (gs2 := gs2) (k_weightBits hA hIX hM hO hIP a s) kmL_weightBits rfl lL_255 sL_weightBits rfl rfl (Nat.le_of_ble_eq_true rfl) (by decide) dL_law_2437 (Nat.le_refl _) (Nat.le_refl _) (fun E w1 hq => nomatch hq.1) (fun v w1 hq => ?_)
  obtain ⟨hv, hA1, hX1, hM1, ou1, ov1, hO1, hlv⟩ := hq
  cases hv
  have hM10 := hM1
  obtain ⟨⟨en1, h9a⟩, -⟩ := hM1
  refine X_istore (i := 6) (lo' := [(6, _), (0, _), (1, _), (2, _), (3, _), (4, _), (5, _)]) dL_law_2440 (Nat.le_of_ble_eq_true rfl) rfl ?_
  refine X_aload_n dL_law_2442 (i := 2) rfl rfl ?_
  refine X_aload_n dL_law_2443 (i := 0) rfl rfl ?_
  refine X_iload dL_law_2444 (i := 5) rfl ?_
  refine X_iconst (v := 1) dL_law_2446 (by decide) ?_
  refine X_iadd dL_law_2447 ?_
  refine XJ.top (v' := .int (nI (x0 + 1))) (by rw [show (1 : Int32) = nI 1 from rfl, nI_add]) ?_
  refine X_sld rfl (by omega) hLn dL_law_2448 ?_
  refine XJ.top (v' := .int a) (by rw [ea_]) ?_
  refine X_aload_n dL_law_2449 (i := 0) rfl rfl ?_
  refine X_iload dL_law_2450 (i := 5) rfl ?_
  refine X_iconst (v := 2) dL_law_2452 (by decide) ?_
  refine X_iadd dL_law_2453 ?_
  refine XJ.top (v' := .int (nI (x0 + 2))) (by rw [show (2 : Int32) = nI 2 from rfl, nI_add]) ?_
  refine X_sld rfl (by omega) hLn dL_law_2454 ?_
  refine XJ.top (v' := .int s) (by rw [es_]) ?_
  refine X_callV (gc2 := gc2) (gs2 := gs2) (r_weightBits hA1 hM10 hIP a s) (i := 39) h9a hA1.2.2.1 rfl kmX11_weightBits rfl lL_257 iX11_weightBits vX11_weightBits rfl rfl (Nat.le_of_ble_eq_true rfl) (by decide) dL_law_2455 (by omega) (by omega) (fun E w1 hq => by obtain ⟨_, h, _⟩ := hq; nomatch h) (fun v w1 hq => ?_)
  obtain ⟨v1, hv, hv2, hF2, hM2⟩ := hq
  cases hv
  have hA2 := hA1.fm hF2
  have hX2 := hX1.fm hF2
  have hO2 := hO1.fm hF2
  have hM20 := hM2
  obtain ⟨⟨en2, h9b⟩, -⟩ := hM2
  refine X_lstore (i := 7) (lo' := [(7, _), (6, _), (0, _), (1, _), (2, _), (3, _), (4, _), (5, _)]) dL_law_2458 (Nat.le_of_ble_eq_true rfl) rfl ?_
  refine X_aload_n dL_law_2460 (i := 2) rfl rfl ?_
  refine X_callV (gc2 := gc2) (gs2 := gs2) (r_thrown hA2 h9b) (i := 39) h9b hA2.2.2.1 rfl kmX11_thrown rfl lL_152 iX11_thrown vX11_thrown rfl rfl (Nat.le_of_ble_eq_true rfl) (by decide) dL_law_2461 (by omega) (by omega) (fun E w1 hq => nomatch hq.1) (fun v w1 hq => ?_)
  have hv := hq.1
  obtain rfl := hq.2.symm
  cases hv
  refine X_iload dL_law_2464 (i := 6) rfl ?_
  refine X_icmp_eq (tgt := 2471) dL_law_2466 (by decide) (fun h1 => ?_) (fun h1 => ?_)
  · refine X_iload dL_law_2471 (i := 6) rfl ?_
    refine X_if_ne (tgt := 2487) dL_law_2473 (by decide) (fun h2 => ?_) (fun h2 => ?_)
    · refine X_goto (tgt := 2918) dL_law_2487 (by decide) ?_
      exact XJ.lcs (lo' := [(0, .ref G.2.2.2.2.1), (1, .ref a0), (2, .ref a39), (3, .ref a63), (4, .ref a64), (5, .int (nI x0))]) ⟨rfl, rfl, rfl, rfl, rfl, rfl, trivial⟩ (hn _ hA2 hX2 hM20 ⟨_, _, hO2⟩)
    · have hle : cdA a s P.1 ≤ 2 := cdA_le
      have hcd : cdA a s P.1 = 0 := (nI_eq (b := 0) (by omega) (by decide)).mp h2
      refine X_aload_n dL_law_2476 (i := 3) rfl rfl ?_
      refine X_iconst (v := 0) dL_law_2477 (by decide) ?_
      refine X_lald (i := 63) hO2.1 hA2.2.2.2.1 (show (0 : Int32) = nI 0 from rfl) (by decide) (by decide) dL_law_2478 ?_
      refine XJ.top (v' := .long ((masF P L pr (idx s) 5 (idx a)).toInt64)) (by rw [hlv hcd]) ?_
      refine X_lload dL_law_2479 (i := 7) rfl ?_
      refine XJ.top (v' := .long ((masF P L pr (idx s) 5 (idx a)).toInt64)) (by rw [hv2 hcd]) ?_
      refine X_lcmp dL_law_2481 ?_
      refine XJ.top (v' := .int 0) (congrArg Value.int (lcmp_self _)) ?_
      refine X_if_eq (tgt := 2487) dL_law_2482 (by decide) (fun h3 => ?_) (fun h3 => ?_)
      · refine X_goto (tgt := 2918) dL_law_2487 (by decide) ?_
        exact XJ.lcs (lo' := [(0, .ref G.2.2.2.2.1), (1, .ref a0), (2, .ref a39), (3, .ref a63), (4, .ref a64), (5, .int (nI x0))]) ⟨rfl, rfl, rfl, rfl, rfl, rfl, trivial⟩ (hn _ hA2 hX2 hM20 ⟨_, _, hO2⟩)
      · exact absurd rfl h3
  · exact absurd rfl h1
set_option maxRecDepth 20000 in
theorem law_markCosts {P : PSt} {L : LSt} {pr : Nat → Nat} {O : OSt} {mp : Nat} {mk : Nat → UInt32} {T : List Nat} {a0 a39 a63 a64 : Nat} {dc tc t : Nat} {nm : String} {hh : List (Nat × Nat × Nat × Nat)} {gc2 gs2 x0 : Nat} {ou : Nat → Int64} {ov : Nat → UInt64} (hA : AD w a0 a39 a63 a64) (hIX : IX G.2.2.1 w P L pr O mp mk T dc tc) (hM : IM G.2.2.1 w P L pr O mp mk T t) (hO : OUTS G.2.2.1 w ou ov) (hIP : IP P L pr O mp mk T) (hLn : G.2.2.2.2.2.1 < 2 ^ 31) (hx0 : x0 + 7 ≤ G.2.2.2.2.2.1) (s : Int32) (es_ : G.2.2.2.2.2.2 (x0 + 1) = s) (hn : ∀ w', AD w' a0 a39 a63 a64 → IX G.2.2.1 w' P L pr O (if (cdM s) = 0 then P.1 else mp) (if (cdM s) = 0 then (fun x => priF P L pr (idx s) 5 x) else mk) T dc tc → IM G.2.2.1 w' P L pr O (if (cdM s) = 0 then P.1 else mp) (if (cdM s) = 0 then (fun x => priF P L pr (idx s) 5 x) else mk) T (cdM s) → (∃ ou ov, OUTS G.2.2.1 w' ou ov) → XJ G (mLaw nm hh) 20 gc2 gs2 2918 [(0, .ref G.2.2.2.2.1), (1, .ref a0), (2, .ref a39), (3, .ref a63), (4, .ref a64), (5, .int (nI x0))] [] w' QL) : XJ G (mLaw nm hh) 20 (2 + gc2) (12 + gs2) 2490 [(0, .ref G.2.2.2.2.1), (1, .ref a0), (2, .ref a39), (3, .ref a63), (4, .ref a64), (5, .int (nI x0))] [] w QL := by
  refine X_aload_n dL_law_2490 (i := 1) rfl rfl ?_
  refine X_aload_n dL_law_2491 (i := 0) rfl rfl ?_
  refine X_iload dL_law_2492 (i := 5) rfl ?_
  refine X_iconst (v := 1) dL_law_2494 (by decide) ?_
  refine X_iadd dL_law_2495 ?_
  refine XJ.top (v' := .int (nI (x0 + 1))) (by rw [show (1 : Int32) = nI 1 from rfl, nI_add]) ?_
  refine X_sld rfl (by omega) hLn dL_law_2496 ?_
  refine XJ.top (v' := .int s) (by rw [es_]) ?_
  refine X_aload_n dL_law_2497 (i := 3) rfl rfl ?_
  refine X_callSW (gc2 := gc2) (gs2 := gs2) (k_markCosts hA hIX hM hO hIP s) kmL_markCosts rfl lL_258 sL_markCosts rfl rfl (Nat.le_of_ble_eq_true rfl) (by decide) dL_law_2498 (Nat.le_refl _) (Nat.le_refl _) (fun E w1 hq => nomatch hq.1) (fun v w1 hq => ?_)
  obtain ⟨hv, hA1, hX1, hM1, ou1, ov1, hO1, hlv⟩ := hq
  cases hv
  have hM10 := hM1
  obtain ⟨⟨en1, h9a⟩, -⟩ := hM1
  refine X_istore (i := 6) (lo' := [(6, _), (0, _), (1, _), (2, _), (3, _), (4, _), (5, _)]) dL_law_2501 (Nat.le_of_ble_eq_true rfl) rfl ?_
  refine X_aload_n dL_law_2503 (i := 2) rfl rfl ?_
  refine X_aload_n dL_law_2504 (i := 0) rfl rfl ?_
  refine X_iload dL_law_2505 (i := 5) rfl ?_
  refine X_iconst (v := 1) dL_law_2507 (by decide) ?_
  refine X_iadd dL_law_2508 ?_
  refine XJ.top (v' := .int (nI (x0 + 1))) (by rw [show (1 : Int32) = nI 1 from rfl, nI_add]) ?_
  refine X_sld rfl (by omega) hLn dL_law_2509 ?_
  refine XJ.top (v' := .int s) (by rw [es_]) ?_
  refine X_callV (gc2 := gc2) (gs2 := gs2) (r_markCosts hA1 hM10 hIP s) (i := 39) h9a hA1.2.2.1 rfl kmX11_markCosts rfl lL_260 iX11_markCosts vX11_markCosts rfl rfl (Nat.le_of_ble_eq_true rfl) (by decide) dL_law_2510 (by omega) (by omega) (fun E w1 hq => by obtain ⟨_, h, _⟩ := hq; nomatch h) (fun v w1 hq => ?_)
  obtain ⟨v1, hv, hv2, hF2, hM2⟩ := hq
  cases hv
  have hA2 := hA1.fm hF2
  have hX2 := hX1.fm hF2
  have hO2 := hO1.fm hF2
  have hM20 := hM2
  obtain ⟨⟨en2, h9b⟩, -⟩ := hM2
  refine X_istore (i := 7) (lo' := [(7, _), (6, _), (0, _), (1, _), (2, _), (3, _), (4, _), (5, _)]) dL_law_2513 (Nat.le_of_ble_eq_true rfl) rfl ?_
  refine X_aload_n dL_law_2515 (i := 2) rfl rfl ?_
  refine X_callV (gc2 := gc2) (gs2 := gs2) (r_thrown hA2 h9b) (i := 39) h9b hA2.2.2.1 rfl kmX11_thrown rfl lL_152 iX11_thrown vX11_thrown rfl rfl (Nat.le_of_ble_eq_true rfl) (by decide) dL_law_2516 (by omega) (by omega) (fun E w1 hq => nomatch hq.1) (fun v w1 hq => ?_)
  have hv := hq.1
  obtain rfl := hq.2.symm
  cases hv
  refine X_iload dL_law_2519 (i := 6) rfl ?_
  refine X_icmp_eq (tgt := 2526) dL_law_2521 (by decide) (fun h1 => ?_) (fun h1 => ?_)
  · refine X_iload dL_law_2526 (i := 6) rfl ?_
    refine X_if_ne (tgt := 2543) dL_law_2528 (by decide) (fun h2 => ?_) (fun h2 => ?_)
    · refine X_goto (tgt := 2918) dL_law_2543 (by decide) ?_
      exact XJ.lcs (lo' := [(0, .ref G.2.2.2.2.1), (1, .ref a0), (2, .ref a39), (3, .ref a63), (4, .ref a64), (5, .int (nI x0))]) ⟨rfl, rfl, rfl, rfl, rfl, rfl, trivial⟩ (hn _ hA2 hX2 hM20 ⟨_, _, hO2⟩)
    · have hle : cdM s ≤ 1 := cdM_le
      have hcd : cdM s = 0 := (nI_eq (b := 0) (by omega) (by decide)).mp h2
      refine X_aload_n dL_law_2531 (i := 3) rfl rfl ?_
      refine X_iconst (v := 0) dL_law_2532 (by decide) ?_
      refine X_lald (i := 63) hO2.1 hA2.2.2.2.1 (show (0 : Int32) = nI 0 from rfl) (by decide) (by decide) dL_law_2533 ?_
      refine XJ.top (v' := .long ((nI P.1 : Int32).toInt64)) (by rw [hlv hcd]) ?_
      refine X_iload dL_law_2534 (i := 7) rfl ?_
      refine XJ.top (v' := .int (nI P.1)) (by rw [hv2 hcd]) ?_
      refine X_i2l dL_law_2536 rfl ?_
      refine X_lcmp dL_law_2537 ?_
      refine XJ.top (v' := .int 0) (congrArg Value.int (lcmp_self _)) ?_
      refine X_if_eq (tgt := 2543) dL_law_2538 (by decide) (fun h3 => ?_) (fun h3 => ?_)
      · refine X_goto (tgt := 2918) dL_law_2543 (by decide) ?_
        exact XJ.lcs (lo' := [(0, .ref G.2.2.2.2.1), (1, .ref a0), (2, .ref a39), (3, .ref a63), (4, .ref a64), (5, .int (nI x0))]) ⟨rfl, rfl, rfl, rfl, rfl, rfl, trivial⟩ (hn _ hA2 hX2 hM20 ⟨_, _, hO2⟩)
      · exact absurd rfl h3
  · exact absurd rfl h1
set_option maxRecDepth 20000 in
theorem law_costChange {P : PSt} {L : LSt} {pr : Nat → Nat} {O : OSt} {mp : Nat} {mk : Nat → UInt32} {T : List Nat} {a0 a39 a63 a64 : Nat} {dc tc t : Nat} {nm : String} {hh : List (Nat × Nat × Nat × Nat)} {gc2 gs2 x0 : Nat} {ou : Nat → Int64} {ov : Nat → UInt64} (hA : AD w a0 a39 a63 a64) (hIX : IX G.2.2.1 w P L pr O mp mk T dc tc) (hM : IM G.2.2.1 w P L pr O mp mk T t) (hO : OUTS G.2.2.1 w ou ov) (hIP : IP P L pr O mp mk T) (hLn : G.2.2.2.2.2.1 < 2 ^ 31) (hx0 : x0 + 7 ≤ G.2.2.2.2.2.1) (a : Int32) (s : Int32) (ea_ : G.2.2.2.2.2.2 (x0 + 1) = a) (es_ : G.2.2.2.2.2.2 (x0 + 2) = s) (hn : ∀ w', AD w' a0 a39 a63 a64 → IX G.2.2.1 w' P L pr O mp mk T dc tc → IM G.2.2.1 w' P L pr O mp mk T (cdH a s P.1 mp) → (∃ ou ov, OUTS G.2.2.1 w' ou ov) → XJ G (mLaw nm hh) 20 gc2 gs2 2918 [(0, .ref G.2.2.2.2.1), (1, .ref a0), (2, .ref a39), (3, .ref a63), (4, .ref a64), (5, .int (nI x0))] [] w' QL) : XJ G (mLaw nm hh) 20 (4 + gc2) (24 + gs2) 2546 [(0, .ref G.2.2.2.2.1), (1, .ref a0), (2, .ref a39), (3, .ref a63), (4, .ref a64), (5, .int (nI x0))] [] w QL := by
  refine X_aload_n dL_law_2546 (i := 1) rfl rfl ?_
  refine X_aload_n dL_law_2547 (i := 0) rfl rfl ?_
  refine X_iload dL_law_2548 (i := 5) rfl ?_
  refine X_iconst (v := 1) dL_law_2550 (by decide) ?_
  refine X_iadd dL_law_2551 ?_
  refine XJ.top (v' := .int (nI (x0 + 1))) (by rw [show (1 : Int32) = nI 1 from rfl, nI_add]) ?_
  refine X_sld rfl (by omega) hLn dL_law_2552 ?_
  refine XJ.top (v' := .int a) (by rw [ea_]) ?_
  refine X_aload_n dL_law_2553 (i := 0) rfl rfl ?_
  refine X_iload dL_law_2554 (i := 5) rfl ?_
  refine X_iconst (v := 2) dL_law_2556 (by decide) ?_
  refine X_iadd dL_law_2557 ?_
  refine XJ.top (v' := .int (nI (x0 + 2))) (by rw [show (2 : Int32) = nI 2 from rfl, nI_add]) ?_
  refine X_sld rfl (by omega) hLn dL_law_2558 ?_
  refine XJ.top (v' := .int s) (by rw [es_]) ?_
  refine X_aload dL_law_2559 (i := 4) rfl ?_
  refine X_callSW (gc2 := gc2) (gs2 := gs2) (k_costChange hA hIX hM hO hIP a s) kmL_costChange rfl lL_261 sL_costChange rfl rfl (Nat.le_of_ble_eq_true rfl) (by decide) dL_law_2561 (Nat.le_refl _) (Nat.le_refl _) (fun E w1 hq => nomatch hq.1) (fun v w1 hq => ?_)
  obtain ⟨hv, hA1, hX1, hM1, ou1, ov1, hO1, hlv⟩ := hq
  cases hv
  have hM10 := hM1
  obtain ⟨⟨en1, h9a⟩, -⟩ := hM1
  refine X_istore (i := 6) (lo' := [(6, _), (0, _), (1, _), (2, _), (3, _), (4, _), (5, _)]) dL_law_2564 (Nat.le_of_ble_eq_true rfl) rfl ?_
  refine X_aload_n dL_law_2566 (i := 2) rfl rfl ?_
  refine X_aload_n dL_law_2567 (i := 0) rfl rfl ?_
  refine X_iload dL_law_2568 (i := 5) rfl ?_
  refine X_iconst (v := 1) dL_law_2570 (by decide) ?_
  refine X_iadd dL_law_2571 ?_
  refine XJ.top (v' := .int (nI (x0 + 1))) (by rw [show (1 : Int32) = nI 1 from rfl, nI_add]) ?_
  refine X_sld rfl (by omega) hLn dL_law_2572 ?_
  refine XJ.top (v' := .int a) (by rw [ea_]) ?_
  refine X_aload_n dL_law_2573 (i := 0) rfl rfl ?_
  refine X_iload dL_law_2574 (i := 5) rfl ?_
  refine X_iconst (v := 2) dL_law_2576 (by decide) ?_
  refine X_iadd dL_law_2577 ?_
  refine XJ.top (v' := .int (nI (x0 + 2))) (by rw [show (2 : Int32) = nI 2 from rfl, nI_add]) ?_
  refine X_sld rfl (by omega) hLn dL_law_2578 ?_
  refine XJ.top (v' := .int s) (by rw [es_]) ?_
  refine X_callV (gc2 := gc2) (gs2 := gs2) (r_costChange hA1 hM10 hIP a s) (i := 39) h9a hA1.2.2.1 rfl kmX11_costChange rfl lL_263 iX11_costChange vX11_costChange rfl rfl (Nat.le_of_ble_eq_true rfl) (by decide) dL_law_2579 (by omega) (by omega) (fun E w1 hq => by obtain ⟨_, h, _⟩ := hq; nomatch h) (fun v w1 hq => ?_)
  obtain ⟨v1, hv, hv2, hF2, hM2⟩ := hq
  cases hv
  have hA2 := hA1.fm hF2
  have hX2 := hX1.fm hF2
  have hO2 := hO1.fm hF2
  have hM20 := hM2
  obtain ⟨⟨en2, h9b⟩, -⟩ := hM2
  refine X_fstore (i := 7) (lo' := [(7, _), (6, _), (0, _), (1, _), (2, _), (3, _), (4, _), (5, _)]) dL_law_2582 (Nat.le_of_ble_eq_true rfl) rfl ?_
  refine X_aload_n dL_law_2584 (i := 2) rfl rfl ?_
  refine X_callV (gc2 := gc2) (gs2 := gs2) (r_thrown hA2 h9b) (i := 39) h9b hA2.2.2.1 rfl kmX11_thrown rfl lL_152 iX11_thrown vX11_thrown rfl rfl (Nat.le_of_ble_eq_true rfl) (by decide) dL_law_2585 (by omega) (by omega) (fun E w1 hq => nomatch hq.1) (fun v w1 hq => ?_)
  have hv := hq.1
  obtain rfl := hq.2.symm
  cases hv
  refine X_iload dL_law_2588 (i := 6) rfl ?_
  refine X_icmp_eq (tgt := 2595) dL_law_2590 (by decide) (fun h1 => ?_) (fun h1 => ?_)
  · refine X_iload dL_law_2595 (i := 6) rfl ?_
    refine X_if_ne (tgt := 2633) dL_law_2597 (by decide) (fun h2 => ?_) (fun h2 => ?_)
    · refine X_goto (tgt := 2918) dL_law_2633 (by decide) ?_
      exact XJ.lcs (lo' := [(0, .ref G.2.2.2.2.1), (1, .ref a0), (2, .ref a39), (3, .ref a63), (4, .ref a64), (5, .int (nI x0))]) ⟨rfl, rfl, rfl, rfl, rfl, rfl, trivial⟩ (hn _ hA2 hX2 hM20 ⟨_, _, hO2⟩)
    · have hle : cdH a s P.1 mp ≤ 3 := cdH_le
      have hcd : cdH a s P.1 mp = 0 := (nI_eq (b := 0) (by omega) (by decide)).mp h2
      refine X_aload dL_law_2600 (i := 4) rfl ?_
      refine X_iconst (v := 0) dL_law_2602 (by decide) ?_
      refine X_dald (i := 64) hO2.2 hA2.2.2.2.2 (show (0 : Int32) = nI 0 from rfl) (by decide) (by decide) dL_law_2603 ?_
      refine XJ.top (v' := .double (FP.f2d (FP.fsub (priF P L pr (idx s) 5 (idx a)) (mk (idx a))))) (by rw [hlv hcd]) ?_
      refine X_fload dL_law_2604 (i := 7) rfl ?_
      refine XJ.top (v' := .float (FP.fsub (priF P L pr (idx s) 5 (idx a)) (mk (idx a)))) (by rw [hv2 hcd]) ?_
      refine X_f2d dL_law_2606 (ft_tovd (ft_f2d_nn (nn_costChange hIP hcd))) ?_
      refine X_dcmp dL_law_2607 ?_
      refine XJ.top (v' := .int 0) (by rw [dcmp_selfv (ft_tovd (ft_f2d_nn (nn_costChange hIP hcd)))]; rfl) ?_
      refine X_if_eq (tgt := 2633) dL_law_2608 (by decide) (fun h3 => ?_) (fun h3 => ?_)
      · refine X_goto (tgt := 2918) dL_law_2633 (by decide) ?_
        exact XJ.lcs (lo' := [(0, .ref G.2.2.2.2.1), (1, .ref a0), (2, .ref a39), (3, .ref a63), (4, .ref a64), (5, .int (nI x0))]) ⟨rfl, rfl, rfl, rfl, rfl, rfl, trivial⟩ (hn _ hA2 hX2 hM20 ⟨_, _, hO2⟩)
      · exact absurd rfl h3
  · exact absurd rfl h1
set_option maxRecDepth 20000 in
theorem law_order {P : PSt} {L : LSt} {pr : Nat → Nat} {O : OSt} {mp : Nat} {mk : Nat → UInt32} {T : List Nat} {a0 a39 a63 a64 : Nat} {dc tc t : Nat} {nm : String} {hh : List (Nat × Nat × Nat × Nat)} {gc2 gs2 x0 : Nat} {ou : Nat → Int64} {ov : Nat → UInt64} (hA : AD w a0 a39 a63 a64) (hIX : IX G.2.2.1 w P L pr O mp mk T dc tc) (hM : IM G.2.2.1 w P L pr O mp mk T t) (hO : OUTS G.2.2.1 w ou ov) (hIP : IP P L pr O mp mk T) (hLn : G.2.2.2.2.2.1 < 2 ^ 31) (hx0 : x0 + 7 ≤ G.2.2.2.2.2.1) (p : Int32) (s : Int32) (u : Int32) (ep_ : G.2.2.2.2.2.2 (x0 + 1) = p) (es_ : G.2.2.2.2.2.2 (x0 + 2) = s) (eu_ : G.2.2.2.2.2.2 (x0 + 3) = u) (hn : ∀ w', AD w' a0 a39 a63 a64 → IX G.2.2.1 w' P L pr (if (cdO p s u P.1 O.1) = 0 then addO O (idx p) (idx s) (idx u) pr else O) mp mk T dc tc → IM G.2.2.1 w' P L pr (if (cdO p s u P.1 O.1) = 0 then addO O (idx p) (idx s) (idx u) pr else O) mp mk T (cdO p s u P.1 O.1) → (∃ ou ov, OUTS G.2.2.1 w' ou ov) → XJ G (mLaw nm hh) 20 gc2 gs2 2918 [(0, .ref G.2.2.2.2.1), (1, .ref a0), (2, .ref a39), (3, .ref a63), (4, .ref a64), (5, .int (nI x0))] [] w' QL) : XJ G (mLaw nm hh) 20 (3 + gc2) (18 + gs2) 2636 [(0, .ref G.2.2.2.2.1), (1, .ref a0), (2, .ref a39), (3, .ref a63), (4, .ref a64), (5, .int (nI x0))] [] w QL := by
  refine X_aload_n dL_law_2636 (i := 1) rfl rfl ?_
  refine X_aload_n dL_law_2637 (i := 0) rfl rfl ?_
  refine X_iload dL_law_2638 (i := 5) rfl ?_
  refine X_iconst (v := 1) dL_law_2640 (by decide) ?_
  refine X_iadd dL_law_2641 ?_
  refine XJ.top (v' := .int (nI (x0 + 1))) (by rw [show (1 : Int32) = nI 1 from rfl, nI_add]) ?_
  refine X_sld rfl (by omega) hLn dL_law_2642 ?_
  refine XJ.top (v' := .int p) (by rw [ep_]) ?_
  refine X_aload_n dL_law_2643 (i := 0) rfl rfl ?_
  refine X_iload dL_law_2644 (i := 5) rfl ?_
  refine X_iconst (v := 2) dL_law_2646 (by decide) ?_
  refine X_iadd dL_law_2647 ?_
  refine XJ.top (v' := .int (nI (x0 + 2))) (by rw [show (2 : Int32) = nI 2 from rfl, nI_add]) ?_
  refine X_sld rfl (by omega) hLn dL_law_2648 ?_
  refine XJ.top (v' := .int s) (by rw [es_]) ?_
  refine X_aload_n dL_law_2649 (i := 0) rfl rfl ?_
  refine X_iload dL_law_2650 (i := 5) rfl ?_
  refine X_iconst (v := 3) dL_law_2652 (by decide) ?_
  refine X_iadd dL_law_2653 ?_
  refine XJ.top (v' := .int (nI (x0 + 3))) (by rw [show (3 : Int32) = nI 3 from rfl, nI_add]) ?_
  refine X_sld rfl (by omega) hLn dL_law_2654 ?_
  refine XJ.top (v' := .int u) (by rw [eu_]) ?_
  refine X_aload_n dL_law_2655 (i := 3) rfl rfl ?_
  refine X_callSW (gc2 := gc2) (gs2 := gs2) (k_order hA hIX hM hO hIP p s u) kmL_order rfl lL_264 sL_order rfl rfl (Nat.le_of_ble_eq_true rfl) (by decide) dL_law_2656 (Nat.le_refl _) (Nat.le_refl _) (fun E w1 hq => nomatch hq.1) (fun v w1 hq => ?_)
  obtain ⟨hv, hA1, hX1, hM1, ou1, ov1, hO1, hlv⟩ := hq
  cases hv
  have hM10 := hM1
  obtain ⟨⟨en1, h9a⟩, -⟩ := hM1
  refine X_istore (i := 6) (lo' := [(6, _), (0, _), (1, _), (2, _), (3, _), (4, _), (5, _)]) dL_law_2659 (Nat.le_of_ble_eq_true rfl) rfl ?_
  refine X_aload_n dL_law_2661 (i := 2) rfl rfl ?_
  refine X_aload_n dL_law_2662 (i := 0) rfl rfl ?_
  refine X_iload dL_law_2663 (i := 5) rfl ?_
  refine X_iconst (v := 1) dL_law_2665 (by decide) ?_
  refine X_iadd dL_law_2666 ?_
  refine XJ.top (v' := .int (nI (x0 + 1))) (by rw [show (1 : Int32) = nI 1 from rfl, nI_add]) ?_
  refine X_sld rfl (by omega) hLn dL_law_2667 ?_
  refine XJ.top (v' := .int p) (by rw [ep_]) ?_
  refine X_aload_n dL_law_2668 (i := 0) rfl rfl ?_
  refine X_iload dL_law_2669 (i := 5) rfl ?_
  refine X_iconst (v := 2) dL_law_2671 (by decide) ?_
  refine X_iadd dL_law_2672 ?_
  refine XJ.top (v' := .int (nI (x0 + 2))) (by rw [show (2 : Int32) = nI 2 from rfl, nI_add]) ?_
  refine X_sld rfl (by omega) hLn dL_law_2673 ?_
  refine XJ.top (v' := .int s) (by rw [es_]) ?_
  refine X_aload_n dL_law_2674 (i := 0) rfl rfl ?_
  refine X_iload dL_law_2675 (i := 5) rfl ?_
  refine X_iconst (v := 3) dL_law_2677 (by decide) ?_
  refine X_iadd dL_law_2678 ?_
  refine XJ.top (v' := .int (nI (x0 + 3))) (by rw [show (3 : Int32) = nI 3 from rfl, nI_add]) ?_
  refine X_sld rfl (by omega) hLn dL_law_2679 ?_
  refine XJ.top (v' := .int u) (by rw [eu_]) ?_
  refine X_callV (gc2 := gc2) (gs2 := gs2) (r_order hA1 hM10 hIP p s u) (i := 39) h9a hA1.2.2.1 rfl kmX11_order rfl lL_266 iX11_order vX11_order rfl rfl (Nat.le_of_ble_eq_true rfl) (by decide) dL_law_2680 (by omega) (by omega) (fun E w1 hq => by obtain ⟨_, h, _⟩ := hq; nomatch h) (fun v w1 hq => ?_)
  obtain ⟨v1, hv, hv2, hF2, hM2⟩ := hq
  cases hv
  have hA2 := hA1.fm hF2
  have hX2 := hX1.fm hF2
  have hO2 := hO1.fm hF2
  have hM20 := hM2
  obtain ⟨⟨en2, h9b⟩, -⟩ := hM2
  refine X_istore (i := 7) (lo' := [(7, _), (6, _), (0, _), (1, _), (2, _), (3, _), (4, _), (5, _)]) dL_law_2683 (Nat.le_of_ble_eq_true rfl) rfl ?_
  refine X_aload_n dL_law_2685 (i := 2) rfl rfl ?_
  refine X_callV (gc2 := gc2) (gs2 := gs2) (r_thrown hA2 h9b) (i := 39) h9b hA2.2.2.1 rfl kmX11_thrown rfl lL_152 iX11_thrown vX11_thrown rfl rfl (Nat.le_of_ble_eq_true rfl) (by decide) dL_law_2686 (by omega) (by omega) (fun E w1 hq => nomatch hq.1) (fun v w1 hq => ?_)
  have hv := hq.1
  obtain rfl := hq.2.symm
  cases hv
  refine X_iload dL_law_2689 (i := 6) rfl ?_
  refine X_icmp_eq (tgt := 2696) dL_law_2691 (by decide) (fun h1 => ?_) (fun h1 => ?_)
  · refine X_iload dL_law_2696 (i := 6) rfl ?_
    refine X_if_ne (tgt := 2713) dL_law_2698 (by decide) (fun h2 => ?_) (fun h2 => ?_)
    · refine X_goto (tgt := 2918) dL_law_2713 (by decide) ?_
      exact XJ.lcs (lo' := [(0, .ref G.2.2.2.2.1), (1, .ref a0), (2, .ref a39), (3, .ref a63), (4, .ref a64), (5, .int (nI x0))]) ⟨rfl, rfl, rfl, rfl, rfl, rfl, trivial⟩ (hn _ hA2 hX2 hM20 ⟨_, _, hO2⟩)
    · have hle : cdO p s u P.1 O.1 ≤ 3 := cdO_le
      have hcd : cdO p s u P.1 O.1 = 0 := (nI_eq (b := 0) (by omega) (by decide)).mp h2
      refine X_aload_n dL_law_2701 (i := 3) rfl rfl ?_
      refine X_iconst (v := 0) dL_law_2702 (by decide) ?_
      refine X_lald (i := 63) hO2.1 hA2.2.2.2.1 (show (0 : Int32) = nI 0 from rfl) (by decide) (by decide) dL_law_2703 ?_
      refine XJ.top (v' := .long ((nI O.1 : Int32).toInt64)) (by rw [hlv hcd]) ?_
      refine X_iload dL_law_2704 (i := 7) rfl ?_
      refine XJ.top (v' := .int (nI O.1)) (by rw [hv2 hcd]) ?_
      refine X_i2l dL_law_2706 rfl ?_
      refine X_lcmp dL_law_2707 ?_
      refine XJ.top (v' := .int 0) (congrArg Value.int (lcmp_self _)) ?_
      refine X_if_eq (tgt := 2713) dL_law_2708 (by decide) (fun h3 => ?_) (fun h3 => ?_)
      · refine X_goto (tgt := 2918) dL_law_2713 (by decide) ?_
        exact XJ.lcs (lo' := [(0, .ref G.2.2.2.2.1), (1, .ref a0), (2, .ref a39), (3, .ref a63), (4, .ref a64), (5, .int (nI x0))]) ⟨rfl, rfl, rfl, rfl, rfl, rfl, trivial⟩ (hn _ hA2 hX2 hM20 ⟨_, _, hO2⟩)
      · exact absurd rfl h3
  · exact absurd rfl h1
set_option maxRecDepth 20000 in
theorem law_cancel {P : PSt} {L : LSt} {pr : Nat → Nat} {O : OSt} {mp : Nat} {mk : Nat → UInt32} {T : List Nat} {a0 a39 a63 a64 : Nat} {dc tc t : Nat} {nm : String} {hh : List (Nat × Nat × Nat × Nat)} {gc2 gs2 x0 : Nat} {ou : Nat → Int64} {ov : Nat → UInt64} (hA : AD w a0 a39 a63 a64) (hIX : IX G.2.2.1 w P L pr O mp mk T dc tc) (hM : IM G.2.2.1 w P L pr O mp mk T t) (hO : OUTS G.2.2.1 w ou ov) (hIP : IP P L pr O mp mk T) (hLn : G.2.2.2.2.2.1 < 2 ^ 31) (hx0 : x0 + 7 ≤ G.2.2.2.2.2.1) (o : Int32) (eo_ : G.2.2.2.2.2.2 (x0 + 1) = o) (hn : ∀ w', AD w' a0 a39 a63 a64 → IX G.2.2.1 w' P L pr (if (cdX o O) = 0 then canO O (idx o) else O) mp mk T dc tc → IM G.2.2.1 w' P L pr (if (cdX o O) = 0 then canO O (idx o) else O) mp mk T (cdX o O) → (∃ ou ov, OUTS G.2.2.1 w' ou ov) → XJ G (mLaw nm hh) 20 gc2 gs2 2918 [(0, .ref G.2.2.2.2.1), (1, .ref a0), (2, .ref a39), (3, .ref a63), (4, .ref a64), (5, .int (nI x0))] [] w' QL) : XJ G (mLaw nm hh) 20 (2 + gc2) (12 + gs2) 2716 [(0, .ref G.2.2.2.2.1), (1, .ref a0), (2, .ref a39), (3, .ref a63), (4, .ref a64), (5, .int (nI x0))] [] w QL := by
  refine X_aload_n dL_law_2716 (i := 1) rfl rfl ?_
  refine X_aload_n dL_law_2717 (i := 0) rfl rfl ?_
  refine X_iload dL_law_2718 (i := 5) rfl ?_
  refine X_iconst (v := 1) dL_law_2720 (by decide) ?_
  refine X_iadd dL_law_2721 ?_
  refine XJ.top (v' := .int (nI (x0 + 1))) (by rw [show (1 : Int32) = nI 1 from rfl, nI_add]) ?_
  refine X_sld rfl (by omega) hLn dL_law_2722 ?_
  refine XJ.top (v' := .int o) (by rw [eo_]) ?_
  refine X_aload_n dL_law_2723 (i := 3) rfl rfl ?_
  refine X_callSW (gc2 := gc2) (gs2 := gs2) (k_cancel hA hIX hM hO hIP o) kmL_cancel rfl lL_267 sL_cancel rfl rfl (Nat.le_of_ble_eq_true rfl) (by decide) dL_law_2724 (Nat.le_refl _) (Nat.le_refl _) (fun E w1 hq => nomatch hq.1) (fun v w1 hq => ?_)
  obtain ⟨hv, hA1, hX1, hM1, ou1, ov1, hO1, hlv⟩ := hq
  cases hv
  have hM10 := hM1
  obtain ⟨⟨en1, h9a⟩, -⟩ := hM1
  refine X_istore (i := 6) (lo' := [(6, _), (0, _), (1, _), (2, _), (3, _), (4, _), (5, _)]) dL_law_2727 (Nat.le_of_ble_eq_true rfl) rfl ?_
  refine X_aload_n dL_law_2729 (i := 2) rfl rfl ?_
  refine X_aload_n dL_law_2730 (i := 0) rfl rfl ?_
  refine X_iload dL_law_2731 (i := 5) rfl ?_
  refine X_iconst (v := 1) dL_law_2733 (by decide) ?_
  refine X_iadd dL_law_2734 ?_
  refine XJ.top (v' := .int (nI (x0 + 1))) (by rw [show (1 : Int32) = nI 1 from rfl, nI_add]) ?_
  refine X_sld rfl (by omega) hLn dL_law_2735 ?_
  refine XJ.top (v' := .int o) (by rw [eo_]) ?_
  refine X_callV (gc2 := gc2) (gs2 := gs2) (r_cancel hA1 hM10 hIP o) (i := 39) h9a hA1.2.2.1 rfl kmX11_cancel rfl lL_269 iX11_cancel vX11_cancel rfl rfl (Nat.le_of_ble_eq_true rfl) (by decide) dL_law_2736 (by omega) (by omega) (fun E w1 hq => by obtain ⟨_, h, _⟩ := hq; nomatch h) (fun v w1 hq => ?_)
  obtain ⟨v1, hv, hv2, hF2, hM2⟩ := hq
  cases hv
  have hA2 := hA1.fm hF2
  have hX2 := hX1.fm hF2
  have hO2 := hO1.fm hF2
  have hM20 := hM2
  obtain ⟨⟨en2, h9b⟩, -⟩ := hM2
  refine X_istore (i := 7) (lo' := [(7, _), (6, _), (0, _), (1, _), (2, _), (3, _), (4, _), (5, _)]) dL_law_2739 (Nat.le_of_ble_eq_true rfl) rfl ?_
  refine X_aload_n dL_law_2741 (i := 2) rfl rfl ?_
  refine X_callV (gc2 := gc2) (gs2 := gs2) (r_thrown hA2 h9b) (i := 39) h9b hA2.2.2.1 rfl kmX11_thrown rfl lL_152 iX11_thrown vX11_thrown rfl rfl (Nat.le_of_ble_eq_true rfl) (by decide) dL_law_2742 (by omega) (by omega) (fun E w1 hq => nomatch hq.1) (fun v w1 hq => ?_)
  have hv := hq.1
  obtain rfl := hq.2.symm
  cases hv
  refine X_iload dL_law_2745 (i := 6) rfl ?_
  refine X_icmp_eq (tgt := 2752) dL_law_2747 (by decide) (fun h1 => ?_) (fun h1 => ?_)
  · refine X_iload dL_law_2752 (i := 6) rfl ?_
    refine X_if_ne (tgt := 2769) dL_law_2754 (by decide) (fun h2 => ?_) (fun h2 => ?_)
    · refine X_goto (tgt := 2918) dL_law_2769 (by decide) ?_
      exact XJ.lcs (lo' := [(0, .ref G.2.2.2.2.1), (1, .ref a0), (2, .ref a39), (3, .ref a63), (4, .ref a64), (5, .int (nI x0))]) ⟨rfl, rfl, rfl, rfl, rfl, rfl, trivial⟩ (hn _ hA2 hX2 hM20 ⟨_, _, hO2⟩)
    · have hle : cdX o O ≤ 2 := cdX_le
      have hcd : cdX o O = 0 := (nI_eq (b := 0) (by omega) (by decide)).mp h2
      refine X_aload_n dL_law_2757 (i := 3) rfl rfl ?_
      refine X_iconst (v := 0) dL_law_2758 (by decide) ?_
      refine X_lald (i := 63) hO2.1 hA2.2.2.2.1 (show (0 : Int32) = nI 0 from rfl) (by decide) (by decide) dL_law_2759 ?_
      refine XJ.top (v' := .long ((nI (cntB (fun k => !(canO O (idx o)).2.2.2.2.2 k) O.1) : Int32).toInt64)) (by rw [hlv hcd]) ?_
      refine X_iload dL_law_2760 (i := 7) rfl ?_
      refine XJ.top (v' := .int (nI (cntB (fun k => !(canO O (idx o)).2.2.2.2.2 k) O.1))) (by rw [hv2 hcd]) ?_
      refine X_i2l dL_law_2762 rfl ?_
      refine X_lcmp dL_law_2763 ?_
      refine XJ.top (v' := .int 0) (congrArg Value.int (lcmp_self _)) ?_
      refine X_if_eq (tgt := 2769) dL_law_2764 (by decide) (fun h3 => ?_) (fun h3 => ?_)
      · refine X_goto (tgt := 2918) dL_law_2769 (by decide) ?_
        exact XJ.lcs (lo' := [(0, .ref G.2.2.2.2.1), (1, .ref a0), (2, .ref a39), (3, .ref a63), (4, .ref a64), (5, .int (nI x0))]) ⟨rfl, rfl, rfl, rfl, rfl, rfl, trivial⟩ (hn _ hA2 hX2 hM20 ⟨_, _, hO2⟩)
      · exact absurd rfl h3
  · exact absurd rfl h1
set_option maxRecDepth 20000 in
theorem law_orderCost {P : PSt} {L : LSt} {pr : Nat → Nat} {O : OSt} {mp : Nat} {mk : Nat → UInt32} {T : List Nat} {a0 a39 a63 a64 : Nat} {dc tc t : Nat} {nm : String} {hh : List (Nat × Nat × Nat × Nat)} {gc2 gs2 x0 : Nat} {ou : Nat → Int64} {ov : Nat → UInt64} (hA : AD w a0 a39 a63 a64) (hIX : IX G.2.2.1 w P L pr O mp mk T dc tc) (hM : IM G.2.2.1 w P L pr O mp mk T t) (hO : OUTS G.2.2.1 w ou ov) (hIP : IP P L pr O mp mk T) (hLn : G.2.2.2.2.2.1 < 2 ^ 31) (hx0 : x0 + 7 ≤ G.2.2.2.2.2.1) (a : Int32) (ea_ : G.2.2.2.2.2.2 (x0 + 1) = a) (hn : ∀ w', AD w' a0 a39 a63 a64 → IX G.2.2.1 w' P L pr O mp mk T dc tc → IM G.2.2.1 w' P L pr O mp mk T (cdP a O.1) → (∃ ou ov, OUTS G.2.2.1 w' ou ov) → XJ G (mLaw nm hh) 20 gc2 gs2 2918 [(0, .ref G.2.2.2.2.1), (1, .ref a0), (2, .ref a39), (3, .ref a63), (4, .ref a64), (5, .int (nI x0))] [] w' QL) : XJ G (mLaw nm hh) 20 (2 + gc2) (12 + gs2) 2772 [(0, .ref G.2.2.2.2.1), (1, .ref a0), (2, .ref a39), (3, .ref a63), (4, .ref a64), (5, .int (nI x0))] [] w QL := by
  refine X_aload_n dL_law_2772 (i := 1) rfl rfl ?_
  refine X_aload_n dL_law_2773 (i := 0) rfl rfl ?_
  refine X_iload dL_law_2774 (i := 5) rfl ?_
  refine X_iconst (v := 1) dL_law_2776 (by decide) ?_
  refine X_iadd dL_law_2777 ?_
  refine XJ.top (v' := .int (nI (x0 + 1))) (by rw [show (1 : Int32) = nI 1 from rfl, nI_add]) ?_
  refine X_sld rfl (by omega) hLn dL_law_2778 ?_
  refine XJ.top (v' := .int a) (by rw [ea_]) ?_
  refine X_aload dL_law_2779 (i := 4) rfl ?_
  refine X_callSW (gc2 := gc2) (gs2 := gs2) (k_orderCost hA hIX hM hO hIP a) kmL_orderCost rfl lL_270 sL_orderCost rfl rfl (Nat.le_of_ble_eq_true rfl) (by decide) dL_law_2781 (Nat.le_refl _) (Nat.le_refl _) (fun E w1 hq => nomatch hq.1) (fun v w1 hq => ?_)
  obtain ⟨hv, hA1, hX1, hM1, ou1, ov1, hO1, hlv⟩ := hq
  cases hv
  have hM10 := hM1
  obtain ⟨⟨en1, h9a⟩, -⟩ := hM1
  refine X_istore (i := 6) (lo' := [(6, _), (0, _), (1, _), (2, _), (3, _), (4, _), (5, _)]) dL_law_2784 (Nat.le_of_ble_eq_true rfl) rfl ?_
  refine X_aload_n dL_law_2786 (i := 2) rfl rfl ?_
  refine X_aload_n dL_law_2787 (i := 0) rfl rfl ?_
  refine X_iload dL_law_2788 (i := 5) rfl ?_
  refine X_iconst (v := 1) dL_law_2790 (by decide) ?_
  refine X_iadd dL_law_2791 ?_
  refine XJ.top (v' := .int (nI (x0 + 1))) (by rw [show (1 : Int32) = nI 1 from rfl, nI_add]) ?_
  refine X_sld rfl (by omega) hLn dL_law_2792 ?_
  refine XJ.top (v' := .int a) (by rw [ea_]) ?_
  refine X_callV (gc2 := gc2) (gs2 := gs2) (r_orderCost hA1 hM10 hIP a) (i := 39) h9a hA1.2.2.1 rfl kmX11_orderCost rfl lL_273 iX11_orderCost vX11_orderCost rfl rfl (Nat.le_of_ble_eq_true rfl) (by decide) dL_law_2793 (by omega) (by omega) (fun E w1 hq => by obtain ⟨_, h, _⟩ := hq; nomatch h) (fun v w1 hq => ?_)
  obtain ⟨v1, hv, hv2, hF2, hM2⟩ := hq
  cases hv
  have hA2 := hA1.fm hF2
  have hX2 := hX1.fm hF2
  have hO2 := hO1.fm hF2
  have hM20 := hM2
  obtain ⟨⟨en2, h9b⟩, -⟩ := hM2
  refine X_fstore (i := 7) (lo' := [(7, _), (6, _), (0, _), (1, _), (2, _), (3, _), (4, _), (5, _)]) dL_law_2796 (Nat.le_of_ble_eq_true rfl) rfl ?_
  refine X_aload_n dL_law_2798 (i := 2) rfl rfl ?_
  refine X_callV (gc2 := gc2) (gs2 := gs2) (r_thrown hA2 h9b) (i := 39) h9b hA2.2.2.1 rfl kmX11_thrown rfl lL_152 iX11_thrown vX11_thrown rfl rfl (Nat.le_of_ble_eq_true rfl) (by decide) dL_law_2799 (by omega) (by omega) (fun E w1 hq => nomatch hq.1) (fun v w1 hq => ?_)
  have hv := hq.1
  obtain rfl := hq.2.symm
  cases hv
  refine X_iload dL_law_2802 (i := 6) rfl ?_
  refine X_icmp_eq (tgt := 2809) dL_law_2804 (by decide) (fun h1 => ?_) (fun h1 => ?_)
  · refine X_iload dL_law_2809 (i := 6) rfl ?_
    refine X_if_ne (tgt := 2847) dL_law_2811 (by decide) (fun h2 => ?_) (fun h2 => ?_)
    · refine X_goto (tgt := 2918) dL_law_2847 (by decide) ?_
      exact XJ.lcs (lo' := [(0, .ref G.2.2.2.2.1), (1, .ref a0), (2, .ref a39), (3, .ref a63), (4, .ref a64), (5, .int (nI x0))]) ⟨rfl, rfl, rfl, rfl, rfl, rfl, trivial⟩ (hn _ hA2 hX2 hM20 ⟨_, _, hO2⟩)
    · have hle : cdP a O.1 ≤ 1 := cdP_le
      have hcd : cdP a O.1 = 0 := (nI_eq (b := 0) (by omega) (by decide)).mp h2
      refine X_aload dL_law_2814 (i := 4) rfl ?_
      refine X_iconst (v := 0) dL_law_2816 (by decide) ?_
      refine X_dald (i := 64) hO2.2 hA2.2.2.2.2 (show (0 : Int32) = nI 0 from rfl) (by decide) (by decide) dL_law_2817 ?_
      refine XJ.top (v' := .double (FP.f2d (ocF P L O (idx a)))) (by rw [hlv hcd]) ?_
      refine X_fload dL_law_2818 (i := 7) rfl ?_
      refine XJ.top (v' := .float (ocF P L O (idx a))) (by rw [hv2 hcd]) ?_
      refine X_f2d dL_law_2820 (ft_tovd (ft_f2d_nn (nn_orderCost hIP hcd))) ?_
      refine X_dcmp dL_law_2821 ?_
      refine XJ.top (v' := .int 0) (by rw [dcmp_selfv (ft_tovd (ft_f2d_nn (nn_orderCost hIP hcd)))]; rfl) ?_
      refine X_if_eq (tgt := 2847) dL_law_2822 (by decide) (fun h3 => ?_) (fun h3 => ?_)
      · refine X_goto (tgt := 2918) dL_law_2847 (by decide) ?_
        exact XJ.lcs (lo' := [(0, .ref G.2.2.2.2.1), (1, .ref a0), (2, .ref a39), (3, .ref a63), (4, .ref a64), (5, .int (nI x0))]) ⟨rfl, rfl, rfl, rfl, rfl, rfl, trivial⟩ (hn _ hA2 hX2 hM20 ⟨_, _, hO2⟩)
      · exact absurd rfl h3
  · exact absurd rfl h1
set_option maxRecDepth 20000 in
theorem law_need {P : PSt} {L : LSt} {pr : Nat → Nat} {O : OSt} {mp : Nat} {mk : Nat → UInt32} {T : List Nat} {a0 a39 a63 a64 : Nat} {dc tc t : Nat} {nm : String} {hh : List (Nat × Nat × Nat × Nat)} {gc2 gs2 x0 : Nat} {ou : Nat → Int64} {ov : Nat → UInt64} (hA : AD w a0 a39 a63 a64) (hIX : IX G.2.2.1 w P L pr O mp mk T dc tc) (hM : IM G.2.2.1 w P L pr O mp mk T t) (hO : OUTS G.2.2.1 w ou ov) (hIP : IP P L pr O mp mk T) (hLn : G.2.2.2.2.2.1 < 2 ^ 31) (hx0 : x0 + 7 ≤ G.2.2.2.2.2.1) (c : Int32) (ec_ : G.2.2.2.2.2.2 (x0 + 1) = c) (hn : ∀ w', AD w' a0 a39 a63 a64 → IX G.2.2.1 w' P L pr O mp mk T dc tc → IM G.2.2.1 w' P L pr O mp mk T (cdP c P.1) → (∃ ou ov, OUTS G.2.2.1 w' ou ov) → XJ G (mLaw nm hh) 20 gc2 gs2 2918 [(0, .ref G.2.2.2.2.1), (1, .ref a0), (2, .ref a39), (3, .ref a63), (4, .ref a64), (5, .int (nI x0))] [] w' QL) : XJ G (mLaw nm hh) 20 (2 + gc2) (12 + gs2) 2850 [(0, .ref G.2.2.2.2.1), (1, .ref a0), (2, .ref a39), (3, .ref a63), (4, .ref a64), (5, .int (nI x0))] [] w QL := by
  refine X_aload_n dL_law_2850 (i := 1) rfl rfl ?_
  refine X_aload_n dL_law_2851 (i := 0) rfl rfl ?_
  refine X_iload dL_law_2852 (i := 5) rfl ?_
  refine X_iconst (v := 1) dL_law_2854 (by decide) ?_
  refine X_iadd dL_law_2855 ?_
  refine XJ.top (v' := .int (nI (x0 + 1))) (by rw [show (1 : Int32) = nI 1 from rfl, nI_add]) ?_
  refine X_sld rfl (by omega) hLn dL_law_2856 ?_
  refine XJ.top (v' := .int c) (by rw [ec_]) ?_
  refine X_aload_n dL_law_2857 (i := 3) rfl rfl ?_
  refine X_callSW (gc2 := gc2) (gs2 := gs2) (k_need hA hIX hM hO hIP c) kmL_need rfl lL_274 sL_need rfl rfl (Nat.le_of_ble_eq_true rfl) (by decide) dL_law_2858 (Nat.le_refl _) (Nat.le_refl _) (fun E w1 hq => nomatch hq.1) (fun v w1 hq => ?_)
  obtain ⟨hv, hA1, hX1, hM1, ou1, ov1, hO1, hlv⟩ := hq
  cases hv
  have hM10 := hM1
  obtain ⟨⟨en1, h9a⟩, -⟩ := hM1
  refine X_istore (i := 6) (lo' := [(6, _), (0, _), (1, _), (2, _), (3, _), (4, _), (5, _)]) dL_law_2861 (Nat.le_of_ble_eq_true rfl) rfl ?_
  refine X_aload_n dL_law_2863 (i := 2) rfl rfl ?_
  refine X_aload_n dL_law_2864 (i := 0) rfl rfl ?_
  refine X_iload dL_law_2865 (i := 5) rfl ?_
  refine X_iconst (v := 1) dL_law_2867 (by decide) ?_
  refine X_iadd dL_law_2868 ?_
  refine XJ.top (v' := .int (nI (x0 + 1))) (by rw [show (1 : Int32) = nI 1 from rfl, nI_add]) ?_
  refine X_sld rfl (by omega) hLn dL_law_2869 ?_
  refine XJ.top (v' := .int c) (by rw [ec_]) ?_
  refine X_callV (gc2 := gc2) (gs2 := gs2) (r_need hA1 hM10 hIP c) (i := 39) h9a hA1.2.2.1 rfl kmX11_need rfl lL_276 iX11_need vX11_need rfl rfl (Nat.le_of_ble_eq_true rfl) (by decide) dL_law_2870 (by omega) (by omega) (fun E w1 hq => by obtain ⟨_, h, _⟩ := hq; nomatch h) (fun v w1 hq => ?_)
  obtain ⟨v1, hv, hv2, hF2, hM2⟩ := hq
  cases hv
  have hA2 := hA1.fm hF2
  have hX2 := hX1.fm hF2
  have hO2 := hO1.fm hF2
  have hM20 := hM2
  obtain ⟨⟨en2, h9b⟩, -⟩ := hM2
  refine X_lstore (i := 7) (lo' := [(7, _), (6, _), (0, _), (1, _), (2, _), (3, _), (4, _), (5, _)]) dL_law_2873 (Nat.le_of_ble_eq_true rfl) rfl ?_
  refine X_aload_n dL_law_2875 (i := 2) rfl rfl ?_
  refine X_callV (gc2 := gc2) (gs2 := gs2) (r_thrown hA2 h9b) (i := 39) h9b hA2.2.2.1 rfl kmX11_thrown rfl lL_152 iX11_thrown vX11_thrown rfl rfl (Nat.le_of_ble_eq_true rfl) (by decide) dL_law_2876 (by omega) (by omega) (fun E w1 hq => nomatch hq.1) (fun v w1 hq => ?_)
  have hv := hq.1
  obtain rfl := hq.2.symm
  cases hv
  refine X_iload dL_law_2879 (i := 6) rfl ?_
  refine X_icmp_eq (tgt := 2886) dL_law_2881 (by decide) (fun h1 => ?_) (fun h1 => ?_)
  · refine X_iload dL_law_2886 (i := 6) rfl ?_
    refine X_if_ne (tgt := 2902) dL_law_2888 (by decide) (fun h2 => ?_) (fun h2 => ?_)
    · refine X_goto (tgt := 2918) dL_law_2902 (by decide) ?_
      exact XJ.lcs (lo' := [(0, .ref G.2.2.2.2.1), (1, .ref a0), (2, .ref a39), (3, .ref a63), (4, .ref a64), (5, .int (nI x0))]) ⟨rfl, rfl, rfl, rfl, rfl, rfl, trivial⟩ (hn _ hA2 hX2 hM20 ⟨_, _, hO2⟩)
    · have hle : cdP c P.1 ≤ 1 := cdP_le
      have hcd : cdP c P.1 = 0 := (nI_eq (b := 0) (by omega) (by decide)).mp h2
      refine X_aload_n dL_law_2891 (i := 3) rfl rfl ?_
      refine X_iconst (v := 0) dL_law_2892 (by decide) ?_
      refine X_lald (i := 63) hO2.1 hA2.2.2.2.1 (show (0 : Int32) = nI 0 from rfl) (by decide) (by decide) dL_law_2893 ?_
      refine XJ.top (v' := .long (nL (needN L O (idx c) O.1))) (by rw [hlv hcd]) ?_
      refine X_lload dL_law_2894 (i := 7) rfl ?_
      refine XJ.top (v' := .long (nL (needN L O (idx c) O.1))) (by rw [hv2 hcd]) ?_
      refine X_lcmp dL_law_2896 ?_
      refine XJ.top (v' := .int 0) (congrArg Value.int (lcmp_self _)) ?_
      refine X_if_eq (tgt := 2902) dL_law_2897 (by decide) (fun h3 => ?_) (fun h3 => ?_)
      · refine X_goto (tgt := 2918) dL_law_2902 (by decide) ?_
        exact XJ.lcs (lo' := [(0, .ref G.2.2.2.2.1), (1, .ref a0), (2, .ref a39), (3, .ref a63), (4, .ref a64), (5, .int (nI x0))]) ⟨rfl, rfl, rfl, rfl, rfl, rfl, trivial⟩ (hn _ hA2 hX2 hM20 ⟨_, _, hO2⟩)
      · exact absurd rfl h3
  · exact absurd rfl h1
set_option maxRecDepth 20000 in
theorem law_parts {P : PSt} {L : LSt} {pr : Nat → Nat} {O : OSt} {mp : Nat} {mk : Nat → UInt32} {T : List Nat} {a0 a39 a63 a64 : Nat} {dc tc t : Nat} {nm : String} {hh : List (Nat × Nat × Nat × Nat)} {gc2 gs2 x0 : Nat} {ou : Nat → Int64} {ov : Nat → UInt64} (hA : AD w a0 a39 a63 a64) (hIX : IX G.2.2.1 w P L pr O mp mk T dc tc) (hM : IM G.2.2.1 w P L pr O mp mk T t) (hO : OUTS G.2.2.1 w ou ov) (hIP : IP P L pr O mp mk T) (hLn : G.2.2.2.2.2.1 < 2 ^ 31) (hx0 : x0 + 7 ≤ G.2.2.2.2.2.1) (hn : ∀ w', AD w' a0 a39 a63 a64 → IX G.2.2.1 w' P L pr O mp mk T dc tc → IM G.2.2.1 w' P L pr O mp mk T (0) → (∃ ou ov, OUTS G.2.2.1 w' ou ov) → XJ G (mLaw nm hh) 20 gc2 gs2 2918 [(0, .ref G.2.2.2.2.1), (1, .ref a0), (2, .ref a39), (3, .ref a63), (4, .ref a64), (5, .int (nI x0))] [] w' QL) : XJ G (mLaw nm hh) 20 (0 + gc2) (0 + gs2) 504 [(0, .ref G.2.2.2.2.1), (1, .ref a0), (2, .ref a39), (3, .ref a63), (4, .ref a64), (5, .int (nI x0))] [] w QL := by
  refine XJ.less (gc' := gc2) (gs' := gs2) (by omega) (by omega) ?_
  refine X_aload_n dL_law_504 (i := 1) rfl rfl ?_
  refine X_callV (gc2 := gc2) (gs2 := gs2) (cx_parts hA hIX hIP) (i := 0) hIX.1 hA.2.1 rfl kmX10_parts rfl lL_167 iX10_parts vX10_parts rfl rfl (Nat.le_of_ble_eq_true rfl) (by decide) dL_law_505 (by omega) (by omega) (fun E w1 hq => nomatch hq.1) (fun v w1 hq => ?_)
  have hv := hq.1
  obtain rfl := hq.2.symm
  cases hv
  have hM0 := hM
  obtain ⟨⟨en1, h9a⟩, -⟩ := hM
  refine X_aload_n dL_law_508 (i := 2) rfl rfl ?_
  refine X_callV (gc2 := gc2) (gs2 := gs2) (r_parts hA hM0) (i := 39) h9a hA.2.2.1 rfl kmX11_parts rfl lL_170 iX11_parts vX11_parts rfl rfl (Nat.le_of_ble_eq_true rfl) (by decide) dL_law_509 (by omega) (by omega) (fun E w1 hq => nomatch hq.1) (fun v w1 hq => ?_)
  obtain ⟨hv, hF2, hM2⟩ := hq
  cases hv
  have hA2 := hA.fm hF2
  have hX2 := hIX.fm hF2
  have hO2 := hO.fm hF2
  refine X_icmp_eq (tgt := 2918) dL_law_512 (by decide) (fun h1 => ?_) (fun h1 => ?_)
  · exact XJ.lcs (lo' := [(0, .ref G.2.2.2.2.1), (1, .ref a0), (2, .ref a39), (3, .ref a63), (4, .ref a64), (5, .int (nI x0))]) ⟨rfl, rfl, rfl, rfl, rfl, rfl, trivial⟩ (hn _ hA2 hX2 hM2 ⟨_, _, hO2⟩)
  · exact absurd rfl h1
set_option maxRecDepth 20000 in
theorem law_lines {P : PSt} {L : LSt} {pr : Nat → Nat} {O : OSt} {mp : Nat} {mk : Nat → UInt32} {T : List Nat} {a0 a39 a63 a64 : Nat} {dc tc t : Nat} {nm : String} {hh : List (Nat × Nat × Nat × Nat)} {gc2 gs2 x0 : Nat} {ou : Nat → Int64} {ov : Nat → UInt64} (hA : AD w a0 a39 a63 a64) (hIX : IX G.2.2.1 w P L pr O mp mk T dc tc) (hM : IM G.2.2.1 w P L pr O mp mk T t) (hO : OUTS G.2.2.1 w ou ov) (hIP : IP P L pr O mp mk T) (hLn : G.2.2.2.2.2.1 < 2 ^ 31) (hx0 : x0 + 7 ≤ G.2.2.2.2.2.1) (hn : ∀ w', AD w' a0 a39 a63 a64 → IX G.2.2.1 w' P L pr O mp mk T dc tc → IM G.2.2.1 w' P L pr O mp mk T (0) → (∃ ou ov, OUTS G.2.2.1 w' ou ov) → XJ G (mLaw nm hh) 20 gc2 gs2 2918 [(0, .ref G.2.2.2.2.1), (1, .ref a0), (2, .ref a39), (3, .ref a63), (4, .ref a64), (5, .int (nI x0))] [] w' QL) : XJ G (mLaw nm hh) 20 (0 + gc2) (0 + gs2) 1037 [(0, .ref G.2.2.2.2.1), (1, .ref a0), (2, .ref a39), (3, .ref a63), (4, .ref a64), (5, .int (nI x0))] [] w QL := by
  refine XJ.less (gc' := gc2) (gs' := gs2) (by omega) (by omega) ?_
  refine X_aload_n dL_law_1037 (i := 1) rfl rfl ?_
  refine X_callV (gc2 := gc2) (gs2 := gs2) (cx_lines hA hIX hIP) (i := 0) hIX.1 hA.2.1 rfl kmX10_lines rfl lL_192 iX10_lines vX10_lines rfl rfl (Nat.le_of_ble_eq_true rfl) (by decide) dL_law_1038 (by omega) (by omega) (fun E w1 hq => nomatch hq.1) (fun v w1 hq => ?_)
  have hv := hq.1
  obtain rfl := hq.2.symm
  cases hv
  have hM0 := hM
  obtain ⟨⟨en1, h9a⟩, -⟩ := hM
  refine X_aload_n dL_law_1041 (i := 2) rfl rfl ?_
  refine X_callV (gc2 := gc2) (gs2 := gs2) (r_lines hA hM0) (i := 39) h9a hA.2.2.1 rfl kmX11_lines rfl lL_195 iX11_lines vX11_lines rfl rfl (Nat.le_of_ble_eq_true rfl) (by decide) dL_law_1042 (by omega) (by omega) (fun E w1 hq => nomatch hq.1) (fun v w1 hq => ?_)
  obtain ⟨hv, hF2, hM2⟩ := hq
  cases hv
  have hA2 := hA.fm hF2
  have hX2 := hIX.fm hF2
  have hO2 := hO.fm hF2
  refine X_icmp_eq (tgt := 2918) dL_law_1045 (by decide) (fun h1 => ?_) (fun h1 => ?_)
  · exact XJ.lcs (lo' := [(0, .ref G.2.2.2.2.1), (1, .ref a0), (2, .ref a39), (3, .ref a63), (4, .ref a64), (5, .int (nI x0))]) ⟨rfl, rfl, rfl, rfl, rfl, rfl, trivial⟩ (hn _ hA2 hX2 hM2 ⟨_, _, hO2⟩)
  · exact absurd rfl h1
set_option maxRecDepth 20000 in
theorem law_isConsistent {P : PSt} {L : LSt} {pr : Nat → Nat} {O : OSt} {mp : Nat} {mk : Nat → UInt32} {T : List Nat} {a0 a39 a63 a64 : Nat} {dc tc t : Nat} {nm : String} {hh : List (Nat × Nat × Nat × Nat)} {gc2 gs2 x0 : Nat} {ou : Nat → Int64} {ov : Nat → UInt64} (hA : AD w a0 a39 a63 a64) (hIX : IX G.2.2.1 w P L pr O mp mk T dc tc) (hM : IM G.2.2.1 w P L pr O mp mk T t) (hO : OUTS G.2.2.1 w ou ov) (hIP : IP P L pr O mp mk T) (hLn : G.2.2.2.2.2.1 < 2 ^ 31) (hx0 : x0 + 7 ≤ G.2.2.2.2.2.1) (hn : ∀ w', AD w' a0 a39 a63 a64 → IX G.2.2.1 w' P L pr O mp mk T dc tc → IM G.2.2.1 w' P L pr O mp mk T (0) → (∃ ou ov, OUTS G.2.2.1 w' ou ov) → XJ G (mLaw nm hh) 20 gc2 gs2 2918 [(0, .ref G.2.2.2.2.1), (1, .ref a0), (2, .ref a39), (3, .ref a63), (4, .ref a64), (5, .int (nI x0))] [] w' QL) : XJ G (mLaw nm hh) 20 (0 + gc2) (0 + gs2) 2905 [(0, .ref G.2.2.2.2.1), (1, .ref a0), (2, .ref a39), (3, .ref a63), (4, .ref a64), (5, .int (nI x0))] [] w QL := by
  refine XJ.less (gc' := gc2) (gs' := gs2) (by omega) (by omega) ?_
  refine X_aload_n dL_law_2905 (i := 1) rfl rfl ?_
  refine X_callV (gc2 := gc2) (gs2 := gs2) (cx_isConsistent hA hIX hIP) (i := 0) hIX.1 hA.2.1 rfl kmX10_isConsistent rfl lL_277 iX10_isConsistent vX10_isConsistent rfl rfl (Nat.le_of_ble_eq_true rfl) (by decide) dL_law_2906 (by omega) (by omega) (fun E w1 hq => nomatch hq.1) (fun v w1 hq => ?_)
  have hv := hq.1
  obtain rfl := hq.2.symm
  cases hv
  have hM0 := hM
  obtain ⟨⟨en1, h9a⟩, -⟩ := hM
  refine X_aload_n dL_law_2909 (i := 2) rfl rfl ?_
  refine X_callV (gc2 := gc2) (gs2 := gs2) (r_isConsistent hA hM0) (i := 39) h9a hA.2.2.1 rfl kmX11_isConsistent rfl lL_281 iX11_isConsistent vX11_isConsistent rfl rfl (Nat.le_of_ble_eq_true rfl) (by decide) dL_law_2910 (by omega) (by omega) (fun E w1 hq => nomatch hq.1) (fun v w1 hq => ?_)
  obtain ⟨hv, hF2, hM2⟩ := hq
  cases hv
  have hA2 := hA.fm hF2
  have hX2 := hIX.fm hF2
  have hO2 := hO.fm hF2
  refine X_icmp_eq (tgt := 2918) dL_law_2913 (by decide) (fun h1 => ?_) (fun h1 => ?_)
  · exact XJ.lcs (lo' := [(0, .ref G.2.2.2.2.1), (1, .ref a0), (2, .ref a39), (3, .ref a63), (4, .ref a64), (5, .int (nI x0))]) ⟨rfl, rfl, rfl, rfl, rfl, rfl, trivial⟩ (hn _ hA2 hX2 hM2 ⟨_, _, hO2⟩)
  · exact absurd rfl h1
end LawC
