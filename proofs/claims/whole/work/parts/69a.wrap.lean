/-! THE LAW'S HELPERS (walks by gen/spec69.py) -/
section Wrap
variable {G : Gx} {w : Wd}
def bL (b : Bool) : Int64 := bif b then 1 else 0
theorem IX.s63 {P : PSt} {L : LSt} {pr : Nat → Nat} {O : OSt} {mp : Nat} {mk : Nat → UInt32} {T : List Nat} {dc tc : Nat} {K : Nat → ClassId} {e : va_E} (h : IX K w P L pr O mp mk T dc tc) : IX K (setM w 63 e) P L pr O mp mk T dc tc := h
theorem IX.s64 {P : PSt} {L : LSt} {pr : Nat → Nat} {O : OSt} {mp : Nat} {mk : Nat → UInt32} {T : List Nat} {dc tc : Nat} {K : Nat → ClassId} {e : va_E} (h : IX K w P L pr O mp mk T dc tc) : IX K (setM w 64 e) P L pr O mp mk T dc tc := h
theorem IM.s63 {P : PSt} {L : LSt} {pr : Nat → Nat} {O : OSt} {mp : Nat} {mk : Nat → UInt32} {T : List Nat} {t : Nat} {K : Nat → ClassId} {e : va_E} (h : IM K w P L pr O mp mk T t) : IM K (setM w 63 e) P L pr O mp mk T t := h
theorem IM.s64 {P : PSt} {L : LSt} {pr : Nat → Nat} {O : OSt} {mp : Nat} {mk : Nat → UInt32} {T : List Nat} {t : Nat} {K : Nat → ClassId} {e : va_E} (h : IM K w P L pr O mp mk T t) : IM K (setM w 64 e) P L pr O mp mk T t := h
theorem cdH_a {a s : Int32} {np mp : Nat} (h : cdH a s np mp = 0) : cdA a s np = 0 := by
  by_cases h1 : cdA a s np = 0
  · exact h1
  · rw [cdH_n h1] at h; exact absurd h h1
theorem pz {P : PSt} {L : LSt} {pr : Nat → Nat} {O : OSt} {mp : Nat} {mk : Nat → UInt32} {T : List Nat} (h : IP P L pr O mp mk T) {a s : Int32} (hcd : cdA a s P.1 = 0) : Z32 120 234 (priF P L pr (idx s) 5 (idx a)) := by
  have h16 := h.1.1
  exact pri5_z h.2.2.1.1 rfl h.1 (inP_i (by omega) (cdA_inv hcd).1)
theorem nn_cost {P : PSt} {L : LSt} {pr : Nat → Nat} {O : OSt} {mp : Nat} {mk : Nat → UInt32} {T : List Nat} (h : IP P L pr O mp mk T) {a s : Int32} (hcd : cdA a s P.1 = 0) : vf_n32 (priF P L pr (idx s) 5 (idx a)) := z_nn (pz h hcd) (by omega)
theorem nn_costByWalking {P : PSt} {L : LSt} {pr : Nat → Nat} {O : OSt} {mp : Nat} {mk : Nat → UInt32} {T : List Nat} (h : IP P L pr O mp mk T) {a s : Int32} (hcd : cdA a s P.1 = 0) : vf_n32 (priF P L pr (idx s) 5 (idx a)) := nn_cost h hcd
theorem nn_costChange {P : PSt} {L : LSt} {pr : Nat → Nat} {O : OSt} {mp : Nat} {mk : Nat → UInt32} {T : List Nat} (h : IP P L pr O mp mk T) {a s : Int32} (hcd : cdH a s P.1 mp = 0) : vf_n32 (FP.fsub (priF P L pr (idx s) 5 (idx a)) (mk (idx a))) := chg_nn (pz h (cdH_a hcd)) (h.2.2.2.2.2.2.1 _ (cdH_lt hcd))
theorem nn_orderCost {P : PSt} {L : LSt} {pr : Nat → Nat} {O : OSt} {mp : Nat} {mk : Nat → UInt32} {T : List Nat} (h : IP P L pr O mp mk T) {a : Int32} (hcd : cdP a O.1 = 0) : vf_n32 (ocF P L O (idx a)) := by
  have h16 := h.1.1
  have h8 := h.2.2.2.1.1
  have hi : inP a O.1 = true := by
    cases h1 : inP a O.1 with
    | true => rfl
    | false => rw [cdP_1 h1] at hcd; cases hcd
  have ho := h.2.2.2.1.2.1 _ (inP_i (by omega) hi)
  exact ord_nn ho.2.2.1.2 (pri5_z h.2.2.1.1 rfl h.1 ho.1)
set_option maxRecDepth 20000 in
theorem k_addPart {P : PSt} {L : LSt} {pr : Nat → Nat} {O : OSt} {mp : Nat} {mk : Nat → UInt32} {T : List Nat} {a0 a39 a63 a64 : Nat} {dc tc t : Nat} {ou : Nat → Int64} {ov : Nat → UInt64} (hA : AD w a0 a39 a63 a64) (hIX : IX G.2.2.1 w P L pr O mp mk T dc tc) (hM : IM G.2.2.1 w P L pr O mp mk T t) (hO : OUTS G.2.2.1 w ou ov) (hIP : IP P L pr O mp mk T) (k : Nat) (hk : k < 65536) (c : Int32) (g : Int32) : XC G mL_addPart 8 (4) (24) [.ref a0, .int (nI k), .int c, .int g, .ref a63] w (fun r w' => r = .inl (some (.int (nI (cdAdd (nI k) c g P.1)))) ∧ AD w' a0 a39 a63 a64 ∧ IX G.2.2.1 w' (addP P (cdAdd (nI k) c g P.1) k (idx c) (idx g)) L pr O mp mk T dc tc ∧ IM G.2.2.1 w' P L pr O mp mk T t ∧ ∃ o' od', OUTS G.2.2.1 w' o' od' ∧ (cdAdd (nI k) c g P.1 = 0 → o' 0 = (nI P.1 : Int32).toInt64)) := by
  refine XC.of (lo0 := [(0, .ref a0), (1, .int (nI k)), (2, .int c), (3, .int g), (4, .ref a63)]) kmL_addPart (Nat.le_of_ble_eq_true rfl) rfl ?_
  refine X_aload dL_addPart_0 (i := 4) rfl ?_
  refine X_iconst (v := 0) dL_addPart_2 (by decide) ?_
  refine X_aload_n dL_addPart_3 (i := 0) rfl rfl ?_
  refine X_iload_n dL_addPart_4 (i := 1) rfl rfl ?_
  refine X_iload_n dL_addPart_5 (i := 2) rfl rfl ?_
  refine X_iload_n dL_addPart_6 (i := 3) rfl rfl ?_
  refine X_callV (gc2 := 0) (gs2 := 0) (cx_addPart hA hIX hIP k hk c g) (i := 0) hIX.1 hA.2.1 rfl kmX10_addPart rfl lL_7 iX10_addPart vX10_addPart rfl rfl (Nat.le_of_ble_eq_true rfl) (by decide) dL_addPart_7 (by omega) (by omega) (fun E w1 hq => ?_) (fun v w1 hq => ?_)
  · obtain ⟨hr, hX1, hF1⟩ := hq
    obtain ⟨kx, hcd, hE⟩ := xr_inr hr
    have hle : cdAdd (nI k) c g P.1 ≤ 2 := cdAdd_le
    have hA1 := hA.fx hF1
    have hM1 := hM.fx hF1
    have hO1 := hO.fx hF1
    rcases kx with _ | _ | kx
    · have hE : E = "java/lang/IllegalArgumentException" := hE
      subst hE
      refine XT.catch (name := "java/lang/IllegalArgumentException") [] (0, 12, 15, 13) [(0, 12, 19, 15)] rfl (fun z hz => nomatch hz) ⟨by decide, by decide⟩ (by decide) cL_13 cast_IllegalArgumentException (fun q => ?_)
      refine X_astore (i := 5) (lo' := [(5, _), (0, _), (1, _), (2, _), (3, _), (4, _)]) dL_addPart_15 (by decide) rfl ?_
      refine X_iconst (v := 1) dL_addPart_17 (by decide) ?_
      refine X_ireturn dL_addPart_18 rfl rfl ?_
      exact ⟨by rw [hcd]; rfl, hA1, hX1, hM1, ou, ov, hO1, fun h => absurd h (by rw [hcd]; decide)⟩
    · have hE : E = "java/lang/IllegalStateException" := hE
      subst hE
      refine XT.catch (name := "java/lang/IllegalStateException") [(0, 12, 15, 13)] (0, 12, 19, 15) [] rfl (List.forall_mem_cons.mpr ⟨⟨by decide, _, cL_13, List.mem_of_getElem? (i := 4) rfl⟩, (fun z hz => nomatch hz)⟩) ⟨by decide, by decide⟩ (by decide) cL_15 cast_IllegalStateException (fun q => ?_)
      refine X_astore (i := 5) (lo' := [(5, _), (0, _), (1, _), (2, _), (3, _), (4, _)]) dL_addPart_19 (by decide) rfl ?_
      refine X_iconst (v := 2) dL_addPart_21 (by decide) ?_
      refine X_ireturn dL_addPart_22 rfl rfl ?_
      exact ⟨by rw [hcd]; rfl, hA1, hX1, hM1, ou, ov, hO1, fun h => absurd h (by rw [hcd]; decide)⟩
    · exact absurd hcd (by omega)
  obtain ⟨hr, hX1, hF1⟩ := hq
  obtain ⟨hcd, hv⟩ := xr_inl hr
  cases hv
  have hA1 := hA.fx hF1
  have hM1 := hM.fx hF1
  have hO1 := hO.fx hF1
  refine X_i2l dL_addPart_10 rfl ?_
  refine X_last (i := 63) hO1.1 hA1.2.2.2.1 (show (0 : Int32) = nI 0 from rfl) (by decide) (by decide) dL_addPart_11 (fun hc_11 => ?_)
  refine X_goto (tgt := 23) dL_addPart_12 (by decide) ?_
  refine X_iconst (v := 0) dL_addPart_23 (by decide) ?_
  refine X_ireturn dL_addPart_24 rfl rfl ?_
  exact ⟨by rw [hcd]; rfl, hA1, hX1.s63, hM1.s63, _, _, ⟨⟨hO1.1.1, rfl⟩, hO1.2⟩, fun _ => rfl⟩
set_option maxRecDepth 20000 in
theorem k_setPrice {P : PSt} {L : LSt} {pr : Nat → Nat} {O : OSt} {mp : Nat} {mk : Nat → UInt32} {T : List Nat} {a0 a39 a63 a64 : Nat} {dc tc t : Nat} {ou : Nat → Int64} {ov : Nat → UInt64} (hA : AD w a0 a39 a63 a64) (hIX : IX G.2.2.1 w P L pr O mp mk T dc tc) (hM : IM G.2.2.1 w P L pr O mp mk T t) (hO : OUTS G.2.2.1 w ou ov) (hIP : IP P L pr O mp mk T) (p : Int32) (c : Int32) : XC G mL_setPrice 8 (2) (12) [.ref a0, .int p, .int c, .ref a63] w (fun r w' => r = .inl (some (.int (nI (cdPC p c P.1)))) ∧ AD w' a0 a39 a63 a64 ∧ IX G.2.2.1 w' ((P.1, P.2.1, upIf (cdPC p c P.1) P.2.2.1 (idx p) (idx c), P.2.2.2)) L pr O mp mk T dc tc ∧ IM G.2.2.1 w' P L pr O mp mk T t ∧ ∃ o' od', OUTS G.2.2.1 w' o' od' ∧ (cdPC p c P.1 = 0 → o' 0 = (nI (P.2.2.1 (idx p)) : Int32).toInt64)) := by
  refine XC.of (lo0 := [(0, .ref a0), (1, .int p), (2, .int c), (3, .ref a63)]) kmL_setPrice (Nat.le_of_ble_eq_true rfl) rfl ?_
  refine X_aload_n dL_setPrice_0 (i := 3) rfl rfl ?_
  refine X_iconst (v := 0) dL_setPrice_1 (by decide) ?_
  refine X_aload_n dL_setPrice_2 (i := 0) rfl rfl ?_
  refine X_iload_n dL_setPrice_3 (i := 1) rfl rfl ?_
  refine X_iload_n dL_setPrice_4 (i := 2) rfl rfl ?_
  refine X_callV (gc2 := 0) (gs2 := 0) (cx_setPrice hA hIX hIP p c) (i := 0) hIX.1 hA.2.1 rfl kmX10_setPrice rfl lL_17 iX10_setPrice vX10_setPrice rfl rfl (Nat.le_of_ble_eq_true rfl) (by decide) dL_setPrice_5 (by omega) (by omega) (fun E w1 hq => ?_) (fun v w1 hq => ?_)
  · obtain ⟨hr, hX1, hF1⟩ := hq
    obtain ⟨kx, hcd, hE⟩ := xr_inr hr
    have hle : cdPC p c P.1 ≤ 2 := cdPC_le
    have hA1 := hA.fx hF1
    have hM1 := hM.fx hF1
    have hO1 := hO.fx hF1
    rcases kx with _ | _ | kx
    · have hE : E = "java/lang/IndexOutOfBoundsException" := hE
      subst hE
      refine XT.catch (name := "java/lang/IndexOutOfBoundsException") [] (0, 10, 13, 21) [(0, 10, 17, 13)] rfl (fun z hz => nomatch hz) ⟨by decide, by decide⟩ (by decide) cL_21 cast_IndexOutOfBoundsException (fun q => ?_)
      refine X_astore (i := 4) (lo' := [(4, _), (0, _), (1, _), (2, _), (3, _)]) dL_setPrice_13 (by decide) rfl ?_
      refine X_iconst (v := 1) dL_setPrice_15 (by decide) ?_
      refine X_ireturn dL_setPrice_16 rfl rfl ?_
      exact ⟨by rw [hcd]; rfl, hA1, hX1, hM1, ou, ov, hO1, fun h => absurd h (by rw [hcd]; decide)⟩
    · have hE : E = "java/lang/IllegalArgumentException" := hE
      subst hE
      refine XT.catch (name := "java/lang/IllegalArgumentException") [(0, 10, 13, 21)] (0, 10, 17, 13) [] rfl (List.forall_mem_cons.mpr ⟨⟨by decide, _, cL_21, List.mem_of_getElem? (i := 1) rfl⟩, (fun z hz => nomatch hz)⟩) ⟨by decide, by decide⟩ (by decide) cL_13 cast_IllegalArgumentException (fun q => ?_)
      refine X_astore (i := 4) (lo' := [(4, _), (0, _), (1, _), (2, _), (3, _)]) dL_setPrice_17 (by decide) rfl ?_
      refine X_iconst (v := 2) dL_setPrice_19 (by decide) ?_
      refine X_ireturn dL_setPrice_20 rfl rfl ?_
      exact ⟨by rw [hcd]; rfl, hA1, hX1, hM1, ou, ov, hO1, fun h => absurd h (by rw [hcd]; decide)⟩
    · exact absurd hcd (by omega)
  obtain ⟨hr, hX1, hF1⟩ := hq
  obtain ⟨hcd, hv⟩ := xr_inl hr
  cases hv
  have hA1 := hA.fx hF1
  have hM1 := hM.fx hF1
  have hO1 := hO.fx hF1
  refine X_i2l dL_setPrice_8 rfl ?_
  refine X_last (i := 63) hO1.1 hA1.2.2.2.1 (show (0 : Int32) = nI 0 from rfl) (by decide) (by decide) dL_setPrice_9 (fun hc_9 => ?_)
  refine X_goto (tgt := 21) dL_setPrice_10 (by decide) ?_
  refine X_iconst (v := 0) dL_setPrice_21 (by decide) ?_
  refine X_ireturn dL_setPrice_22 rfl rfl ?_
  exact ⟨by rw [hcd]; rfl, hA1, hX1.s63, hM1.s63, _, _, ⟨⟨hO1.1.1, rfl⟩, hO1.2⟩, fun _ => rfl⟩
set_option maxRecDepth 20000 in
theorem k_setGrams {P : PSt} {L : LSt} {pr : Nat → Nat} {O : OSt} {mp : Nat} {mk : Nat → UInt32} {T : List Nat} {a0 a39 a63 a64 : Nat} {dc tc t : Nat} {ou : Nat → Int64} {ov : Nat → UInt64} (hA : AD w a0 a39 a63 a64) (hIX : IX G.2.2.1 w P L pr O mp mk T dc tc) (hM : IM G.2.2.1 w P L pr O mp mk T t) (hO : OUTS G.2.2.1 w ou ov) (hIP : IP P L pr O mp mk T) (p : Int32) (c : Int32) : XC G mL_setGrams 8 (2) (12) [.ref a0, .int p, .int c, .ref a63] w (fun r w' => r = .inl (some (.int (nI (cdPC p c P.1)))) ∧ AD w' a0 a39 a63 a64 ∧ IX G.2.2.1 w' ((P.1, P.2.1, P.2.2.1, upIf (cdPC p c P.1) P.2.2.2 (idx p) (idx c))) L pr O mp mk T dc tc ∧ IM G.2.2.1 w' P L pr O mp mk T t ∧ ∃ o' od', OUTS G.2.2.1 w' o' od' ∧ (cdPC p c P.1 = 0 → o' 0 = (nI (P.2.2.2 (idx p)) : Int32).toInt64)) := by
  refine XC.of (lo0 := [(0, .ref a0), (1, .int p), (2, .int c), (3, .ref a63)]) kmL_setGrams (Nat.le_of_ble_eq_true rfl) rfl ?_
  refine X_aload_n dL_setGrams_0 (i := 3) rfl rfl ?_
  refine X_iconst (v := 0) dL_setGrams_1 (by decide) ?_
  refine X_aload_n dL_setGrams_2 (i := 0) rfl rfl ?_
  refine X_iload_n dL_setGrams_3 (i := 1) rfl rfl ?_
  refine X_iload_n dL_setGrams_4 (i := 2) rfl rfl ?_
  refine X_callV (gc2 := 0) (gs2 := 0) (cx_setGrams hA hIX hIP p c) (i := 0) hIX.1 hA.2.1 rfl kmX10_setGrams rfl lL_23 iX10_setGrams vX10_setGrams rfl rfl (Nat.le_of_ble_eq_true rfl) (by decide) dL_setGrams_5 (by omega) (by omega) (fun E w1 hq => ?_) (fun v w1 hq => ?_)
  · obtain ⟨hr, hX1, hF1⟩ := hq
    obtain ⟨kx, hcd, hE⟩ := xr_inr hr
    have hle : cdPC p c P.1 ≤ 2 := cdPC_le
    have hA1 := hA.fx hF1
    have hM1 := hM.fx hF1
    have hO1 := hO.fx hF1
    rcases kx with _ | _ | kx
    · have hE : E = "java/lang/IndexOutOfBoundsException" := hE
      subst hE
      refine XT.catch (name := "java/lang/IndexOutOfBoundsException") [] (0, 10, 13, 21) [(0, 10, 17, 13)] rfl (fun z hz => nomatch hz) ⟨by decide, by decide⟩ (by decide) cL_21 cast_IndexOutOfBoundsException (fun q => ?_)
      refine X_astore (i := 4) (lo' := [(4, _), (0, _), (1, _), (2, _), (3, _)]) dL_setGrams_13 (by decide) rfl ?_
      refine X_iconst (v := 1) dL_setGrams_15 (by decide) ?_
      refine X_ireturn dL_setGrams_16 rfl rfl ?_
      exact ⟨by rw [hcd]; rfl, hA1, hX1, hM1, ou, ov, hO1, fun h => absurd h (by rw [hcd]; decide)⟩
    · have hE : E = "java/lang/IllegalArgumentException" := hE
      subst hE
      refine XT.catch (name := "java/lang/IllegalArgumentException") [(0, 10, 13, 21)] (0, 10, 17, 13) [] rfl (List.forall_mem_cons.mpr ⟨⟨by decide, _, cL_21, List.mem_of_getElem? (i := 1) rfl⟩, (fun z hz => nomatch hz)⟩) ⟨by decide, by decide⟩ (by decide) cL_13 cast_IllegalArgumentException (fun q => ?_)
      refine X_astore (i := 4) (lo' := [(4, _), (0, _), (1, _), (2, _), (3, _)]) dL_setGrams_17 (by decide) rfl ?_
      refine X_iconst (v := 2) dL_setGrams_19 (by decide) ?_
      refine X_ireturn dL_setGrams_20 rfl rfl ?_
      exact ⟨by rw [hcd]; rfl, hA1, hX1, hM1, ou, ov, hO1, fun h => absurd h (by rw [hcd]; decide)⟩
    · exact absurd hcd (by omega)
  obtain ⟨hr, hX1, hF1⟩ := hq
  obtain ⟨hcd, hv⟩ := xr_inl hr
  cases hv
  have hA1 := hA.fx hF1
  have hM1 := hM.fx hF1
  have hO1 := hO.fx hF1
  refine X_i2l dL_setGrams_8 rfl ?_
  refine X_last (i := 63) hO1.1 hA1.2.2.2.1 (show (0 : Int32) = nI 0 from rfl) (by decide) (by decide) dL_setGrams_9 (fun hc_9 => ?_)
  refine X_goto (tgt := 21) dL_setGrams_10 (by decide) ?_
  refine X_iconst (v := 0) dL_setGrams_21 (by decide) ?_
  refine X_ireturn dL_setGrams_22 rfl rfl ?_
  exact ⟨by rw [hcd]; rfl, hA1, hX1.s63, hM1.s63, _, _, ⟨⟨hO1.1.1, rfl⟩, hO1.2⟩, fun _ => rfl⟩
set_option maxRecDepth 20000 in
theorem k_setKind {P : PSt} {L : LSt} {pr : Nat → Nat} {O : OSt} {mp : Nat} {mk : Nat → UInt32} {T : List Nat} {a0 a39 a63 a64 : Nat} {dc tc t : Nat} {ou : Nat → Int64} {ov : Nat → UInt64} (hA : AD w a0 a39 a63 a64) (hIX : IX G.2.2.1 w P L pr O mp mk T dc tc) (hM : IM G.2.2.1 w P L pr O mp mk T t) (hO : OUTS G.2.2.1 w ou ov) (hIP : IP P L pr O mp mk T) (p : Int32) (k : Nat) (hk : k < 65536) : XC G mL_setKind 8 (2) (12) [.ref a0, .int p, .int (nI k), .ref a63] w (fun r w' => r = .inl (some (.int (nI (cdPK p (nI k) P.1)))) ∧ AD w' a0 a39 a63 a64 ∧ IX G.2.2.1 w' ((P.1, upIf (cdPK p (nI k) P.1) P.2.1 (idx p) k, P.2.2.1, P.2.2.2)) L pr O mp mk T dc tc ∧ IM G.2.2.1 w' P L pr O mp mk T t ∧ ∃ o' od', OUTS G.2.2.1 w' o' od' ∧ (cdPK p (nI k) P.1 = 0 → o' 0 = (nI (P.2.1 (idx p)) : Int32).toInt64)) := by
  refine XC.of (lo0 := [(0, .ref a0), (1, .int p), (2, .int (nI k)), (3, .ref a63)]) kmL_setKind (Nat.le_of_ble_eq_true rfl) rfl ?_
  refine X_aload_n dL_setKind_0 (i := 3) rfl rfl ?_
  refine X_iconst (v := 0) dL_setKind_1 (by decide) ?_
  refine X_aload_n dL_setKind_2 (i := 0) rfl rfl ?_
  refine X_iload_n dL_setKind_3 (i := 1) rfl rfl ?_
  refine X_iload_n dL_setKind_4 (i := 2) rfl rfl ?_
  refine X_callV (gc2 := 0) (gs2 := 0) (cx_setKind hA hIX hIP p k hk) (i := 0) hIX.1 hA.2.1 rfl kmX10_setKind rfl lL_26 iX10_setKind vX10_setKind rfl rfl (Nat.le_of_ble_eq_true rfl) (by decide) dL_setKind_5 (by omega) (by omega) (fun E w1 hq => ?_) (fun v w1 hq => ?_)
  · obtain ⟨hr, hX1, hF1⟩ := hq
    obtain ⟨kx, hcd, hE⟩ := xr_inr hr
    have hle : cdPK p (nI k) P.1 ≤ 2 := cdPK_le
    have hA1 := hA.fx hF1
    have hM1 := hM.fx hF1
    have hO1 := hO.fx hF1
    rcases kx with _ | _ | kx
    · have hE : E = "java/lang/IndexOutOfBoundsException" := hE
      subst hE
      refine XT.catch (name := "java/lang/IndexOutOfBoundsException") [] (0, 10, 13, 21) [(0, 10, 17, 13)] rfl (fun z hz => nomatch hz) ⟨by decide, by decide⟩ (by decide) cL_21 cast_IndexOutOfBoundsException (fun q => ?_)
      refine X_astore (i := 4) (lo' := [(4, _), (0, _), (1, _), (2, _), (3, _)]) dL_setKind_13 (by decide) rfl ?_
      refine X_iconst (v := 1) dL_setKind_15 (by decide) ?_
      refine X_ireturn dL_setKind_16 rfl rfl ?_
      exact ⟨by rw [hcd]; rfl, hA1, hX1, hM1, ou, ov, hO1, fun h => absurd h (by rw [hcd]; decide)⟩
    · have hE : E = "java/lang/IllegalArgumentException" := hE
      subst hE
      refine XT.catch (name := "java/lang/IllegalArgumentException") [(0, 10, 13, 21)] (0, 10, 17, 13) [] rfl (List.forall_mem_cons.mpr ⟨⟨by decide, _, cL_21, List.mem_of_getElem? (i := 1) rfl⟩, (fun z hz => nomatch hz)⟩) ⟨by decide, by decide⟩ (by decide) cL_13 cast_IllegalArgumentException (fun q => ?_)
      refine X_astore (i := 4) (lo' := [(4, _), (0, _), (1, _), (2, _), (3, _)]) dL_setKind_17 (by decide) rfl ?_
      refine X_iconst (v := 2) dL_setKind_19 (by decide) ?_
      refine X_ireturn dL_setKind_20 rfl rfl ?_
      exact ⟨by rw [hcd]; rfl, hA1, hX1, hM1, ou, ov, hO1, fun h => absurd h (by rw [hcd]; decide)⟩
    · exact absurd hcd (by omega)
  obtain ⟨hr, hX1, hF1⟩ := hq
  obtain ⟨hcd, hv⟩ := xr_inl hr
  cases hv
  have hA1 := hA.fx hF1
  have hM1 := hM.fx hF1
  have hO1 := hO.fx hF1
  refine X_i2l dL_setKind_8 rfl ?_
  refine X_last (i := 63) hO1.1 hA1.2.2.2.1 (show (0 : Int32) = nI 0 from rfl) (by decide) (by decide) dL_setKind_9 (fun hc_9 => ?_)
  refine X_goto (tgt := 21) dL_setKind_10 (by decide) ?_
  refine X_iconst (v := 0) dL_setKind_21 (by decide) ?_
  refine X_ireturn dL_setKind_22 rfl rfl ?_
  exact ⟨by rw [hcd]; rfl, hA1, hX1.s63, hM1.s63, _, _, ⟨⟨hO1.1.1, rfl⟩, hO1.2⟩, fun _ => rfl⟩
set_option maxRecDepth 20000 in
theorem k_kind {P : PSt} {L : LSt} {pr : Nat → Nat} {O : OSt} {mp : Nat} {mk : Nat → UInt32} {T : List Nat} {a0 a39 a63 a64 : Nat} {dc tc t : Nat} {ou : Nat → Int64} {ov : Nat → UInt64} (hA : AD w a0 a39 a63 a64) (hIX : IX G.2.2.1 w P L pr O mp mk T dc tc) (hM : IM G.2.2.1 w P L pr O mp mk T t) (hO : OUTS G.2.2.1 w ou ov) (hIP : IP P L pr O mp mk T) (p : Int32) : XC G mL_kind 8 (1) (6) [.ref a0, .int p, .ref a63] w (fun r w' => r = .inl (some (.int (nI (cdP p P.1)))) ∧ AD w' a0 a39 a63 a64 ∧ IX G.2.2.1 w' P L pr O mp mk T dc tc ∧ IM G.2.2.1 w' P L pr O mp mk T t ∧ ∃ o' od', OUTS G.2.2.1 w' o' od' ∧ (cdP p P.1 = 0 → o' 0 = (nI (P.2.1 (idx p)) : Int32).toInt64)) := by
  refine XC.of (lo0 := [(0, .ref a0), (1, .int p), (2, .ref a63)]) kmL_kind (Nat.le_of_ble_eq_true rfl) rfl ?_
  refine X_aload_n dL_kind_0 (i := 2) rfl rfl ?_
  refine X_iconst (v := 0) dL_kind_1 (by decide) ?_
  refine X_aload_n dL_kind_2 (i := 0) rfl rfl ?_
  refine X_iload_n dL_kind_3 (i := 1) rfl rfl ?_
  refine X_callV (gc2 := 0) (gs2 := 0) (cx_kind hA hIX hIP p) (i := 0) hIX.1 hA.2.1 rfl kmX10_kind rfl lL_30 iX10_kind vX10_kind rfl rfl (Nat.le_of_ble_eq_true rfl) (by decide) dL_kind_4 (by omega) (by omega) (fun E w1 hq => ?_) (fun v w1 hq => ?_)
  · obtain ⟨hr, hX1, hF1⟩ := hq
    obtain ⟨kx, hcd, hE⟩ := xr_inr hr
    have hle : cdP p P.1 ≤ 1 := cdP_le
    have hA1 := hA.fx hF1
    have hM1 := hM.fx hF1
    have hO1 := hO.fx hF1
    rcases kx with _ | kx
    · have hE : E = "java/lang/IndexOutOfBoundsException" := hE
      subst hE
      refine XT.catch (name := "java/lang/IndexOutOfBoundsException") [] (0, 9, 12, 21) [] rfl (fun z hz => nomatch hz) ⟨by decide, by decide⟩ (by decide) cL_21 cast_IndexOutOfBoundsException (fun q => ?_)
      refine X_astore_n (i := 3) (lo' := [(3, _), (0, _), (1, _), (2, _)]) dL_kind_12 rfl (by decide) rfl ?_
      refine X_iconst (v := 1) dL_kind_13 (by decide) ?_
      refine X_ireturn dL_kind_14 rfl rfl ?_
      exact ⟨by rw [hcd]; rfl, hA1, hX1, hM1, ou, ov, hO1, fun h => absurd h (by rw [hcd]; decide)⟩
    · exact absurd hcd (by omega)
  obtain ⟨hr, hX1, hF1⟩ := hq
  obtain ⟨hcd, hv⟩ := xr_inl hr
  cases hv
  have hA1 := hA.fx hF1
  have hM1 := hM.fx hF1
  have hO1 := hO.fx hF1
  refine X_i2l dL_kind_7 rfl ?_
  refine X_last (i := 63) hO1.1 hA1.2.2.2.1 (show (0 : Int32) = nI 0 from rfl) (by decide) (by decide) dL_kind_8 (fun hc_8 => ?_)
  refine X_goto (tgt := 15) dL_kind_9 (by decide) ?_
  refine X_iconst (v := 0) dL_kind_15 (by decide) ?_
  refine X_ireturn dL_kind_16 rfl rfl ?_
  exact ⟨by rw [hcd]; rfl, hA1, hX1.s63, hM1.s63, _, _, ⟨⟨hO1.1.1, rfl⟩, hO1.2⟩, fun _ => rfl⟩
set_option maxRecDepth 20000 in
theorem k_addLine {P : PSt} {L : LSt} {pr : Nat → Nat} {O : OSt} {mp : Nat} {mk : Nat → UInt32} {T : List Nat} {a0 a39 a63 a64 : Nat} {dc tc t : Nat} {ou : Nat → Int64} {ov : Nat → UInt64} (hA : AD w a0 a39 a63 a64) (hIX : IX G.2.2.1 w P L pr O mp mk T dc tc) (hM : IM G.2.2.1 w P L pr O mp mk T t) (hO : OUTS G.2.2.1 w ou ov) (hIP : IP P L pr O mp mk T) (p : Int32) (k : Int32) (c : Int32) (q : Int32) (a : Int32) (b : Int32) : XC G mL_addLine 8 (8) (48) [.ref a0, .int p, .int k, .int c, .int q, .int a, .int b, .ref a63] w (fun r w' => r = .inl (some (.int (nI (cdAL P.1 L p k c q a b)))) ∧ AD w' a0 a39 a63 a64 ∧ IX G.2.2.1 w' P (if (cdAL P.1 L p k c q a b) = 0 then newL L (idx p) (idx k) (idx c) (idx q) 0 (idx a) (idx b) 0 0 else L) pr O mp mk T dc tc ∧ IM G.2.2.1 w' P L pr O mp mk T t ∧ ∃ o' od', OUTS G.2.2.1 w' o' od' ∧ (cdAL P.1 L p k c q a b = 0 → o' 0 = (nI (ln L) : Int32).toInt64)) := by
  refine XC.of (lo0 := [(0, .ref a0), (1, .int p), (2, .int k), (3, .int c), (4, .int q), (5, .int a), (6, .int b), (7, .ref a63)]) kmL_addLine (Nat.le_of_ble_eq_true rfl) rfl ?_
  refine X_aload dL_addLine_0 (i := 7) rfl ?_
  refine X_iconst (v := 0) dL_addLine_2 (by decide) ?_
  refine X_aload_n dL_addLine_3 (i := 0) rfl rfl ?_
  refine X_iload_n dL_addLine_4 (i := 1) rfl rfl ?_
  refine X_iload_n dL_addLine_5 (i := 2) rfl rfl ?_
  refine X_iload_n dL_addLine_6 (i := 3) rfl rfl ?_
  refine X_iload dL_addLine_7 (i := 4) rfl ?_
  refine X_iload dL_addLine_9 (i := 5) rfl ?_
  refine X_iload dL_addLine_11 (i := 6) rfl ?_
  refine X_callV (gc2 := 0) (gs2 := 0) (cx_addLine hA hIX hIP p k c q a b) (i := 0) hIX.1 hA.2.1 rfl kmX10_addLine rfl lL_34 iX10_addLine vX10_addLine rfl rfl (Nat.le_of_ble_eq_true rfl) (by decide) dL_addLine_13 (by omega) (by omega) (fun E w1 hq => ?_) (fun v w1 hq => ?_)
  · obtain ⟨hr, hX1, hF1⟩ := hq
    obtain ⟨kx, hcd, hE⟩ := xr_inr hr
    have hle : cdAL P.1 L p k c q a b ≤ 4 := cdAL_le
    have hA1 := hA.fx hF1
    have hM1 := hM.fx hF1
    have hO1 := hO.fx hF1
    rcases kx with _ | _ | _ | _ | kx
    · have hE : E = "java/lang/IndexOutOfBoundsException" := hE
      subst hE
      refine XT.catch (name := "java/lang/IndexOutOfBoundsException") [] (0, 18, 21, 21) [(0, 18, 25, 13), (0, 18, 29, 38), (0, 18, 33, 15)] rfl (fun z hz => nomatch hz) ⟨by decide, by decide⟩ (by decide) cL_21 cast_IndexOutOfBoundsException (fun q => ?_)
      refine X_astore (i := 8) (lo' := [(8, _), (0, _), (1, _), (2, _), (3, _), (4, _), (5, _), (6, _), (7, _)]) dL_addLine_21 (by decide) rfl ?_
      refine X_iconst (v := 1) dL_addLine_23 (by decide) ?_
      refine X_ireturn dL_addLine_24 rfl rfl ?_
      exact ⟨by rw [hcd]; rfl, hA1, hX1, hM1, ou, ov, hO1, fun h => absurd h (by rw [hcd]; decide)⟩
    · have hE : E = "java/lang/IllegalArgumentException" := hE
      subst hE
      refine XT.catch (name := "java/lang/IllegalArgumentException") [(0, 18, 21, 21)] (0, 18, 25, 13) [(0, 18, 29, 38), (0, 18, 33, 15)] rfl (List.forall_mem_cons.mpr ⟨⟨by decide, _, cL_21, List.mem_of_getElem? (i := 1) rfl⟩, (fun z hz => nomatch hz)⟩) ⟨by decide, by decide⟩ (by decide) cL_13 cast_IllegalArgumentException (fun q => ?_)
      refine X_astore (i := 8) (lo' := [(8, _), (0, _), (1, _), (2, _), (3, _), (4, _), (5, _), (6, _), (7, _)]) dL_addLine_25 (by decide) rfl ?_
      refine X_iconst (v := 2) dL_addLine_27 (by decide) ?_
      refine X_ireturn dL_addLine_28 rfl rfl ?_
      exact ⟨by rw [hcd]; rfl, hA1, hX1, hM1, ou, ov, hO1, fun h => absurd h (by rw [hcd]; decide)⟩
    · have hE : E = "java/lang/UnsupportedOperationException" := hE
      subst hE
      refine XT.catch (name := "java/lang/UnsupportedOperationException") [(0, 18, 21, 21), (0, 18, 25, 13)] (0, 18, 29, 38) [(0, 18, 33, 15)] rfl (List.forall_mem_cons.mpr ⟨⟨by decide, _, cL_21, List.mem_of_getElem? (i := 14) rfl⟩, (List.forall_mem_cons.mpr ⟨⟨by decide, _, cL_13, List.mem_of_getElem? (i := 12) rfl⟩, (fun z hz => nomatch hz)⟩)⟩) ⟨by decide, by decide⟩ (by decide) cL_38 cast_UnsupportedOperationException (fun q => ?_)
      refine X_astore (i := 8) (lo' := [(8, _), (0, _), (1, _), (2, _), (3, _), (4, _), (5, _), (6, _), (7, _)]) dL_addLine_29 (by decide) rfl ?_
      refine X_iconst (v := 3) dL_addLine_31 (by decide) ?_
      refine X_ireturn dL_addLine_32 rfl rfl ?_
      exact ⟨by rw [hcd]; rfl, hA1, hX1, hM1, ou, ov, hO1, fun h => absurd h (by rw [hcd]; decide)⟩
    · have hE : E = "java/lang/IllegalStateException" := hE
      subst hE
      refine XT.catch (name := "java/lang/IllegalStateException") [(0, 18, 21, 21), (0, 18, 25, 13), (0, 18, 29, 38)] (0, 18, 33, 15) [] rfl (List.forall_mem_cons.mpr ⟨⟨by decide, _, cL_21, List.mem_of_getElem? (i := 5) rfl⟩, (List.forall_mem_cons.mpr ⟨⟨by decide, _, cL_13, List.mem_of_getElem? (i := 4) rfl⟩, (List.forall_mem_cons.mpr ⟨⟨by decide, _, cL_38, List.mem_of_getElem? (i := 6) rfl⟩, (fun z hz => nomatch hz)⟩)⟩)⟩) ⟨by decide, by decide⟩ (by decide) cL_15 cast_IllegalStateException (fun q => ?_)
      refine X_astore (i := 8) (lo' := [(8, _), (0, _), (1, _), (2, _), (3, _), (4, _), (5, _), (6, _), (7, _)]) dL_addLine_33 (by decide) rfl ?_
      refine X_iconst (v := 4) dL_addLine_35 (by decide) ?_
      refine X_ireturn dL_addLine_36 rfl rfl ?_
      exact ⟨by rw [hcd]; rfl, hA1, hX1, hM1, ou, ov, hO1, fun h => absurd h (by rw [hcd]; decide)⟩
    · exact absurd hcd (by omega)
  obtain ⟨hr, hX1, hF1⟩ := hq
  obtain ⟨hcd, hv⟩ := xr_inl hr
  cases hv
  have hA1 := hA.fx hF1
  have hM1 := hM.fx hF1
  have hO1 := hO.fx hF1
  refine X_i2l dL_addLine_16 rfl ?_
  refine X_last (i := 63) hO1.1 hA1.2.2.2.1 (show (0 : Int32) = nI 0 from rfl) (by decide) (by decide) dL_addLine_17 (fun hc_17 => ?_)
  refine X_goto (tgt := 37) dL_addLine_18 (by decide) ?_
  refine X_iconst (v := 0) dL_addLine_37 (by decide) ?_
  refine X_ireturn dL_addLine_38 rfl rfl ?_
  exact ⟨by rw [hcd]; rfl, hA1, hX1.s63, hM1.s63, _, _, ⟨⟨hO1.1.1, rfl⟩, hO1.2⟩, fun _ => rfl⟩
set_option maxRecDepth 20000 in
theorem k_addVariant {P : PSt} {L : LSt} {pr : Nat → Nat} {O : OSt} {mp : Nat} {mk : Nat → UInt32} {T : List Nat} {a0 a39 a63 a64 : Nat} {dc tc t : Nat} {ou : Nat → Int64} {ov : Nat → UInt64} (hA : AD w a0 a39 a63 a64) (hIX : IX G.2.2.1 w P L pr O mp mk T dc tc) (hM : IM G.2.2.1 w P L pr O mp mk T t) (hO : OUTS G.2.2.1 w ou ov) (hIP : IP P L pr O mp mk T) (p : Int32) (k : Int32) (c : Int32) (q : Int32) (o : Int32) (s : Int32) : XC G mL_addVariant 8 (8) (48) [.ref a0, .int p, .int k, .int c, .int q, .int o, .int s, .ref a63] w (fun r w' => r = .inl (some (.int (nI (cdAV P.1 L p k c q o s)))) ∧ AD w' a0 a39 a63 a64 ∧ IX G.2.2.1 w' P (if (cdAV P.1 L p k c q o s) = 0 then newL L (idx p) (idx k) (idx c) (idx q) 0 1 999 (idx o + 1) (idx s) else L) pr O mp mk T dc tc ∧ IM G.2.2.1 w' P L pr O mp mk T t ∧ ∃ o' od', OUTS G.2.2.1 w' o' od' ∧ (cdAV P.1 L p k c q o s = 0 → o' 0 = (nI (ln L) : Int32).toInt64)) := by
  refine XC.of (lo0 := [(0, .ref a0), (1, .int p), (2, .int k), (3, .int c), (4, .int q), (5, .int o), (6, .int s), (7, .ref a63)]) kmL_addVariant (Nat.le_of_ble_eq_true rfl) rfl ?_
  refine X_aload dL_addVariant_0 (i := 7) rfl ?_
  refine X_iconst (v := 0) dL_addVariant_2 (by decide) ?_
  refine X_aload_n dL_addVariant_3 (i := 0) rfl rfl ?_
  refine X_iload_n dL_addVariant_4 (i := 1) rfl rfl ?_
  refine X_iload_n dL_addVariant_5 (i := 2) rfl rfl ?_
  refine X_iload_n dL_addVariant_6 (i := 3) rfl rfl ?_
  refine X_iload dL_addVariant_7 (i := 4) rfl ?_
  refine X_iload dL_addVariant_9 (i := 5) rfl ?_
  refine X_iload dL_addVariant_11 (i := 6) rfl ?_
  refine X_callV (gc2 := 0) (gs2 := 0) (cx_addVariant hA hIX hIP p k c q o s) (i := 0) hIX.1 hA.2.1 rfl kmX10_addVariant rfl lL_40 iX10_addVariant vX10_addVariant rfl rfl (Nat.le_of_ble_eq_true rfl) (by decide) dL_addVariant_13 (by omega) (by omega) (fun E w1 hq => ?_) (fun v w1 hq => ?_)
  · obtain ⟨hr, hX1, hF1⟩ := hq
    obtain ⟨kx, hcd, hE⟩ := xr_inr hr
    have hle : cdAV P.1 L p k c q o s ≤ 4 := cdAV_le
    have hA1 := hA.fx hF1
    have hM1 := hM.fx hF1
    have hO1 := hO.fx hF1
    rcases kx with _ | _ | _ | _ | kx
    · have hE : E = "java/lang/IndexOutOfBoundsException" := hE
      subst hE
      refine XT.catch (name := "java/lang/IndexOutOfBoundsException") [] (0, 18, 21, 21) [(0, 18, 25, 13), (0, 18, 29, 38), (0, 18, 33, 15)] rfl (fun z hz => nomatch hz) ⟨by decide, by decide⟩ (by decide) cL_21 cast_IndexOutOfBoundsException (fun q => ?_)
      refine X_astore (i := 8) (lo' := [(8, _), (0, _), (1, _), (2, _), (3, _), (4, _), (5, _), (6, _), (7, _)]) dL_addVariant_21 (by decide) rfl ?_
      refine X_iconst (v := 1) dL_addVariant_23 (by decide) ?_
      refine X_ireturn dL_addVariant_24 rfl rfl ?_
      exact ⟨by rw [hcd]; rfl, hA1, hX1, hM1, ou, ov, hO1, fun h => absurd h (by rw [hcd]; decide)⟩
    · have hE : E = "java/lang/IllegalArgumentException" := hE
      subst hE
      refine XT.catch (name := "java/lang/IllegalArgumentException") [(0, 18, 21, 21)] (0, 18, 25, 13) [(0, 18, 29, 38), (0, 18, 33, 15)] rfl (List.forall_mem_cons.mpr ⟨⟨by decide, _, cL_21, List.mem_of_getElem? (i := 1) rfl⟩, (fun z hz => nomatch hz)⟩) ⟨by decide, by decide⟩ (by decide) cL_13 cast_IllegalArgumentException (fun q => ?_)
      refine X_astore (i := 8) (lo' := [(8, _), (0, _), (1, _), (2, _), (3, _), (4, _), (5, _), (6, _), (7, _)]) dL_addVariant_25 (by decide) rfl ?_
      refine X_iconst (v := 2) dL_addVariant_27 (by decide) ?_
      refine X_ireturn dL_addVariant_28 rfl rfl ?_
      exact ⟨by rw [hcd]; rfl, hA1, hX1, hM1, ou, ov, hO1, fun h => absurd h (by rw [hcd]; decide)⟩
    · have hE : E = "java/lang/UnsupportedOperationException" := hE
      subst hE
      refine XT.catch (name := "java/lang/UnsupportedOperationException") [(0, 18, 21, 21), (0, 18, 25, 13)] (0, 18, 29, 38) [(0, 18, 33, 15)] rfl (List.forall_mem_cons.mpr ⟨⟨by decide, _, cL_21, List.mem_of_getElem? (i := 14) rfl⟩, (List.forall_mem_cons.mpr ⟨⟨by decide, _, cL_13, List.mem_of_getElem? (i := 12) rfl⟩, (fun z hz => nomatch hz)⟩)⟩) ⟨by decide, by decide⟩ (by decide) cL_38 cast_UnsupportedOperationException (fun q => ?_)
      refine X_astore (i := 8) (lo' := [(8, _), (0, _), (1, _), (2, _), (3, _), (4, _), (5, _), (6, _), (7, _)]) dL_addVariant_29 (by decide) rfl ?_
      refine X_iconst (v := 3) dL_addVariant_31 (by decide) ?_
      refine X_ireturn dL_addVariant_32 rfl rfl ?_
      exact ⟨by rw [hcd]; rfl, hA1, hX1, hM1, ou, ov, hO1, fun h => absurd h (by rw [hcd]; decide)⟩
    · have hE : E = "java/lang/IllegalStateException" := hE
      subst hE
      refine XT.catch (name := "java/lang/IllegalStateException") [(0, 18, 21, 21), (0, 18, 25, 13), (0, 18, 29, 38)] (0, 18, 33, 15) [] rfl (List.forall_mem_cons.mpr ⟨⟨by decide, _, cL_21, List.mem_of_getElem? (i := 5) rfl⟩, (List.forall_mem_cons.mpr ⟨⟨by decide, _, cL_13, List.mem_of_getElem? (i := 4) rfl⟩, (List.forall_mem_cons.mpr ⟨⟨by decide, _, cL_38, List.mem_of_getElem? (i := 6) rfl⟩, (fun z hz => nomatch hz)⟩)⟩)⟩) ⟨by decide, by decide⟩ (by decide) cL_15 cast_IllegalStateException (fun q => ?_)
      refine X_astore (i := 8) (lo' := [(8, _), (0, _), (1, _), (2, _), (3, _), (4, _), (5, _), (6, _), (7, _)]) dL_addVariant_33 (by decide) rfl ?_
      refine X_iconst (v := 4) dL_addVariant_35 (by decide) ?_
      refine X_ireturn dL_addVariant_36 rfl rfl ?_
      exact ⟨by rw [hcd]; rfl, hA1, hX1, hM1, ou, ov, hO1, fun h => absurd h (by rw [hcd]; decide)⟩
    · exact absurd hcd (by omega)
  obtain ⟨hr, hX1, hF1⟩ := hq
  obtain ⟨hcd, hv⟩ := xr_inl hr
  cases hv
  have hA1 := hA.fx hF1
  have hM1 := hM.fx hF1
  have hO1 := hO.fx hF1
  refine X_i2l dL_addVariant_16 rfl ?_
  refine X_last (i := 63) hO1.1 hA1.2.2.2.1 (show (0 : Int32) = nI 0 from rfl) (by decide) (by decide) dL_addVariant_17 (fun hc_17 => ?_)
  refine X_goto (tgt := 37) dL_addVariant_18 (by decide) ?_
  refine X_iconst (v := 0) dL_addVariant_37 (by decide) ?_
  refine X_ireturn dL_addVariant_38 rfl rfl ?_
  exact ⟨by rw [hcd]; rfl, hA1, hX1.s63, hM1.s63, _, _, ⟨⟨hO1.1.1, rfl⟩, hO1.2⟩, fun _ => rfl⟩
set_option maxRecDepth 20000 in
theorem k_replaceFrom {P : PSt} {L : LSt} {pr : Nat → Nat} {O : OSt} {mp : Nat} {mk : Nat → UInt32} {T : List Nat} {a0 a39 a63 a64 : Nat} {dc tc t : Nat} {ou : Nat → Int64} {ov : Nat → UInt64} (hA : AD w a0 a39 a63 a64) (hIX : IX G.2.2.1 w P L pr O mp mk T dc tc) (hM : IM G.2.2.1 w P L pr O mp mk T t) (hO : OUTS G.2.2.1 w ou ov) (hIP : IP P L pr O mp mk T) (l : Int32) (s : Int32) (c : Int32) (q : Int32) : XC G mL_replaceFrom 8 (8) (48) [.ref a0, .int l, .int s, .int c, .int q, .ref a63] w (fun r w' => r = .inl (some (.int (nI (cdRF P.1 L l s c q)))) ∧ AD w' a0 a39 a63 a64 ∧ IX G.2.2.1 w' P (if (cdRF P.1 L l s c q) = 0 then repL L (idx l) (idx s) (idx c) (idx q) else L) pr O mp mk T dc tc ∧ IM G.2.2.1 w' P L pr O mp mk T t ∧ ∃ o' od', OUTS G.2.2.1 w' o' od' ∧ (cdRF P.1 L l s c q = 0 → o' 0 = (nI (ln L) : Int32).toInt64)) := by
  refine XC.of (lo0 := [(0, .ref a0), (1, .int l), (2, .int s), (3, .int c), (4, .int q), (5, .ref a63)]) kmL_replaceFrom (Nat.le_of_ble_eq_true rfl) rfl ?_
  refine X_aload dL_replaceFrom_0 (i := 5) rfl ?_
  refine X_iconst (v := 0) dL_replaceFrom_2 (by decide) ?_
  refine X_aload_n dL_replaceFrom_3 (i := 0) rfl rfl ?_
  refine X_iload_n dL_replaceFrom_4 (i := 1) rfl rfl ?_
  refine X_iload_n dL_replaceFrom_5 (i := 2) rfl rfl ?_
  refine X_iload_n dL_replaceFrom_6 (i := 3) rfl rfl ?_
  refine X_iload dL_replaceFrom_7 (i := 4) rfl ?_
  refine X_callV (gc2 := 0) (gs2 := 0) (cx_replaceFrom hA hIX hIP l s c q) (i := 0) hIX.1 hA.2.1 rfl kmX10_replaceFrom rfl lL_43 iX10_replaceFrom vX10_replaceFrom rfl rfl (Nat.le_of_ble_eq_true rfl) (by decide) dL_replaceFrom_9 (by omega) (by omega) (fun E w1 hq => ?_) (fun v w1 hq => ?_)
  · obtain ⟨hr, hX1, hF1⟩ := hq
    obtain ⟨kx, hcd, hE⟩ := xr_inr hr
    have hle : cdRF P.1 L l s c q ≤ 4 := cdRF_le
    have hA1 := hA.fx hF1
    have hM1 := hM.fx hF1
    have hO1 := hO.fx hF1
    rcases kx with _ | _ | _ | _ | kx
    · have hE : E = "java/lang/IndexOutOfBoundsException" := hE
      subst hE
      refine XT.catch (name := "java/lang/IndexOutOfBoundsException") [] (0, 14, 17, 21) [(0, 14, 21, 13), (0, 14, 25, 38), (0, 14, 29, 15)] rfl (fun z hz => nomatch hz) ⟨by decide, by decide⟩ (by decide) cL_21 cast_IndexOutOfBoundsException (fun q => ?_)
      refine X_astore (i := 6) (lo' := [(6, _), (0, _), (1, _), (2, _), (3, _), (4, _), (5, _)]) dL_replaceFrom_17 (by decide) rfl ?_
      refine X_iconst (v := 1) dL_replaceFrom_19 (by decide) ?_
      refine X_ireturn dL_replaceFrom_20 rfl rfl ?_
      exact ⟨by rw [hcd]; rfl, hA1, hX1, hM1, ou, ov, hO1, fun h => absurd h (by rw [hcd]; decide)⟩
    · have hE : E = "java/lang/IllegalArgumentException" := hE
      subst hE
      refine XT.catch (name := "java/lang/IllegalArgumentException") [(0, 14, 17, 21)] (0, 14, 21, 13) [(0, 14, 25, 38), (0, 14, 29, 15)] rfl (List.forall_mem_cons.mpr ⟨⟨by decide, _, cL_21, List.mem_of_getElem? (i := 1) rfl⟩, (fun z hz => nomatch hz)⟩) ⟨by decide, by decide⟩ (by decide) cL_13 cast_IllegalArgumentException (fun q => ?_)
      refine X_astore (i := 6) (lo' := [(6, _), (0, _), (1, _), (2, _), (3, _), (4, _), (5, _)]) dL_replaceFrom_21 (by decide) rfl ?_
      refine X_iconst (v := 2) dL_replaceFrom_23 (by decide) ?_
      refine X_ireturn dL_replaceFrom_24 rfl rfl ?_
      exact ⟨by rw [hcd]; rfl, hA1, hX1, hM1, ou, ov, hO1, fun h => absurd h (by rw [hcd]; decide)⟩
    · have hE : E = "java/lang/UnsupportedOperationException" := hE
      subst hE
      refine XT.catch (name := "java/lang/UnsupportedOperationException") [(0, 14, 17, 21), (0, 14, 21, 13)] (0, 14, 25, 38) [(0, 14, 29, 15)] rfl (List.forall_mem_cons.mpr ⟨⟨by decide, _, cL_21, List.mem_of_getElem? (i := 14) rfl⟩, (List.forall_mem_cons.mpr ⟨⟨by decide, _, cL_13, List.mem_of_getElem? (i := 12) rfl⟩, (fun z hz => nomatch hz)⟩)⟩) ⟨by decide, by decide⟩ (by decide) cL_38 cast_UnsupportedOperationException (fun q => ?_)
      refine X_astore (i := 6) (lo' := [(6, _), (0, _), (1, _), (2, _), (3, _), (4, _), (5, _)]) dL_replaceFrom_25 (by decide) rfl ?_
      refine X_iconst (v := 3) dL_replaceFrom_27 (by decide) ?_
      refine X_ireturn dL_replaceFrom_28 rfl rfl ?_
      exact ⟨by rw [hcd]; rfl, hA1, hX1, hM1, ou, ov, hO1, fun h => absurd h (by rw [hcd]; decide)⟩
    · have hE : E = "java/lang/IllegalStateException" := hE
      subst hE
      refine XT.catch (name := "java/lang/IllegalStateException") [(0, 14, 17, 21), (0, 14, 21, 13), (0, 14, 25, 38)] (0, 14, 29, 15) [] rfl (List.forall_mem_cons.mpr ⟨⟨by decide, _, cL_21, List.mem_of_getElem? (i := 5) rfl⟩, (List.forall_mem_cons.mpr ⟨⟨by decide, _, cL_13, List.mem_of_getElem? (i := 4) rfl⟩, (List.forall_mem_cons.mpr ⟨⟨by decide, _, cL_38, List.mem_of_getElem? (i := 6) rfl⟩, (fun z hz => nomatch hz)⟩)⟩)⟩) ⟨by decide, by decide⟩ (by decide) cL_15 cast_IllegalStateException (fun q => ?_)
      refine X_astore (i := 6) (lo' := [(6, _), (0, _), (1, _), (2, _), (3, _), (4, _), (5, _)]) dL_replaceFrom_29 (by decide) rfl ?_
      refine X_iconst (v := 4) dL_replaceFrom_31 (by decide) ?_
      refine X_ireturn dL_replaceFrom_32 rfl rfl ?_
      exact ⟨by rw [hcd]; rfl, hA1, hX1, hM1, ou, ov, hO1, fun h => absurd h (by rw [hcd]; decide)⟩
    · exact absurd hcd (by omega)
  obtain ⟨hr, hX1, hF1⟩ := hq
  obtain ⟨hcd, hv⟩ := xr_inl hr
  cases hv
  have hA1 := hA.fx hF1
  have hM1 := hM.fx hF1
  have hO1 := hO.fx hF1
  refine X_i2l dL_replaceFrom_12 rfl ?_
  refine X_last (i := 63) hO1.1 hA1.2.2.2.1 (show (0 : Int32) = nI 0 from rfl) (by decide) (by decide) dL_replaceFrom_13 (fun hc_13 => ?_)
  refine X_goto (tgt := 33) dL_replaceFrom_14 (by decide) ?_
  refine X_iconst (v := 0) dL_replaceFrom_33 (by decide) ?_
  refine X_ireturn dL_replaceFrom_34 rfl rfl ?_
  exact ⟨by rw [hcd]; rfl, hA1, hX1.s63, hM1.s63, _, _, ⟨⟨hO1.1.1, rfl⟩, hO1.2⟩, fun _ => rfl⟩
set_option maxRecDepth 20000 in
theorem k_endBefore {P : PSt} {L : LSt} {pr : Nat → Nat} {O : OSt} {mp : Nat} {mk : Nat → UInt32} {T : List Nat} {a0 a39 a63 a64 : Nat} {dc tc t : Nat} {ou : Nat → Int64} {ov : Nat → UInt64} (hA : AD w a0 a39 a63 a64) (hIX : IX G.2.2.1 w P L pr O mp mk T dc tc) (hM : IM G.2.2.1 w P L pr O mp mk T t) (hO : OUTS G.2.2.1 w ou ov) (hIP : IP P L pr O mp mk T) (l : Int32) (s : Int32) : XC G mL_endBefore 8 (2) (12) [.ref a0, .int l, .int s, .ref a63] w (fun r w' => r = .inl (some (.int (nI (cdEB L l s)))) ∧ AD w' a0 a39 a63 a64 ∧ IX G.2.2.1 w' P (if (cdEB L l s) = 0 then cutL L (idx l) (idx s - 1) else L) pr O mp mk T dc tc ∧ IM G.2.2.1 w' P L pr O mp mk T t ∧ ∃ o' od', OUTS G.2.2.1 w' o' od' ∧ (cdEB L l s = 0 → o' 0 = (nI (la L (idx l)) : Int32).toInt64)) := by
  refine XC.of (lo0 := [(0, .ref a0), (1, .int l), (2, .int s), (3, .ref a63)]) kmL_endBefore (Nat.le_of_ble_eq_true rfl) rfl ?_
  refine X_aload_n dL_endBefore_0 (i := 3) rfl rfl ?_
  refine X_iconst (v := 0) dL_endBefore_1 (by decide) ?_
  refine X_aload_n dL_endBefore_2 (i := 0) rfl rfl ?_
  refine X_iload_n dL_endBefore_3 (i := 1) rfl rfl ?_
  refine X_iload_n dL_endBefore_4 (i := 2) rfl rfl ?_
  refine X_callV (gc2 := 0) (gs2 := 0) (cx_endBefore hA hIX hIP l s) (i := 0) hIX.1 hA.2.1 rfl kmX10_endBefore rfl lL_47 iX10_endBefore vX10_endBefore rfl rfl (Nat.le_of_ble_eq_true rfl) (by decide) dL_endBefore_5 (by omega) (by omega) (fun E w1 hq => ?_) (fun v w1 hq => ?_)
  · obtain ⟨hr, hX1, hF1⟩ := hq
    obtain ⟨kx, hcd, hE⟩ := xr_inr hr
    have hle : cdEB L l s ≤ 2 := cdEB_le
    have hA1 := hA.fx hF1
    have hM1 := hM.fx hF1
    have hO1 := hO.fx hF1
    rcases kx with _ | _ | kx
    · have hE : E = "java/lang/IndexOutOfBoundsException" := hE
      subst hE
      refine XT.catch (name := "java/lang/IndexOutOfBoundsException") [] (0, 10, 13, 21) [(0, 10, 17, 13)] rfl (fun z hz => nomatch hz) ⟨by decide, by decide⟩ (by decide) cL_21 cast_IndexOutOfBoundsException (fun q => ?_)
      refine X_astore (i := 4) (lo' := [(4, _), (0, _), (1, _), (2, _), (3, _)]) dL_endBefore_13 (by decide) rfl ?_
      refine X_iconst (v := 1) dL_endBefore_15 (by decide) ?_
      refine X_ireturn dL_endBefore_16 rfl rfl ?_
      exact ⟨by rw [hcd]; rfl, hA1, hX1, hM1, ou, ov, hO1, fun h => absurd h (by rw [hcd]; decide)⟩
    · have hE : E = "java/lang/IllegalArgumentException" := hE
      subst hE
      refine XT.catch (name := "java/lang/IllegalArgumentException") [(0, 10, 13, 21)] (0, 10, 17, 13) [] rfl (List.forall_mem_cons.mpr ⟨⟨by decide, _, cL_21, List.mem_of_getElem? (i := 1) rfl⟩, (fun z hz => nomatch hz)⟩) ⟨by decide, by decide⟩ (by decide) cL_13 cast_IllegalArgumentException (fun q => ?_)
      refine X_astore (i := 4) (lo' := [(4, _), (0, _), (1, _), (2, _), (3, _)]) dL_endBefore_17 (by decide) rfl ?_
      refine X_iconst (v := 2) dL_endBefore_19 (by decide) ?_
      refine X_ireturn dL_endBefore_20 rfl rfl ?_
      exact ⟨by rw [hcd]; rfl, hA1, hX1, hM1, ou, ov, hO1, fun h => absurd h (by rw [hcd]; decide)⟩
    · exact absurd hcd (by omega)
  obtain ⟨hr, hX1, hF1⟩ := hq
  obtain ⟨hcd, hv⟩ := xr_inl hr
  cases hv
  have hA1 := hA.fx hF1
  have hM1 := hM.fx hF1
  have hO1 := hO.fx hF1
  refine X_i2l dL_endBefore_8 rfl ?_
  refine X_last (i := 63) hO1.1 hA1.2.2.2.1 (show (0 : Int32) = nI 0 from rfl) (by decide) (by decide) dL_endBefore_9 (fun hc_9 => ?_)
  refine X_goto (tgt := 21) dL_endBefore_10 (by decide) ?_
  refine X_iconst (v := 0) dL_endBefore_21 (by decide) ?_
  refine X_ireturn dL_endBefore_22 rfl rfl ?_
  exact ⟨by rw [hcd]; rfl, hA1, hX1.s63, hM1.s63, _, _, ⟨⟨hO1.1.1, rfl⟩, hO1.2⟩, fun _ => rfl⟩
set_option maxRecDepth 20000 in
theorem k_setScrap {P : PSt} {L : LSt} {pr : Nat → Nat} {O : OSt} {mp : Nat} {mk : Nat → UInt32} {T : List Nat} {a0 a39 a63 a64 : Nat} {dc tc t : Nat} {ou : Nat → Int64} {ov : Nat → UInt64} (hA : AD w a0 a39 a63 a64) (hIX : IX G.2.2.1 w P L pr O mp mk T dc tc) (hM : IM G.2.2.1 w P L pr O mp mk T t) (hO : OUTS G.2.2.1 w ou ov) (hIP : IP P L pr O mp mk T) (l : Int32) (c : Int32) : XC G mL_setScrap 8 (2) (12) [.ref a0, .int l, .int c, .ref a63] w (fun r w' => r = .inl (some (.int (nI (cdSS L l c)))) ∧ AD w' a0 a39 a63 a64 ∧ IX G.2.2.1 w' P (if (cdSS L l c) = 0 then (ln L, pa L, po L, ch L, qt L, va_up (sc L) (idx l) (idx c), fi L, la L, op L, cs L) else L) pr O mp mk T dc tc ∧ IM G.2.2.1 w' P L pr O mp mk T t ∧ ∃ o' od', OUTS G.2.2.1 w' o' od' ∧ (cdSS L l c = 0 → o' 0 = (nI (sc L (idx l)) : Int32).toInt64)) := by
  refine XC.of (lo0 := [(0, .ref a0), (1, .int l), (2, .int c), (3, .ref a63)]) kmL_setScrap (Nat.le_of_ble_eq_true rfl) rfl ?_
  refine X_aload_n dL_setScrap_0 (i := 3) rfl rfl ?_
  refine X_iconst (v := 0) dL_setScrap_1 (by decide) ?_
  refine X_aload_n dL_setScrap_2 (i := 0) rfl rfl ?_
  refine X_iload_n dL_setScrap_3 (i := 1) rfl rfl ?_
  refine X_iload_n dL_setScrap_4 (i := 2) rfl rfl ?_
  refine X_callV (gc2 := 0) (gs2 := 0) (cx_setScrap hA hIX hIP l c) (i := 0) hIX.1 hA.2.1 rfl kmX10_setScrap rfl lL_50 iX10_setScrap vX10_setScrap rfl rfl (Nat.le_of_ble_eq_true rfl) (by decide) dL_setScrap_5 (by omega) (by omega) (fun E w1 hq => ?_) (fun v w1 hq => ?_)
  · obtain ⟨hr, hX1, hF1⟩ := hq
    obtain ⟨kx, hcd, hE⟩ := xr_inr hr
    have hle : cdSS L l c ≤ 2 := cdSS_le
    have hA1 := hA.fx hF1
    have hM1 := hM.fx hF1
    have hO1 := hO.fx hF1
    rcases kx with _ | _ | kx
    · have hE : E = "java/lang/IndexOutOfBoundsException" := hE
      subst hE
      refine XT.catch (name := "java/lang/IndexOutOfBoundsException") [] (0, 10, 13, 21) [(0, 10, 17, 13)] rfl (fun z hz => nomatch hz) ⟨by decide, by decide⟩ (by decide) cL_21 cast_IndexOutOfBoundsException (fun q => ?_)
      refine X_astore (i := 4) (lo' := [(4, _), (0, _), (1, _), (2, _), (3, _)]) dL_setScrap_13 (by decide) rfl ?_
      refine X_iconst (v := 1) dL_setScrap_15 (by decide) ?_
      refine X_ireturn dL_setScrap_16 rfl rfl ?_
      exact ⟨by rw [hcd]; rfl, hA1, hX1, hM1, ou, ov, hO1, fun h => absurd h (by rw [hcd]; decide)⟩
    · have hE : E = "java/lang/IllegalArgumentException" := hE
      subst hE
      refine XT.catch (name := "java/lang/IllegalArgumentException") [(0, 10, 13, 21)] (0, 10, 17, 13) [] rfl (List.forall_mem_cons.mpr ⟨⟨by decide, _, cL_21, List.mem_of_getElem? (i := 1) rfl⟩, (fun z hz => nomatch hz)⟩) ⟨by decide, by decide⟩ (by decide) cL_13 cast_IllegalArgumentException (fun q => ?_)
      refine X_astore (i := 4) (lo' := [(4, _), (0, _), (1, _), (2, _), (3, _)]) dL_setScrap_17 (by decide) rfl ?_
      refine X_iconst (v := 2) dL_setScrap_19 (by decide) ?_
      refine X_ireturn dL_setScrap_20 rfl rfl ?_
      exact ⟨by rw [hcd]; rfl, hA1, hX1, hM1, ou, ov, hO1, fun h => absurd h (by rw [hcd]; decide)⟩
    · exact absurd hcd (by omega)
  obtain ⟨hr, hX1, hF1⟩ := hq
  obtain ⟨hcd, hv⟩ := xr_inl hr
  cases hv
  have hA1 := hA.fx hF1
  have hM1 := hM.fx hF1
  have hO1 := hO.fx hF1
  refine X_i2l dL_setScrap_8 rfl ?_
  refine X_last (i := 63) hO1.1 hA1.2.2.2.1 (show (0 : Int32) = nI 0 from rfl) (by decide) (by decide) dL_setScrap_9 (fun hc_9 => ?_)
  refine X_goto (tgt := 21) dL_setScrap_10 (by decide) ?_
  refine X_iconst (v := 0) dL_setScrap_21 (by decide) ?_
  refine X_ireturn dL_setScrap_22 rfl rfl ?_
  exact ⟨by rw [hcd]; rfl, hA1, hX1.s63, hM1.s63, _, _, ⟨⟨hO1.1.1, rfl⟩, hO1.2⟩, fun _ => rfl⟩
set_option maxRecDepth 20000 in
theorem k_lastSerial {P : PSt} {L : LSt} {pr : Nat → Nat} {O : OSt} {mp : Nat} {mk : Nat → UInt32} {T : List Nat} {a0 a39 a63 a64 : Nat} {dc tc t : Nat} {ou : Nat → Int64} {ov : Nat → UInt64} (hA : AD w a0 a39 a63 a64) (hIX : IX G.2.2.1 w P L pr O mp mk T dc tc) (hM : IM G.2.2.1 w P L pr O mp mk T t) (hO : OUTS G.2.2.1 w ou ov) (hIP : IP P L pr O mp mk T) (l : Int32) : XC G mL_lastSerial 8 (1) (6) [.ref a0, .int l, .ref a63] w (fun r w' => r = .inl (some (.int (nI (cdP l (ln L))))) ∧ AD w' a0 a39 a63 a64 ∧ IX G.2.2.1 w' P L pr O mp mk T dc tc ∧ IM G.2.2.1 w' P L pr O mp mk T t ∧ ∃ o' od', OUTS G.2.2.1 w' o' od' ∧ (cdP l (ln L) = 0 → o' 0 = (nI (la L (idx l)) : Int32).toInt64)) := by
  refine XC.of (lo0 := [(0, .ref a0), (1, .int l), (2, .ref a63)]) kmL_lastSerial (Nat.le_of_ble_eq_true rfl) rfl ?_
  refine X_aload_n dL_lastSerial_0 (i := 2) rfl rfl ?_
  refine X_iconst (v := 0) dL_lastSerial_1 (by decide) ?_
  refine X_aload_n dL_lastSerial_2 (i := 0) rfl rfl ?_
  refine X_iload_n dL_lastSerial_3 (i := 1) rfl rfl ?_
  refine X_callV (gc2 := 0) (gs2 := 0) (cx_lastSerial hA hIX hIP l) (i := 0) hIX.1 hA.2.1 rfl kmX10_lastSerial rfl lL_53 iX10_lastSerial vX10_lastSerial rfl rfl (Nat.le_of_ble_eq_true rfl) (by decide) dL_lastSerial_4 (by omega) (by omega) (fun E w1 hq => ?_) (fun v w1 hq => ?_)
  · obtain ⟨hr, hX1, hF1⟩ := hq
    obtain ⟨kx, hcd, hE⟩ := xr_inr hr
    have hle : cdP l (ln L) ≤ 1 := cdP_le
    have hA1 := hA.fx hF1
    have hM1 := hM.fx hF1
    have hO1 := hO.fx hF1
    rcases kx with _ | kx
    · have hE : E = "java/lang/IndexOutOfBoundsException" := hE
      subst hE
      refine XT.catch (name := "java/lang/IndexOutOfBoundsException") [] (0, 9, 12, 21) [] rfl (fun z hz => nomatch hz) ⟨by decide, by decide⟩ (by decide) cL_21 cast_IndexOutOfBoundsException (fun q => ?_)
      refine X_astore_n (i := 3) (lo' := [(3, _), (0, _), (1, _), (2, _)]) dL_lastSerial_12 rfl (by decide) rfl ?_
      refine X_iconst (v := 1) dL_lastSerial_13 (by decide) ?_
      refine X_ireturn dL_lastSerial_14 rfl rfl ?_
      exact ⟨by rw [hcd]; rfl, hA1, hX1, hM1, ou, ov, hO1, fun h => absurd h (by rw [hcd]; decide)⟩
    · exact absurd hcd (by omega)
  obtain ⟨hr, hX1, hF1⟩ := hq
  obtain ⟨hcd, hv⟩ := xr_inl hr
  cases hv
  have hA1 := hA.fx hF1
  have hM1 := hM.fx hF1
  have hO1 := hO.fx hF1
  refine X_i2l dL_lastSerial_7 rfl ?_
  refine X_last (i := 63) hO1.1 hA1.2.2.2.1 (show (0 : Int32) = nI 0 from rfl) (by decide) (by decide) dL_lastSerial_8 (fun hc_8 => ?_)
  refine X_goto (tgt := 15) dL_lastSerial_9 (by decide) ?_
  refine X_iconst (v := 0) dL_lastSerial_15 (by decide) ?_
  refine X_ireturn dL_lastSerial_16 rfl rfl ?_
  exact ⟨by rw [hcd]; rfl, hA1, hX1.s63, hM1.s63, _, _, ⟨⟨hO1.1.1, rfl⟩, hO1.2⟩, fun _ => rfl⟩
set_option maxRecDepth 20000 in
theorem k_holds {P : PSt} {L : LSt} {pr : Nat → Nat} {O : OSt} {mp : Nat} {mk : Nat → UInt32} {T : List Nat} {a0 a39 a63 a64 : Nat} {dc tc t : Nat} {ou : Nat → Int64} {ov : Nat → UInt64} (hA : AD w a0 a39 a63 a64) (hIX : IX G.2.2.1 w P L pr O mp mk T dc tc) (hM : IM G.2.2.1 w P L pr O mp mk T t) (hO : OUTS G.2.2.1 w ou ov) (hIP : IP P L pr O mp mk T) (l : Int32) (s : Int32) : XC G mL_holds 8 (2) (12) [.ref a0, .int l, .int s, .ref a63] w (fun r w' => r = .inl (some (.int (nI (cdA l s (ln L))))) ∧ AD w' a0 a39 a63 a64 ∧ IX G.2.2.1 w' P L pr O mp mk T dc tc ∧ IM G.2.2.1 w' P L pr O mp mk T t ∧ ∃ o' od', OUTS G.2.2.1 w' o' od' ∧ (cdA l s (ln L) = 0 → o' 0 = bL ((hld L pr (idx s) (idx l))))) := by
  refine XC.of (lo0 := [(0, .ref a0), (1, .int l), (2, .int s), (3, .ref a63)]) kmL_holds (Nat.le_of_ble_eq_true rfl) rfl ?_
  refine X_aload_n dL_holds_0 (i := 3) rfl rfl ?_
  refine X_iconst (v := 0) dL_holds_1 (by decide) ?_
  refine X_aload_n dL_holds_2 (i := 0) rfl rfl ?_
  refine X_iload_n dL_holds_3 (i := 1) rfl rfl ?_
  refine X_iload_n dL_holds_4 (i := 2) rfl rfl ?_
  refine X_callV (gc2 := 0) (gs2 := 0) (cx_holds hA hIX hIP l s) (i := 0) hIX.1 hA.2.1 rfl kmX10_holds rfl lL_57 iX10_holds vX10_holds rfl rfl (Nat.le_of_ble_eq_true rfl) (by decide) dL_holds_5 (by omega) (by omega) (fun E w1 hq => ?_) (fun v w1 hq => ?_)
  · obtain ⟨hr, hX1, hF1⟩ := hq
    obtain ⟨kx, hcd, hE⟩ := xr_inr hr
    have hle : cdA l s (ln L) ≤ 2 := cdA_le
    have hA1 := hA.fx hF1
    have hM1 := hM.fx hF1
    have hO1 := hO.fx hF1
    rcases kx with _ | _ | kx
    · have hE : E = "java/lang/IndexOutOfBoundsException" := hE
      subst hE
      refine XT.catch (name := "java/lang/IndexOutOfBoundsException") [] (0, 17, 20, 21) [(0, 17, 24, 13)] rfl (fun z hz => nomatch hz) ⟨by decide, by decide⟩ (by decide) cL_21 cast_IndexOutOfBoundsException (fun q => ?_)
      refine X_astore (i := 4) (lo' := [(4, _), (0, _), (1, _), (2, _), (3, _)]) dL_holds_20 (by decide) rfl ?_
      refine X_iconst (v := 1) dL_holds_22 (by decide) ?_
      refine X_ireturn dL_holds_23 rfl rfl ?_
      exact ⟨by rw [hcd]; rfl, hA1, hX1, hM1, ou, ov, hO1, fun h => absurd h (by rw [hcd]; decide)⟩
    · have hE : E = "java/lang/IllegalArgumentException" := hE
      subst hE
      refine XT.catch (name := "java/lang/IllegalArgumentException") [(0, 17, 20, 21)] (0, 17, 24, 13) [] rfl (List.forall_mem_cons.mpr ⟨⟨by decide, _, cL_21, List.mem_of_getElem? (i := 1) rfl⟩, (fun z hz => nomatch hz)⟩) ⟨by decide, by decide⟩ (by decide) cL_13 cast_IllegalArgumentException (fun q => ?_)
      refine X_astore (i := 4) (lo' := [(4, _), (0, _), (1, _), (2, _), (3, _)]) dL_holds_24 (by decide) rfl ?_
      refine X_iconst (v := 2) dL_holds_26 (by decide) ?_
      refine X_ireturn dL_holds_27 rfl rfl ?_
      exact ⟨by rw [hcd]; rfl, hA1, hX1, hM1, ou, ov, hO1, fun h => absurd h (by rw [hcd]; decide)⟩
    · exact absurd hcd (by omega)
  obtain ⟨hr, hX1, hF1⟩ := hq
  obtain ⟨hcd, hv⟩ := xr_inl hr
  cases hv
  have hA1 := hA.fx hF1
  have hM1 := hM.fx hF1
  have hO1 := hO.fx hF1
  refine X_if_eq (tgt := 15) dL_holds_8 (by decide) (fun hb1 => ?_) (fun hb1 => ?_)
  · have hbb := bI_eq hb1
    refine X_lconst (v := 0) dL_holds_15 rfl ?_
    refine X_last (i := 63) hO1.1 hA1.2.2.2.1 (show (0 : Int32) = nI 0 from rfl) (by decide) (by decide) dL_holds_16 (fun hc_16 => ?_)
    refine X_goto (tgt := 28) dL_holds_17 (by decide) ?_
    refine X_iconst (v := 0) dL_holds_28 (by decide) ?_
    refine X_ireturn dL_holds_29 rfl rfl ?_
    exact ⟨by rw [hcd]; rfl, hA1, hX1.s63, hM1.s63, _, _, ⟨⟨hO1.1.1, rfl⟩, hO1.2⟩, fun _ => by rw [hbb]; rfl⟩
  · have hbb := bI_ne hb1
    refine X_lconst (v := 1) dL_holds_11 rfl ?_
    refine X_goto (tgt := 16) dL_holds_12 (by decide) ?_
    refine X_last (i := 63) hO1.1 hA1.2.2.2.1 (show (0 : Int32) = nI 0 from rfl) (by decide) (by decide) dL_holds_16 (fun hc_16 => ?_)
    refine X_goto (tgt := 28) dL_holds_17 (by decide) ?_
    refine X_iconst (v := 0) dL_holds_28 (by decide) ?_
    refine X_ireturn dL_holds_29 rfl rfl ?_
    exact ⟨by rw [hcd]; rfl, hA1, hX1.s63, hM1.s63, _, _, ⟨⟨hO1.1.1, rfl⟩, hO1.2⟩, fun _ => by rw [hbb]; rfl⟩
set_option maxRecDepth 20000 in
theorem k_setChoice {P : PSt} {L : LSt} {pr : Nat → Nat} {O : OSt} {mp : Nat} {mk : Nat → UInt32} {T : List Nat} {a0 a39 a63 a64 : Nat} {dc tc t : Nat} {ou : Nat → Int64} {ov : Nat → UInt64} (hA : AD w a0 a39 a63 a64) (hIX : IX G.2.2.1 w P L pr O mp mk T dc tc) (hM : IM G.2.2.1 w P L pr O mp mk T t) (hO : OUTS G.2.2.1 w ou ov) (hIP : IP P L pr O mp mk T) (l : Int32) (c : Int32) : XC G mL_setChoice 8 (2) (12) [.ref a0, .int l, .int c, .ref a63] w (fun r w' => r = .inl (some (.int (nI (cdSC l c)))) ∧ AD w' a0 a39 a63 a64 ∧ IX G.2.2.1 w' P L (if (cdSC l c) = 0 then va_up pr (idx l) (idx c) else pr) O mp mk T dc tc ∧ IM G.2.2.1 w' P L pr O mp mk T t ∧ ∃ o' od', OUTS G.2.2.1 w' o' od' ∧ (cdSC l c = 0 → o' 0 = (nI (pr (idx l)) : Int32).toInt64)) := by
  refine XC.of (lo0 := [(0, .ref a0), (1, .int l), (2, .int c), (3, .ref a63)]) kmL_setChoice (Nat.le_of_ble_eq_true rfl) rfl ?_
  refine X_aload_n dL_setChoice_0 (i := 3) rfl rfl ?_
  refine X_iconst (v := 0) dL_setChoice_1 (by decide) ?_
  refine X_aload_n dL_setChoice_2 (i := 0) rfl rfl ?_
  refine X_iload_n dL_setChoice_3 (i := 1) rfl rfl ?_
  refine X_iload_n dL_setChoice_4 (i := 2) rfl rfl ?_
  refine X_callV (gc2 := 0) (gs2 := 0) (cx_setChoice hA hIX hIP l c) (i := 0) hIX.1 hA.2.1 rfl kmX10_setChoice rfl lL_61 iX10_setChoice vX10_setChoice rfl rfl (Nat.le_of_ble_eq_true rfl) (by decide) dL_setChoice_5 (by omega) (by omega) (fun E w1 hq => ?_) (fun v w1 hq => ?_)
  · obtain ⟨hr, hX1, hF1⟩ := hq
    obtain ⟨kx, hcd, hE⟩ := xr_inr hr
    have hle : cdSC l c ≤ 2 := cdSC_le
    have hA1 := hA.fx hF1
    have hM1 := hM.fx hF1
    have hO1 := hO.fx hF1
    rcases kx with _ | _ | kx
    · have hE : E = "java/lang/IndexOutOfBoundsException" := hE
      subst hE
      refine XT.catch (name := "java/lang/IndexOutOfBoundsException") [] (0, 10, 13, 21) [(0, 10, 17, 13)] rfl (fun z hz => nomatch hz) ⟨by decide, by decide⟩ (by decide) cL_21 cast_IndexOutOfBoundsException (fun q => ?_)
      refine X_astore (i := 4) (lo' := [(4, _), (0, _), (1, _), (2, _), (3, _)]) dL_setChoice_13 (by decide) rfl ?_
      refine X_iconst (v := 1) dL_setChoice_15 (by decide) ?_
      refine X_ireturn dL_setChoice_16 rfl rfl ?_
      exact ⟨by rw [hcd]; rfl, hA1, hX1, hM1, ou, ov, hO1, fun h => absurd h (by rw [hcd]; decide)⟩
    · have hE : E = "java/lang/IllegalArgumentException" := hE
      subst hE
      refine XT.catch (name := "java/lang/IllegalArgumentException") [(0, 10, 13, 21)] (0, 10, 17, 13) [] rfl (List.forall_mem_cons.mpr ⟨⟨by decide, _, cL_21, List.mem_of_getElem? (i := 1) rfl⟩, (fun z hz => nomatch hz)⟩) ⟨by decide, by decide⟩ (by decide) cL_13 cast_IllegalArgumentException (fun q => ?_)
      refine X_astore (i := 4) (lo' := [(4, _), (0, _), (1, _), (2, _), (3, _)]) dL_setChoice_17 (by decide) rfl ?_
      refine X_iconst (v := 2) dL_setChoice_19 (by decide) ?_
      refine X_ireturn dL_setChoice_20 rfl rfl ?_
      exact ⟨by rw [hcd]; rfl, hA1, hX1, hM1, ou, ov, hO1, fun h => absurd h (by rw [hcd]; decide)⟩
    · exact absurd hcd (by omega)
  obtain ⟨hr, hX1, hF1⟩ := hq
  obtain ⟨hcd, hv⟩ := xr_inl hr
  cases hv
  have hA1 := hA.fx hF1
  have hM1 := hM.fx hF1
  have hO1 := hO.fx hF1
  refine X_i2l dL_setChoice_8 rfl ?_
  refine X_last (i := 63) hO1.1 hA1.2.2.2.1 (show (0 : Int32) = nI 0 from rfl) (by decide) (by decide) dL_setChoice_9 (fun hc_9 => ?_)
  refine X_goto (tgt := 21) dL_setChoice_10 (by decide) ?_
  refine X_iconst (v := 0) dL_setChoice_21 (by decide) ?_
  refine X_ireturn dL_setChoice_22 rfl rfl ?_
  exact ⟨by rw [hcd]; rfl, hA1, hX1.s63, hM1.s63, _, _, ⟨⟨hO1.1.1, rfl⟩, hO1.2⟩, fun _ => rfl⟩
set_option maxRecDepth 20000 in
theorem k_choice {P : PSt} {L : LSt} {pr : Nat → Nat} {O : OSt} {mp : Nat} {mk : Nat → UInt32} {T : List Nat} {a0 a39 a63 a64 : Nat} {dc tc t : Nat} {ou : Nat → Int64} {ov : Nat → UInt64} (hA : AD w a0 a39 a63 a64) (hIX : IX G.2.2.1 w P L pr O mp mk T dc tc) (hM : IM G.2.2.1 w P L pr O mp mk T t) (hO : OUTS G.2.2.1 w ou ov) (hIP : IP P L pr O mp mk T) (l : Int32) : XC G mL_choice 8 (1) (6) [.ref a0, .int l, .ref a63] w (fun r w' => r = .inl (some (.int (nI (cdC l)))) ∧ AD w' a0 a39 a63 a64 ∧ IX G.2.2.1 w' P L pr O mp mk T dc tc ∧ IM G.2.2.1 w' P L pr O mp mk T t ∧ ∃ o' od', OUTS G.2.2.1 w' o' od' ∧ (cdC l = 0 → o' 0 = (nI (pr (idx l)) : Int32).toInt64)) := by
  refine XC.of (lo0 := [(0, .ref a0), (1, .int l), (2, .ref a63)]) kmL_choice (Nat.le_of_ble_eq_true rfl) rfl ?_
  refine X_aload_n dL_choice_0 (i := 2) rfl rfl ?_
  refine X_iconst (v := 0) dL_choice_1 (by decide) ?_
  refine X_aload_n dL_choice_2 (i := 0) rfl rfl ?_
  refine X_iload_n dL_choice_3 (i := 1) rfl rfl ?_
  refine X_callV (gc2 := 0) (gs2 := 0) (cx_choice hA hIX hIP l) (i := 0) hIX.1 hA.2.1 rfl kmX10_choice rfl lL_64 iX10_choice vX10_choice rfl rfl (Nat.le_of_ble_eq_true rfl) (by decide) dL_choice_4 (by omega) (by omega) (fun E w1 hq => ?_) (fun v w1 hq => ?_)
  · obtain ⟨hr, hX1, hF1⟩ := hq
    obtain ⟨kx, hcd, hE⟩ := xr_inr hr
    have hle : cdC l ≤ 1 := cdC_le
    have hA1 := hA.fx hF1
    have hM1 := hM.fx hF1
    have hO1 := hO.fx hF1
    rcases kx with _ | kx
    · have hE : E = "java/lang/IndexOutOfBoundsException" := hE
      subst hE
      refine XT.catch (name := "java/lang/IndexOutOfBoundsException") [] (0, 9, 12, 21) [] rfl (fun z hz => nomatch hz) ⟨by decide, by decide⟩ (by decide) cL_21 cast_IndexOutOfBoundsException (fun q => ?_)
      refine X_astore_n (i := 3) (lo' := [(3, _), (0, _), (1, _), (2, _)]) dL_choice_12 rfl (by decide) rfl ?_
      refine X_iconst (v := 1) dL_choice_13 (by decide) ?_
      refine X_ireturn dL_choice_14 rfl rfl ?_
      exact ⟨by rw [hcd]; rfl, hA1, hX1, hM1, ou, ov, hO1, fun h => absurd h (by rw [hcd]; decide)⟩
    · exact absurd hcd (by omega)
  obtain ⟨hr, hX1, hF1⟩ := hq
  obtain ⟨hcd, hv⟩ := xr_inl hr
  cases hv
  have hA1 := hA.fx hF1
  have hM1 := hM.fx hF1
  have hO1 := hO.fx hF1
  refine X_i2l dL_choice_7 rfl ?_
  refine X_last (i := 63) hO1.1 hA1.2.2.2.1 (show (0 : Int32) = nI 0 from rfl) (by decide) (by decide) dL_choice_8 (fun hc_8 => ?_)
  refine X_goto (tgt := 15) dL_choice_9 (by decide) ?_
  refine X_iconst (v := 0) dL_choice_15 (by decide) ?_
  refine X_ireturn dL_choice_16 rfl rfl ?_
  exact ⟨by rw [hcd]; rfl, hA1, hX1.s63, hM1.s63, _, _, ⟨⟨hO1.1.1, rfl⟩, hO1.2⟩, fun _ => rfl⟩
set_option maxRecDepth 20000 in
theorem k_listSize {P : PSt} {L : LSt} {pr : Nat → Nat} {O : OSt} {mp : Nat} {mk : Nat → UInt32} {T : List Nat} {a0 a39 a63 a64 : Nat} {dc tc t : Nat} {ou : Nat → Int64} {ov : Nat → UInt64} (hA : AD w a0 a39 a63 a64) (hIX : IX G.2.2.1 w P L pr O mp mk T dc tc) (hM : IM G.2.2.1 w P L pr O mp mk T t) (hO : OUTS G.2.2.1 w ou ov) (hIP : IP P L pr O mp mk T) (a : Int32) (s : Int32) : XC G mL_listSize 10 (2 + ((if cdA a s P.1 = 0 then capL 0 dc (listN P.2.1 L pr (idx s) 5 (idx a) 1).length else dc) - dc)) (12 + 4 * ((if cdA a s P.1 = 0 then capL 0 dc (listN P.2.1 L pr (idx s) 5 (idx a) 1).length else dc) - dc)) [.ref a0, .int a, .int s, .ref a63] w (fun r w' => r = .inl (some (.int (nI (cdA a s P.1)))) ∧ AD w' a0 a39 a63 a64 ∧ IX G.2.2.1 w' P L pr O mp mk T (if cdA a s P.1 = 0 then capL 0 dc (listN P.2.1 L pr (idx s) 5 (idx a) 1).length else dc) tc ∧ IM G.2.2.1 w' P L pr O mp mk T t ∧ ∃ o' od', OUTS G.2.2.1 w' o' od' ∧ (cdA a s P.1 = 0 → o' 0 = (nI (listN P.2.1 L pr (idx s) 5 (idx a) 1).length : Int32).toInt64)) := by
  refine XC.of (lo0 := [(0, .ref a0), (1, .int a), (2, .int s), (3, .ref a63)]) kmL_listSize (Nat.le_of_ble_eq_true rfl) rfl ?_
  refine X_aload_n dL_listSize_0 (i := 3) rfl rfl ?_
  refine X_iconst (v := 0) dL_listSize_1 (by decide) ?_
  refine X_aload_n dL_listSize_2 (i := 0) rfl rfl ?_
  refine X_iload_n dL_listSize_3 (i := 1) rfl rfl ?_
  refine X_iload_n dL_listSize_4 (i := 2) rfl rfl ?_
  refine X_callV (gc2 := 0) (gs2 := 0) (cx_listSize hA hIX hIP a s) (i := 0) hIX.1 hA.2.1 rfl kmX10_listSize rfl lL_67 iX10_listSize vX10_listSize rfl rfl (Nat.le_of_ble_eq_true rfl) (by decide) dL_listSize_5 (by omega) (by omega) (fun E w1 hq => ?_) (fun v w1 hq => ?_)
  · obtain ⟨hr, hX1, hF1⟩ := hq
    obtain ⟨kx, hcd, hE⟩ := xr_inr hr
    have hle : cdA a s P.1 ≤ 2 := cdA_le
    have hA1 := hA.fx hF1
    have hM1 := hM.fx hF1
    have hO1 := hO.fx hF1
    rcases kx with _ | _ | kx
    · have hE : E = "java/lang/IndexOutOfBoundsException" := hE
      subst hE
      refine XT.catch (name := "java/lang/IndexOutOfBoundsException") [] (0, 10, 13, 21) [(0, 10, 17, 13)] rfl (fun z hz => nomatch hz) ⟨by decide, by decide⟩ (by decide) cL_21 cast_IndexOutOfBoundsException (fun q => ?_)
      refine X_astore (i := 4) (lo' := [(4, _), (0, _), (1, _), (2, _), (3, _)]) dL_listSize_13 (by decide) rfl ?_
      refine X_iconst (v := 1) dL_listSize_15 (by decide) ?_
      refine X_ireturn dL_listSize_16 rfl rfl ?_
      exact ⟨by rw [hcd]; rfl, hA1, hX1, hM1, ou, ov, hO1, fun h => absurd h (by rw [hcd]; decide)⟩
    · have hE : E = "java/lang/IllegalArgumentException" := hE
      subst hE
      refine XT.catch (name := "java/lang/IllegalArgumentException") [(0, 10, 13, 21)] (0, 10, 17, 13) [] rfl (List.forall_mem_cons.mpr ⟨⟨by decide, _, cL_21, List.mem_of_getElem? (i := 1) rfl⟩, (fun z hz => nomatch hz)⟩) ⟨by decide, by decide⟩ (by decide) cL_13 cast_IllegalArgumentException (fun q => ?_)
      refine X_astore (i := 4) (lo' := [(4, _), (0, _), (1, _), (2, _), (3, _)]) dL_listSize_17 (by decide) rfl ?_
      refine X_iconst (v := 2) dL_listSize_19 (by decide) ?_
      refine X_ireturn dL_listSize_20 rfl rfl ?_
      exact ⟨by rw [hcd]; rfl, hA1, hX1, hM1, ou, ov, hO1, fun h => absurd h (by rw [hcd]; decide)⟩
    · exact absurd hcd (by omega)
  obtain ⟨hr, hX1, hF1⟩ := hq
  obtain ⟨hcd, hv⟩ := xr_inl hr
  cases hv
  have hA1 := hA.fx hF1
  have hM1 := hM.fx hF1
  have hO1 := hO.fx hF1
  refine X_i2l dL_listSize_8 rfl ?_
  refine X_last (i := 63) hO1.1 hA1.2.2.2.1 (show (0 : Int32) = nI 0 from rfl) (by decide) (by decide) dL_listSize_9 (fun hc_9 => ?_)
  refine X_goto (tgt := 21) dL_listSize_10 (by decide) ?_
  refine X_iconst (v := 0) dL_listSize_21 (by decide) ?_
  refine X_ireturn dL_listSize_22 rfl rfl ?_
  exact ⟨by rw [hcd]; rfl, hA1, hX1.s63, hM1.s63, _, _, ⟨⟨hO1.1.1, rfl⟩, hO1.2⟩, fun _ => rfl⟩
set_option maxRecDepth 20000 in
theorem k_listPart {P : PSt} {L : LSt} {pr : Nat → Nat} {O : OSt} {mp : Nat} {mk : Nat → UInt32} {T : List Nat} {a0 a39 a63 a64 : Nat} {dc tc t : Nat} {ou : Nat → Int64} {ov : Nat → UInt64} (hA : AD w a0 a39 a63 a64) (hIX : IX G.2.2.1 w P L pr O mp mk T dc tc) (hM : IM G.2.2.1 w P L pr O mp mk T t) (hO : OUTS G.2.2.1 w ou ov) (hIP : IP P L pr O mp mk T) (a : Int32) (s : Int32) (i : Int32) : XC G mL_listPart 10 (3 + ((if cdA a s P.1 = 0 then capL 0 dc (listN P.2.1 L pr (idx s) 5 (idx a) 1).length else dc) - dc)) (18 + 4 * ((if cdA a s P.1 = 0 then capL 0 dc (listN P.2.1 L pr (idx s) 5 (idx a) 1).length else dc) - dc)) [.ref a0, .int a, .int s, .int i, .ref a63] w (fun r w' => r = .inl (some (.int (nI (cdLP a s i P.1 (listN P.2.1 L pr (idx s) 5 (idx a) 1).length)))) ∧ AD w' a0 a39 a63 a64 ∧ IX G.2.2.1 w' P L pr O mp mk T (if cdA a s P.1 = 0 then capL 0 dc (listN P.2.1 L pr (idx s) 5 (idx a) 1).length else dc) tc ∧ IM G.2.2.1 w' P L pr O mp mk T t ∧ ∃ o' od', OUTS G.2.2.1 w' o' od' ∧ (cdLP a s i P.1 (listN P.2.1 L pr (idx s) 5 (idx a) 1).length = 0 → o' 0 = (nI ((listN P.2.1 L pr (idx s) 5 (idx a) 1).getD (idx i) (0, 0)).1 : Int32).toInt64)) := by
  refine XC.of (lo0 := [(0, .ref a0), (1, .int a), (2, .int s), (3, .int i), (4, .ref a63)]) kmL_listPart (Nat.le_of_ble_eq_true rfl) rfl ?_
  refine X_aload dL_listPart_0 (i := 4) rfl ?_
  refine X_iconst (v := 0) dL_listPart_2 (by decide) ?_
  refine X_aload_n dL_listPart_3 (i := 0) rfl rfl ?_
  refine X_iload_n dL_listPart_4 (i := 1) rfl rfl ?_
  refine X_iload_n dL_listPart_5 (i := 2) rfl rfl ?_
  refine X_iload_n dL_listPart_6 (i := 3) rfl rfl ?_
  refine X_callV (gc2 := 0) (gs2 := 0) (cx_listPart hA hIX hIP a s i) (i := 0) hIX.1 hA.2.1 rfl kmX10_listPart rfl lL_70 iX10_listPart vX10_listPart rfl rfl (Nat.le_of_ble_eq_true rfl) (by decide) dL_listPart_7 (by omega) (by omega) (fun E w1 hq => ?_) (fun v w1 hq => ?_)
  · obtain ⟨hr, hX1, hF1⟩ := hq
    obtain ⟨kx, hcd, hE⟩ := xr_inr hr
    have hle : cdLP a s i P.1 (listN P.2.1 L pr (idx s) 5 (idx a) 1).length ≤ 3 := cdLP_le
    have hA1 := hA.fx hF1
    have hM1 := hM.fx hF1
    have hO1 := hO.fx hF1
    rcases kx with _ | _ | _ | kx
    · have hE : E = "java/lang/IndexOutOfBoundsException" := hE
      subst hE
      refine XT.catch (name := "java/lang/IndexOutOfBoundsException") [] (0, 12, 15, 21) [(0, 12, 19, 13), (0, 12, 23, 74)] rfl (fun z hz => nomatch hz) ⟨by decide, by decide⟩ (by decide) cL_21 cast_IndexOutOfBoundsException (fun q => ?_)
      refine X_astore (i := 5) (lo' := [(5, _), (0, _), (1, _), (2, _), (3, _), (4, _)]) dL_listPart_15 (by decide) rfl ?_
      refine X_iconst (v := 1) dL_listPart_17 (by decide) ?_
      refine X_ireturn dL_listPart_18 rfl rfl ?_
      exact ⟨by rw [hcd]; rfl, hA1, hX1, hM1, ou, ov, hO1, fun h => absurd h (by rw [hcd]; decide)⟩
    · have hE : E = "java/lang/IllegalArgumentException" := hE
      subst hE
      refine XT.catch (name := "java/lang/IllegalArgumentException") [(0, 12, 15, 21)] (0, 12, 19, 13) [(0, 12, 23, 74)] rfl (List.forall_mem_cons.mpr ⟨⟨by decide, _, cL_21, List.mem_of_getElem? (i := 1) rfl⟩, (fun z hz => nomatch hz)⟩) ⟨by decide, by decide⟩ (by decide) cL_13 cast_IllegalArgumentException (fun q => ?_)
      refine X_astore (i := 5) (lo' := [(5, _), (0, _), (1, _), (2, _), (3, _), (4, _)]) dL_listPart_19 (by decide) rfl ?_
      refine X_iconst (v := 2) dL_listPart_21 (by decide) ?_
      refine X_ireturn dL_listPart_22 rfl rfl ?_
      exact ⟨by rw [hcd]; rfl, hA1, hX1, hM1, ou, ov, hO1, fun h => absurd h (by rw [hcd]; decide)⟩
    · have hE : E = "java/util/NoSuchElementException" := hE
      subst hE
      refine XT.catch (name := "java/util/NoSuchElementException") [(0, 12, 15, 21), (0, 12, 19, 13)] (0, 12, 23, 74) [] rfl (List.forall_mem_cons.mpr ⟨⟨by decide, _, cL_21, List.mem_of_getElem? (i := 18) rfl⟩, (List.forall_mem_cons.mpr ⟨⟨by decide, _, cL_13, List.mem_of_getElem? (i := 16) rfl⟩, (fun z hz => nomatch hz)⟩)⟩) ⟨by decide, by decide⟩ (by decide) cL_74 cast_NoSuchElementException (fun q => ?_)
      refine X_astore (i := 5) (lo' := [(5, _), (0, _), (1, _), (2, _), (3, _), (4, _)]) dL_listPart_23 (by decide) rfl ?_
      refine X_iconst (v := 3) dL_listPart_25 (by decide) ?_
      refine X_ireturn dL_listPart_26 rfl rfl ?_
      exact ⟨by rw [hcd]; rfl, hA1, hX1, hM1, ou, ov, hO1, fun h => absurd h (by rw [hcd]; decide)⟩
    · exact absurd hcd (by omega)
  obtain ⟨hr, hX1, hF1⟩ := hq
  obtain ⟨hcd, hv⟩ := xr_inl hr
  cases hv
  have hA1 := hA.fx hF1
  have hM1 := hM.fx hF1
  have hO1 := hO.fx hF1
  refine X_i2l dL_listPart_10 rfl ?_
  refine X_last (i := 63) hO1.1 hA1.2.2.2.1 (show (0 : Int32) = nI 0 from rfl) (by decide) (by decide) dL_listPart_11 (fun hc_11 => ?_)
  refine X_goto (tgt := 27) dL_listPart_12 (by decide) ?_
  refine X_iconst (v := 0) dL_listPart_27 (by decide) ?_
  refine X_ireturn dL_listPart_28 rfl rfl ?_
  exact ⟨by rw [hcd]; rfl, hA1, hX1.s63, hM1.s63, _, _, ⟨⟨hO1.1.1, rfl⟩, hO1.2⟩, fun _ => rfl⟩
set_option maxRecDepth 20000 in
theorem k_listQuantity {P : PSt} {L : LSt} {pr : Nat → Nat} {O : OSt} {mp : Nat} {mk : Nat → UInt32} {T : List Nat} {a0 a39 a63 a64 : Nat} {dc tc t : Nat} {ou : Nat → Int64} {ov : Nat → UInt64} (hA : AD w a0 a39 a63 a64) (hIX : IX G.2.2.1 w P L pr O mp mk T dc tc) (hM : IM G.2.2.1 w P L pr O mp mk T t) (hO : OUTS G.2.2.1 w ou ov) (hIP : IP P L pr O mp mk T) (a : Int32) (s : Int32) (i : Int32) : XC G mL_listQuantity 10 (3 + ((if cdA a s P.1 = 0 then capL 0 dc (listN P.2.1 L pr (idx s) 5 (idx a) 1).length else dc) - dc)) (18 + 4 * ((if cdA a s P.1 = 0 then capL 0 dc (listN P.2.1 L pr (idx s) 5 (idx a) 1).length else dc) - dc)) [.ref a0, .int a, .int s, .int i, .ref a63] w (fun r w' => r = .inl (some (.int (nI (cdLP a s i P.1 (listN P.2.1 L pr (idx s) 5 (idx a) 1).length)))) ∧ AD w' a0 a39 a63 a64 ∧ IX G.2.2.1 w' P L pr O mp mk T (if cdA a s P.1 = 0 then capL 0 dc (listN P.2.1 L pr (idx s) 5 (idx a) 1).length else dc) tc ∧ IM G.2.2.1 w' P L pr O mp mk T t ∧ ∃ o' od', OUTS G.2.2.1 w' o' od' ∧ (cdLP a s i P.1 (listN P.2.1 L pr (idx s) 5 (idx a) 1).length = 0 → o' 0 = nL ((listN P.2.1 L pr (idx s) 5 (idx a) 1).getD (idx i) (0, 0)).2)) := by
  refine XC.of (lo0 := [(0, .ref a0), (1, .int a), (2, .int s), (3, .int i), (4, .ref a63)]) kmL_listQuantity (Nat.le_of_ble_eq_true rfl) rfl ?_
  refine X_aload dL_listQuantity_0 (i := 4) rfl ?_
  refine X_iconst (v := 0) dL_listQuantity_2 (by decide) ?_
  refine X_aload_n dL_listQuantity_3 (i := 0) rfl rfl ?_
  refine X_iload_n dL_listQuantity_4 (i := 1) rfl rfl ?_
  refine X_iload_n dL_listQuantity_5 (i := 2) rfl rfl ?_
  refine X_iload_n dL_listQuantity_6 (i := 3) rfl rfl ?_
  refine X_callV (gc2 := 0) (gs2 := 0) (cx_listQuantity hA hIX hIP a s i) (i := 0) hIX.1 hA.2.1 rfl kmX10_listQuantity rfl lL_76 iX10_listQuantity vX10_listQuantity rfl rfl (Nat.le_of_ble_eq_true rfl) (by decide) dL_listQuantity_7 (by omega) (by omega) (fun E w1 hq => ?_) (fun v w1 hq => ?_)
  · obtain ⟨hr, hX1, hF1⟩ := hq
    obtain ⟨kx, hcd, hE⟩ := xr_inr hr
    have hle : cdLP a s i P.1 (listN P.2.1 L pr (idx s) 5 (idx a) 1).length ≤ 3 := cdLP_le
    have hA1 := hA.fx hF1
    have hM1 := hM.fx hF1
    have hO1 := hO.fx hF1
    rcases kx with _ | _ | _ | kx
    · have hE : E = "java/lang/IndexOutOfBoundsException" := hE
      subst hE
      refine XT.catch (name := "java/lang/IndexOutOfBoundsException") [] (0, 11, 14, 21) [(0, 11, 18, 13), (0, 11, 22, 74)] rfl (fun z hz => nomatch hz) ⟨by decide, by decide⟩ (by decide) cL_21 cast_IndexOutOfBoundsException (fun q => ?_)
      refine X_astore (i := 5) (lo' := [(5, _), (0, _), (1, _), (2, _), (3, _), (4, _)]) dL_listQuantity_14 (by decide) rfl ?_
      refine X_iconst (v := 1) dL_listQuantity_16 (by decide) ?_
      refine X_ireturn dL_listQuantity_17 rfl rfl ?_
      exact ⟨by rw [hcd]; rfl, hA1, hX1, hM1, ou, ov, hO1, fun h => absurd h (by rw [hcd]; decide)⟩
    · have hE : E = "java/lang/IllegalArgumentException" := hE
      subst hE
      refine XT.catch (name := "java/lang/IllegalArgumentException") [(0, 11, 14, 21)] (0, 11, 18, 13) [(0, 11, 22, 74)] rfl (List.forall_mem_cons.mpr ⟨⟨by decide, _, cL_21, List.mem_of_getElem? (i := 1) rfl⟩, (fun z hz => nomatch hz)⟩) ⟨by decide, by decide⟩ (by decide) cL_13 cast_IllegalArgumentException (fun q => ?_)
      refine X_astore (i := 5) (lo' := [(5, _), (0, _), (1, _), (2, _), (3, _), (4, _)]) dL_listQuantity_18 (by decide) rfl ?_
      refine X_iconst (v := 2) dL_listQuantity_20 (by decide) ?_
      refine X_ireturn dL_listQuantity_21 rfl rfl ?_
      exact ⟨by rw [hcd]; rfl, hA1, hX1, hM1, ou, ov, hO1, fun h => absurd h (by rw [hcd]; decide)⟩
    · have hE : E = "java/util/NoSuchElementException" := hE
      subst hE
      refine XT.catch (name := "java/util/NoSuchElementException") [(0, 11, 14, 21), (0, 11, 18, 13)] (0, 11, 22, 74) [] rfl (List.forall_mem_cons.mpr ⟨⟨by decide, _, cL_21, List.mem_of_getElem? (i := 18) rfl⟩, (List.forall_mem_cons.mpr ⟨⟨by decide, _, cL_13, List.mem_of_getElem? (i := 16) rfl⟩, (fun z hz => nomatch hz)⟩)⟩) ⟨by decide, by decide⟩ (by decide) cL_74 cast_NoSuchElementException (fun q => ?_)
      refine X_astore (i := 5) (lo' := [(5, _), (0, _), (1, _), (2, _), (3, _), (4, _)]) dL_listQuantity_22 (by decide) rfl ?_
      refine X_iconst (v := 3) dL_listQuantity_24 (by decide) ?_
      refine X_ireturn dL_listQuantity_25 rfl rfl ?_
      exact ⟨by rw [hcd]; rfl, hA1, hX1, hM1, ou, ov, hO1, fun h => absurd h (by rw [hcd]; decide)⟩
    · exact absurd hcd (by omega)
  obtain ⟨hr, hX1, hF1⟩ := hq
  obtain ⟨hcd, hv⟩ := xr_inl hr
  cases hv
  have hA1 := hA.fx hF1
  have hM1 := hM.fx hF1
  have hO1 := hO.fx hF1
  refine X_last (i := 63) hO1.1 hA1.2.2.2.1 (show (0 : Int32) = nI 0 from rfl) (by decide) (by decide) dL_listQuantity_10 (fun hc_10 => ?_)
  refine X_goto (tgt := 26) dL_listQuantity_11 (by decide) ?_
  refine X_iconst (v := 0) dL_listQuantity_26 (by decide) ?_
  refine X_ireturn dL_listQuantity_27 rfl rfl ?_
  exact ⟨by rw [hcd]; rfl, hA1, hX1.s63, hM1.s63, _, _, ⟨⟨hO1.1.1, rfl⟩, hO1.2⟩, fun _ => rfl⟩
set_option maxRecDepth 20000 in
theorem k_writeList {P : PSt} {L : LSt} {pr : Nat → Nat} {O : OSt} {mp : Nat} {mk : Nat → UInt32} {T : List Nat} {a0 a39 a63 a64 : Nat} {dc tc t : Nat} {ou : Nat → Int64} {ov : Nat → UInt64} (hA : AD w a0 a39 a63 a64) (hIX : IX G.2.2.1 w P L pr O mp mk T dc tc) (hM : IM G.2.2.1 w P L pr O mp mk T t) (hO : OUTS G.2.2.1 w ou ov) (hIP : IP P L pr O mp mk T) (a : Int32) (s : Int32) : XC G mL_writeList 10 (2 + ((if cdA a s P.1 = 0 then capL 0 dc (listN P.2.1 L pr (idx s) 5 (idx a) 1).length else dc) - dc) + ((if cdA a s P.1 = 0 then (capF 0 tc (lstP false (listN P.2.1 L pr (idx s) 5 (idx a) 1))) else tc) - tc)) (12 + 4 * ((if cdA a s P.1 = 0 then capL 0 dc (listN P.2.1 L pr (idx s) 5 (idx a) 1).length else dc) - dc) + 2 * ((if cdA a s P.1 = 0 then (capF 0 tc (lstP false (listN P.2.1 L pr (idx s) 5 (idx a) 1))) else tc) - tc)) [.ref a0, .int a, .int s, .ref a63] w (fun r w' => r = .inl (some (.int (nI (cdA a s P.1)))) ∧ AD w' a0 a39 a63 a64 ∧ IX G.2.2.1 w' P L pr O mp mk (if (cdA a s P.1) = 0 then lstT false (listN P.2.1 L pr (idx s) 5 (idx a) 1) else T) (if cdA a s P.1 = 0 then capL 0 dc (listN P.2.1 L pr (idx s) 5 (idx a) 1).length else dc) (if cdA a s P.1 = 0 then (capF 0 tc (lstP false (listN P.2.1 L pr (idx s) 5 (idx a) 1))) else tc) ∧ IM G.2.2.1 w' P L pr O mp mk T t ∧ ∃ o' od', OUTS G.2.2.1 w' o' od' ∧ (cdA a s P.1 = 0 → o' 0 = (nI (lstT false (listN P.2.1 L pr (idx s) 5 (idx a) 1)).length : Int32).toInt64)) := by
  refine XC.of (lo0 := [(0, .ref a0), (1, .int a), (2, .int s), (3, .ref a63)]) kmL_writeList (Nat.le_of_ble_eq_true rfl) rfl ?_
  refine X_aload_n dL_writeList_0 (i := 3) rfl rfl ?_
  refine X_iconst (v := 0) dL_writeList_1 (by decide) ?_
  refine X_aload_n dL_writeList_2 (i := 0) rfl rfl ?_
  refine X_iload_n dL_writeList_3 (i := 1) rfl rfl ?_
  refine X_iload_n dL_writeList_4 (i := 2) rfl rfl ?_
  refine X_callV (gc2 := 0) (gs2 := 0) (cx_writeList hA hIX hIP a s) (i := 0) hIX.1 hA.2.1 rfl kmX10_writeList rfl lL_80 iX10_writeList vX10_writeList rfl rfl (Nat.le_of_ble_eq_true rfl) (by decide) dL_writeList_5 (by omega) (by omega) (fun E w1 hq => ?_) (fun v w1 hq => ?_)
  · obtain ⟨hr, hX1, hF1⟩ := hq
    obtain ⟨kx, hcd, hE⟩ := xr_inr hr
    have hle : cdA a s P.1 ≤ 2 := cdA_le
    have hA1 := hA.fx hF1
    have hM1 := hM.fx hF1
    have hO1 := hO.fx hF1
    rcases kx with _ | _ | kx
    · have hE : E = "java/lang/IndexOutOfBoundsException" := hE
      subst hE
      refine XT.catch (name := "java/lang/IndexOutOfBoundsException") [] (0, 10, 13, 21) [(0, 10, 17, 13)] rfl (fun z hz => nomatch hz) ⟨by decide, by decide⟩ (by decide) cL_21 cast_IndexOutOfBoundsException (fun q => ?_)
      refine X_astore (i := 4) (lo' := [(4, _), (0, _), (1, _), (2, _), (3, _)]) dL_writeList_13 (by decide) rfl ?_
      refine X_iconst (v := 1) dL_writeList_15 (by decide) ?_
      refine X_ireturn dL_writeList_16 rfl rfl ?_
      exact ⟨by rw [hcd]; rfl, hA1, hX1, hM1, ou, ov, hO1, fun h => absurd h (by rw [hcd]; decide)⟩
    · have hE : E = "java/lang/IllegalArgumentException" := hE
      subst hE
      refine XT.catch (name := "java/lang/IllegalArgumentException") [(0, 10, 13, 21)] (0, 10, 17, 13) [] rfl (List.forall_mem_cons.mpr ⟨⟨by decide, _, cL_21, List.mem_of_getElem? (i := 1) rfl⟩, (fun z hz => nomatch hz)⟩) ⟨by decide, by decide⟩ (by decide) cL_13 cast_IllegalArgumentException (fun q => ?_)
      refine X_astore (i := 4) (lo' := [(4, _), (0, _), (1, _), (2, _), (3, _)]) dL_writeList_17 (by decide) rfl ?_
      refine X_iconst (v := 2) dL_writeList_19 (by decide) ?_
      refine X_ireturn dL_writeList_20 rfl rfl ?_
      exact ⟨by rw [hcd]; rfl, hA1, hX1, hM1, ou, ov, hO1, fun h => absurd h (by rw [hcd]; decide)⟩
    · exact absurd hcd (by omega)
  obtain ⟨hr, hX1, hF1⟩ := hq
  obtain ⟨hcd, hv⟩ := xr_inl hr
  cases hv
  have hA1 := hA.fx hF1
  have hM1 := hM.fx hF1
  have hO1 := hO.fx hF1
  refine X_i2l dL_writeList_8 rfl ?_
  refine X_last (i := 63) hO1.1 hA1.2.2.2.1 (show (0 : Int32) = nI 0 from rfl) (by decide) (by decide) dL_writeList_9 (fun hc_9 => ?_)
  refine X_goto (tgt := 21) dL_writeList_10 (by decide) ?_
  refine X_iconst (v := 0) dL_writeList_21 (by decide) ?_
  refine X_ireturn dL_writeList_22 rfl rfl ?_
  exact ⟨by rw [hcd]; rfl, hA1, hX1.s63, hM1.s63, _, _, ⟨⟨hO1.1.1, rfl⟩, hO1.2⟩, fun _ => rfl⟩
set_option maxRecDepth 20000 in
theorem k_charAt {P : PSt} {L : LSt} {pr : Nat → Nat} {O : OSt} {mp : Nat} {mk : Nat → UInt32} {T : List Nat} {a0 a39 a63 a64 : Nat} {dc tc t : Nat} {ou : Nat → Int64} {ov : Nat → UInt64} (hA : AD w a0 a39 a63 a64) (hIX : IX G.2.2.1 w P L pr O mp mk T dc tc) (hM : IM G.2.2.1 w P L pr O mp mk T t) (hO : OUTS G.2.2.1 w ou ov) (hIP : IP P L pr O mp mk T) (i : Int32) : XC G mL_charAt 8 (1) (6) [.ref a0, .int i, .ref a63] w (fun r w' => r = .inl (some (.int (nI (cdP i T.length)))) ∧ AD w' a0 a39 a63 a64 ∧ IX G.2.2.1 w' P L pr O mp mk T dc tc ∧ IM G.2.2.1 w' P L pr O mp mk T t ∧ ∃ o' od', OUTS G.2.2.1 w' o' od' ∧ (cdP i T.length = 0 → o' 0 = (nI (T.getD (idx i) 0) : Int32).toInt64)) := by
  refine XC.of (lo0 := [(0, .ref a0), (1, .int i), (2, .ref a63)]) kmL_charAt (Nat.le_of_ble_eq_true rfl) rfl ?_
  refine X_aload_n dL_charAt_0 (i := 2) rfl rfl ?_
  refine X_iconst (v := 0) dL_charAt_1 (by decide) ?_
  refine X_aload_n dL_charAt_2 (i := 0) rfl rfl ?_
  refine X_iload_n dL_charAt_3 (i := 1) rfl rfl ?_
  refine X_callV (gc2 := 0) (gs2 := 0) (cx_charAt hA hIX hIP i) (i := 0) hIX.1 hA.2.1 rfl kmX10_charAt rfl lL_83 iX10_charAt vX10_charAt rfl rfl (Nat.le_of_ble_eq_true rfl) (by decide) dL_charAt_4 (by omega) (by omega) (fun E w1 hq => ?_) (fun v w1 hq => ?_)
  · obtain ⟨hr, hX1, hF1⟩ := hq
    obtain ⟨kx, hcd, hE⟩ := xr_inr hr
    have hle : cdP i T.length ≤ 1 := cdP_le
    have hA1 := hA.fx hF1
    have hM1 := hM.fx hF1
    have hO1 := hO.fx hF1
    rcases kx with _ | kx
    · have hE : E = "java/lang/IndexOutOfBoundsException" := hE
      subst hE
      refine XT.catch (name := "java/lang/IndexOutOfBoundsException") [] (0, 9, 12, 21) [] rfl (fun z hz => nomatch hz) ⟨by decide, by decide⟩ (by decide) cL_21 cast_IndexOutOfBoundsException (fun q => ?_)
      refine X_astore_n (i := 3) (lo' := [(3, _), (0, _), (1, _), (2, _)]) dL_charAt_12 rfl (by decide) rfl ?_
      refine X_iconst (v := 1) dL_charAt_13 (by decide) ?_
      refine X_ireturn dL_charAt_14 rfl rfl ?_
      exact ⟨by rw [hcd]; rfl, hA1, hX1, hM1, ou, ov, hO1, fun h => absurd h (by rw [hcd]; decide)⟩
    · exact absurd hcd (by omega)
  obtain ⟨hr, hX1, hF1⟩ := hq
  obtain ⟨hcd, hv⟩ := xr_inl hr
  cases hv
  have hA1 := hA.fx hF1
  have hM1 := hM.fx hF1
  have hO1 := hO.fx hF1
  refine X_i2l dL_charAt_7 rfl ?_
  refine X_last (i := 63) hO1.1 hA1.2.2.2.1 (show (0 : Int32) = nI 0 from rfl) (by decide) (by decide) dL_charAt_8 (fun hc_8 => ?_)
  refine X_goto (tgt := 15) dL_charAt_9 (by decide) ?_
  refine X_iconst (v := 0) dL_charAt_15 (by decide) ?_
  refine X_ireturn dL_charAt_16 rfl rfl ?_
  exact ⟨by rw [hcd]; rfl, hA1, hX1.s63, hM1.s63, _, _, ⟨⟨hO1.1.1, rfl⟩, hO1.2⟩, fun _ => rfl⟩
set_option maxRecDepth 20000 in
theorem k_quantity {P : PSt} {L : LSt} {pr : Nat → Nat} {O : OSt} {mp : Nat} {mk : Nat → UInt32} {T : List Nat} {a0 a39 a63 a64 : Nat} {dc tc t : Nat} {ou : Nat → Int64} {ov : Nat → UInt64} (hA : AD w a0 a39 a63 a64) (hIX : IX G.2.2.1 w P L pr O mp mk T dc tc) (hM : IM G.2.2.1 w P L pr O mp mk T t) (hO : OUTS G.2.2.1 w ou ov) (hIP : IP P L pr O mp mk T) (a : Int32) (b : Int32) (s : Int32) : XC G mL_quantity 8 (4) (24) [.ref a0, .int a, .int b, .int s, .ref a63] w (fun r w' => r = .inl (some (.int (nI (cdQ a b s P.1)))) ∧ AD w' a0 a39 a63 a64 ∧ IX G.2.2.1 w' P L pr O mp mk T dc tc ∧ IM G.2.2.1 w' P L pr O mp mk T t ∧ ∃ o' od', OUTS G.2.2.1 w' o' od' ∧ (cdQ a b s P.1 = 0 → o' 0 = nL (hasN L pr (idx s) 5 (idx a) (idx b)))) := by
  refine XC.of (lo0 := [(0, .ref a0), (1, .int a), (2, .int b), (3, .int s), (4, .ref a63)]) kmL_quantity (Nat.le_of_ble_eq_true rfl) rfl ?_
  refine X_aload dL_quantity_0 (i := 4) rfl ?_
  refine X_iconst (v := 0) dL_quantity_2 (by decide) ?_
  refine X_aload_n dL_quantity_3 (i := 0) rfl rfl ?_
  refine X_iload_n dL_quantity_4 (i := 1) rfl rfl ?_
  refine X_iload_n dL_quantity_5 (i := 2) rfl rfl ?_
  refine X_iload_n dL_quantity_6 (i := 3) rfl rfl ?_
  refine X_callV (gc2 := 0) (gs2 := 0) (cx_quantity hA hIX hIP a b s) (i := 0) hIX.1 hA.2.1 rfl kmX10_quantity rfl lL_86 iX10_quantity vX10_quantity rfl rfl (Nat.le_of_ble_eq_true rfl) (by decide) dL_quantity_7 (by omega) (by omega) (fun E w1 hq => ?_) (fun v w1 hq => ?_)
  · obtain ⟨hr, hX1, hF1⟩ := hq
    obtain ⟨kx, hcd, hE⟩ := xr_inr hr
    have hle : cdQ a b s P.1 ≤ 2 := cdQ_le
    have hA1 := hA.fx hF1
    have hM1 := hM.fx hF1
    have hO1 := hO.fx hF1
    rcases kx with _ | _ | kx
    · have hE : E = "java/lang/IndexOutOfBoundsException" := hE
      subst hE
      refine XT.catch (name := "java/lang/IndexOutOfBoundsException") [] (0, 11, 14, 21) [(0, 11, 18, 13)] rfl (fun z hz => nomatch hz) ⟨by decide, by decide⟩ (by decide) cL_21 cast_IndexOutOfBoundsException (fun q => ?_)
      refine X_astore (i := 5) (lo' := [(5, _), (0, _), (1, _), (2, _), (3, _), (4, _)]) dL_quantity_14 (by decide) rfl ?_
      refine X_iconst (v := 1) dL_quantity_16 (by decide) ?_
      refine X_ireturn dL_quantity_17 rfl rfl ?_
      exact ⟨by rw [hcd]; rfl, hA1, hX1, hM1, ou, ov, hO1, fun h => absurd h (by rw [hcd]; decide)⟩
    · have hE : E = "java/lang/IllegalArgumentException" := hE
      subst hE
      refine XT.catch (name := "java/lang/IllegalArgumentException") [(0, 11, 14, 21)] (0, 11, 18, 13) [] rfl (List.forall_mem_cons.mpr ⟨⟨by decide, _, cL_21, List.mem_of_getElem? (i := 1) rfl⟩, (fun z hz => nomatch hz)⟩) ⟨by decide, by decide⟩ (by decide) cL_13 cast_IllegalArgumentException (fun q => ?_)
      refine X_astore (i := 5) (lo' := [(5, _), (0, _), (1, _), (2, _), (3, _), (4, _)]) dL_quantity_18 (by decide) rfl ?_
      refine X_iconst (v := 2) dL_quantity_20 (by decide) ?_
      refine X_ireturn dL_quantity_21 rfl rfl ?_
      exact ⟨by rw [hcd]; rfl, hA1, hX1, hM1, ou, ov, hO1, fun h => absurd h (by rw [hcd]; decide)⟩
    · exact absurd hcd (by omega)
  obtain ⟨hr, hX1, hF1⟩ := hq
  obtain ⟨hcd, hv⟩ := xr_inl hr
  cases hv
  have hA1 := hA.fx hF1
  have hM1 := hM.fx hF1
  have hO1 := hO.fx hF1
  refine X_last (i := 63) hO1.1 hA1.2.2.2.1 (show (0 : Int32) = nI 0 from rfl) (by decide) (by decide) dL_quantity_10 (fun hc_10 => ?_)
  refine X_goto (tgt := 22) dL_quantity_11 (by decide) ?_
  refine X_iconst (v := 0) dL_quantity_22 (by decide) ?_
  refine X_ireturn dL_quantity_23 rfl rfl ?_
  exact ⟨by rw [hcd]; rfl, hA1, hX1.s63, hM1.s63, _, _, ⟨⟨hO1.1.1, rfl⟩, hO1.2⟩, fun _ => rfl⟩
set_option maxRecDepth 20000 in
theorem k_quantityByWalking {P : PSt} {L : LSt} {pr : Nat → Nat} {O : OSt} {mp : Nat} {mk : Nat → UInt32} {T : List Nat} {a0 a39 a63 a64 : Nat} {dc tc t : Nat} {ou : Nat → Int64} {ov : Nat → UInt64} (hA : AD w a0 a39 a63 a64) (hIX : IX G.2.2.1 w P L pr O mp mk T dc tc) (hM : IM G.2.2.1 w P L pr O mp mk T t) (hO : OUTS G.2.2.1 w ou ov) (hIP : IP P L pr O mp mk T) (a : Int32) (b : Int32) (s : Int32) : XC G mL_quantityByWalking 8 (4) (24) [.ref a0, .int a, .int b, .int s, .ref a63] w (fun r w' => r = .inl (some (.int (nI (cdQ a b s P.1)))) ∧ AD w' a0 a39 a63 a64 ∧ IX G.2.2.1 w' P L pr O mp mk T dc tc ∧ IM G.2.2.1 w' P L pr O mp mk T t ∧ ∃ o' od', OUTS G.2.2.1 w' o' od' ∧ (cdQ a b s P.1 = 0 → o' 0 = nL (hasN L pr (idx s) 5 (idx a) (idx b)))) := by
  refine XC.of (lo0 := [(0, .ref a0), (1, .int a), (2, .int b), (3, .int s), (4, .ref a63)]) kmL_quantityByWalking (Nat.le_of_ble_eq_true rfl) rfl ?_
  refine X_aload dL_quantityByWalking_0 (i := 4) rfl ?_
  refine X_iconst (v := 0) dL_quantityByWalking_2 (by decide) ?_
  refine X_aload_n dL_quantityByWalking_3 (i := 0) rfl rfl ?_
  refine X_iload_n dL_quantityByWalking_4 (i := 1) rfl rfl ?_
  refine X_iload_n dL_quantityByWalking_5 (i := 2) rfl rfl ?_
  refine X_iload_n dL_quantityByWalking_6 (i := 3) rfl rfl ?_
  refine X_callV (gc2 := 0) (gs2 := 0) (cx_quantityByWalking hA hIX hIP a b s) (i := 0) hIX.1 hA.2.1 rfl kmX10_quantityByWalking rfl lL_89 iX10_quantityByWalking vX10_quantityByWalking rfl rfl (Nat.le_of_ble_eq_true rfl) (by decide) dL_quantityByWalking_7 (by omega) (by omega) (fun E w1 hq => ?_) (fun v w1 hq => ?_)
  · obtain ⟨hr, hX1, hF1⟩ := hq
    obtain ⟨kx, hcd, hE⟩ := xr_inr hr
    have hle : cdQ a b s P.1 ≤ 2 := cdQ_le
    have hA1 := hA.fx hF1
    have hM1 := hM.fx hF1
    have hO1 := hO.fx hF1
    rcases kx with _ | _ | kx
    · have hE : E = "java/lang/IndexOutOfBoundsException" := hE
      subst hE
      refine XT.catch (name := "java/lang/IndexOutOfBoundsException") [] (0, 11, 14, 21) [(0, 11, 18, 13)] rfl (fun z hz => nomatch hz) ⟨by decide, by decide⟩ (by decide) cL_21 cast_IndexOutOfBoundsException (fun q => ?_)
      refine X_astore (i := 5) (lo' := [(5, _), (0, _), (1, _), (2, _), (3, _), (4, _)]) dL_quantityByWalking_14 (by decide) rfl ?_
      refine X_iconst (v := 1) dL_quantityByWalking_16 (by decide) ?_
      refine X_ireturn dL_quantityByWalking_17 rfl rfl ?_
      exact ⟨by rw [hcd]; rfl, hA1, hX1, hM1, ou, ov, hO1, fun h => absurd h (by rw [hcd]; decide)⟩
    · have hE : E = "java/lang/IllegalArgumentException" := hE
      subst hE
      refine XT.catch (name := "java/lang/IllegalArgumentException") [(0, 11, 14, 21)] (0, 11, 18, 13) [] rfl (List.forall_mem_cons.mpr ⟨⟨by decide, _, cL_21, List.mem_of_getElem? (i := 1) rfl⟩, (fun z hz => nomatch hz)⟩) ⟨by decide, by decide⟩ (by decide) cL_13 cast_IllegalArgumentException (fun q => ?_)
      refine X_astore (i := 5) (lo' := [(5, _), (0, _), (1, _), (2, _), (3, _), (4, _)]) dL_quantityByWalking_18 (by decide) rfl ?_
      refine X_iconst (v := 2) dL_quantityByWalking_20 (by decide) ?_
      refine X_ireturn dL_quantityByWalking_21 rfl rfl ?_
      exact ⟨by rw [hcd]; rfl, hA1, hX1, hM1, ou, ov, hO1, fun h => absurd h (by rw [hcd]; decide)⟩
    · exact absurd hcd (by omega)
  obtain ⟨hr, hX1, hF1⟩ := hq
  obtain ⟨hcd, hv⟩ := xr_inl hr
  cases hv
  have hA1 := hA.fx hF1
  have hM1 := hM.fx hF1
  have hO1 := hO.fx hF1
  refine X_last (i := 63) hO1.1 hA1.2.2.2.1 (show (0 : Int32) = nI 0 from rfl) (by decide) (by decide) dL_quantityByWalking_10 (fun hc_10 => ?_)
  refine X_goto (tgt := 22) dL_quantityByWalking_11 (by decide) ?_
  refine X_iconst (v := 0) dL_quantityByWalking_22 (by decide) ?_
  refine X_ireturn dL_quantityByWalking_23 rfl rfl ?_
  exact ⟨by rw [hcd]; rfl, hA1, hX1.s63, hM1.s63, _, _, ⟨⟨hO1.1.1, rfl⟩, hO1.2⟩, fun _ => rfl⟩
set_option maxRecDepth 20000 in
theorem k_whereUsed {P : PSt} {L : LSt} {pr : Nat → Nat} {O : OSt} {mp : Nat} {mk : Nat → UInt32} {T : List Nat} {a0 a39 a63 a64 : Nat} {dc tc t : Nat} {ou : Nat → Int64} {ov : Nat → UInt64} (hA : AD w a0 a39 a63 a64) (hIX : IX G.2.2.1 w P L pr O mp mk T dc tc) (hM : IM G.2.2.1 w P L pr O mp mk T t) (hO : OUTS G.2.2.1 w ou ov) (hIP : IP P L pr O mp mk T) (a : Int32) (s : Int32) : XC G mL_whereUsed 8 (3) (18) [.ref a0, .int a, .int s, .ref a63] w (fun r w' => r = .inl (some (.int (nI (cdA a s P.1)))) ∧ AD w' a0 a39 a63 a64 ∧ IX G.2.2.1 w' P L pr O mp mk T dc tc ∧ IM G.2.2.1 w' P L pr O mp mk T t ∧ ∃ o' od', OUTS G.2.2.1 w' o' od' ∧ (cdA a s P.1 = 0 → o' 0 = (nI (cntB (fun p => decide (p ≠ idx a) && decide (hasN L pr (idx s) 5 p (idx a) ≠ 0)) P.1) : Int32).toInt64)) := by
  refine XC.of (lo0 := [(0, .ref a0), (1, .int a), (2, .int s), (3, .ref a63)]) kmL_whereUsed (Nat.le_of_ble_eq_true rfl) rfl ?_
  refine X_aload_n dL_whereUsed_0 (i := 3) rfl rfl ?_
  refine X_iconst (v := 0) dL_whereUsed_1 (by decide) ?_
  refine X_aload_n dL_whereUsed_2 (i := 0) rfl rfl ?_
  refine X_iload_n dL_whereUsed_3 (i := 1) rfl rfl ?_
  refine X_iload_n dL_whereUsed_4 (i := 2) rfl rfl ?_
  refine X_callV (gc2 := 0) (gs2 := 0) (cx_whereUsed hA hIX hIP a s) (i := 0) hIX.1 hA.2.1 rfl kmX10_whereUsed rfl lL_92 iX10_whereUsed vX10_whereUsed rfl rfl (Nat.le_of_ble_eq_true rfl) (by decide) dL_whereUsed_5 (by omega) (by omega) (fun E w1 hq => ?_) (fun v w1 hq => ?_)
  · obtain ⟨hr, hX1, hF1⟩ := hq
    obtain ⟨kx, hcd, hE⟩ := xr_inr hr
    have hle : cdA a s P.1 ≤ 2 := cdA_le
    have hA1 := hA.fx hF1
    have hM1 := hM.fx hF1
    have hO1 := hO.fx hF1
    rcases kx with _ | _ | kx
    · have hE : E = "java/lang/IndexOutOfBoundsException" := hE
      subst hE
      refine XT.catch (name := "java/lang/IndexOutOfBoundsException") [] (0, 10, 13, 21) [(0, 10, 17, 13)] rfl (fun z hz => nomatch hz) ⟨by decide, by decide⟩ (by decide) cL_21 cast_IndexOutOfBoundsException (fun q => ?_)
      refine X_astore (i := 4) (lo' := [(4, _), (0, _), (1, _), (2, _), (3, _)]) dL_whereUsed_13 (by decide) rfl ?_
      refine X_iconst (v := 1) dL_whereUsed_15 (by decide) ?_
      refine X_ireturn dL_whereUsed_16 rfl rfl ?_
      exact ⟨by rw [hcd]; rfl, hA1, hX1, hM1, ou, ov, hO1, fun h => absurd h (by rw [hcd]; decide)⟩
    · have hE : E = "java/lang/IllegalArgumentException" := hE
      subst hE
      refine XT.catch (name := "java/lang/IllegalArgumentException") [(0, 10, 13, 21)] (0, 10, 17, 13) [] rfl (List.forall_mem_cons.mpr ⟨⟨by decide, _, cL_21, List.mem_of_getElem? (i := 1) rfl⟩, (fun z hz => nomatch hz)⟩) ⟨by decide, by decide⟩ (by decide) cL_13 cast_IllegalArgumentException (fun q => ?_)
      refine X_astore (i := 4) (lo' := [(4, _), (0, _), (1, _), (2, _), (3, _)]) dL_whereUsed_17 (by decide) rfl ?_
      refine X_iconst (v := 2) dL_whereUsed_19 (by decide) ?_
      refine X_ireturn dL_whereUsed_20 rfl rfl ?_
      exact ⟨by rw [hcd]; rfl, hA1, hX1, hM1, ou, ov, hO1, fun h => absurd h (by rw [hcd]; decide)⟩
    · exact absurd hcd (by omega)
  obtain ⟨hr, hX1, hF1⟩ := hq
  obtain ⟨hcd, hv⟩ := xr_inl hr
  cases hv
  have hA1 := hA.fx hF1
  have hM1 := hM.fx hF1
  have hO1 := hO.fx hF1
  refine X_i2l dL_whereUsed_8 rfl ?_
  refine X_last (i := 63) hO1.1 hA1.2.2.2.1 (show (0 : Int32) = nI 0 from rfl) (by decide) (by decide) dL_whereUsed_9 (fun hc_9 => ?_)
  refine X_goto (tgt := 21) dL_whereUsed_10 (by decide) ?_
  refine X_iconst (v := 0) dL_whereUsed_21 (by decide) ?_
  refine X_ireturn dL_whereUsed_22 rfl rfl ?_
  exact ⟨by rw [hcd]; rfl, hA1, hX1.s63, hM1.s63, _, _, ⟨⟨hO1.1.1, rfl⟩, hO1.2⟩, fun _ => rfl⟩
set_option maxRecDepth 20000 in
theorem k_levels {P : PSt} {L : LSt} {pr : Nat → Nat} {O : OSt} {mp : Nat} {mk : Nat → UInt32} {T : List Nat} {a0 a39 a63 a64 : Nat} {dc tc t : Nat} {ou : Nat → Int64} {ov : Nat → UInt64} (hA : AD w a0 a39 a63 a64) (hIX : IX G.2.2.1 w P L pr O mp mk T dc tc) (hM : IM G.2.2.1 w P L pr O mp mk T t) (hO : OUTS G.2.2.1 w ou ov) (hIP : IP P L pr O mp mk T) (a : Int32) (s : Int32) : XC G mL_levels 8 (3) (18) [.ref a0, .int a, .int s, .ref a63] w (fun r w' => r = .inl (some (.int (nI (cdA a s P.1)))) ∧ AD w' a0 a39 a63 a64 ∧ IX G.2.2.1 w' P L pr O mp mk T dc tc ∧ IM G.2.2.1 w' P L pr O mp mk T t ∧ ∃ o' od', OUTS G.2.2.1 w' o' od' ∧ (cdA a s P.1 = 0 → o' 0 = (nI (dptN L pr (idx s) 5 (idx a)) : Int32).toInt64)) := by
  refine XC.of (lo0 := [(0, .ref a0), (1, .int a), (2, .int s), (3, .ref a63)]) kmL_levels (Nat.le_of_ble_eq_true rfl) rfl ?_
  refine X_aload_n dL_levels_0 (i := 3) rfl rfl ?_
  refine X_iconst (v := 0) dL_levels_1 (by decide) ?_
  refine X_aload_n dL_levels_2 (i := 0) rfl rfl ?_
  refine X_iload_n dL_levels_3 (i := 1) rfl rfl ?_
  refine X_iload_n dL_levels_4 (i := 2) rfl rfl ?_
  refine X_callV (gc2 := 0) (gs2 := 0) (cx_levels hA hIX hIP a s) (i := 0) hIX.1 hA.2.1 rfl kmX10_levels rfl lL_95 iX10_levels vX10_levels rfl rfl (Nat.le_of_ble_eq_true rfl) (by decide) dL_levels_5 (by omega) (by omega) (fun E w1 hq => ?_) (fun v w1 hq => ?_)
  · obtain ⟨hr, hX1, hF1⟩ := hq
    obtain ⟨kx, hcd, hE⟩ := xr_inr hr
    have hle : cdA a s P.1 ≤ 2 := cdA_le
    have hA1 := hA.fx hF1
    have hM1 := hM.fx hF1
    have hO1 := hO.fx hF1
    rcases kx with _ | _ | kx
    · have hE : E = "java/lang/IndexOutOfBoundsException" := hE
      subst hE
      refine XT.catch (name := "java/lang/IndexOutOfBoundsException") [] (0, 10, 13, 21) [(0, 10, 17, 13)] rfl (fun z hz => nomatch hz) ⟨by decide, by decide⟩ (by decide) cL_21 cast_IndexOutOfBoundsException (fun q => ?_)
      refine X_astore (i := 4) (lo' := [(4, _), (0, _), (1, _), (2, _), (3, _)]) dL_levels_13 (by decide) rfl ?_
      refine X_iconst (v := 1) dL_levels_15 (by decide) ?_
      refine X_ireturn dL_levels_16 rfl rfl ?_
      exact ⟨by rw [hcd]; rfl, hA1, hX1, hM1, ou, ov, hO1, fun h => absurd h (by rw [hcd]; decide)⟩
    · have hE : E = "java/lang/IllegalArgumentException" := hE
      subst hE
      refine XT.catch (name := "java/lang/IllegalArgumentException") [(0, 10, 13, 21)] (0, 10, 17, 13) [] rfl (List.forall_mem_cons.mpr ⟨⟨by decide, _, cL_21, List.mem_of_getElem? (i := 1) rfl⟩, (fun z hz => nomatch hz)⟩) ⟨by decide, by decide⟩ (by decide) cL_13 cast_IllegalArgumentException (fun q => ?_)
      refine X_astore (i := 4) (lo' := [(4, _), (0, _), (1, _), (2, _), (3, _)]) dL_levels_17 (by decide) rfl ?_
      refine X_iconst (v := 2) dL_levels_19 (by decide) ?_
      refine X_ireturn dL_levels_20 rfl rfl ?_
      exact ⟨by rw [hcd]; rfl, hA1, hX1, hM1, ou, ov, hO1, fun h => absurd h (by rw [hcd]; decide)⟩
    · exact absurd hcd (by omega)
  obtain ⟨hr, hX1, hF1⟩ := hq
  obtain ⟨hcd, hv⟩ := xr_inl hr
  cases hv
  have hA1 := hA.fx hF1
  have hM1 := hM.fx hF1
  have hO1 := hO.fx hF1
  refine X_i2l dL_levels_8 rfl ?_
  refine X_last (i := 63) hO1.1 hA1.2.2.2.1 (show (0 : Int32) = nI 0 from rfl) (by decide) (by decide) dL_levels_9 (fun hc_9 => ?_)
  refine X_goto (tgt := 21) dL_levels_10 (by decide) ?_
  refine X_iconst (v := 0) dL_levels_21 (by decide) ?_
  refine X_ireturn dL_levels_22 rfl rfl ?_
  exact ⟨by rw [hcd]; rfl, hA1, hX1.s63, hM1.s63, _, _, ⟨⟨hO1.1.1, rfl⟩, hO1.2⟩, fun _ => rfl⟩
set_option maxRecDepth 20000 in
theorem k_cost {P : PSt} {L : LSt} {pr : Nat → Nat} {O : OSt} {mp : Nat} {mk : Nat → UInt32} {T : List Nat} {a0 a39 a63 a64 : Nat} {dc tc t : Nat} {ou : Nat → Int64} {ov : Nat → UInt64} (hA : AD w a0 a39 a63 a64) (hIX : IX G.2.2.1 w P L pr O mp mk T dc tc) (hM : IM G.2.2.1 w P L pr O mp mk T t) (hO : OUTS G.2.2.1 w ou ov) (hIP : IP P L pr O mp mk T) (a : Int32) (s : Int32) : XC G mL_cost 8 (3) (18) [.ref a0, .int a, .int s, .ref a64] w (fun r w' => r = .inl (some (.int (nI (cdA a s P.1)))) ∧ AD w' a0 a39 a63 a64 ∧ IX G.2.2.1 w' P L pr O mp mk T dc tc ∧ IM G.2.2.1 w' P L pr O mp mk T t ∧ ∃ o' od', OUTS G.2.2.1 w' o' od' ∧ (cdA a s P.1 = 0 → od' 0 = FP.f2d ((priF P L pr (idx s) 5 (idx a))))) := by
  refine XC.of (lo0 := [(0, .ref a0), (1, .int a), (2, .int s), (3, .ref a64)]) kmL_cost (Nat.le_of_ble_eq_true rfl) rfl ?_
  refine X_aload_n dL_cost_0 (i := 3) rfl rfl ?_
  refine X_iconst (v := 0) dL_cost_1 (by decide) ?_
  refine X_aload_n dL_cost_2 (i := 0) rfl rfl ?_
  refine X_iload_n dL_cost_3 (i := 1) rfl rfl ?_
  refine X_iload_n dL_cost_4 (i := 2) rfl rfl ?_
  refine X_callV (gc2 := 0) (gs2 := 0) (cx_cost hA hIX hIP a s) (i := 0) hIX.1 hA.2.1 rfl kmX10_cost rfl lL_98 iX10_cost vX10_cost rfl rfl (Nat.le_of_ble_eq_true rfl) (by decide) dL_cost_5 (by omega) (by omega) (fun E w1 hq => ?_) (fun v w1 hq => ?_)
  · obtain ⟨hr, hX1, hF1⟩ := hq
    obtain ⟨kx, hcd, hE⟩ := xr_inr hr
    have hle : cdA a s P.1 ≤ 2 := cdA_le
    have hA1 := hA.fx hF1
    have hM1 := hM.fx hF1
    have hO1 := hO.fx hF1
    rcases kx with _ | _ | kx
    · have hE : E = "java/lang/IndexOutOfBoundsException" := hE
      subst hE
      refine XT.catch (name := "java/lang/IndexOutOfBoundsException") [] (0, 10, 13, 21) [(0, 10, 17, 13)] rfl (fun z hz => nomatch hz) ⟨by decide, by decide⟩ (by decide) cL_21 cast_IndexOutOfBoundsException (fun q => ?_)
      refine X_astore (i := 4) (lo' := [(4, _), (0, _), (1, _), (2, _), (3, _)]) dL_cost_13 (by decide) rfl ?_
      refine X_iconst (v := 1) dL_cost_15 (by decide) ?_
      refine X_ireturn dL_cost_16 rfl rfl ?_
      exact ⟨by rw [hcd]; rfl, hA1, hX1, hM1, ou, ov, hO1, fun h => absurd h (by rw [hcd]; decide)⟩
    · have hE : E = "java/lang/IllegalArgumentException" := hE
      subst hE
      refine XT.catch (name := "java/lang/IllegalArgumentException") [(0, 10, 13, 21)] (0, 10, 17, 13) [] rfl (List.forall_mem_cons.mpr ⟨⟨by decide, _, cL_21, List.mem_of_getElem? (i := 1) rfl⟩, (fun z hz => nomatch hz)⟩) ⟨by decide, by decide⟩ (by decide) cL_13 cast_IllegalArgumentException (fun q => ?_)
      refine X_astore (i := 4) (lo' := [(4, _), (0, _), (1, _), (2, _), (3, _)]) dL_cost_17 (by decide) rfl ?_
      refine X_iconst (v := 2) dL_cost_19 (by decide) ?_
      refine X_ireturn dL_cost_20 rfl rfl ?_
      exact ⟨by rw [hcd]; rfl, hA1, hX1, hM1, ou, ov, hO1, fun h => absurd h (by rw [hcd]; decide)⟩
    · exact absurd hcd (by omega)
  obtain ⟨hr, hX1, hF1⟩ := hq
  obtain ⟨hcd, hv⟩ := xr_inl hr
  cases hv
  have hA1 := hA.fx hF1
  have hM1 := hM.fx hF1
  have hO1 := hO.fx hF1
  refine X_f2d dL_cost_8 (ft_tovd (ft_f2d_nn (nn_cost hIP hcd))) ?_
  refine X_dast (i := 64) hO1.2 hA1.2.2.2.2 (show (0 : Int32) = nI 0 from rfl) (by decide) (by decide) dL_cost_9 (fun hc_9 => ?_)
  refine X_goto (tgt := 21) dL_cost_10 (by decide) ?_
  refine X_iconst (v := 0) dL_cost_21 (by decide) ?_
  refine X_ireturn dL_cost_22 rfl rfl ?_
  exact ⟨by rw [hcd]; rfl, hA1, hX1.s64, hM1.s64, _, _, ⟨hO1.1, ⟨hO1.2.1, rfl⟩⟩, fun _ => rfl⟩
set_option maxRecDepth 20000 in
theorem k_costByWalking {P : PSt} {L : LSt} {pr : Nat → Nat} {O : OSt} {mp : Nat} {mk : Nat → UInt32} {T : List Nat} {a0 a39 a63 a64 : Nat} {dc tc t : Nat} {ou : Nat → Int64} {ov : Nat → UInt64} (hA : AD w a0 a39 a63 a64) (hIX : IX G.2.2.1 w P L pr O mp mk T dc tc) (hM : IM G.2.2.1 w P L pr O mp mk T t) (hO : OUTS G.2.2.1 w ou ov) (hIP : IP P L pr O mp mk T) (a : Int32) (s : Int32) : XC G mL_costByWalking 8 (3) (18) [.ref a0, .int a, .int s, .ref a64] w (fun r w' => r = .inl (some (.int (nI (cdA a s P.1)))) ∧ AD w' a0 a39 a63 a64 ∧ IX G.2.2.1 w' P L pr O mp mk T dc tc ∧ IM G.2.2.1 w' P L pr O mp mk T t ∧ ∃ o' od', OUTS G.2.2.1 w' o' od' ∧ (cdA a s P.1 = 0 → od' 0 = FP.f2d ((priF P L pr (idx s) 5 (idx a))))) := by
  refine XC.of (lo0 := [(0, .ref a0), (1, .int a), (2, .int s), (3, .ref a64)]) kmL_costByWalking (Nat.le_of_ble_eq_true rfl) rfl ?_
  refine X_aload_n dL_costByWalking_0 (i := 3) rfl rfl ?_
  refine X_iconst (v := 0) dL_costByWalking_1 (by decide) ?_
  refine X_aload_n dL_costByWalking_2 (i := 0) rfl rfl ?_
  refine X_iload_n dL_costByWalking_3 (i := 1) rfl rfl ?_
  refine X_iload_n dL_costByWalking_4 (i := 2) rfl rfl ?_
  refine X_callV (gc2 := 0) (gs2 := 0) (cx_costByWalking hA hIX hIP a s) (i := 0) hIX.1 hA.2.1 rfl kmX10_costByWalking rfl lL_102 iX10_costByWalking vX10_costByWalking rfl rfl (Nat.le_of_ble_eq_true rfl) (by decide) dL_costByWalking_5 (by omega) (by omega) (fun E w1 hq => ?_) (fun v w1 hq => ?_)
  · obtain ⟨hr, hX1, hF1⟩ := hq
    obtain ⟨kx, hcd, hE⟩ := xr_inr hr
    have hle : cdA a s P.1 ≤ 2 := cdA_le
    have hA1 := hA.fx hF1
    have hM1 := hM.fx hF1
    have hO1 := hO.fx hF1
    rcases kx with _ | _ | kx
    · have hE : E = "java/lang/IndexOutOfBoundsException" := hE
      subst hE
      refine XT.catch (name := "java/lang/IndexOutOfBoundsException") [] (0, 10, 13, 21) [(0, 10, 17, 13)] rfl (fun z hz => nomatch hz) ⟨by decide, by decide⟩ (by decide) cL_21 cast_IndexOutOfBoundsException (fun q => ?_)
      refine X_astore (i := 4) (lo' := [(4, _), (0, _), (1, _), (2, _), (3, _)]) dL_costByWalking_13 (by decide) rfl ?_
      refine X_iconst (v := 1) dL_costByWalking_15 (by decide) ?_
      refine X_ireturn dL_costByWalking_16 rfl rfl ?_
      exact ⟨by rw [hcd]; rfl, hA1, hX1, hM1, ou, ov, hO1, fun h => absurd h (by rw [hcd]; decide)⟩
    · have hE : E = "java/lang/IllegalArgumentException" := hE
      subst hE
      refine XT.catch (name := "java/lang/IllegalArgumentException") [(0, 10, 13, 21)] (0, 10, 17, 13) [] rfl (List.forall_mem_cons.mpr ⟨⟨by decide, _, cL_21, List.mem_of_getElem? (i := 1) rfl⟩, (fun z hz => nomatch hz)⟩) ⟨by decide, by decide⟩ (by decide) cL_13 cast_IllegalArgumentException (fun q => ?_)
      refine X_astore (i := 4) (lo' := [(4, _), (0, _), (1, _), (2, _), (3, _)]) dL_costByWalking_17 (by decide) rfl ?_
      refine X_iconst (v := 2) dL_costByWalking_19 (by decide) ?_
      refine X_ireturn dL_costByWalking_20 rfl rfl ?_
      exact ⟨by rw [hcd]; rfl, hA1, hX1, hM1, ou, ov, hO1, fun h => absurd h (by rw [hcd]; decide)⟩
    · exact absurd hcd (by omega)
  obtain ⟨hr, hX1, hF1⟩ := hq
  obtain ⟨hcd, hv⟩ := xr_inl hr
  cases hv
  have hA1 := hA.fx hF1
  have hM1 := hM.fx hF1
  have hO1 := hO.fx hF1
  refine X_f2d dL_costByWalking_8 (ft_tovd (ft_f2d_nn (nn_costByWalking hIP hcd))) ?_
  refine X_dast (i := 64) hO1.2 hA1.2.2.2.2 (show (0 : Int32) = nI 0 from rfl) (by decide) (by decide) dL_costByWalking_9 (fun hc_9 => ?_)
  refine X_goto (tgt := 21) dL_costByWalking_10 (by decide) ?_
  refine X_iconst (v := 0) dL_costByWalking_21 (by decide) ?_
  refine X_ireturn dL_costByWalking_22 rfl rfl ?_
  exact ⟨by rw [hcd]; rfl, hA1, hX1.s64, hM1.s64, _, _, ⟨hO1.1, ⟨hO1.2.1, rfl⟩⟩, fun _ => rfl⟩
set_option maxRecDepth 20000 in
theorem k_costBits {P : PSt} {L : LSt} {pr : Nat → Nat} {O : OSt} {mp : Nat} {mk : Nat → UInt32} {T : List Nat} {a0 a39 a63 a64 : Nat} {dc tc t : Nat} {ou : Nat → Int64} {ov : Nat → UInt64} (hA : AD w a0 a39 a63 a64) (hIX : IX G.2.2.1 w P L pr O mp mk T dc tc) (hM : IM G.2.2.1 w P L pr O mp mk T t) (hO : OUTS G.2.2.1 w ou ov) (hIP : IP P L pr O mp mk T) (a : Int32) (s : Int32) : XC G mL_costBits 8 (3) (18) [.ref a0, .int a, .int s, .ref a63] w (fun r w' => r = .inl (some (.int (nI (cdA a s P.1)))) ∧ AD w' a0 a39 a63 a64 ∧ IX G.2.2.1 w' P L pr O mp mk T dc tc ∧ IM G.2.2.1 w' P L pr O mp mk T t ∧ ∃ o' od', OUTS G.2.2.1 w' o' od' ∧ (cdA a s P.1 = 0 → o' 0 = ((priF P L pr (idx s) 5 (idx a)).toInt32 : Int32).toInt64)) := by
  refine XC.of (lo0 := [(0, .ref a0), (1, .int a), (2, .int s), (3, .ref a63)]) kmL_costBits (Nat.le_of_ble_eq_true rfl) rfl ?_
  refine X_aload_n dL_costBits_0 (i := 3) rfl rfl ?_
  refine X_iconst (v := 0) dL_costBits_1 (by decide) ?_
  refine X_aload_n dL_costBits_2 (i := 0) rfl rfl ?_
  refine X_iload_n dL_costBits_3 (i := 1) rfl rfl ?_
  refine X_iload_n dL_costBits_4 (i := 2) rfl rfl ?_
  refine X_callV (gc2 := 0) (gs2 := 0) (cx_costBits hA hIX hIP a s) (i := 0) hIX.1 hA.2.1 rfl kmX10_costBits rfl lL_105 iX10_costBits vX10_costBits rfl rfl (Nat.le_of_ble_eq_true rfl) (by decide) dL_costBits_5 (by omega) (by omega) (fun E w1 hq => ?_) (fun v w1 hq => ?_)
  · obtain ⟨hr, hX1, hF1⟩ := hq
    obtain ⟨kx, hcd, hE⟩ := xr_inr hr
    have hle : cdA a s P.1 ≤ 2 := cdA_le
    have hA1 := hA.fx hF1
    have hM1 := hM.fx hF1
    have hO1 := hO.fx hF1
    rcases kx with _ | _ | kx
    · have hE : E = "java/lang/IndexOutOfBoundsException" := hE
      subst hE
      refine XT.catch (name := "java/lang/IndexOutOfBoundsException") [] (0, 10, 13, 21) [(0, 10, 17, 13)] rfl (fun z hz => nomatch hz) ⟨by decide, by decide⟩ (by decide) cL_21 cast_IndexOutOfBoundsException (fun q => ?_)
      refine X_astore (i := 4) (lo' := [(4, _), (0, _), (1, _), (2, _), (3, _)]) dL_costBits_13 (by decide) rfl ?_
      refine X_iconst (v := 1) dL_costBits_15 (by decide) ?_
      refine X_ireturn dL_costBits_16 rfl rfl ?_
      exact ⟨by rw [hcd]; rfl, hA1, hX1, hM1, ou, ov, hO1, fun h => absurd h (by rw [hcd]; decide)⟩
    · have hE : E = "java/lang/IllegalArgumentException" := hE
      subst hE
      refine XT.catch (name := "java/lang/IllegalArgumentException") [(0, 10, 13, 21)] (0, 10, 17, 13) [] rfl (List.forall_mem_cons.mpr ⟨⟨by decide, _, cL_21, List.mem_of_getElem? (i := 1) rfl⟩, (fun z hz => nomatch hz)⟩) ⟨by decide, by decide⟩ (by decide) cL_13 cast_IllegalArgumentException (fun q => ?_)
      refine X_astore (i := 4) (lo' := [(4, _), (0, _), (1, _), (2, _), (3, _)]) dL_costBits_17 (by decide) rfl ?_
      refine X_iconst (v := 2) dL_costBits_19 (by decide) ?_
      refine X_ireturn dL_costBits_20 rfl rfl ?_
      exact ⟨by rw [hcd]; rfl, hA1, hX1, hM1, ou, ov, hO1, fun h => absurd h (by rw [hcd]; decide)⟩
    · exact absurd hcd (by omega)
  obtain ⟨hr, hX1, hF1⟩ := hq
  obtain ⟨hcd, hv⟩ := xr_inl hr
  cases hv
  have hA1 := hA.fx hF1
  have hM1 := hM.fx hF1
  have hO1 := hO.fx hF1
  refine X_i2l dL_costBits_8 rfl ?_
  refine X_last (i := 63) hO1.1 hA1.2.2.2.1 (show (0 : Int32) = nI 0 from rfl) (by decide) (by decide) dL_costBits_9 (fun hc_9 => ?_)
  refine X_goto (tgt := 21) dL_costBits_10 (by decide) ?_
  refine X_iconst (v := 0) dL_costBits_21 (by decide) ?_
  refine X_ireturn dL_costBits_22 rfl rfl ?_
  exact ⟨by rw [hcd]; rfl, hA1, hX1.s63, hM1.s63, _, _, ⟨⟨hO1.1.1, rfl⟩, hO1.2⟩, fun _ => rfl⟩
set_option maxRecDepth 20000 in
theorem k_costCents {P : PSt} {L : LSt} {pr : Nat → Nat} {O : OSt} {mp : Nat} {mk : Nat → UInt32} {T : List Nat} {a0 a39 a63 a64 : Nat} {dc tc t : Nat} {ou : Nat → Int64} {ov : Nat → UInt64} (hA : AD w a0 a39 a63 a64) (hIX : IX G.2.2.1 w P L pr O mp mk T dc tc) (hM : IM G.2.2.1 w P L pr O mp mk T t) (hO : OUTS G.2.2.1 w ou ov) (hIP : IP P L pr O mp mk T) (a : Int32) (s : Int32) : XC G mL_costCents 8 (3) (18) [.ref a0, .int a, .int s, .ref a63] w (fun r w' => r = .inl (some (.int (nI (cdA a s P.1)))) ∧ AD w' a0 a39 a63 a64 ∧ IX G.2.2.1 w' P L pr O mp mk T dc tc ∧ IM G.2.2.1 w' P L pr O mp mk T t ∧ ∃ o' od', OUTS G.2.2.1 w' o' od' ∧ (cdA a s P.1 = 0 → o' 0 = (FP.f2i (FP.fmul (priF P L pr (idx s) 5 (idx a)) 1120403456) : Int32).toInt64)) := by
  refine XC.of (lo0 := [(0, .ref a0), (1, .int a), (2, .int s), (3, .ref a63)]) kmL_costCents (Nat.le_of_ble_eq_true rfl) rfl ?_
  refine X_aload_n dL_costCents_0 (i := 3) rfl rfl ?_
  refine X_iconst (v := 0) dL_costCents_1 (by decide) ?_
  refine X_aload_n dL_costCents_2 (i := 0) rfl rfl ?_
  refine X_iload_n dL_costCents_3 (i := 1) rfl rfl ?_
  refine X_iload_n dL_costCents_4 (i := 2) rfl rfl ?_
  refine X_callV (gc2 := 0) (gs2 := 0) (cx_costCents hA hIX hIP a s) (i := 0) hIX.1 hA.2.1 rfl kmX10_costCents rfl lL_108 iX10_costCents vX10_costCents rfl rfl (Nat.le_of_ble_eq_true rfl) (by decide) dL_costCents_5 (by omega) (by omega) (fun E w1 hq => ?_) (fun v w1 hq => ?_)
  · obtain ⟨hr, hX1, hF1⟩ := hq
    obtain ⟨kx, hcd, hE⟩ := xr_inr hr
    have hle : cdA a s P.1 ≤ 2 := cdA_le
    have hA1 := hA.fx hF1
    have hM1 := hM.fx hF1
    have hO1 := hO.fx hF1
    rcases kx with _ | _ | kx
    · have hE : E = "java/lang/IndexOutOfBoundsException" := hE
      subst hE
      refine XT.catch (name := "java/lang/IndexOutOfBoundsException") [] (0, 10, 13, 21) [(0, 10, 17, 13)] rfl (fun z hz => nomatch hz) ⟨by decide, by decide⟩ (by decide) cL_21 cast_IndexOutOfBoundsException (fun q => ?_)
      refine X_astore (i := 4) (lo' := [(4, _), (0, _), (1, _), (2, _), (3, _)]) dL_costCents_13 (by decide) rfl ?_
      refine X_iconst (v := 1) dL_costCents_15 (by decide) ?_
      refine X_ireturn dL_costCents_16 rfl rfl ?_
      exact ⟨by rw [hcd]; rfl, hA1, hX1, hM1, ou, ov, hO1, fun h => absurd h (by rw [hcd]; decide)⟩
    · have hE : E = "java/lang/IllegalArgumentException" := hE
      subst hE
      refine XT.catch (name := "java/lang/IllegalArgumentException") [(0, 10, 13, 21)] (0, 10, 17, 13) [] rfl (List.forall_mem_cons.mpr ⟨⟨by decide, _, cL_21, List.mem_of_getElem? (i := 1) rfl⟩, (fun z hz => nomatch hz)⟩) ⟨by decide, by decide⟩ (by decide) cL_13 cast_IllegalArgumentException (fun q => ?_)
      refine X_astore (i := 4) (lo' := [(4, _), (0, _), (1, _), (2, _), (3, _)]) dL_costCents_17 (by decide) rfl ?_
      refine X_iconst (v := 2) dL_costCents_19 (by decide) ?_
      refine X_ireturn dL_costCents_20 rfl rfl ?_
      exact ⟨by rw [hcd]; rfl, hA1, hX1, hM1, ou, ov, hO1, fun h => absurd h (by rw [hcd]; decide)⟩
    · exact absurd hcd (by omega)
  obtain ⟨hr, hX1, hF1⟩ := hq
  obtain ⟨hcd, hv⟩ := xr_inl hr
  cases hv
  have hA1 := hA.fx hF1
  have hM1 := hM.fx hF1
  have hO1 := hO.fx hF1
  refine X_i2l dL_costCents_8 rfl ?_
  refine X_last (i := 63) hO1.1 hA1.2.2.2.1 (show (0 : Int32) = nI 0 from rfl) (by decide) (by decide) dL_costCents_9 (fun hc_9 => ?_)
  refine X_goto (tgt := 21) dL_costCents_10 (by decide) ?_
  refine X_iconst (v := 0) dL_costCents_21 (by decide) ?_
  refine X_ireturn dL_costCents_22 rfl rfl ?_
  exact ⟨by rw [hcd]; rfl, hA1, hX1.s63, hM1.s63, _, _, ⟨⟨hO1.1.1, rfl⟩, hO1.2⟩, fun _ => rfl⟩
set_option maxRecDepth 20000 in
theorem k_dearest {P : PSt} {L : LSt} {pr : Nat → Nat} {O : OSt} {mp : Nat} {mk : Nat → UInt32} {T : List Nat} {a0 a39 a63 a64 : Nat} {dc tc t : Nat} {ou : Nat → Int64} {ov : Nat → UInt64} (hA : AD w a0 a39 a63 a64) (hIX : IX G.2.2.1 w P L pr O mp mk T dc tc) (hM : IM G.2.2.1 w P L pr O mp mk T t) (hO : OUTS G.2.2.1 w ou ov) (hIP : IP P L pr O mp mk T) (a : Int32) (s : Int32) : XC G mL_dearest 8 (4) (24) [.ref a0, .int a, .int s, .ref a63] w (fun r w' => r = .inl (some (.int (nI (cdD a s P.1 (dstF L pr (idx s) (idx a) (mrF L (priF P L pr (idx s) 5)) 6))))) ∧ AD w' a0 a39 a63 a64 ∧ IX G.2.2.1 w' P L pr O mp mk T dc tc ∧ IM G.2.2.1 w' P L pr O mp mk T t ∧ ∃ o' od', OUTS G.2.2.1 w' o' od' ∧ (cdD a s P.1 (dstF L pr (idx s) (idx a) (mrF L (priF P L pr (idx s) 5)) 6) = 0 → o' 0 = (oI (dstF L pr (idx s) (idx a) (mrF L (priF P L pr (idx s) 5)) 6) : Int32).toInt64)) := by
  refine XC.of (lo0 := [(0, .ref a0), (1, .int a), (2, .int s), (3, .ref a63)]) kmL_dearest (Nat.le_of_ble_eq_true rfl) rfl ?_
  refine X_aload_n dL_dearest_0 (i := 3) rfl rfl ?_
  refine X_iconst (v := 0) dL_dearest_1 (by decide) ?_
  refine X_aload_n dL_dearest_2 (i := 0) rfl rfl ?_
  refine X_iload_n dL_dearest_3 (i := 1) rfl rfl ?_
  refine X_iload_n dL_dearest_4 (i := 2) rfl rfl ?_
  refine X_callV (gc2 := 0) (gs2 := 0) (cx_dearest hA hIX hIP a s) (i := 0) hIX.1 hA.2.1 rfl kmX10_dearest rfl lL_111 iX10_dearest vX10_dearest rfl rfl (Nat.le_of_ble_eq_true rfl) (by decide) dL_dearest_5 (by omega) (by omega) (fun E w1 hq => ?_) (fun v w1 hq => ?_)
  · obtain ⟨hr, hX1, hF1⟩ := hq
    obtain ⟨kx, hcd, hE⟩ := xr_inr hr
    have hle : cdD a s P.1 (dstF L pr (idx s) (idx a) (mrF L (priF P L pr (idx s) 5)) 6) ≤ 3 := cdD_le
    have hA1 := hA.fx hF1
    have hM1 := hM.fx hF1
    have hO1 := hO.fx hF1
    rcases kx with _ | _ | _ | kx
    · have hE : E = "java/lang/IndexOutOfBoundsException" := hE
      subst hE
      refine XT.catch (name := "java/lang/IndexOutOfBoundsException") [] (0, 10, 13, 21) [(0, 10, 17, 13), (0, 10, 21, 74)] rfl (fun z hz => nomatch hz) ⟨by decide, by decide⟩ (by decide) cL_21 cast_IndexOutOfBoundsException (fun q => ?_)
      refine X_astore (i := 4) (lo' := [(4, _), (0, _), (1, _), (2, _), (3, _)]) dL_dearest_13 (by decide) rfl ?_
      refine X_iconst (v := 1) dL_dearest_15 (by decide) ?_
      refine X_ireturn dL_dearest_16 rfl rfl ?_
      exact ⟨by rw [hcd]; rfl, hA1, hX1, hM1, ou, ov, hO1, fun h => absurd h (by rw [hcd]; decide)⟩
    · have hE : E = "java/lang/IllegalArgumentException" := hE
      subst hE
      refine XT.catch (name := "java/lang/IllegalArgumentException") [(0, 10, 13, 21)] (0, 10, 17, 13) [(0, 10, 21, 74)] rfl (List.forall_mem_cons.mpr ⟨⟨by decide, _, cL_21, List.mem_of_getElem? (i := 1) rfl⟩, (fun z hz => nomatch hz)⟩) ⟨by decide, by decide⟩ (by decide) cL_13 cast_IllegalArgumentException (fun q => ?_)
      refine X_astore (i := 4) (lo' := [(4, _), (0, _), (1, _), (2, _), (3, _)]) dL_dearest_17 (by decide) rfl ?_
      refine X_iconst (v := 2) dL_dearest_19 (by decide) ?_
      refine X_ireturn dL_dearest_20 rfl rfl ?_
      exact ⟨by rw [hcd]; rfl, hA1, hX1, hM1, ou, ov, hO1, fun h => absurd h (by rw [hcd]; decide)⟩
    · have hE : E = "java/util/NoSuchElementException" := hE
      subst hE
      refine XT.catch (name := "java/util/NoSuchElementException") [(0, 10, 13, 21), (0, 10, 17, 13)] (0, 10, 21, 74) [] rfl (List.forall_mem_cons.mpr ⟨⟨by decide, _, cL_21, List.mem_of_getElem? (i := 18) rfl⟩, (List.forall_mem_cons.mpr ⟨⟨by decide, _, cL_13, List.mem_of_getElem? (i := 16) rfl⟩, (fun z hz => nomatch hz)⟩)⟩) ⟨by decide, by decide⟩ (by decide) cL_74 cast_NoSuchElementException (fun q => ?_)
      refine X_astore (i := 4) (lo' := [(4, _), (0, _), (1, _), (2, _), (3, _)]) dL_dearest_21 (by decide) rfl ?_
      refine X_iconst (v := 3) dL_dearest_23 (by decide) ?_
      refine X_ireturn dL_dearest_24 rfl rfl ?_
      exact ⟨by rw [hcd]; rfl, hA1, hX1, hM1, ou, ov, hO1, fun h => absurd h (by rw [hcd]; decide)⟩
    · exact absurd hcd (by omega)
  obtain ⟨hr, hX1, hF1⟩ := hq
  obtain ⟨hcd, hv⟩ := xr_inl hr
  cases hv
  have hA1 := hA.fx hF1
  have hM1 := hM.fx hF1
  have hO1 := hO.fx hF1
  refine X_i2l dL_dearest_8 rfl ?_
  refine X_last (i := 63) hO1.1 hA1.2.2.2.1 (show (0 : Int32) = nI 0 from rfl) (by decide) (by decide) dL_dearest_9 (fun hc_9 => ?_)
  refine X_goto (tgt := 25) dL_dearest_10 (by decide) ?_
  refine X_iconst (v := 0) dL_dearest_25 (by decide) ?_
  refine X_ireturn dL_dearest_26 rfl rfl ?_
  exact ⟨by rw [hcd]; rfl, hA1, hX1.s63, hM1.s63, _, _, ⟨⟨hO1.1.1, rfl⟩, hO1.2⟩, fun _ => rfl⟩
set_option maxRecDepth 20000 in
theorem k_weight {P : PSt} {L : LSt} {pr : Nat → Nat} {O : OSt} {mp : Nat} {mk : Nat → UInt32} {T : List Nat} {a0 a39 a63 a64 : Nat} {dc tc t : Nat} {ou : Nat → Int64} {ov : Nat → UInt64} (hA : AD w a0 a39 a63 a64) (hIX : IX G.2.2.1 w P L pr O mp mk T dc tc) (hM : IM G.2.2.1 w P L pr O mp mk T t) (hO : OUTS G.2.2.1 w ou ov) (hIP : IP P L pr O mp mk T) (a : Int32) (s : Int32) : XC G mL_weight 8 (3) (18) [.ref a0, .int a, .int s, .ref a64] w (fun r w' => r = .inl (some (.int (nI (cdA a s P.1)))) ∧ AD w' a0 a39 a63 a64 ∧ IX G.2.2.1 w' P L pr O mp mk T dc tc ∧ IM G.2.2.1 w' P L pr O mp mk T t ∧ ∃ o' od', OUTS G.2.2.1 w' o' od' ∧ (cdA a s P.1 = 0 → od' 0 = (masF P L pr (idx s) 5 (idx a)))) := by
  refine XC.of (lo0 := [(0, .ref a0), (1, .int a), (2, .int s), (3, .ref a64)]) kmL_weight (Nat.le_of_ble_eq_true rfl) rfl ?_
  refine X_aload_n dL_weight_0 (i := 3) rfl rfl ?_
  refine X_iconst (v := 0) dL_weight_1 (by decide) ?_
  refine X_aload_n dL_weight_2 (i := 0) rfl rfl ?_
  refine X_iload_n dL_weight_3 (i := 1) rfl rfl ?_
  refine X_iload_n dL_weight_4 (i := 2) rfl rfl ?_
  refine X_callV (gc2 := 0) (gs2 := 0) (cx_weight hA hIX hIP a s) (i := 0) hIX.1 hA.2.1 rfl kmX10_weight rfl lL_114 iX10_weight vX10_weight rfl rfl (Nat.le_of_ble_eq_true rfl) (by decide) dL_weight_5 (by omega) (by omega) (fun E w1 hq => ?_) (fun v w1 hq => ?_)
  · obtain ⟨hr, hX1, hF1⟩ := hq
    obtain ⟨kx, hcd, hE⟩ := xr_inr hr
    have hle : cdA a s P.1 ≤ 2 := cdA_le
    have hA1 := hA.fx hF1
    have hM1 := hM.fx hF1
    have hO1 := hO.fx hF1
    rcases kx with _ | _ | kx
    · have hE : E = "java/lang/IndexOutOfBoundsException" := hE
      subst hE
      refine XT.catch (name := "java/lang/IndexOutOfBoundsException") [] (0, 9, 12, 21) [(0, 9, 16, 13)] rfl (fun z hz => nomatch hz) ⟨by decide, by decide⟩ (by decide) cL_21 cast_IndexOutOfBoundsException (fun q => ?_)
      refine X_astore (i := 4) (lo' := [(4, _), (0, _), (1, _), (2, _), (3, _)]) dL_weight_12 (by decide) rfl ?_
      refine X_iconst (v := 1) dL_weight_14 (by decide) ?_
      refine X_ireturn dL_weight_15 rfl rfl ?_
      exact ⟨by rw [hcd]; rfl, hA1, hX1, hM1, ou, ov, hO1, fun h => absurd h (by rw [hcd]; decide)⟩
    · have hE : E = "java/lang/IllegalArgumentException" := hE
      subst hE
      refine XT.catch (name := "java/lang/IllegalArgumentException") [(0, 9, 12, 21)] (0, 9, 16, 13) [] rfl (List.forall_mem_cons.mpr ⟨⟨by decide, _, cL_21, List.mem_of_getElem? (i := 1) rfl⟩, (fun z hz => nomatch hz)⟩) ⟨by decide, by decide⟩ (by decide) cL_13 cast_IllegalArgumentException (fun q => ?_)
      refine X_astore (i := 4) (lo' := [(4, _), (0, _), (1, _), (2, _), (3, _)]) dL_weight_16 (by decide) rfl ?_
      refine X_iconst (v := 2) dL_weight_18 (by decide) ?_
      refine X_ireturn dL_weight_19 rfl rfl ?_
      exact ⟨by rw [hcd]; rfl, hA1, hX1, hM1, ou, ov, hO1, fun h => absurd h (by rw [hcd]; decide)⟩
    · exact absurd hcd (by omega)
  obtain ⟨hr, hX1, hF1⟩ := hq
  obtain ⟨hcd, hv⟩ := xr_inl hr
  cases hv
  have hA1 := hA.fx hF1
  have hM1 := hM.fx hF1
  have hO1 := hO.fx hF1
  refine X_dast (i := 64) hO1.2 hA1.2.2.2.2 (show (0 : Int32) = nI 0 from rfl) (by decide) (by decide) dL_weight_8 (fun hc_8 => ?_)
  refine X_goto (tgt := 20) dL_weight_9 (by decide) ?_
  refine X_iconst (v := 0) dL_weight_20 (by decide) ?_
  refine X_ireturn dL_weight_21 rfl rfl ?_
  exact ⟨by rw [hcd]; rfl, hA1, hX1.s64, hM1.s64, _, _, ⟨hO1.1, ⟨hO1.2.1, rfl⟩⟩, fun _ => rfl⟩
set_option maxRecDepth 20000 in
theorem k_weightBits {P : PSt} {L : LSt} {pr : Nat → Nat} {O : OSt} {mp : Nat} {mk : Nat → UInt32} {T : List Nat} {a0 a39 a63 a64 : Nat} {dc tc t : Nat} {ou : Nat → Int64} {ov : Nat → UInt64} (hA : AD w a0 a39 a63 a64) (hIX : IX G.2.2.1 w P L pr O mp mk T dc tc) (hM : IM G.2.2.1 w P L pr O mp mk T t) (hO : OUTS G.2.2.1 w ou ov) (hIP : IP P L pr O mp mk T) (a : Int32) (s : Int32) : XC G mL_weightBits 8 (3) (18) [.ref a0, .int a, .int s, .ref a63] w (fun r w' => r = .inl (some (.int (nI (cdA a s P.1)))) ∧ AD w' a0 a39 a63 a64 ∧ IX G.2.2.1 w' P L pr O mp mk T dc tc ∧ IM G.2.2.1 w' P L pr O mp mk T t ∧ ∃ o' od', OUTS G.2.2.1 w' o' od' ∧ (cdA a s P.1 = 0 → o' 0 = (masF P L pr (idx s) 5 (idx a)).toInt64)) := by
  refine XC.of (lo0 := [(0, .ref a0), (1, .int a), (2, .int s), (3, .ref a63)]) kmL_weightBits (Nat.le_of_ble_eq_true rfl) rfl ?_
  refine X_aload_n dL_weightBits_0 (i := 3) rfl rfl ?_
  refine X_iconst (v := 0) dL_weightBits_1 (by decide) ?_
  refine X_aload_n dL_weightBits_2 (i := 0) rfl rfl ?_
  refine X_iload_n dL_weightBits_3 (i := 1) rfl rfl ?_
  refine X_iload_n dL_weightBits_4 (i := 2) rfl rfl ?_
  refine X_callV (gc2 := 0) (gs2 := 0) (cx_weightBits hA hIX hIP a s) (i := 0) hIX.1 hA.2.1 rfl kmX10_weightBits rfl lL_118 iX10_weightBits vX10_weightBits rfl rfl (Nat.le_of_ble_eq_true rfl) (by decide) dL_weightBits_5 (by omega) (by omega) (fun E w1 hq => ?_) (fun v w1 hq => ?_)
  · obtain ⟨hr, hX1, hF1⟩ := hq
    obtain ⟨kx, hcd, hE⟩ := xr_inr hr
    have hle : cdA a s P.1 ≤ 2 := cdA_le
    have hA1 := hA.fx hF1
    have hM1 := hM.fx hF1
    have hO1 := hO.fx hF1
    rcases kx with _ | _ | kx
    · have hE : E = "java/lang/IndexOutOfBoundsException" := hE
      subst hE
      refine XT.catch (name := "java/lang/IndexOutOfBoundsException") [] (0, 9, 12, 21) [(0, 9, 16, 13)] rfl (fun z hz => nomatch hz) ⟨by decide, by decide⟩ (by decide) cL_21 cast_IndexOutOfBoundsException (fun q => ?_)
      refine X_astore (i := 4) (lo' := [(4, _), (0, _), (1, _), (2, _), (3, _)]) dL_weightBits_12 (by decide) rfl ?_
      refine X_iconst (v := 1) dL_weightBits_14 (by decide) ?_
      refine X_ireturn dL_weightBits_15 rfl rfl ?_
      exact ⟨by rw [hcd]; rfl, hA1, hX1, hM1, ou, ov, hO1, fun h => absurd h (by rw [hcd]; decide)⟩
    · have hE : E = "java/lang/IllegalArgumentException" := hE
      subst hE
      refine XT.catch (name := "java/lang/IllegalArgumentException") [(0, 9, 12, 21)] (0, 9, 16, 13) [] rfl (List.forall_mem_cons.mpr ⟨⟨by decide, _, cL_21, List.mem_of_getElem? (i := 1) rfl⟩, (fun z hz => nomatch hz)⟩) ⟨by decide, by decide⟩ (by decide) cL_13 cast_IllegalArgumentException (fun q => ?_)
      refine X_astore (i := 4) (lo' := [(4, _), (0, _), (1, _), (2, _), (3, _)]) dL_weightBits_16 (by decide) rfl ?_
      refine X_iconst (v := 2) dL_weightBits_18 (by decide) ?_
      refine X_ireturn dL_weightBits_19 rfl rfl ?_
      exact ⟨by rw [hcd]; rfl, hA1, hX1, hM1, ou, ov, hO1, fun h => absurd h (by rw [hcd]; decide)⟩
    · exact absurd hcd (by omega)
  obtain ⟨hr, hX1, hF1⟩ := hq
  obtain ⟨hcd, hv⟩ := xr_inl hr
  cases hv
  have hA1 := hA.fx hF1
  have hM1 := hM.fx hF1
  have hO1 := hO.fx hF1
  refine X_last (i := 63) hO1.1 hA1.2.2.2.1 (show (0 : Int32) = nI 0 from rfl) (by decide) (by decide) dL_weightBits_8 (fun hc_8 => ?_)
  refine X_goto (tgt := 20) dL_weightBits_9 (by decide) ?_
  refine X_iconst (v := 0) dL_weightBits_20 (by decide) ?_
  refine X_ireturn dL_weightBits_21 rfl rfl ?_
  exact ⟨by rw [hcd]; rfl, hA1, hX1.s63, hM1.s63, _, _, ⟨⟨hO1.1.1, rfl⟩, hO1.2⟩, fun _ => rfl⟩
set_option maxRecDepth 20000 in
theorem k_markCosts {P : PSt} {L : LSt} {pr : Nat → Nat} {O : OSt} {mp : Nat} {mk : Nat → UInt32} {T : List Nat} {a0 a39 a63 a64 : Nat} {dc tc t : Nat} {ou : Nat → Int64} {ov : Nat → UInt64} (hA : AD w a0 a39 a63 a64) (hIX : IX G.2.2.1 w P L pr O mp mk T dc tc) (hM : IM G.2.2.1 w P L pr O mp mk T t) (hO : OUTS G.2.2.1 w ou ov) (hIP : IP P L pr O mp mk T) (s : Int32) : XC G mL_markCosts 8 (2) (12) [.ref a0, .int s, .ref a63] w (fun r w' => r = .inl (some (.int (nI (cdM s)))) ∧ AD w' a0 a39 a63 a64 ∧ IX G.2.2.1 w' P L pr O (if (cdM s) = 0 then P.1 else mp) (if (cdM s) = 0 then (fun x => priF P L pr (idx s) 5 x) else mk) T dc tc ∧ IM G.2.2.1 w' P L pr O mp mk T t ∧ ∃ o' od', OUTS G.2.2.1 w' o' od' ∧ (cdM s = 0 → o' 0 = (nI P.1 : Int32).toInt64)) := by
  refine XC.of (lo0 := [(0, .ref a0), (1, .int s), (2, .ref a63)]) kmL_markCosts (Nat.le_of_ble_eq_true rfl) rfl ?_
  refine X_aload_n dL_markCosts_0 (i := 2) rfl rfl ?_
  refine X_iconst (v := 0) dL_markCosts_1 (by decide) ?_
  refine X_aload_n dL_markCosts_2 (i := 0) rfl rfl ?_
  refine X_iload_n dL_markCosts_3 (i := 1) rfl rfl ?_
  refine X_callV (gc2 := 0) (gs2 := 0) (cx_markCosts hA hIX hIP s) (i := 0) hIX.1 hA.2.1 rfl kmX10_markCosts rfl lL_122 iX10_markCosts vX10_markCosts rfl rfl (Nat.le_of_ble_eq_true rfl) (by decide) dL_markCosts_4 (by omega) (by omega) (fun E w1 hq => ?_) (fun v w1 hq => ?_)
  · obtain ⟨hr, hX1, hF1⟩ := hq
    obtain ⟨kx, hcd, hE⟩ := xr_inr hr
    have hle : cdM s ≤ 1 := cdM_le
    have hA1 := hA.fx hF1
    have hM1 := hM.fx hF1
    have hO1 := hO.fx hF1
    rcases kx with _ | kx
    · have hE : E = "java/lang/IllegalArgumentException" := hE
      subst hE
      refine XT.catch (name := "java/lang/IllegalArgumentException") [] (0, 9, 12, 13) [] rfl (fun z hz => nomatch hz) ⟨by decide, by decide⟩ (by decide) cL_13 cast_IllegalArgumentException (fun q => ?_)
      refine X_astore_n (i := 3) (lo' := [(3, _), (0, _), (1, _), (2, _)]) dL_markCosts_12 rfl (by decide) rfl ?_
      refine X_iconst (v := 1) dL_markCosts_13 (by decide) ?_
      refine X_ireturn dL_markCosts_14 rfl rfl ?_
      exact ⟨by rw [hcd]; rfl, hA1, hX1, hM1, ou, ov, hO1, fun h => absurd h (by rw [hcd]; decide)⟩
    · exact absurd hcd (by omega)
  obtain ⟨hr, hX1, hF1⟩ := hq
  obtain ⟨hcd, hv⟩ := xr_inl hr
  cases hv
  have hA1 := hA.fx hF1
  have hM1 := hM.fx hF1
  have hO1 := hO.fx hF1
  refine X_i2l dL_markCosts_7 rfl ?_
  refine X_last (i := 63) hO1.1 hA1.2.2.2.1 (show (0 : Int32) = nI 0 from rfl) (by decide) (by decide) dL_markCosts_8 (fun hc_8 => ?_)
  refine X_goto (tgt := 15) dL_markCosts_9 (by decide) ?_
  refine X_iconst (v := 0) dL_markCosts_15 (by decide) ?_
  refine X_ireturn dL_markCosts_16 rfl rfl ?_
  exact ⟨by rw [hcd]; rfl, hA1, hX1.s63, hM1.s63, _, _, ⟨⟨hO1.1.1, rfl⟩, hO1.2⟩, fun _ => rfl⟩
set_option maxRecDepth 20000 in
theorem k_costChange {P : PSt} {L : LSt} {pr : Nat → Nat} {O : OSt} {mp : Nat} {mk : Nat → UInt32} {T : List Nat} {a0 a39 a63 a64 : Nat} {dc tc t : Nat} {ou : Nat → Int64} {ov : Nat → UInt64} (hA : AD w a0 a39 a63 a64) (hIX : IX G.2.2.1 w P L pr O mp mk T dc tc) (hM : IM G.2.2.1 w P L pr O mp mk T t) (hO : OUTS G.2.2.1 w ou ov) (hIP : IP P L pr O mp mk T) (a : Int32) (s : Int32) : XC G mL_costChange 8 (4) (24) [.ref a0, .int a, .int s, .ref a64] w (fun r w' => r = .inl (some (.int (nI (cdH a s P.1 mp)))) ∧ AD w' a0 a39 a63 a64 ∧ IX G.2.2.1 w' P L pr O mp mk T dc tc ∧ IM G.2.2.1 w' P L pr O mp mk T t ∧ ∃ o' od', OUTS G.2.2.1 w' o' od' ∧ (cdH a s P.1 mp = 0 → od' 0 = FP.f2d (FP.fsub (priF P L pr (idx s) 5 (idx a)) (mk (idx a))))) := by
  refine XC.of (lo0 := [(0, .ref a0), (1, .int a), (2, .int s), (3, .ref a64)]) kmL_costChange (Nat.le_of_ble_eq_true rfl) rfl ?_
  refine X_aload_n dL_costChange_0 (i := 3) rfl rfl ?_
  refine X_iconst (v := 0) dL_costChange_1 (by decide) ?_
  refine X_aload_n dL_costChange_2 (i := 0) rfl rfl ?_
  refine X_iload_n dL_costChange_3 (i := 1) rfl rfl ?_
  refine X_iload_n dL_costChange_4 (i := 2) rfl rfl ?_
  refine X_callV (gc2 := 0) (gs2 := 0) (cx_costChange hA hIX hIP a s) (i := 0) hIX.1 hA.2.1 rfl kmX10_costChange rfl lL_125 iX10_costChange vX10_costChange rfl rfl (Nat.le_of_ble_eq_true rfl) (by decide) dL_costChange_5 (by omega) (by omega) (fun E w1 hq => ?_) (fun v w1 hq => ?_)
  · obtain ⟨hr, hX1, hF1⟩ := hq
    obtain ⟨kx, hcd, hE⟩ := xr_inr hr
    have hle : cdH a s P.1 mp ≤ 3 := cdH_le
    have hA1 := hA.fx hF1
    have hM1 := hM.fx hF1
    have hO1 := hO.fx hF1
    rcases kx with _ | _ | _ | kx
    · have hE : E = "java/lang/IndexOutOfBoundsException" := hE
      subst hE
      refine XT.catch (name := "java/lang/IndexOutOfBoundsException") [] (0, 10, 13, 21) [(0, 10, 17, 13), (0, 10, 21, 74)] rfl (fun z hz => nomatch hz) ⟨by decide, by decide⟩ (by decide) cL_21 cast_IndexOutOfBoundsException (fun q => ?_)
      refine X_astore (i := 4) (lo' := [(4, _), (0, _), (1, _), (2, _), (3, _)]) dL_costChange_13 (by decide) rfl ?_
      refine X_iconst (v := 1) dL_costChange_15 (by decide) ?_
      refine X_ireturn dL_costChange_16 rfl rfl ?_
      exact ⟨by rw [hcd]; rfl, hA1, hX1, hM1, ou, ov, hO1, fun h => absurd h (by rw [hcd]; decide)⟩
    · have hE : E = "java/lang/IllegalArgumentException" := hE
      subst hE
      refine XT.catch (name := "java/lang/IllegalArgumentException") [(0, 10, 13, 21)] (0, 10, 17, 13) [(0, 10, 21, 74)] rfl (List.forall_mem_cons.mpr ⟨⟨by decide, _, cL_21, List.mem_of_getElem? (i := 1) rfl⟩, (fun z hz => nomatch hz)⟩) ⟨by decide, by decide⟩ (by decide) cL_13 cast_IllegalArgumentException (fun q => ?_)
      refine X_astore (i := 4) (lo' := [(4, _), (0, _), (1, _), (2, _), (3, _)]) dL_costChange_17 (by decide) rfl ?_
      refine X_iconst (v := 2) dL_costChange_19 (by decide) ?_
      refine X_ireturn dL_costChange_20 rfl rfl ?_
      exact ⟨by rw [hcd]; rfl, hA1, hX1, hM1, ou, ov, hO1, fun h => absurd h (by rw [hcd]; decide)⟩
    · have hE : E = "java/util/NoSuchElementException" := hE
      subst hE
      refine XT.catch (name := "java/util/NoSuchElementException") [(0, 10, 13, 21), (0, 10, 17, 13)] (0, 10, 21, 74) [] rfl (List.forall_mem_cons.mpr ⟨⟨by decide, _, cL_21, List.mem_of_getElem? (i := 18) rfl⟩, (List.forall_mem_cons.mpr ⟨⟨by decide, _, cL_13, List.mem_of_getElem? (i := 16) rfl⟩, (fun z hz => nomatch hz)⟩)⟩) ⟨by decide, by decide⟩ (by decide) cL_74 cast_NoSuchElementException (fun q => ?_)
      refine X_astore (i := 4) (lo' := [(4, _), (0, _), (1, _), (2, _), (3, _)]) dL_costChange_21 (by decide) rfl ?_
      refine X_iconst (v := 3) dL_costChange_23 (by decide) ?_
      refine X_ireturn dL_costChange_24 rfl rfl ?_
      exact ⟨by rw [hcd]; rfl, hA1, hX1, hM1, ou, ov, hO1, fun h => absurd h (by rw [hcd]; decide)⟩
    · exact absurd hcd (by omega)
  obtain ⟨hr, hX1, hF1⟩ := hq
  obtain ⟨hcd, hv⟩ := xr_inl hr
  cases hv
  have hA1 := hA.fx hF1
  have hM1 := hM.fx hF1
  have hO1 := hO.fx hF1
  refine X_f2d dL_costChange_8 (ft_tovd (ft_f2d_nn (nn_costChange hIP hcd))) ?_
  refine X_dast (i := 64) hO1.2 hA1.2.2.2.2 (show (0 : Int32) = nI 0 from rfl) (by decide) (by decide) dL_costChange_9 (fun hc_9 => ?_)
  refine X_goto (tgt := 25) dL_costChange_10 (by decide) ?_
  refine X_iconst (v := 0) dL_costChange_25 (by decide) ?_
  refine X_ireturn dL_costChange_26 rfl rfl ?_
  exact ⟨by rw [hcd]; rfl, hA1, hX1.s64, hM1.s64, _, _, ⟨hO1.1, ⟨hO1.2.1, rfl⟩⟩, fun _ => rfl⟩
set_option maxRecDepth 20000 in
theorem k_order {P : PSt} {L : LSt} {pr : Nat → Nat} {O : OSt} {mp : Nat} {mk : Nat → UInt32} {T : List Nat} {a0 a39 a63 a64 : Nat} {dc tc t : Nat} {ou : Nat → Int64} {ov : Nat → UInt64} (hA : AD w a0 a39 a63 a64) (hIX : IX G.2.2.1 w P L pr O mp mk T dc tc) (hM : IM G.2.2.1 w P L pr O mp mk T t) (hO : OUTS G.2.2.1 w ou ov) (hIP : IP P L pr O mp mk T) (p : Int32) (s : Int32) (u : Int32) : XC G mL_order 8 (3) (18) [.ref a0, .int p, .int s, .int u, .ref a63] w (fun r w' => r = .inl (some (.int (nI (cdO p s u P.1 O.1)))) ∧ AD w' a0 a39 a63 a64 ∧ IX G.2.2.1 w' P L pr (if (cdO p s u P.1 O.1) = 0 then addO O (idx p) (idx s) (idx u) pr else O) mp mk T dc tc ∧ IM G.2.2.1 w' P L pr O mp mk T t ∧ ∃ o' od', OUTS G.2.2.1 w' o' od' ∧ (cdO p s u P.1 O.1 = 0 → o' 0 = (nI O.1 : Int32).toInt64)) := by
  refine XC.of (lo0 := [(0, .ref a0), (1, .int p), (2, .int s), (3, .int u), (4, .ref a63)]) kmL_order (Nat.le_of_ble_eq_true rfl) rfl ?_
  refine X_aload dL_order_0 (i := 4) rfl ?_
  refine X_iconst (v := 0) dL_order_2 (by decide) ?_
  refine X_aload_n dL_order_3 (i := 0) rfl rfl ?_
  refine X_iload_n dL_order_4 (i := 1) rfl rfl ?_
  refine X_iload_n dL_order_5 (i := 2) rfl rfl ?_
  refine X_iload_n dL_order_6 (i := 3) rfl rfl ?_
  refine X_callV (gc2 := 0) (gs2 := 0) (cx_order hA hIX hIP p s u) (i := 0) hIX.1 hA.2.1 rfl kmX10_order rfl lL_128 iX10_order vX10_order rfl rfl (Nat.le_of_ble_eq_true rfl) (by decide) dL_order_7 (by omega) (by omega) (fun E w1 hq => ?_) (fun v w1 hq => ?_)
  · obtain ⟨hr, hX1, hF1⟩ := hq
    obtain ⟨kx, hcd, hE⟩ := xr_inr hr
    have hle : cdO p s u P.1 O.1 ≤ 3 := cdO_le
    have hA1 := hA.fx hF1
    have hM1 := hM.fx hF1
    have hO1 := hO.fx hF1
    rcases kx with _ | _ | _ | kx
    · have hE : E = "java/lang/IndexOutOfBoundsException" := hE
      subst hE
      refine XT.catch (name := "java/lang/IndexOutOfBoundsException") [] (0, 12, 15, 21) [(0, 12, 19, 13), (0, 12, 23, 15)] rfl (fun z hz => nomatch hz) ⟨by decide, by decide⟩ (by decide) cL_21 cast_IndexOutOfBoundsException (fun q => ?_)
      refine X_astore (i := 5) (lo' := [(5, _), (0, _), (1, _), (2, _), (3, _), (4, _)]) dL_order_15 (by decide) rfl ?_
      refine X_iconst (v := 1) dL_order_17 (by decide) ?_
      refine X_ireturn dL_order_18 rfl rfl ?_
      exact ⟨by rw [hcd]; rfl, hA1, hX1, hM1, ou, ov, hO1, fun h => absurd h (by rw [hcd]; decide)⟩
    · have hE : E = "java/lang/IllegalArgumentException" := hE
      subst hE
      refine XT.catch (name := "java/lang/IllegalArgumentException") [(0, 12, 15, 21)] (0, 12, 19, 13) [(0, 12, 23, 15)] rfl (List.forall_mem_cons.mpr ⟨⟨by decide, _, cL_21, List.mem_of_getElem? (i := 1) rfl⟩, (fun z hz => nomatch hz)⟩) ⟨by decide, by decide⟩ (by decide) cL_13 cast_IllegalArgumentException (fun q => ?_)
      refine X_astore (i := 5) (lo' := [(5, _), (0, _), (1, _), (2, _), (3, _), (4, _)]) dL_order_19 (by decide) rfl ?_
      refine X_iconst (v := 2) dL_order_21 (by decide) ?_
      refine X_ireturn dL_order_22 rfl rfl ?_
      exact ⟨by rw [hcd]; rfl, hA1, hX1, hM1, ou, ov, hO1, fun h => absurd h (by rw [hcd]; decide)⟩
    · have hE : E = "java/lang/IllegalStateException" := hE
      subst hE
      refine XT.catch (name := "java/lang/IllegalStateException") [(0, 12, 15, 21), (0, 12, 19, 13)] (0, 12, 23, 15) [] rfl (List.forall_mem_cons.mpr ⟨⟨by decide, _, cL_21, List.mem_of_getElem? (i := 5) rfl⟩, (List.forall_mem_cons.mpr ⟨⟨by decide, _, cL_13, List.mem_of_getElem? (i := 4) rfl⟩, (fun z hz => nomatch hz)⟩)⟩) ⟨by decide, by decide⟩ (by decide) cL_15 cast_IllegalStateException (fun q => ?_)
      refine X_astore (i := 5) (lo' := [(5, _), (0, _), (1, _), (2, _), (3, _), (4, _)]) dL_order_23 (by decide) rfl ?_
      refine X_iconst (v := 3) dL_order_25 (by decide) ?_
      refine X_ireturn dL_order_26 rfl rfl ?_
      exact ⟨by rw [hcd]; rfl, hA1, hX1, hM1, ou, ov, hO1, fun h => absurd h (by rw [hcd]; decide)⟩
    · exact absurd hcd (by omega)
  obtain ⟨hr, hX1, hF1⟩ := hq
  obtain ⟨hcd, hv⟩ := xr_inl hr
  cases hv
  have hA1 := hA.fx hF1
  have hM1 := hM.fx hF1
  have hO1 := hO.fx hF1
  refine X_i2l dL_order_10 rfl ?_
  refine X_last (i := 63) hO1.1 hA1.2.2.2.1 (show (0 : Int32) = nI 0 from rfl) (by decide) (by decide) dL_order_11 (fun hc_11 => ?_)
  refine X_goto (tgt := 27) dL_order_12 (by decide) ?_
  refine X_iconst (v := 0) dL_order_27 (by decide) ?_
  refine X_ireturn dL_order_28 rfl rfl ?_
  exact ⟨by rw [hcd]; rfl, hA1, hX1.s63, hM1.s63, _, _, ⟨⟨hO1.1.1, rfl⟩, hO1.2⟩, fun _ => rfl⟩
set_option maxRecDepth 20000 in
theorem k_cancel {P : PSt} {L : LSt} {pr : Nat → Nat} {O : OSt} {mp : Nat} {mk : Nat → UInt32} {T : List Nat} {a0 a39 a63 a64 : Nat} {dc tc t : Nat} {ou : Nat → Int64} {ov : Nat → UInt64} (hA : AD w a0 a39 a63 a64) (hIX : IX G.2.2.1 w P L pr O mp mk T dc tc) (hM : IM G.2.2.1 w P L pr O mp mk T t) (hO : OUTS G.2.2.1 w ou ov) (hIP : IP P L pr O mp mk T) (o : Int32) : XC G mL_cancel 8 (2) (12) [.ref a0, .int o, .ref a63] w (fun r w' => r = .inl (some (.int (nI (cdX o O)))) ∧ AD w' a0 a39 a63 a64 ∧ IX G.2.2.1 w' P L pr (if (cdX o O) = 0 then canO O (idx o) else O) mp mk T dc tc ∧ IM G.2.2.1 w' P L pr O mp mk T t ∧ ∃ o' od', OUTS G.2.2.1 w' o' od' ∧ (cdX o O = 0 → o' 0 = (nI (cntB (fun k => !(canO O (idx o)).2.2.2.2.2 k) O.1) : Int32).toInt64)) := by
  refine XC.of (lo0 := [(0, .ref a0), (1, .int o), (2, .ref a63)]) kmL_cancel (Nat.le_of_ble_eq_true rfl) rfl ?_
  refine X_aload_n dL_cancel_0 (i := 2) rfl rfl ?_
  refine X_iconst (v := 0) dL_cancel_1 (by decide) ?_
  refine X_aload_n dL_cancel_2 (i := 0) rfl rfl ?_
  refine X_iload_n dL_cancel_3 (i := 1) rfl rfl ?_
  refine X_callV (gc2 := 0) (gs2 := 0) (cx_cancel hA hIX hIP o) (i := 0) hIX.1 hA.2.1 rfl kmX10_cancel rfl lL_131 iX10_cancel vX10_cancel rfl rfl (Nat.le_of_ble_eq_true rfl) (by decide) dL_cancel_4 (by omega) (by omega) (fun E w1 hq => ?_) (fun v w1 hq => ?_)
  · obtain ⟨hr, hX1, hF1⟩ := hq
    obtain ⟨kx, hcd, hE⟩ := xr_inr hr
    have hle : cdX o O ≤ 2 := cdX_le
    have hA1 := hA.fx hF1
    have hM1 := hM.fx hF1
    have hO1 := hO.fx hF1
    rcases kx with _ | _ | kx
    · have hE : E = "java/lang/IndexOutOfBoundsException" := hE
      subst hE
      refine XT.catch (name := "java/lang/IndexOutOfBoundsException") [] (0, 9, 12, 21) [(0, 9, 15, 15)] rfl (fun z hz => nomatch hz) ⟨by decide, by decide⟩ (by decide) cL_21 cast_IndexOutOfBoundsException (fun q => ?_)
      refine X_astore_n (i := 3) (lo' := [(3, _), (0, _), (1, _), (2, _)]) dL_cancel_12 rfl (by decide) rfl ?_
      refine X_iconst (v := 1) dL_cancel_13 (by decide) ?_
      refine X_ireturn dL_cancel_14 rfl rfl ?_
      exact ⟨by rw [hcd]; rfl, hA1, hX1, hM1, ou, ov, hO1, fun h => absurd h (by rw [hcd]; decide)⟩
    · have hE : E = "java/lang/IllegalStateException" := hE
      subst hE
      refine XT.catch (name := "java/lang/IllegalStateException") [(0, 9, 12, 21)] (0, 9, 15, 15) [] rfl (List.forall_mem_cons.mpr ⟨⟨by decide, _, cL_21, List.mem_of_getElem? (i := 5) rfl⟩, (fun z hz => nomatch hz)⟩) ⟨by decide, by decide⟩ (by decide) cL_15 cast_IllegalStateException (fun q => ?_)
      refine X_astore_n (i := 3) (lo' := [(3, _), (0, _), (1, _), (2, _)]) dL_cancel_15 rfl (by decide) rfl ?_
      refine X_iconst (v := 2) dL_cancel_16 (by decide) ?_
      refine X_ireturn dL_cancel_17 rfl rfl ?_
      exact ⟨by rw [hcd]; rfl, hA1, hX1, hM1, ou, ov, hO1, fun h => absurd h (by rw [hcd]; decide)⟩
    · exact absurd hcd (by omega)
  obtain ⟨hr, hX1, hF1⟩ := hq
  obtain ⟨hcd, hv⟩ := xr_inl hr
  cases hv
  have hA1 := hA.fx hF1
  have hM1 := hM.fx hF1
  have hO1 := hO.fx hF1
  refine X_i2l dL_cancel_7 rfl ?_
  refine X_last (i := 63) hO1.1 hA1.2.2.2.1 (show (0 : Int32) = nI 0 from rfl) (by decide) (by decide) dL_cancel_8 (fun hc_8 => ?_)
  refine X_goto (tgt := 18) dL_cancel_9 (by decide) ?_
  refine X_iconst (v := 0) dL_cancel_18 (by decide) ?_
  refine X_ireturn dL_cancel_19 rfl rfl ?_
  exact ⟨by rw [hcd]; rfl, hA1, hX1.s63, hM1.s63, _, _, ⟨⟨hO1.1.1, rfl⟩, hO1.2⟩, fun _ => rfl⟩
set_option maxRecDepth 20000 in
theorem k_orderCost {P : PSt} {L : LSt} {pr : Nat → Nat} {O : OSt} {mp : Nat} {mk : Nat → UInt32} {T : List Nat} {a0 a39 a63 a64 : Nat} {dc tc t : Nat} {ou : Nat → Int64} {ov : Nat → UInt64} (hA : AD w a0 a39 a63 a64) (hIX : IX G.2.2.1 w P L pr O mp mk T dc tc) (hM : IM G.2.2.1 w P L pr O mp mk T t) (hO : OUTS G.2.2.1 w ou ov) (hIP : IP P L pr O mp mk T) (a : Int32) : XC G mL_orderCost 8 (2) (12) [.ref a0, .int a, .ref a64] w (fun r w' => r = .inl (some (.int (nI (cdP a O.1)))) ∧ AD w' a0 a39 a63 a64 ∧ IX G.2.2.1 w' P L pr O mp mk T dc tc ∧ IM G.2.2.1 w' P L pr O mp mk T t ∧ ∃ o' od', OUTS G.2.2.1 w' o' od' ∧ (cdP a O.1 = 0 → od' 0 = FP.f2d (ocF P L O (idx a)))) := by
  refine XC.of (lo0 := [(0, .ref a0), (1, .int a), (2, .ref a64)]) kmL_orderCost (Nat.le_of_ble_eq_true rfl) rfl ?_
  refine X_aload_n dL_orderCost_0 (i := 2) rfl rfl ?_
  refine X_iconst (v := 0) dL_orderCost_1 (by decide) ?_
  refine X_aload_n dL_orderCost_2 (i := 0) rfl rfl ?_
  refine X_iload_n dL_orderCost_3 (i := 1) rfl rfl ?_
  refine X_callV (gc2 := 0) (gs2 := 0) (cx_orderCost hA hIX hIP a) (i := 0) hIX.1 hA.2.1 rfl kmX10_orderCost rfl lL_134 iX10_orderCost vX10_orderCost rfl rfl (Nat.le_of_ble_eq_true rfl) (by decide) dL_orderCost_4 (by omega) (by omega) (fun E w1 hq => ?_) (fun v w1 hq => ?_)
  · obtain ⟨hr, hX1, hF1⟩ := hq
    obtain ⟨kx, hcd, hE⟩ := xr_inr hr
    have hle : cdP a O.1 ≤ 1 := cdP_le
    have hA1 := hA.fx hF1
    have hM1 := hM.fx hF1
    have hO1 := hO.fx hF1
    rcases kx with _ | kx
    · have hE : E = "java/lang/IndexOutOfBoundsException" := hE
      subst hE
      refine XT.catch (name := "java/lang/IndexOutOfBoundsException") [] (0, 9, 12, 21) [] rfl (fun z hz => nomatch hz) ⟨by decide, by decide⟩ (by decide) cL_21 cast_IndexOutOfBoundsException (fun q => ?_)
      refine X_astore_n (i := 3) (lo' := [(3, _), (0, _), (1, _), (2, _)]) dL_orderCost_12 rfl (by decide) rfl ?_
      refine X_iconst (v := 1) dL_orderCost_13 (by decide) ?_
      refine X_ireturn dL_orderCost_14 rfl rfl ?_
      exact ⟨by rw [hcd]; rfl, hA1, hX1, hM1, ou, ov, hO1, fun h => absurd h (by rw [hcd]; decide)⟩
    · exact absurd hcd (by omega)
  obtain ⟨hr, hX1, hF1⟩ := hq
  obtain ⟨hcd, hv⟩ := xr_inl hr
  cases hv
  have hA1 := hA.fx hF1
  have hM1 := hM.fx hF1
  have hO1 := hO.fx hF1
  refine X_f2d dL_orderCost_7 (ft_tovd (ft_f2d_nn (nn_orderCost hIP hcd))) ?_
  refine X_dast (i := 64) hO1.2 hA1.2.2.2.2 (show (0 : Int32) = nI 0 from rfl) (by decide) (by decide) dL_orderCost_8 (fun hc_8 => ?_)
  refine X_goto (tgt := 15) dL_orderCost_9 (by decide) ?_
  refine X_iconst (v := 0) dL_orderCost_15 (by decide) ?_
  refine X_ireturn dL_orderCost_16 rfl rfl ?_
  exact ⟨by rw [hcd]; rfl, hA1, hX1.s64, hM1.s64, _, _, ⟨hO1.1, ⟨hO1.2.1, rfl⟩⟩, fun _ => rfl⟩
set_option maxRecDepth 20000 in
theorem k_need {P : PSt} {L : LSt} {pr : Nat → Nat} {O : OSt} {mp : Nat} {mk : Nat → UInt32} {T : List Nat} {a0 a39 a63 a64 : Nat} {dc tc t : Nat} {ou : Nat → Int64} {ov : Nat → UInt64} (hA : AD w a0 a39 a63 a64) (hIX : IX G.2.2.1 w P L pr O mp mk T dc tc) (hM : IM G.2.2.1 w P L pr O mp mk T t) (hO : OUTS G.2.2.1 w ou ov) (hIP : IP P L pr O mp mk T) (c : Int32) : XC G mL_need 8 (2) (12) [.ref a0, .int c, .ref a63] w (fun r w' => r = .inl (some (.int (nI (cdP c P.1)))) ∧ AD w' a0 a39 a63 a64 ∧ IX G.2.2.1 w' P L pr O mp mk T dc tc ∧ IM G.2.2.1 w' P L pr O mp mk T t ∧ ∃ o' od', OUTS G.2.2.1 w' o' od' ∧ (cdP c P.1 = 0 → o' 0 = nL (needN L O (idx c) O.1))) := by
  refine XC.of (lo0 := [(0, .ref a0), (1, .int c), (2, .ref a63)]) kmL_need (Nat.le_of_ble_eq_true rfl) rfl ?_
  refine X_aload_n dL_need_0 (i := 2) rfl rfl ?_
  refine X_iconst (v := 0) dL_need_1 (by decide) ?_
  refine X_aload_n dL_need_2 (i := 0) rfl rfl ?_
  refine X_iload_n dL_need_3 (i := 1) rfl rfl ?_
  refine X_callV (gc2 := 0) (gs2 := 0) (cx_need hA hIX hIP c) (i := 0) hIX.1 hA.2.1 rfl kmX10_need rfl lL_138 iX10_need vX10_need rfl rfl (Nat.le_of_ble_eq_true rfl) (by decide) dL_need_4 (by omega) (by omega) (fun E w1 hq => ?_) (fun v w1 hq => ?_)
  · obtain ⟨hr, hX1, hF1⟩ := hq
    obtain ⟨kx, hcd, hE⟩ := xr_inr hr
    have hle : cdP c P.1 ≤ 1 := cdP_le
    have hA1 := hA.fx hF1
    have hM1 := hM.fx hF1
    have hO1 := hO.fx hF1
    rcases kx with _ | kx
    · have hE : E = "java/lang/IndexOutOfBoundsException" := hE
      subst hE
      refine XT.catch (name := "java/lang/IndexOutOfBoundsException") [] (0, 8, 11, 21) [] rfl (fun z hz => nomatch hz) ⟨by decide, by decide⟩ (by decide) cL_21 cast_IndexOutOfBoundsException (fun q => ?_)
      refine X_astore_n (i := 3) (lo' := [(3, _), (0, _), (1, _), (2, _)]) dL_need_11 rfl (by decide) rfl ?_
      refine X_iconst (v := 1) dL_need_12 (by decide) ?_
      refine X_ireturn dL_need_13 rfl rfl ?_
      exact ⟨by rw [hcd]; rfl, hA1, hX1, hM1, ou, ov, hO1, fun h => absurd h (by rw [hcd]; decide)⟩
    · exact absurd hcd (by omega)
  obtain ⟨hr, hX1, hF1⟩ := hq
  obtain ⟨hcd, hv⟩ := xr_inl hr
  cases hv
  have hA1 := hA.fx hF1
  have hM1 := hM.fx hF1
  have hO1 := hO.fx hF1
  refine X_last (i := 63) hO1.1 hA1.2.2.2.1 (show (0 : Int32) = nI 0 from rfl) (by decide) (by decide) dL_need_7 (fun hc_7 => ?_)
  refine X_goto (tgt := 14) dL_need_8 (by decide) ?_
  refine X_iconst (v := 0) dL_need_14 (by decide) ?_
  refine X_ireturn dL_need_15 rfl rfl ?_
  exact ⟨by rw [hcd]; rfl, hA1, hX1.s63, hM1.s63, _, _, ⟨⟨hO1.1.1, rfl⟩, hO1.2⟩, fun _ => rfl⟩
end Wrap
