/-! THE LAW'S HELPERS over the one state (walks by gen/spec80.py) -/
section HelpQ
variable {G : Gx} {w : Wd}
/-- an answer of the class as the law's helper gives it: the value, or the number of the exception -/
def hv {α : Type} (cd : Nat) (cs : List α) (v : α) : α := match cd with
  | 0 => v
  | k + 1 => cs.getD k v
/-- the class's cells, at any length of its list's rows -/
def ST (n : Nat) (K : Nat → ClassId) (w : Wd) (P : PSt) (L : LSt) (pr : Nat → Nat) (O : OSt) (mp : Nat) (mk : Nat → UInt32) : Prop := ∃ dc, n ≤ dc ∧ 16 ≤ dc ∧ dc ≤ 72 ∧ IX K w P L pr O mp mk [] dc 64
theorem ST.le {n m : Nat} {K : Nat → ClassId} {P : PSt} {L : LSt} {pr : Nat → Nat} {O : OSt} {mp : Nat} {mk : Nat → UInt32} (h : ST n K w P L pr O mp mk) (hm : m ≤ n) : ST m K w P L pr O mp mk := by
  obtain ⟨dc, h1, h2⟩ := h
  exact ⟨dc, Nat.le_trans hm h1, h2⟩
theorem capL_id : ∀ {k n cap : Nat}, n + k ≤ cap → capL n cap k = cap
  | 0, _, _, _ => rfl
  | k + 1, n, cap, h => by
    have e : capS n cap = cap := by unfold capS; split <;> omega
    rw [capL, e]
    exact capL_id (by omega)
theorem cap72 {dc n : Nat} (h1 : 16 ≤ dc) (h2 : dc ≤ 72) (hn : n ≤ 36) : 16 ≤ capL 0 dc n ∧ capL 0 dc n ≤ 72 := by
  have cg := capL_ge (n := 0) (cap := dc) (k := n) (by omega) (by omega)
  have cl := capL_le (n := 0) (cap := dc) (b := 72) (k := n) (by omega) h2 (by omega)
  omega
set_option maxRecDepth 20000 in
theorem h_addPart {P : PSt} {L : LSt} {pr : Nat → Nat} {O : OSt} {mp : Nat} {mk : Nat → UInt32} {a0 nn : Nat} (ha : w.1 0 = a0) (hS : ST nn G.2.2.1 w P L pr O mp mk) (hIP : IP P L pr O mp mk []) (k : Nat) (hk : k < 65536) (c : Int32) (g : Int32) : XC G mL_addPart 8 4 24 [.ref a0, .int (nI k), .int c, .int g] w (fun r w' => r = .inl (some (.int (hv (cdAdd (nI k) c g P.1) [(-78), (-79)] (nI P.1)))) ∧ ST nn G.2.2.1 w' (addP P (cdAdd (nI k) c g P.1) k (idx c) (idx g)) L pr O mp mk ∧ FX w w') := by
  subst ha
  obtain ⟨dc, hn0, hc1, hc2, hIX⟩ := hS
  have hdc0 := hn0
  have hdc1 := hc1
  have hdc2 := hc2
  refine XC.of (lo0 := [(0, .ref (w.1 0)), (1, .int (nI k)), (2, .int c), (3, .int g)]) kmL_addPart (Nat.le_of_ble_eq_true rfl) rfl ?_
  refine X_aload_n dL_addPart_0 (i := 0) rfl rfl ?_
  refine X_iload_n dL_addPart_1 (i := 1) rfl rfl ?_
  refine X_iload_n dL_addPart_2 (i := 2) rfl rfl ?_
  refine X_iload_n dL_addPart_3 (i := 3) rfl rfl ?_
  refine X_callV (gc2 := 0) (gs2 := 0) (cx_addPart (a0 := w.1 0) (a39 := w.1 39) (a63 := w.1 63) (a64 := w.1 64) ⟨trivial, rfl, rfl, rfl, rfl⟩ hIX hIP k hk c g) (i := 0) hIX.1 rfl rfl kmX10_addPart rfl lL_14 iX10_addPart vX10_addPart rfl rfl (Nat.le_of_ble_eq_true rfl) (by decide) dL_addPart_4 (by omega) (by omega) (fun E w1 hq => ?_) (fun v w1 hq => ?_)
  · obtain ⟨hr, hX1, hF1⟩ := hq
    obtain ⟨kx, hcd, hE⟩ := xr_inr hr
    have hle : cdAdd (nI k) c g P.1 ≤ 2 := cdAdd_le
    rcases kx with _ | _ | kx
    · have hE : E = "java/lang/IllegalArgumentException" := hE
      subst hE
      refine XT.catch (name := "java/lang/IllegalArgumentException") [] (0, 7, 8, 20) [(0, 7, 13, 22)] rfl (fun z hz => nomatch hz) ⟨by decide, by decide⟩ (by decide) cL_20 cast_IllegalArgumentException (fun q => ?_)
      refine X_astore (i := 4) (lo' := [(4, _), (0, _), (1, _), (2, _), (3, _)]) dL_addPart_8 (by decide) rfl ?_
      refine X_bipush (v := -78) dL_addPart_10 (by decide) ?_
      refine X_ireturn dL_addPart_12 rfl rfl ?_
      exact ⟨by rw [hcd]; rfl, ⟨_, hdc0, hdc1, hdc2, hX1⟩, hF1⟩
    · have hE : E = "java/lang/IllegalStateException" := hE
      subst hE
      refine XT.catch (name := "java/lang/IllegalStateException") [(0, 7, 8, 20)] (0, 7, 13, 22) [] rfl (List.forall_mem_cons.mpr ⟨⟨by decide, _, cL_20, List.mem_of_getElem? (i := 4) rfl⟩, (fun z hz => nomatch hz)⟩) ⟨by decide, by decide⟩ (by decide) cL_22 cast_IllegalStateException (fun q => ?_)
      refine X_astore (i := 4) (lo' := [(4, _), (0, _), (1, _), (2, _), (3, _)]) dL_addPart_13 (by decide) rfl ?_
      refine X_bipush (v := -79) dL_addPart_15 (by decide) ?_
      refine X_ireturn dL_addPart_17 rfl rfl ?_
      exact ⟨by rw [hcd]; rfl, ⟨_, hdc0, hdc1, hdc2, hX1⟩, hF1⟩
    · exact absurd hcd (by omega)
  obtain ⟨hr, hX1, hF1⟩ := hq
  obtain ⟨hcd, hvv⟩ := xr_inl hr
  cases hvv
  refine X_ireturn dL_addPart_7 rfl rfl ?_
  exact ⟨by rw [hcd]; rfl, ⟨_, hdc0, hdc1, hdc2, hX1⟩, hF1⟩
set_option maxRecDepth 20000 in
theorem h_setPrice {P : PSt} {L : LSt} {pr : Nat → Nat} {O : OSt} {mp : Nat} {mk : Nat → UInt32} {a0 nn : Nat} (ha : w.1 0 = a0) (hS : ST nn G.2.2.1 w P L pr O mp mk) (hIP : IP P L pr O mp mk []) (p : Int32) (c : Int32) : XC G mL_setPrice 8 2 12 [.ref a0, .int p, .int c] w (fun r w' => r = .inl (some (.int (hv (cdPC p c P.1) [(-77), (-78)] (nI (P.2.2.1 (idx p)))))) ∧ ST nn G.2.2.1 w' ((P.1, P.2.1, upIf (cdPC p c P.1) P.2.2.1 (idx p) (idx c), P.2.2.2)) L pr O mp mk ∧ FX w w') := by
  subst ha
  obtain ⟨dc, hn0, hc1, hc2, hIX⟩ := hS
  have hdc0 := hn0
  have hdc1 := hc1
  have hdc2 := hc2
  refine XC.of (lo0 := [(0, .ref (w.1 0)), (1, .int p), (2, .int c)]) kmL_setPrice (Nat.le_of_ble_eq_true rfl) rfl ?_
  refine X_aload_n dL_setPrice_0 (i := 0) rfl rfl ?_
  refine X_iload_n dL_setPrice_1 (i := 1) rfl rfl ?_
  refine X_iload_n dL_setPrice_2 (i := 2) rfl rfl ?_
  refine X_callV (gc2 := 0) (gs2 := 0) (cx_setPrice (a0 := w.1 0) (a39 := w.1 39) (a63 := w.1 63) (a64 := w.1 64) ⟨trivial, rfl, rfl, rfl, rfl⟩ hIX hIP p c) (i := 0) hIX.1 rfl rfl kmX10_setPrice rfl lL_24 iX10_setPrice vX10_setPrice rfl rfl (Nat.le_of_ble_eq_true rfl) (by decide) dL_setPrice_3 (by omega) (by omega) (fun E w1 hq => ?_) (fun v w1 hq => ?_)
  · obtain ⟨hr, hX1, hF1⟩ := hq
    obtain ⟨kx, hcd, hE⟩ := xr_inr hr
    have hle : cdPC p c P.1 ≤ 2 := cdPC_le
    rcases kx with _ | _ | kx
    · have hE : E = "java/lang/IndexOutOfBoundsException" := hE
      subst hE
      refine XT.catch (name := "java/lang/IndexOutOfBoundsException") [] (0, 6, 7, 28) [(0, 6, 11, 20)] rfl (fun z hz => nomatch hz) ⟨by decide, by decide⟩ (by decide) cL_28 cast_IndexOutOfBoundsException (fun q => ?_)
      refine X_astore_n (i := 3) (lo' := [(3, _), (0, _), (1, _), (2, _)]) dL_setPrice_7 rfl (by decide) rfl ?_
      refine X_bipush (v := -77) dL_setPrice_8 (by decide) ?_
      refine X_ireturn dL_setPrice_10 rfl rfl ?_
      exact ⟨by rw [hcd]; rfl, ⟨_, hdc0, hdc1, hdc2, hX1⟩, hF1⟩
    · have hE : E = "java/lang/IllegalArgumentException" := hE
      subst hE
      refine XT.catch (name := "java/lang/IllegalArgumentException") [(0, 6, 7, 28)] (0, 6, 11, 20) [] rfl (List.forall_mem_cons.mpr ⟨⟨by decide, _, cL_28, List.mem_of_getElem? (i := 1) rfl⟩, (fun z hz => nomatch hz)⟩) ⟨by decide, by decide⟩ (by decide) cL_20 cast_IllegalArgumentException (fun q => ?_)
      refine X_astore_n (i := 3) (lo' := [(3, _), (0, _), (1, _), (2, _)]) dL_setPrice_11 rfl (by decide) rfl ?_
      refine X_bipush (v := -78) dL_setPrice_12 (by decide) ?_
      refine X_ireturn dL_setPrice_14 rfl rfl ?_
      exact ⟨by rw [hcd]; rfl, ⟨_, hdc0, hdc1, hdc2, hX1⟩, hF1⟩
    · exact absurd hcd (by omega)
  obtain ⟨hr, hX1, hF1⟩ := hq
  obtain ⟨hcd, hvv⟩ := xr_inl hr
  cases hvv
  refine X_ireturn dL_setPrice_6 rfl rfl ?_
  exact ⟨by rw [hcd]; rfl, ⟨_, hdc0, hdc1, hdc2, hX1⟩, hF1⟩
set_option maxRecDepth 20000 in
theorem h_kind {P : PSt} {L : LSt} {pr : Nat → Nat} {O : OSt} {mp : Nat} {mk : Nat → UInt32} {a0 nn : Nat} (ha : w.1 0 = a0) (hS : ST nn G.2.2.1 w P L pr O mp mk) (hIP : IP P L pr O mp mk []) (p : Int32) : XC G mL_kind 8 1 6 [.ref a0, .int p] w (fun r w' => r = .inl (some (.int (hv (cdP p P.1) [(-77)] (nI (P.2.1 (idx p)))))) ∧ ST nn G.2.2.1 w' P L pr O mp mk ∧ FX w w') := by
  subst ha
  obtain ⟨dc, hn0, hc1, hc2, hIX⟩ := hS
  have hdc0 := hn0
  have hdc1 := hc1
  have hdc2 := hc2
  refine XC.of (lo0 := [(0, .ref (w.1 0)), (1, .int p)]) kmL_kind (Nat.le_of_ble_eq_true rfl) rfl ?_
  refine X_aload_n dL_kind_0 (i := 0) rfl rfl ?_
  refine X_iload_n dL_kind_1 (i := 1) rfl rfl ?_
  refine X_callV (gc2 := 0) (gs2 := 0) (cx_kind (a0 := w.1 0) (a39 := w.1 39) (a63 := w.1 63) (a64 := w.1 64) ⟨trivial, rfl, rfl, rfl, rfl⟩ hIX hIP p) (i := 0) hIX.1 rfl rfl kmX10_kind rfl lL_30 iX10_kind vX10_kind rfl rfl (Nat.le_of_ble_eq_true rfl) (by decide) dL_kind_2 (by omega) (by omega) (fun E w1 hq => ?_) (fun v w1 hq => ?_)
  · obtain ⟨hr, hX1, hF1⟩ := hq
    obtain ⟨kx, hcd, hE⟩ := xr_inr hr
    have hle : cdP p P.1 ≤ 1 := cdP_le
    rcases kx with _ | kx
    · have hE : E = "java/lang/IndexOutOfBoundsException" := hE
      subst hE
      refine XT.catch (name := "java/lang/IndexOutOfBoundsException") [] (0, 5, 6, 28) [] rfl (fun z hz => nomatch hz) ⟨by decide, by decide⟩ (by decide) cL_28 cast_IndexOutOfBoundsException (fun q => ?_)
      refine X_astore_n (i := 2) (lo' := [(2, _), (0, _), (1, _)]) dL_kind_6 rfl (by decide) rfl ?_
      refine X_bipush (v := -77) dL_kind_7 (by decide) ?_
      refine X_ireturn dL_kind_9 rfl rfl ?_
      exact ⟨by rw [hcd]; rfl, ⟨_, hdc0, hdc1, hdc2, hX1⟩, hF1⟩
    · exact absurd hcd (by omega)
  obtain ⟨hr, hX1, hF1⟩ := hq
  obtain ⟨hcd, hvv⟩ := xr_inl hr
  cases hvv
  refine X_ireturn dL_kind_5 rfl rfl ?_
  exact ⟨by rw [hcd]; rfl, ⟨_, hdc0, hdc1, hdc2, hX1⟩, hF1⟩
set_option maxRecDepth 20000 in
theorem h_addLine {P : PSt} {L : LSt} {pr : Nat → Nat} {O : OSt} {mp : Nat} {mk : Nat → UInt32} {a0 nn : Nat} (ha : w.1 0 = a0) (hS : ST nn G.2.2.1 w P L pr O mp mk) (hIP : IP P L pr O mp mk []) (p : Int32) (k : Int32) (c : Int32) (q : Int32) (a : Int32) (b : Int32) : XC G mL_addLine 8 8 48 [.ref a0, .int p, .int k, .int c, .int q, .int a, .int b] w (fun r w' => r = .inl (some (.int (hv (cdAL P.1 L p k c q a b) [(-77), (-78), (-76), (-79)] (nI (ln L))))) ∧ ST nn G.2.2.1 w' P (if (cdAL P.1 L p k c q a b) = 0 then newL L (idx p) (idx k) (idx c) (idx q) 0 (idx a) (idx b) 0 0 else L) pr O mp mk ∧ FX w w') := by
  subst ha
  obtain ⟨dc, hn0, hc1, hc2, hIX⟩ := hS
  have hdc0 := hn0
  have hdc1 := hc1
  have hdc2 := hc2
  refine XC.of (lo0 := [(0, .ref (w.1 0)), (1, .int p), (2, .int k), (3, .int c), (4, .int q), (5, .int a), (6, .int b)]) kmL_addLine (Nat.le_of_ble_eq_true rfl) rfl ?_
  refine X_aload_n dL_addLine_0 (i := 0) rfl rfl ?_
  refine X_iload_n dL_addLine_1 (i := 1) rfl rfl ?_
  refine X_iload_n dL_addLine_2 (i := 2) rfl rfl ?_
  refine X_iload_n dL_addLine_3 (i := 3) rfl rfl ?_
  refine X_iload dL_addLine_4 (i := 4) rfl ?_
  refine X_iload dL_addLine_6 (i := 5) rfl ?_
  refine X_iload dL_addLine_8 (i := 6) rfl ?_
  refine X_callV (gc2 := 0) (gs2 := 0) (cx_addLine (a0 := w.1 0) (a39 := w.1 39) (a63 := w.1 63) (a64 := w.1 64) ⟨trivial, rfl, rfl, rfl, rfl⟩ hIX hIP p k c q a b) (i := 0) hIX.1 rfl rfl kmX10_addLine rfl lL_34 iX10_addLine vX10_addLine rfl rfl (Nat.le_of_ble_eq_true rfl) (by decide) dL_addLine_10 (by omega) (by omega) (fun E w1 hq => ?_) (fun v w1 hq => ?_)
  · obtain ⟨hr, hX1, hF1⟩ := hq
    obtain ⟨kx, hcd, hE⟩ := xr_inr hr
    have hle : cdAL P.1 L p k c q a b ≤ 4 := cdAL_le
    rcases kx with _ | _ | _ | _ | kx
    · have hE : E = "java/lang/IndexOutOfBoundsException" := hE
      subst hE
      refine XT.catch (name := "java/lang/IndexOutOfBoundsException") [] (0, 13, 14, 28) [(0, 13, 19, 20), (0, 13, 24, 38), (0, 13, 29, 22)] rfl (fun z hz => nomatch hz) ⟨by decide, by decide⟩ (by decide) cL_28 cast_IndexOutOfBoundsException (fun q => ?_)
      refine X_astore (i := 7) (lo' := [(7, _), (0, _), (1, _), (2, _), (3, _), (4, _), (5, _), (6, _)]) dL_addLine_14 (by decide) rfl ?_
      refine X_bipush (v := -77) dL_addLine_16 (by decide) ?_
      refine X_ireturn dL_addLine_18 rfl rfl ?_
      exact ⟨by rw [hcd]; rfl, ⟨_, hdc0, hdc1, hdc2, hX1⟩, hF1⟩
    · have hE : E = "java/lang/IllegalArgumentException" := hE
      subst hE
      refine XT.catch (name := "java/lang/IllegalArgumentException") [(0, 13, 14, 28)] (0, 13, 19, 20) [(0, 13, 24, 38), (0, 13, 29, 22)] rfl (List.forall_mem_cons.mpr ⟨⟨by decide, _, cL_28, List.mem_of_getElem? (i := 1) rfl⟩, (fun z hz => nomatch hz)⟩) ⟨by decide, by decide⟩ (by decide) cL_20 cast_IllegalArgumentException (fun q => ?_)
      refine X_astore (i := 7) (lo' := [(7, _), (0, _), (1, _), (2, _), (3, _), (4, _), (5, _), (6, _)]) dL_addLine_19 (by decide) rfl ?_
      refine X_bipush (v := -78) dL_addLine_21 (by decide) ?_
      refine X_ireturn dL_addLine_23 rfl rfl ?_
      exact ⟨by rw [hcd]; rfl, ⟨_, hdc0, hdc1, hdc2, hX1⟩, hF1⟩
    · have hE : E = "java/lang/UnsupportedOperationException" := hE
      subst hE
      refine XT.catch (name := "java/lang/UnsupportedOperationException") [(0, 13, 14, 28), (0, 13, 19, 20)] (0, 13, 24, 38) [(0, 13, 29, 22)] rfl (List.forall_mem_cons.mpr ⟨⟨by decide, _, cL_28, List.mem_of_getElem? (i := 14) rfl⟩, (List.forall_mem_cons.mpr ⟨⟨by decide, _, cL_20, List.mem_of_getElem? (i := 12) rfl⟩, (fun z hz => nomatch hz)⟩)⟩) ⟨by decide, by decide⟩ (by decide) cL_38 cast_UnsupportedOperationException (fun q => ?_)
      refine X_astore (i := 7) (lo' := [(7, _), (0, _), (1, _), (2, _), (3, _), (4, _), (5, _), (6, _)]) dL_addLine_24 (by decide) rfl ?_
      refine X_bipush (v := -76) dL_addLine_26 (by decide) ?_
      refine X_ireturn dL_addLine_28 rfl rfl ?_
      exact ⟨by rw [hcd]; rfl, ⟨_, hdc0, hdc1, hdc2, hX1⟩, hF1⟩
    · have hE : E = "java/lang/IllegalStateException" := hE
      subst hE
      refine XT.catch (name := "java/lang/IllegalStateException") [(0, 13, 14, 28), (0, 13, 19, 20), (0, 13, 24, 38)] (0, 13, 29, 22) [] rfl (List.forall_mem_cons.mpr ⟨⟨by decide, _, cL_28, List.mem_of_getElem? (i := 5) rfl⟩, (List.forall_mem_cons.mpr ⟨⟨by decide, _, cL_20, List.mem_of_getElem? (i := 4) rfl⟩, (List.forall_mem_cons.mpr ⟨⟨by decide, _, cL_38, List.mem_of_getElem? (i := 6) rfl⟩, (fun z hz => nomatch hz)⟩)⟩)⟩) ⟨by decide, by decide⟩ (by decide) cL_22 cast_IllegalStateException (fun q => ?_)
      refine X_astore (i := 7) (lo' := [(7, _), (0, _), (1, _), (2, _), (3, _), (4, _), (5, _), (6, _)]) dL_addLine_29 (by decide) rfl ?_
      refine X_bipush (v := -79) dL_addLine_31 (by decide) ?_
      refine X_ireturn dL_addLine_33 rfl rfl ?_
      exact ⟨by rw [hcd]; rfl, ⟨_, hdc0, hdc1, hdc2, hX1⟩, hF1⟩
    · exact absurd hcd (by omega)
  obtain ⟨hr, hX1, hF1⟩ := hq
  obtain ⟨hcd, hvv⟩ := xr_inl hr
  cases hvv
  refine X_ireturn dL_addLine_13 rfl rfl ?_
  exact ⟨by rw [hcd]; rfl, ⟨_, hdc0, hdc1, hdc2, hX1⟩, hF1⟩
set_option maxRecDepth 20000 in
theorem h_addVariant {P : PSt} {L : LSt} {pr : Nat → Nat} {O : OSt} {mp : Nat} {mk : Nat → UInt32} {a0 nn : Nat} (ha : w.1 0 = a0) (hS : ST nn G.2.2.1 w P L pr O mp mk) (hIP : IP P L pr O mp mk []) (p : Int32) (k : Int32) (c : Int32) (q : Int32) (o : Int32) (s : Int32) : XC G mL_addVariant 8 8 48 [.ref a0, .int p, .int k, .int c, .int q, .int o, .int s] w (fun r w' => r = .inl (some (.int (hv (cdAV P.1 L p k c q o s) [(-77), (-78), (-76), (-79)] (nI (ln L))))) ∧ ST nn G.2.2.1 w' P (if (cdAV P.1 L p k c q o s) = 0 then newL L (idx p) (idx k) (idx c) (idx q) 0 1 999 (idx o + 1) (idx s) else L) pr O mp mk ∧ FX w w') := by
  subst ha
  obtain ⟨dc, hn0, hc1, hc2, hIX⟩ := hS
  have hdc0 := hn0
  have hdc1 := hc1
  have hdc2 := hc2
  refine XC.of (lo0 := [(0, .ref (w.1 0)), (1, .int p), (2, .int k), (3, .int c), (4, .int q), (5, .int o), (6, .int s)]) kmL_addVariant (Nat.le_of_ble_eq_true rfl) rfl ?_
  refine X_aload_n dL_addVariant_0 (i := 0) rfl rfl ?_
  refine X_iload_n dL_addVariant_1 (i := 1) rfl rfl ?_
  refine X_iload_n dL_addVariant_2 (i := 2) rfl rfl ?_
  refine X_iload_n dL_addVariant_3 (i := 3) rfl rfl ?_
  refine X_iload dL_addVariant_4 (i := 4) rfl ?_
  refine X_iload dL_addVariant_6 (i := 5) rfl ?_
  refine X_iload dL_addVariant_8 (i := 6) rfl ?_
  refine X_callV (gc2 := 0) (gs2 := 0) (cx_addVariant (a0 := w.1 0) (a39 := w.1 39) (a63 := w.1 63) (a64 := w.1 64) ⟨trivial, rfl, rfl, rfl, rfl⟩ hIX hIP p k c q o s) (i := 0) hIX.1 rfl rfl kmX10_addVariant rfl lL_40 iX10_addVariant vX10_addVariant rfl rfl (Nat.le_of_ble_eq_true rfl) (by decide) dL_addVariant_10 (by omega) (by omega) (fun E w1 hq => ?_) (fun v w1 hq => ?_)
  · obtain ⟨hr, hX1, hF1⟩ := hq
    obtain ⟨kx, hcd, hE⟩ := xr_inr hr
    have hle : cdAV P.1 L p k c q o s ≤ 4 := cdAV_le
    rcases kx with _ | _ | _ | _ | kx
    · have hE : E = "java/lang/IndexOutOfBoundsException" := hE
      subst hE
      refine XT.catch (name := "java/lang/IndexOutOfBoundsException") [] (0, 13, 14, 28) [(0, 13, 19, 20), (0, 13, 24, 38), (0, 13, 29, 22)] rfl (fun z hz => nomatch hz) ⟨by decide, by decide⟩ (by decide) cL_28 cast_IndexOutOfBoundsException (fun q => ?_)
      refine X_astore (i := 7) (lo' := [(7, _), (0, _), (1, _), (2, _), (3, _), (4, _), (5, _), (6, _)]) dL_addVariant_14 (by decide) rfl ?_
      refine X_bipush (v := -77) dL_addVariant_16 (by decide) ?_
      refine X_ireturn dL_addVariant_18 rfl rfl ?_
      exact ⟨by rw [hcd]; rfl, ⟨_, hdc0, hdc1, hdc2, hX1⟩, hF1⟩
    · have hE : E = "java/lang/IllegalArgumentException" := hE
      subst hE
      refine XT.catch (name := "java/lang/IllegalArgumentException") [(0, 13, 14, 28)] (0, 13, 19, 20) [(0, 13, 24, 38), (0, 13, 29, 22)] rfl (List.forall_mem_cons.mpr ⟨⟨by decide, _, cL_28, List.mem_of_getElem? (i := 1) rfl⟩, (fun z hz => nomatch hz)⟩) ⟨by decide, by decide⟩ (by decide) cL_20 cast_IllegalArgumentException (fun q => ?_)
      refine X_astore (i := 7) (lo' := [(7, _), (0, _), (1, _), (2, _), (3, _), (4, _), (5, _), (6, _)]) dL_addVariant_19 (by decide) rfl ?_
      refine X_bipush (v := -78) dL_addVariant_21 (by decide) ?_
      refine X_ireturn dL_addVariant_23 rfl rfl ?_
      exact ⟨by rw [hcd]; rfl, ⟨_, hdc0, hdc1, hdc2, hX1⟩, hF1⟩
    · have hE : E = "java/lang/UnsupportedOperationException" := hE
      subst hE
      refine XT.catch (name := "java/lang/UnsupportedOperationException") [(0, 13, 14, 28), (0, 13, 19, 20)] (0, 13, 24, 38) [(0, 13, 29, 22)] rfl (List.forall_mem_cons.mpr ⟨⟨by decide, _, cL_28, List.mem_of_getElem? (i := 14) rfl⟩, (List.forall_mem_cons.mpr ⟨⟨by decide, _, cL_20, List.mem_of_getElem? (i := 12) rfl⟩, (fun z hz => nomatch hz)⟩)⟩) ⟨by decide, by decide⟩ (by decide) cL_38 cast_UnsupportedOperationException (fun q => ?_)
      refine X_astore (i := 7) (lo' := [(7, _), (0, _), (1, _), (2, _), (3, _), (4, _), (5, _), (6, _)]) dL_addVariant_24 (by decide) rfl ?_
      refine X_bipush (v := -76) dL_addVariant_26 (by decide) ?_
      refine X_ireturn dL_addVariant_28 rfl rfl ?_
      exact ⟨by rw [hcd]; rfl, ⟨_, hdc0, hdc1, hdc2, hX1⟩, hF1⟩
    · have hE : E = "java/lang/IllegalStateException" := hE
      subst hE
      refine XT.catch (name := "java/lang/IllegalStateException") [(0, 13, 14, 28), (0, 13, 19, 20), (0, 13, 24, 38)] (0, 13, 29, 22) [] rfl (List.forall_mem_cons.mpr ⟨⟨by decide, _, cL_28, List.mem_of_getElem? (i := 5) rfl⟩, (List.forall_mem_cons.mpr ⟨⟨by decide, _, cL_20, List.mem_of_getElem? (i := 4) rfl⟩, (List.forall_mem_cons.mpr ⟨⟨by decide, _, cL_38, List.mem_of_getElem? (i := 6) rfl⟩, (fun z hz => nomatch hz)⟩)⟩)⟩) ⟨by decide, by decide⟩ (by decide) cL_22 cast_IllegalStateException (fun q => ?_)
      refine X_astore (i := 7) (lo' := [(7, _), (0, _), (1, _), (2, _), (3, _), (4, _), (5, _), (6, _)]) dL_addVariant_29 (by decide) rfl ?_
      refine X_bipush (v := -79) dL_addVariant_31 (by decide) ?_
      refine X_ireturn dL_addVariant_33 rfl rfl ?_
      exact ⟨by rw [hcd]; rfl, ⟨_, hdc0, hdc1, hdc2, hX1⟩, hF1⟩
    · exact absurd hcd (by omega)
  obtain ⟨hr, hX1, hF1⟩ := hq
  obtain ⟨hcd, hvv⟩ := xr_inl hr
  cases hvv
  refine X_ireturn dL_addVariant_13 rfl rfl ?_
  exact ⟨by rw [hcd]; rfl, ⟨_, hdc0, hdc1, hdc2, hX1⟩, hF1⟩
set_option maxRecDepth 20000 in
theorem h_replaceFrom {P : PSt} {L : LSt} {pr : Nat → Nat} {O : OSt} {mp : Nat} {mk : Nat → UInt32} {a0 nn : Nat} (ha : w.1 0 = a0) (hS : ST nn G.2.2.1 w P L pr O mp mk) (hIP : IP P L pr O mp mk []) (l : Int32) (s : Int32) (c : Int32) (q : Int32) : XC G mL_replaceFrom 8 8 48 [.ref a0, .int l, .int s, .int c, .int q] w (fun r w' => r = .inl (some (.int (hv (cdRF P.1 L l s c q) [(-77), (-78), (-76), (-79)] (nI (ln L))))) ∧ ST nn G.2.2.1 w' P (if (cdRF P.1 L l s c q) = 0 then repL L (idx l) (idx s) (idx c) (idx q) else L) pr O mp mk ∧ FX w w') := by
  subst ha
  obtain ⟨dc, hn0, hc1, hc2, hIX⟩ := hS
  have hdc0 := hn0
  have hdc1 := hc1
  have hdc2 := hc2
  refine XC.of (lo0 := [(0, .ref (w.1 0)), (1, .int l), (2, .int s), (3, .int c), (4, .int q)]) kmL_replaceFrom (Nat.le_of_ble_eq_true rfl) rfl ?_
  refine X_aload_n dL_replaceFrom_0 (i := 0) rfl rfl ?_
  refine X_iload_n dL_replaceFrom_1 (i := 1) rfl rfl ?_
  refine X_iload_n dL_replaceFrom_2 (i := 2) rfl rfl ?_
  refine X_iload_n dL_replaceFrom_3 (i := 3) rfl rfl ?_
  refine X_iload dL_replaceFrom_4 (i := 4) rfl ?_
  refine X_callV (gc2 := 0) (gs2 := 0) (cx_replaceFrom (a0 := w.1 0) (a39 := w.1 39) (a63 := w.1 63) (a64 := w.1 64) ⟨trivial, rfl, rfl, rfl, rfl⟩ hIX hIP l s c q) (i := 0) hIX.1 rfl rfl kmX10_replaceFrom rfl lL_43 iX10_replaceFrom vX10_replaceFrom rfl rfl (Nat.le_of_ble_eq_true rfl) (by decide) dL_replaceFrom_6 (by omega) (by omega) (fun E w1 hq => ?_) (fun v w1 hq => ?_)
  · obtain ⟨hr, hX1, hF1⟩ := hq
    obtain ⟨kx, hcd, hE⟩ := xr_inr hr
    have hle : cdRF P.1 L l s c q ≤ 4 := cdRF_le
    rcases kx with _ | _ | _ | _ | kx
    · have hE : E = "java/lang/IndexOutOfBoundsException" := hE
      subst hE
      refine XT.catch (name := "java/lang/IndexOutOfBoundsException") [] (0, 9, 10, 28) [(0, 9, 15, 20), (0, 9, 20, 38), (0, 9, 25, 22)] rfl (fun z hz => nomatch hz) ⟨by decide, by decide⟩ (by decide) cL_28 cast_IndexOutOfBoundsException (fun q => ?_)
      refine X_astore (i := 5) (lo' := [(5, _), (0, _), (1, _), (2, _), (3, _), (4, _)]) dL_replaceFrom_10 (by decide) rfl ?_
      refine X_bipush (v := -77) dL_replaceFrom_12 (by decide) ?_
      refine X_ireturn dL_replaceFrom_14 rfl rfl ?_
      exact ⟨by rw [hcd]; rfl, ⟨_, hdc0, hdc1, hdc2, hX1⟩, hF1⟩
    · have hE : E = "java/lang/IllegalArgumentException" := hE
      subst hE
      refine XT.catch (name := "java/lang/IllegalArgumentException") [(0, 9, 10, 28)] (0, 9, 15, 20) [(0, 9, 20, 38), (0, 9, 25, 22)] rfl (List.forall_mem_cons.mpr ⟨⟨by decide, _, cL_28, List.mem_of_getElem? (i := 1) rfl⟩, (fun z hz => nomatch hz)⟩) ⟨by decide, by decide⟩ (by decide) cL_20 cast_IllegalArgumentException (fun q => ?_)
      refine X_astore (i := 5) (lo' := [(5, _), (0, _), (1, _), (2, _), (3, _), (4, _)]) dL_replaceFrom_15 (by decide) rfl ?_
      refine X_bipush (v := -78) dL_replaceFrom_17 (by decide) ?_
      refine X_ireturn dL_replaceFrom_19 rfl rfl ?_
      exact ⟨by rw [hcd]; rfl, ⟨_, hdc0, hdc1, hdc2, hX1⟩, hF1⟩
    · have hE : E = "java/lang/UnsupportedOperationException" := hE
      subst hE
      refine XT.catch (name := "java/lang/UnsupportedOperationException") [(0, 9, 10, 28), (0, 9, 15, 20)] (0, 9, 20, 38) [(0, 9, 25, 22)] rfl (List.forall_mem_cons.mpr ⟨⟨by decide, _, cL_28, List.mem_of_getElem? (i := 14) rfl⟩, (List.forall_mem_cons.mpr ⟨⟨by decide, _, cL_20, List.mem_of_getElem? (i := 12) rfl⟩, (fun z hz => nomatch hz)⟩)⟩) ⟨by decide, by decide⟩ (by decide) cL_38 cast_UnsupportedOperationException (fun q => ?_)
      refine X_astore (i := 5) (lo' := [(5, _), (0, _), (1, _), (2, _), (3, _), (4, _)]) dL_replaceFrom_20 (by decide) rfl ?_
      refine X_bipush (v := -76) dL_replaceFrom_22 (by decide) ?_
      refine X_ireturn dL_replaceFrom_24 rfl rfl ?_
      exact ⟨by rw [hcd]; rfl, ⟨_, hdc0, hdc1, hdc2, hX1⟩, hF1⟩
    · have hE : E = "java/lang/IllegalStateException" := hE
      subst hE
      refine XT.catch (name := "java/lang/IllegalStateException") [(0, 9, 10, 28), (0, 9, 15, 20), (0, 9, 20, 38)] (0, 9, 25, 22) [] rfl (List.forall_mem_cons.mpr ⟨⟨by decide, _, cL_28, List.mem_of_getElem? (i := 5) rfl⟩, (List.forall_mem_cons.mpr ⟨⟨by decide, _, cL_20, List.mem_of_getElem? (i := 4) rfl⟩, (List.forall_mem_cons.mpr ⟨⟨by decide, _, cL_38, List.mem_of_getElem? (i := 6) rfl⟩, (fun z hz => nomatch hz)⟩)⟩)⟩) ⟨by decide, by decide⟩ (by decide) cL_22 cast_IllegalStateException (fun q => ?_)
      refine X_astore (i := 5) (lo' := [(5, _), (0, _), (1, _), (2, _), (3, _), (4, _)]) dL_replaceFrom_25 (by decide) rfl ?_
      refine X_bipush (v := -79) dL_replaceFrom_27 (by decide) ?_
      refine X_ireturn dL_replaceFrom_29 rfl rfl ?_
      exact ⟨by rw [hcd]; rfl, ⟨_, hdc0, hdc1, hdc2, hX1⟩, hF1⟩
    · exact absurd hcd (by omega)
  obtain ⟨hr, hX1, hF1⟩ := hq
  obtain ⟨hcd, hvv⟩ := xr_inl hr
  cases hvv
  refine X_ireturn dL_replaceFrom_9 rfl rfl ?_
  exact ⟨by rw [hcd]; rfl, ⟨_, hdc0, hdc1, hdc2, hX1⟩, hF1⟩
set_option maxRecDepth 20000 in
theorem h_endBefore {P : PSt} {L : LSt} {pr : Nat → Nat} {O : OSt} {mp : Nat} {mk : Nat → UInt32} {a0 nn : Nat} (ha : w.1 0 = a0) (hS : ST nn G.2.2.1 w P L pr O mp mk) (hIP : IP P L pr O mp mk []) (l : Int32) (s : Int32) : XC G mL_endBefore 8 2 12 [.ref a0, .int l, .int s] w (fun r w' => r = .inl (some (.int (hv (cdEB L l s) [(-77), (-78)] (nI (la L (idx l)))))) ∧ ST nn G.2.2.1 w' P (if (cdEB L l s) = 0 then cutL L (idx l) (idx s - 1) else L) pr O mp mk ∧ FX w w') := by
  subst ha
  obtain ⟨dc, hn0, hc1, hc2, hIX⟩ := hS
  have hdc0 := hn0
  have hdc1 := hc1
  have hdc2 := hc2
  refine XC.of (lo0 := [(0, .ref (w.1 0)), (1, .int l), (2, .int s)]) kmL_endBefore (Nat.le_of_ble_eq_true rfl) rfl ?_
  refine X_aload_n dL_endBefore_0 (i := 0) rfl rfl ?_
  refine X_iload_n dL_endBefore_1 (i := 1) rfl rfl ?_
  refine X_iload_n dL_endBefore_2 (i := 2) rfl rfl ?_
  refine X_callV (gc2 := 0) (gs2 := 0) (cx_endBefore (a0 := w.1 0) (a39 := w.1 39) (a63 := w.1 63) (a64 := w.1 64) ⟨trivial, rfl, rfl, rfl, rfl⟩ hIX hIP l s) (i := 0) hIX.1 rfl rfl kmX10_endBefore rfl lL_47 iX10_endBefore vX10_endBefore rfl rfl (Nat.le_of_ble_eq_true rfl) (by decide) dL_endBefore_3 (by omega) (by omega) (fun E w1 hq => ?_) (fun v w1 hq => ?_)
  · obtain ⟨hr, hX1, hF1⟩ := hq
    obtain ⟨kx, hcd, hE⟩ := xr_inr hr
    have hle : cdEB L l s ≤ 2 := cdEB_le
    rcases kx with _ | _ | kx
    · have hE : E = "java/lang/IndexOutOfBoundsException" := hE
      subst hE
      refine XT.catch (name := "java/lang/IndexOutOfBoundsException") [] (0, 6, 7, 28) [(0, 6, 11, 20)] rfl (fun z hz => nomatch hz) ⟨by decide, by decide⟩ (by decide) cL_28 cast_IndexOutOfBoundsException (fun q => ?_)
      refine X_astore_n (i := 3) (lo' := [(3, _), (0, _), (1, _), (2, _)]) dL_endBefore_7 rfl (by decide) rfl ?_
      refine X_bipush (v := -77) dL_endBefore_8 (by decide) ?_
      refine X_ireturn dL_endBefore_10 rfl rfl ?_
      exact ⟨by rw [hcd]; rfl, ⟨_, hdc0, hdc1, hdc2, hX1⟩, hF1⟩
    · have hE : E = "java/lang/IllegalArgumentException" := hE
      subst hE
      refine XT.catch (name := "java/lang/IllegalArgumentException") [(0, 6, 7, 28)] (0, 6, 11, 20) [] rfl (List.forall_mem_cons.mpr ⟨⟨by decide, _, cL_28, List.mem_of_getElem? (i := 1) rfl⟩, (fun z hz => nomatch hz)⟩) ⟨by decide, by decide⟩ (by decide) cL_20 cast_IllegalArgumentException (fun q => ?_)
      refine X_astore_n (i := 3) (lo' := [(3, _), (0, _), (1, _), (2, _)]) dL_endBefore_11 rfl (by decide) rfl ?_
      refine X_bipush (v := -78) dL_endBefore_12 (by decide) ?_
      refine X_ireturn dL_endBefore_14 rfl rfl ?_
      exact ⟨by rw [hcd]; rfl, ⟨_, hdc0, hdc1, hdc2, hX1⟩, hF1⟩
    · exact absurd hcd (by omega)
  obtain ⟨hr, hX1, hF1⟩ := hq
  obtain ⟨hcd, hvv⟩ := xr_inl hr
  cases hvv
  refine X_ireturn dL_endBefore_6 rfl rfl ?_
  exact ⟨by rw [hcd]; rfl, ⟨_, hdc0, hdc1, hdc2, hX1⟩, hF1⟩
set_option maxRecDepth 20000 in
theorem h_setScrap {P : PSt} {L : LSt} {pr : Nat → Nat} {O : OSt} {mp : Nat} {mk : Nat → UInt32} {a0 nn : Nat} (ha : w.1 0 = a0) (hS : ST nn G.2.2.1 w P L pr O mp mk) (hIP : IP P L pr O mp mk []) (l : Int32) (c : Int32) : XC G mL_setScrap 8 2 12 [.ref a0, .int l, .int c] w (fun r w' => r = .inl (some (.int (hv (cdSS L l c) [(-77), (-78)] (nI (sc L (idx l)))))) ∧ ST nn G.2.2.1 w' P (if (cdSS L l c) = 0 then (ln L, pa L, po L, ch L, qt L, va_up (sc L) (idx l) (idx c), fi L, la L, op L, cs L) else L) pr O mp mk ∧ FX w w') := by
  subst ha
  obtain ⟨dc, hn0, hc1, hc2, hIX⟩ := hS
  have hdc0 := hn0
  have hdc1 := hc1
  have hdc2 := hc2
  refine XC.of (lo0 := [(0, .ref (w.1 0)), (1, .int l), (2, .int c)]) kmL_setScrap (Nat.le_of_ble_eq_true rfl) rfl ?_
  refine X_aload_n dL_setScrap_0 (i := 0) rfl rfl ?_
  refine X_iload_n dL_setScrap_1 (i := 1) rfl rfl ?_
  refine X_iload_n dL_setScrap_2 (i := 2) rfl rfl ?_
  refine X_callV (gc2 := 0) (gs2 := 0) (cx_setScrap (a0 := w.1 0) (a39 := w.1 39) (a63 := w.1 63) (a64 := w.1 64) ⟨trivial, rfl, rfl, rfl, rfl⟩ hIX hIP l c) (i := 0) hIX.1 rfl rfl kmX10_setScrap rfl lL_50 iX10_setScrap vX10_setScrap rfl rfl (Nat.le_of_ble_eq_true rfl) (by decide) dL_setScrap_3 (by omega) (by omega) (fun E w1 hq => ?_) (fun v w1 hq => ?_)
  · obtain ⟨hr, hX1, hF1⟩ := hq
    obtain ⟨kx, hcd, hE⟩ := xr_inr hr
    have hle : cdSS L l c ≤ 2 := cdSS_le
    rcases kx with _ | _ | kx
    · have hE : E = "java/lang/IndexOutOfBoundsException" := hE
      subst hE
      refine XT.catch (name := "java/lang/IndexOutOfBoundsException") [] (0, 6, 7, 28) [(0, 6, 11, 20)] rfl (fun z hz => nomatch hz) ⟨by decide, by decide⟩ (by decide) cL_28 cast_IndexOutOfBoundsException (fun q => ?_)
      refine X_astore_n (i := 3) (lo' := [(3, _), (0, _), (1, _), (2, _)]) dL_setScrap_7 rfl (by decide) rfl ?_
      refine X_bipush (v := -77) dL_setScrap_8 (by decide) ?_
      refine X_ireturn dL_setScrap_10 rfl rfl ?_
      exact ⟨by rw [hcd]; rfl, ⟨_, hdc0, hdc1, hdc2, hX1⟩, hF1⟩
    · have hE : E = "java/lang/IllegalArgumentException" := hE
      subst hE
      refine XT.catch (name := "java/lang/IllegalArgumentException") [(0, 6, 7, 28)] (0, 6, 11, 20) [] rfl (List.forall_mem_cons.mpr ⟨⟨by decide, _, cL_28, List.mem_of_getElem? (i := 1) rfl⟩, (fun z hz => nomatch hz)⟩) ⟨by decide, by decide⟩ (by decide) cL_20 cast_IllegalArgumentException (fun q => ?_)
      refine X_astore_n (i := 3) (lo' := [(3, _), (0, _), (1, _), (2, _)]) dL_setScrap_11 rfl (by decide) rfl ?_
      refine X_bipush (v := -78) dL_setScrap_12 (by decide) ?_
      refine X_ireturn dL_setScrap_14 rfl rfl ?_
      exact ⟨by rw [hcd]; rfl, ⟨_, hdc0, hdc1, hdc2, hX1⟩, hF1⟩
    · exact absurd hcd (by omega)
  obtain ⟨hr, hX1, hF1⟩ := hq
  obtain ⟨hcd, hvv⟩ := xr_inl hr
  cases hvv
  refine X_ireturn dL_setScrap_6 rfl rfl ?_
  exact ⟨by rw [hcd]; rfl, ⟨_, hdc0, hdc1, hdc2, hX1⟩, hF1⟩
set_option maxRecDepth 20000 in
theorem h_lastSerial {P : PSt} {L : LSt} {pr : Nat → Nat} {O : OSt} {mp : Nat} {mk : Nat → UInt32} {a0 nn : Nat} (ha : w.1 0 = a0) (hS : ST nn G.2.2.1 w P L pr O mp mk) (hIP : IP P L pr O mp mk []) (l : Int32) : XC G mL_lastSerial 8 1 6 [.ref a0, .int l] w (fun r w' => r = .inl (some (.int (hv (cdP l (ln L)) [(-77)] (nI (la L (idx l)))))) ∧ ST nn G.2.2.1 w' P L pr O mp mk ∧ FX w w') := by
  subst ha
  obtain ⟨dc, hn0, hc1, hc2, hIX⟩ := hS
  have hdc0 := hn0
  have hdc1 := hc1
  have hdc2 := hc2
  refine XC.of (lo0 := [(0, .ref (w.1 0)), (1, .int l)]) kmL_lastSerial (Nat.le_of_ble_eq_true rfl) rfl ?_
  refine X_aload_n dL_lastSerial_0 (i := 0) rfl rfl ?_
  refine X_iload_n dL_lastSerial_1 (i := 1) rfl rfl ?_
  refine X_callV (gc2 := 0) (gs2 := 0) (cx_lastSerial (a0 := w.1 0) (a39 := w.1 39) (a63 := w.1 63) (a64 := w.1 64) ⟨trivial, rfl, rfl, rfl, rfl⟩ hIX hIP l) (i := 0) hIX.1 rfl rfl kmX10_lastSerial rfl lL_53 iX10_lastSerial vX10_lastSerial rfl rfl (Nat.le_of_ble_eq_true rfl) (by decide) dL_lastSerial_2 (by omega) (by omega) (fun E w1 hq => ?_) (fun v w1 hq => ?_)
  · obtain ⟨hr, hX1, hF1⟩ := hq
    obtain ⟨kx, hcd, hE⟩ := xr_inr hr
    have hle : cdP l (ln L) ≤ 1 := cdP_le
    rcases kx with _ | kx
    · have hE : E = "java/lang/IndexOutOfBoundsException" := hE
      subst hE
      refine XT.catch (name := "java/lang/IndexOutOfBoundsException") [] (0, 5, 6, 28) [] rfl (fun z hz => nomatch hz) ⟨by decide, by decide⟩ (by decide) cL_28 cast_IndexOutOfBoundsException (fun q => ?_)
      refine X_astore_n (i := 2) (lo' := [(2, _), (0, _), (1, _)]) dL_lastSerial_6 rfl (by decide) rfl ?_
      refine X_bipush (v := -77) dL_lastSerial_7 (by decide) ?_
      refine X_ireturn dL_lastSerial_9 rfl rfl ?_
      exact ⟨by rw [hcd]; rfl, ⟨_, hdc0, hdc1, hdc2, hX1⟩, hF1⟩
    · exact absurd hcd (by omega)
  obtain ⟨hr, hX1, hF1⟩ := hq
  obtain ⟨hcd, hvv⟩ := xr_inl hr
  cases hvv
  refine X_ireturn dL_lastSerial_5 rfl rfl ?_
  exact ⟨by rw [hcd]; rfl, ⟨_, hdc0, hdc1, hdc2, hX1⟩, hF1⟩
set_option maxRecDepth 20000 in
theorem h_holds {P : PSt} {L : LSt} {pr : Nat → Nat} {O : OSt} {mp : Nat} {mk : Nat → UInt32} {a0 nn : Nat} (ha : w.1 0 = a0) (hS : ST nn G.2.2.1 w P L pr O mp mk) (hIP : IP P L pr O mp mk []) (l : Int32) (s : Int32) : XC G mL_holds 8 2 12 [.ref a0, .int l, .int s] w (fun r w' => r = .inl (some (.int (hv (cdA l s (ln L)) [(-77), (-78)] (bI (hld L pr (idx s) (idx l)))))) ∧ ST nn G.2.2.1 w' P L pr O mp mk ∧ FX w w') := by
  subst ha
  obtain ⟨dc, hn0, hc1, hc2, hIX⟩ := hS
  have hdc0 := hn0
  have hdc1 := hc1
  have hdc2 := hc2
  refine XC.of (lo0 := [(0, .ref (w.1 0)), (1, .int l), (2, .int s)]) kmL_holds (Nat.le_of_ble_eq_true rfl) rfl ?_
  refine X_aload_n dL_holds_0 (i := 0) rfl rfl ?_
  refine X_iload_n dL_holds_1 (i := 1) rfl rfl ?_
  refine X_iload_n dL_holds_2 (i := 2) rfl rfl ?_
  refine X_callV (gc2 := 0) (gs2 := 0) (cx_holds (a0 := w.1 0) (a39 := w.1 39) (a63 := w.1 63) (a64 := w.1 64) ⟨trivial, rfl, rfl, rfl, rfl⟩ hIX hIP l s) (i := 0) hIX.1 rfl rfl kmX10_holds rfl lL_57 iX10_holds vX10_holds rfl rfl (Nat.le_of_ble_eq_true rfl) (by decide) dL_holds_3 (by omega) (by omega) (fun E w1 hq => ?_) (fun v w1 hq => ?_)
  · obtain ⟨hr, hX1, hF1⟩ := hq
    obtain ⟨kx, hcd, hE⟩ := xr_inr hr
    have hle : cdA l s (ln L) ≤ 2 := cdA_le
    rcases kx with _ | _ | kx
    · have hE : E = "java/lang/IndexOutOfBoundsException" := hE
      subst hE
      refine XT.catch (name := "java/lang/IndexOutOfBoundsException") [] (0, 14, 15, 28) [(0, 14, 19, 20)] rfl (fun z hz => nomatch hz) ⟨by decide, by decide⟩ (by decide) cL_28 cast_IndexOutOfBoundsException (fun q => ?_)
      refine X_astore_n (i := 3) (lo' := [(3, _), (0, _), (1, _), (2, _)]) dL_holds_15 rfl (by decide) rfl ?_
      refine X_bipush (v := -77) dL_holds_16 (by decide) ?_
      refine X_ireturn dL_holds_18 rfl rfl ?_
      exact ⟨by rw [hcd]; rfl, ⟨_, hdc0, hdc1, hdc2, hX1⟩, hF1⟩
    · have hE : E = "java/lang/IllegalArgumentException" := hE
      subst hE
      refine XT.catch (name := "java/lang/IllegalArgumentException") [(0, 14, 15, 28)] (0, 14, 19, 20) [] rfl (List.forall_mem_cons.mpr ⟨⟨by decide, _, cL_28, List.mem_of_getElem? (i := 1) rfl⟩, (fun z hz => nomatch hz)⟩) ⟨by decide, by decide⟩ (by decide) cL_20 cast_IllegalArgumentException (fun q => ?_)
      refine X_astore_n (i := 3) (lo' := [(3, _), (0, _), (1, _), (2, _)]) dL_holds_19 rfl (by decide) rfl ?_
      refine X_bipush (v := -78) dL_holds_20 (by decide) ?_
      refine X_ireturn dL_holds_22 rfl rfl ?_
      exact ⟨by rw [hcd]; rfl, ⟨_, hdc0, hdc1, hdc2, hX1⟩, hF1⟩
    · exact absurd hcd (by omega)
  obtain ⟨hr, hX1, hF1⟩ := hq
  obtain ⟨hcd, hvv⟩ := xr_inl hr
  cases hvv
  refine X_if_eq (tgt := 13) dL_holds_6 (by decide) (fun hb1 => ?_) (fun hb1 => ?_)
  · have hbb := bI_eq hb1
    refine X_iconst (v := 0) dL_holds_13 (by decide) ?_
    refine X_ireturn dL_holds_14 rfl rfl ?_
    exact ⟨by rw [hcd, hbb]; rfl, ⟨_, hdc0, hdc1, hdc2, hX1⟩, hF1⟩
  · have hbb := bI_ne hb1
    refine X_iconst (v := 1) dL_holds_9 (by decide) ?_
    refine X_goto (tgt := 14) dL_holds_10 (by decide) ?_
    refine X_ireturn dL_holds_14 rfl rfl ?_
    exact ⟨by rw [hcd, hbb]; rfl, ⟨_, hdc0, hdc1, hdc2, hX1⟩, hF1⟩
set_option maxRecDepth 20000 in
theorem h_setChoice {P : PSt} {L : LSt} {pr : Nat → Nat} {O : OSt} {mp : Nat} {mk : Nat → UInt32} {a0 nn : Nat} (ha : w.1 0 = a0) (hS : ST nn G.2.2.1 w P L pr O mp mk) (hIP : IP P L pr O mp mk []) (l : Int32) (c : Int32) : XC G mL_setChoice 8 2 12 [.ref a0, .int l, .int c] w (fun r w' => r = .inl (some (.int (hv (cdSC l c) [(-77), (-78)] (nI (pr (idx l)))))) ∧ ST nn G.2.2.1 w' P L (if (cdSC l c) = 0 then va_up pr (idx l) (idx c) else pr) O mp mk ∧ FX w w') := by
  subst ha
  obtain ⟨dc, hn0, hc1, hc2, hIX⟩ := hS
  have hdc0 := hn0
  have hdc1 := hc1
  have hdc2 := hc2
  refine XC.of (lo0 := [(0, .ref (w.1 0)), (1, .int l), (2, .int c)]) kmL_setChoice (Nat.le_of_ble_eq_true rfl) rfl ?_
  refine X_aload_n dL_setChoice_0 (i := 0) rfl rfl ?_
  refine X_iload_n dL_setChoice_1 (i := 1) rfl rfl ?_
  refine X_iload_n dL_setChoice_2 (i := 2) rfl rfl ?_
  refine X_callV (gc2 := 0) (gs2 := 0) (cx_setChoice (a0 := w.1 0) (a39 := w.1 39) (a63 := w.1 63) (a64 := w.1 64) ⟨trivial, rfl, rfl, rfl, rfl⟩ hIX hIP l c) (i := 0) hIX.1 rfl rfl kmX10_setChoice rfl lL_61 iX10_setChoice vX10_setChoice rfl rfl (Nat.le_of_ble_eq_true rfl) (by decide) dL_setChoice_3 (by omega) (by omega) (fun E w1 hq => ?_) (fun v w1 hq => ?_)
  · obtain ⟨hr, hX1, hF1⟩ := hq
    obtain ⟨kx, hcd, hE⟩ := xr_inr hr
    have hle : cdSC l c ≤ 2 := cdSC_le
    rcases kx with _ | _ | kx
    · have hE : E = "java/lang/IndexOutOfBoundsException" := hE
      subst hE
      refine XT.catch (name := "java/lang/IndexOutOfBoundsException") [] (0, 6, 7, 28) [(0, 6, 11, 20)] rfl (fun z hz => nomatch hz) ⟨by decide, by decide⟩ (by decide) cL_28 cast_IndexOutOfBoundsException (fun q => ?_)
      refine X_astore_n (i := 3) (lo' := [(3, _), (0, _), (1, _), (2, _)]) dL_setChoice_7 rfl (by decide) rfl ?_
      refine X_bipush (v := -77) dL_setChoice_8 (by decide) ?_
      refine X_ireturn dL_setChoice_10 rfl rfl ?_
      exact ⟨by rw [hcd]; rfl, ⟨_, hdc0, hdc1, hdc2, hX1⟩, hF1⟩
    · have hE : E = "java/lang/IllegalArgumentException" := hE
      subst hE
      refine XT.catch (name := "java/lang/IllegalArgumentException") [(0, 6, 7, 28)] (0, 6, 11, 20) [] rfl (List.forall_mem_cons.mpr ⟨⟨by decide, _, cL_28, List.mem_of_getElem? (i := 1) rfl⟩, (fun z hz => nomatch hz)⟩) ⟨by decide, by decide⟩ (by decide) cL_20 cast_IllegalArgumentException (fun q => ?_)
      refine X_astore_n (i := 3) (lo' := [(3, _), (0, _), (1, _), (2, _)]) dL_setChoice_11 rfl (by decide) rfl ?_
      refine X_bipush (v := -78) dL_setChoice_12 (by decide) ?_
      refine X_ireturn dL_setChoice_14 rfl rfl ?_
      exact ⟨by rw [hcd]; rfl, ⟨_, hdc0, hdc1, hdc2, hX1⟩, hF1⟩
    · exact absurd hcd (by omega)
  obtain ⟨hr, hX1, hF1⟩ := hq
  obtain ⟨hcd, hvv⟩ := xr_inl hr
  cases hvv
  refine X_ireturn dL_setChoice_6 rfl rfl ?_
  exact ⟨by rw [hcd]; rfl, ⟨_, hdc0, hdc1, hdc2, hX1⟩, hF1⟩
set_option maxRecDepth 20000 in
theorem h_choice {P : PSt} {L : LSt} {pr : Nat → Nat} {O : OSt} {mp : Nat} {mk : Nat → UInt32} {a0 nn : Nat} (ha : w.1 0 = a0) (hS : ST nn G.2.2.1 w P L pr O mp mk) (hIP : IP P L pr O mp mk []) (l : Int32) : XC G mL_choice 8 1 6 [.ref a0, .int l] w (fun r w' => r = .inl (some (.int (hv (cdC l) [(-77)] (nI (pr (idx l)))))) ∧ ST nn G.2.2.1 w' P L pr O mp mk ∧ FX w w') := by
  subst ha
  obtain ⟨dc, hn0, hc1, hc2, hIX⟩ := hS
  have hdc0 := hn0
  have hdc1 := hc1
  have hdc2 := hc2
  refine XC.of (lo0 := [(0, .ref (w.1 0)), (1, .int l)]) kmL_choice (Nat.le_of_ble_eq_true rfl) rfl ?_
  refine X_aload_n dL_choice_0 (i := 0) rfl rfl ?_
  refine X_iload_n dL_choice_1 (i := 1) rfl rfl ?_
  refine X_callV (gc2 := 0) (gs2 := 0) (cx_choice (a0 := w.1 0) (a39 := w.1 39) (a63 := w.1 63) (a64 := w.1 64) ⟨trivial, rfl, rfl, rfl, rfl⟩ hIX hIP l) (i := 0) hIX.1 rfl rfl kmX10_choice rfl lL_64 iX10_choice vX10_choice rfl rfl (Nat.le_of_ble_eq_true rfl) (by decide) dL_choice_2 (by omega) (by omega) (fun E w1 hq => ?_) (fun v w1 hq => ?_)
  · obtain ⟨hr, hX1, hF1⟩ := hq
    obtain ⟨kx, hcd, hE⟩ := xr_inr hr
    have hle : cdC l ≤ 1 := cdC_le
    rcases kx with _ | kx
    · have hE : E = "java/lang/IndexOutOfBoundsException" := hE
      subst hE
      refine XT.catch (name := "java/lang/IndexOutOfBoundsException") [] (0, 5, 6, 28) [] rfl (fun z hz => nomatch hz) ⟨by decide, by decide⟩ (by decide) cL_28 cast_IndexOutOfBoundsException (fun q => ?_)
      refine X_astore_n (i := 2) (lo' := [(2, _), (0, _), (1, _)]) dL_choice_6 rfl (by decide) rfl ?_
      refine X_bipush (v := -77) dL_choice_7 (by decide) ?_
      refine X_ireturn dL_choice_9 rfl rfl ?_
      exact ⟨by rw [hcd]; rfl, ⟨_, hdc0, hdc1, hdc2, hX1⟩, hF1⟩
    · exact absurd hcd (by omega)
  obtain ⟨hr, hX1, hF1⟩ := hq
  obtain ⟨hcd, hvv⟩ := xr_inl hr
  cases hvv
  refine X_ireturn dL_choice_5 rfl rfl ?_
  exact ⟨by rw [hcd]; rfl, ⟨_, hdc0, hdc1, hdc2, hX1⟩, hF1⟩
set_option maxRecDepth 20000 in
theorem h_listSize {P : PSt} {L : LSt} {pr : Nat → Nat} {O : OSt} {mp : Nat} {mk : Nat → UInt32} {a0 nn : Nat} (ha : w.1 0 = a0) (hS : ST nn G.2.2.1 w P L pr O mp mk) (hIP : IP P L pr O mp mk []) (a : Int32) (s : Int32) (hlen : (listN P.2.1 L pr (idx s) 5 (idx a) 1).length ≤ 36) : XC G mL_listSize 10 58 236 [.ref a0, .int a, .int s] w (fun r w' => r = .inl (some (.int (hv (cdA a s P.1) [(-77), (-78)] (nI (listN P.2.1 L pr (idx s) 5 (idx a) 1).length)))) ∧ ST (if cdA a s P.1 = 0 then (listN P.2.1 L pr (idx s) 5 (idx a) 1).length else 0) G.2.2.1 w' P L pr O mp mk ∧ FX w w') := by
  subst ha
  obtain ⟨dc, hn0, hc1, hc2, hIX⟩ := hS
  have hcp := cap72 hc1 hc2 hlen
  have hge := capL_ge (n := 0) (cap := dc) (k := (listN P.2.1 L pr (idx s) 5 (idx a) 1).length) (by omega) (by omega)
  have hdc0 : (if cdA a s P.1 = 0 then (listN P.2.1 L pr (idx s) 5 (idx a) 1).length else 0) ≤ (if cdA a s P.1 = 0 then capL 0 dc (listN P.2.1 L pr (idx s) 5 (idx a) 1).length else dc) := by split <;> omega
  have hdc1 : 16 ≤ (if cdA a s P.1 = 0 then capL 0 dc (listN P.2.1 L pr (idx s) 5 (idx a) 1).length else dc) := by split <;> omega
  have hdc2 : (if cdA a s P.1 = 0 then capL 0 dc (listN P.2.1 L pr (idx s) 5 (idx a) 1).length else dc) ≤ 72 := by split <;> omega
  refine XC.of (lo0 := [(0, .ref (w.1 0)), (1, .int a), (2, .int s)]) kmL_listSize (Nat.le_of_ble_eq_true rfl) rfl ?_
  refine X_aload_n dL_listSize_0 (i := 0) rfl rfl ?_
  refine X_iload_n dL_listSize_1 (i := 1) rfl rfl ?_
  refine X_iload_n dL_listSize_2 (i := 2) rfl rfl ?_
  refine X_callV (gc2 := 0) (gs2 := 0) (cx_listSize (a0 := w.1 0) (a39 := w.1 39) (a63 := w.1 63) (a64 := w.1 64) ⟨trivial, rfl, rfl, rfl, rfl⟩ hIX hIP a s) (i := 0) hIX.1 rfl rfl kmX10_listSize rfl lL_67 iX10_listSize vX10_listSize rfl rfl (Nat.le_of_ble_eq_true rfl) (by decide) dL_listSize_3 (by omega) (by omega) (fun E w1 hq => ?_) (fun v w1 hq => ?_)
  · obtain ⟨hr, hX1, hF1⟩ := hq
    obtain ⟨kx, hcd, hE⟩ := xr_inr hr
    have hle : cdA a s P.1 ≤ 2 := cdA_le
    rcases kx with _ | _ | kx
    · have hE : E = "java/lang/IndexOutOfBoundsException" := hE
      subst hE
      refine XT.catch (name := "java/lang/IndexOutOfBoundsException") [] (0, 6, 7, 28) [(0, 6, 11, 20)] rfl (fun z hz => nomatch hz) ⟨by decide, by decide⟩ (by decide) cL_28 cast_IndexOutOfBoundsException (fun q => ?_)
      refine X_astore_n (i := 3) (lo' := [(3, _), (0, _), (1, _), (2, _)]) dL_listSize_7 rfl (by decide) rfl ?_
      refine X_bipush (v := -77) dL_listSize_8 (by decide) ?_
      refine X_ireturn dL_listSize_10 rfl rfl ?_
      exact ⟨by rw [hcd]; rfl, ⟨_, hdc0, hdc1, hdc2, hX1⟩, hF1⟩
    · have hE : E = "java/lang/IllegalArgumentException" := hE
      subst hE
      refine XT.catch (name := "java/lang/IllegalArgumentException") [(0, 6, 7, 28)] (0, 6, 11, 20) [] rfl (List.forall_mem_cons.mpr ⟨⟨by decide, _, cL_28, List.mem_of_getElem? (i := 1) rfl⟩, (fun z hz => nomatch hz)⟩) ⟨by decide, by decide⟩ (by decide) cL_20 cast_IllegalArgumentException (fun q => ?_)
      refine X_astore_n (i := 3) (lo' := [(3, _), (0, _), (1, _), (2, _)]) dL_listSize_11 rfl (by decide) rfl ?_
      refine X_bipush (v := -78) dL_listSize_12 (by decide) ?_
      refine X_ireturn dL_listSize_14 rfl rfl ?_
      exact ⟨by rw [hcd]; rfl, ⟨_, hdc0, hdc1, hdc2, hX1⟩, hF1⟩
    · exact absurd hcd (by omega)
  obtain ⟨hr, hX1, hF1⟩ := hq
  obtain ⟨hcd, hvv⟩ := xr_inl hr
  cases hvv
  refine X_ireturn dL_listSize_6 rfl rfl ?_
  exact ⟨by rw [hcd]; rfl, ⟨_, hdc0, hdc1, hdc2, hX1⟩, hF1⟩
set_option maxRecDepth 20000 in
theorem h_listPart {P : PSt} {L : LSt} {pr : Nat → Nat} {O : OSt} {mp : Nat} {mk : Nat → UInt32} {a0 nn : Nat} (ha : w.1 0 = a0) (hS : ST nn G.2.2.1 w P L pr O mp mk) (hIP : IP P L pr O mp mk []) (a : Int32) (s : Int32) (i : Int32) (hlen : (listN P.2.1 L pr (idx s) 5 (idx a) 1).length ≤ 36) : XC G mL_listPart 10 59 242 [.ref a0, .int a, .int s, .int i] w (fun r w' => r = .inl (some (.int (hv (cdLP a s i P.1 (listN P.2.1 L pr (idx s) 5 (idx a) 1).length) [(-77), (-78), (-75)] (nI ((listN P.2.1 L pr (idx s) 5 (idx a) 1).getD (idx i) (0, 0)).1)))) ∧ ST (if cdA a s P.1 = 0 then (listN P.2.1 L pr (idx s) 5 (idx a) 1).length else 0) G.2.2.1 w' P L pr O mp mk ∧ FX w w') := by
  subst ha
  obtain ⟨dc, hn0, hc1, hc2, hIX⟩ := hS
  have hcp := cap72 hc1 hc2 hlen
  have hge := capL_ge (n := 0) (cap := dc) (k := (listN P.2.1 L pr (idx s) 5 (idx a) 1).length) (by omega) (by omega)
  have hdc0 : (if cdA a s P.1 = 0 then (listN P.2.1 L pr (idx s) 5 (idx a) 1).length else 0) ≤ (if cdA a s P.1 = 0 then capL 0 dc (listN P.2.1 L pr (idx s) 5 (idx a) 1).length else dc) := by split <;> omega
  have hdc1 : 16 ≤ (if cdA a s P.1 = 0 then capL 0 dc (listN P.2.1 L pr (idx s) 5 (idx a) 1).length else dc) := by split <;> omega
  have hdc2 : (if cdA a s P.1 = 0 then capL 0 dc (listN P.2.1 L pr (idx s) 5 (idx a) 1).length else dc) ≤ 72 := by split <;> omega
  refine XC.of (lo0 := [(0, .ref (w.1 0)), (1, .int a), (2, .int s), (3, .int i)]) kmL_listPart (Nat.le_of_ble_eq_true rfl) rfl ?_
  refine X_aload_n dL_listPart_0 (i := 0) rfl rfl ?_
  refine X_iload_n dL_listPart_1 (i := 1) rfl rfl ?_
  refine X_iload_n dL_listPart_2 (i := 2) rfl rfl ?_
  refine X_iload_n dL_listPart_3 (i := 3) rfl rfl ?_
  refine X_callV (gc2 := 0) (gs2 := 0) (cx_listPart (a0 := w.1 0) (a39 := w.1 39) (a63 := w.1 63) (a64 := w.1 64) ⟨trivial, rfl, rfl, rfl, rfl⟩ hIX hIP a s i) (i := 0) hIX.1 rfl rfl kmX10_listPart rfl lL_70 iX10_listPart vX10_listPart rfl rfl (Nat.le_of_ble_eq_true rfl) (by decide) dL_listPart_4 (by omega) (by omega) (fun E w1 hq => ?_) (fun v w1 hq => ?_)
  · obtain ⟨hr, hX1, hF1⟩ := hq
    obtain ⟨kx, hcd, hE⟩ := xr_inr hr
    have hle : cdLP a s i P.1 (listN P.2.1 L pr (idx s) 5 (idx a) 1).length ≤ 3 := cdLP_le
    rcases kx with _ | _ | _ | kx
    · have hE : E = "java/lang/IndexOutOfBoundsException" := hE
      subst hE
      refine XT.catch (name := "java/lang/IndexOutOfBoundsException") [] (0, 7, 8, 28) [(0, 7, 13, 20), (0, 7, 18, 74)] rfl (fun z hz => nomatch hz) ⟨by decide, by decide⟩ (by decide) cL_28 cast_IndexOutOfBoundsException (fun q => ?_)
      refine X_astore (i := 4) (lo' := [(4, _), (0, _), (1, _), (2, _), (3, _)]) dL_listPart_8 (by decide) rfl ?_
      refine X_bipush (v := -77) dL_listPart_10 (by decide) ?_
      refine X_ireturn dL_listPart_12 rfl rfl ?_
      exact ⟨by rw [hcd]; rfl, ⟨_, hdc0, hdc1, hdc2, hX1⟩, hF1⟩
    · have hE : E = "java/lang/IllegalArgumentException" := hE
      subst hE
      refine XT.catch (name := "java/lang/IllegalArgumentException") [(0, 7, 8, 28)] (0, 7, 13, 20) [(0, 7, 18, 74)] rfl (List.forall_mem_cons.mpr ⟨⟨by decide, _, cL_28, List.mem_of_getElem? (i := 1) rfl⟩, (fun z hz => nomatch hz)⟩) ⟨by decide, by decide⟩ (by decide) cL_20 cast_IllegalArgumentException (fun q => ?_)
      refine X_astore (i := 4) (lo' := [(4, _), (0, _), (1, _), (2, _), (3, _)]) dL_listPart_13 (by decide) rfl ?_
      refine X_bipush (v := -78) dL_listPart_15 (by decide) ?_
      refine X_ireturn dL_listPart_17 rfl rfl ?_
      exact ⟨by rw [hcd]; rfl, ⟨_, hdc0, hdc1, hdc2, hX1⟩, hF1⟩
    · have hE : E = "java/util/NoSuchElementException" := hE
      subst hE
      refine XT.catch (name := "java/util/NoSuchElementException") [(0, 7, 8, 28), (0, 7, 13, 20)] (0, 7, 18, 74) [] rfl (List.forall_mem_cons.mpr ⟨⟨by decide, _, cL_28, List.mem_of_getElem? (i := 18) rfl⟩, (List.forall_mem_cons.mpr ⟨⟨by decide, _, cL_20, List.mem_of_getElem? (i := 16) rfl⟩, (fun z hz => nomatch hz)⟩)⟩) ⟨by decide, by decide⟩ (by decide) cL_74 cast_NoSuchElementException (fun q => ?_)
      refine X_astore (i := 4) (lo' := [(4, _), (0, _), (1, _), (2, _), (3, _)]) dL_listPart_18 (by decide) rfl ?_
      refine X_bipush (v := -75) dL_listPart_20 (by decide) ?_
      refine X_ireturn dL_listPart_22 rfl rfl ?_
      exact ⟨by rw [hcd]; rfl, ⟨_, hdc0, hdc1, hdc2, hX1⟩, hF1⟩
    · exact absurd hcd (by omega)
  obtain ⟨hr, hX1, hF1⟩ := hq
  obtain ⟨hcd, hvv⟩ := xr_inl hr
  cases hvv
  refine X_ireturn dL_listPart_7 rfl rfl ?_
  exact ⟨by rw [hcd]; rfl, ⟨_, hdc0, hdc1, hdc2, hX1⟩, hF1⟩
set_option maxRecDepth 20000 in
theorem h_listQuantity {P : PSt} {L : LSt} {pr : Nat → Nat} {O : OSt} {mp : Nat} {mk : Nat → UInt32} {a0 nn : Nat} (ha : w.1 0 = a0) (hS : ST nn G.2.2.1 w P L pr O mp mk) (hIP : IP P L pr O mp mk []) (a : Int32) (s : Int32) (i : Int32) (hlen : (listN P.2.1 L pr (idx s) 5 (idx a) 1).length ≤ 36) : XC G mL_listQuantity 10 59 242 [.ref a0, .int a, .int s, .int i] w (fun r w' => r = .inl (some (.long (hv (cdLP a s i P.1 (listN P.2.1 L pr (idx s) 5 (idx a) 1).length) [(-77), (-78), (-75)] (nL ((listN P.2.1 L pr (idx s) 5 (idx a) 1).getD (idx i) (0, 0)).2)))) ∧ ST (if cdA a s P.1 = 0 then (listN P.2.1 L pr (idx s) 5 (idx a) 1).length else 0) G.2.2.1 w' P L pr O mp mk ∧ FX w w') := by
  subst ha
  obtain ⟨dc, hn0, hc1, hc2, hIX⟩ := hS
  have hcp := cap72 hc1 hc2 hlen
  have hge := capL_ge (n := 0) (cap := dc) (k := (listN P.2.1 L pr (idx s) 5 (idx a) 1).length) (by omega) (by omega)
  have hdc0 : (if cdA a s P.1 = 0 then (listN P.2.1 L pr (idx s) 5 (idx a) 1).length else 0) ≤ (if cdA a s P.1 = 0 then capL 0 dc (listN P.2.1 L pr (idx s) 5 (idx a) 1).length else dc) := by split <;> omega
  have hdc1 : 16 ≤ (if cdA a s P.1 = 0 then capL 0 dc (listN P.2.1 L pr (idx s) 5 (idx a) 1).length else dc) := by split <;> omega
  have hdc2 : (if cdA a s P.1 = 0 then capL 0 dc (listN P.2.1 L pr (idx s) 5 (idx a) 1).length else dc) ≤ 72 := by split <;> omega
  refine XC.of (lo0 := [(0, .ref (w.1 0)), (1, .int a), (2, .int s), (3, .int i)]) kmL_listQuantity (Nat.le_of_ble_eq_true rfl) rfl ?_
  refine X_aload_n dL_listQuantity_0 (i := 0) rfl rfl ?_
  refine X_iload_n dL_listQuantity_1 (i := 1) rfl rfl ?_
  refine X_iload_n dL_listQuantity_2 (i := 2) rfl rfl ?_
  refine X_iload_n dL_listQuantity_3 (i := 3) rfl rfl ?_
  refine X_callV (gc2 := 0) (gs2 := 0) (cx_listQuantity (a0 := w.1 0) (a39 := w.1 39) (a63 := w.1 63) (a64 := w.1 64) ⟨trivial, rfl, rfl, rfl, rfl⟩ hIX hIP a s i) (i := 0) hIX.1 rfl rfl kmX10_listQuantity rfl lL_76 iX10_listQuantity vX10_listQuantity rfl rfl (Nat.le_of_ble_eq_true rfl) (by decide) dL_listQuantity_4 (by omega) (by omega) (fun E w1 hq => ?_) (fun v w1 hq => ?_)
  · obtain ⟨hr, hX1, hF1⟩ := hq
    obtain ⟨kx, hcd, hE⟩ := xr_inr hr
    have hle : cdLP a s i P.1 (listN P.2.1 L pr (idx s) 5 (idx a) 1).length ≤ 3 := cdLP_le
    rcases kx with _ | _ | _ | kx
    · have hE : E = "java/lang/IndexOutOfBoundsException" := hE
      subst hE
      refine XT.catch (name := "java/lang/IndexOutOfBoundsException") [] (0, 7, 8, 28) [(0, 7, 14, 20), (0, 7, 20, 74)] rfl (fun z hz => nomatch hz) ⟨by decide, by decide⟩ (by decide) cL_28 cast_IndexOutOfBoundsException (fun q => ?_)
      refine X_astore (i := 4) (lo' := [(4, _), (0, _), (1, _), (2, _), (3, _)]) dL_listQuantity_8 (by decide) rfl ?_
      refine X_ldc2 dL_listQuantity_10 kL_80 ?_
      refine X_lreturn dL_listQuantity_13 rfl ?_
      exact ⟨by rw [hcd]; rfl, ⟨_, hdc0, hdc1, hdc2, hX1⟩, hF1⟩
    · have hE : E = "java/lang/IllegalArgumentException" := hE
      subst hE
      refine XT.catch (name := "java/lang/IllegalArgumentException") [(0, 7, 8, 28)] (0, 7, 14, 20) [(0, 7, 20, 74)] rfl (List.forall_mem_cons.mpr ⟨⟨by decide, _, cL_28, List.mem_of_getElem? (i := 1) rfl⟩, (fun z hz => nomatch hz)⟩) ⟨by decide, by decide⟩ (by decide) cL_20 cast_IllegalArgumentException (fun q => ?_)
      refine X_astore (i := 4) (lo' := [(4, _), (0, _), (1, _), (2, _), (3, _)]) dL_listQuantity_14 (by decide) rfl ?_
      refine X_ldc2 dL_listQuantity_16 kL_82 ?_
      refine X_lreturn dL_listQuantity_19 rfl ?_
      exact ⟨by rw [hcd]; rfl, ⟨_, hdc0, hdc1, hdc2, hX1⟩, hF1⟩
    · have hE : E = "java/util/NoSuchElementException" := hE
      subst hE
      refine XT.catch (name := "java/util/NoSuchElementException") [(0, 7, 8, 28), (0, 7, 14, 20)] (0, 7, 20, 74) [] rfl (List.forall_mem_cons.mpr ⟨⟨by decide, _, cL_28, List.mem_of_getElem? (i := 18) rfl⟩, (List.forall_mem_cons.mpr ⟨⟨by decide, _, cL_20, List.mem_of_getElem? (i := 16) rfl⟩, (fun z hz => nomatch hz)⟩)⟩) ⟨by decide, by decide⟩ (by decide) cL_74 cast_NoSuchElementException (fun q => ?_)
      refine X_astore (i := 4) (lo' := [(4, _), (0, _), (1, _), (2, _), (3, _)]) dL_listQuantity_20 (by decide) rfl ?_
      refine X_ldc2 dL_listQuantity_22 kL_84 ?_
      refine X_lreturn dL_listQuantity_25 rfl ?_
      exact ⟨by rw [hcd]; rfl, ⟨_, hdc0, hdc1, hdc2, hX1⟩, hF1⟩
    · exact absurd hcd (by omega)
  obtain ⟨hr, hX1, hF1⟩ := hq
  obtain ⟨hcd, hvv⟩ := xr_inl hr
  cases hvv
  refine X_lreturn dL_listQuantity_7 rfl ?_
  exact ⟨by rw [hcd]; rfl, ⟨_, hdc0, hdc1, hdc2, hX1⟩, hF1⟩
set_option maxRecDepth 20000 in
theorem h_quantity {P : PSt} {L : LSt} {pr : Nat → Nat} {O : OSt} {mp : Nat} {mk : Nat → UInt32} {a0 nn : Nat} (ha : w.1 0 = a0) (hS : ST nn G.2.2.1 w P L pr O mp mk) (hIP : IP P L pr O mp mk []) (a : Int32) (b : Int32) (s : Int32) : XC G mL_quantity 8 4 24 [.ref a0, .int a, .int b, .int s] w (fun r w' => r = .inl (some (.long (hv (cdQ a b s P.1) [(-77), (-78)] (nL (hasN L pr (idx s) 5 (idx a) (idx b)))))) ∧ ST nn G.2.2.1 w' P L pr O mp mk ∧ FX w w') := by
  subst ha
  obtain ⟨dc, hn0, hc1, hc2, hIX⟩ := hS
  have hdc0 := hn0
  have hdc1 := hc1
  have hdc2 := hc2
  refine XC.of (lo0 := [(0, .ref (w.1 0)), (1, .int a), (2, .int b), (3, .int s)]) kmL_quantity (Nat.le_of_ble_eq_true rfl) rfl ?_
  refine X_aload_n dL_quantity_0 (i := 0) rfl rfl ?_
  refine X_iload_n dL_quantity_1 (i := 1) rfl rfl ?_
  refine X_iload_n dL_quantity_2 (i := 2) rfl rfl ?_
  refine X_iload_n dL_quantity_3 (i := 3) rfl rfl ?_
  refine X_callV (gc2 := 0) (gs2 := 0) (cx_quantity (a0 := w.1 0) (a39 := w.1 39) (a63 := w.1 63) (a64 := w.1 64) ⟨trivial, rfl, rfl, rfl, rfl⟩ hIX hIP a b s) (i := 0) hIX.1 rfl rfl kmX10_quantity rfl lL_86 iX10_quantity vX10_quantity rfl rfl (Nat.le_of_ble_eq_true rfl) (by decide) dL_quantity_4 (by omega) (by omega) (fun E w1 hq => ?_) (fun v w1 hq => ?_)
  · obtain ⟨hr, hX1, hF1⟩ := hq
    obtain ⟨kx, hcd, hE⟩ := xr_inr hr
    have hle : cdQ a b s P.1 ≤ 2 := cdQ_le
    rcases kx with _ | _ | kx
    · have hE : E = "java/lang/IndexOutOfBoundsException" := hE
      subst hE
      refine XT.catch (name := "java/lang/IndexOutOfBoundsException") [] (0, 7, 8, 28) [(0, 7, 14, 20)] rfl (fun z hz => nomatch hz) ⟨by decide, by decide⟩ (by decide) cL_28 cast_IndexOutOfBoundsException (fun q => ?_)
      refine X_astore (i := 4) (lo' := [(4, _), (0, _), (1, _), (2, _), (3, _)]) dL_quantity_8 (by decide) rfl ?_
      refine X_ldc2 dL_quantity_10 kL_80 ?_
      refine X_lreturn dL_quantity_13 rfl ?_
      exact ⟨by rw [hcd]; rfl, ⟨_, hdc0, hdc1, hdc2, hX1⟩, hF1⟩
    · have hE : E = "java/lang/IllegalArgumentException" := hE
      subst hE
      refine XT.catch (name := "java/lang/IllegalArgumentException") [(0, 7, 8, 28)] (0, 7, 14, 20) [] rfl (List.forall_mem_cons.mpr ⟨⟨by decide, _, cL_28, List.mem_of_getElem? (i := 1) rfl⟩, (fun z hz => nomatch hz)⟩) ⟨by decide, by decide⟩ (by decide) cL_20 cast_IllegalArgumentException (fun q => ?_)
      refine X_astore (i := 4) (lo' := [(4, _), (0, _), (1, _), (2, _), (3, _)]) dL_quantity_14 (by decide) rfl ?_
      refine X_ldc2 dL_quantity_16 kL_82 ?_
      refine X_lreturn dL_quantity_19 rfl ?_
      exact ⟨by rw [hcd]; rfl, ⟨_, hdc0, hdc1, hdc2, hX1⟩, hF1⟩
    · exact absurd hcd (by omega)
  obtain ⟨hr, hX1, hF1⟩ := hq
  obtain ⟨hcd, hvv⟩ := xr_inl hr
  cases hvv
  refine X_lreturn dL_quantity_7 rfl ?_
  exact ⟨by rw [hcd]; rfl, ⟨_, hdc0, hdc1, hdc2, hX1⟩, hF1⟩
set_option maxRecDepth 20000 in
theorem h_quantityByWalking {P : PSt} {L : LSt} {pr : Nat → Nat} {O : OSt} {mp : Nat} {mk : Nat → UInt32} {a0 nn : Nat} (ha : w.1 0 = a0) (hS : ST nn G.2.2.1 w P L pr O mp mk) (hIP : IP P L pr O mp mk []) (a : Int32) (b : Int32) (s : Int32) : XC G mL_quantityByWalking 8 4 24 [.ref a0, .int a, .int b, .int s] w (fun r w' => r = .inl (some (.long (hv (cdQ a b s P.1) [(-77), (-78)] (nL (hasN L pr (idx s) 5 (idx a) (idx b)))))) ∧ ST nn G.2.2.1 w' P L pr O mp mk ∧ FX w w') := by
  subst ha
  obtain ⟨dc, hn0, hc1, hc2, hIX⟩ := hS
  have hdc0 := hn0
  have hdc1 := hc1
  have hdc2 := hc2
  refine XC.of (lo0 := [(0, .ref (w.1 0)), (1, .int a), (2, .int b), (3, .int s)]) kmL_quantityByWalking (Nat.le_of_ble_eq_true rfl) rfl ?_
  refine X_aload_n dL_quantityByWalking_0 (i := 0) rfl rfl ?_
  refine X_iload_n dL_quantityByWalking_1 (i := 1) rfl rfl ?_
  refine X_iload_n dL_quantityByWalking_2 (i := 2) rfl rfl ?_
  refine X_iload_n dL_quantityByWalking_3 (i := 3) rfl rfl ?_
  refine X_callV (gc2 := 0) (gs2 := 0) (cx_quantityByWalking (a0 := w.1 0) (a39 := w.1 39) (a63 := w.1 63) (a64 := w.1 64) ⟨trivial, rfl, rfl, rfl, rfl⟩ hIX hIP a b s) (i := 0) hIX.1 rfl rfl kmX10_quantityByWalking rfl lL_89 iX10_quantityByWalking vX10_quantityByWalking rfl rfl (Nat.le_of_ble_eq_true rfl) (by decide) dL_quantityByWalking_4 (by omega) (by omega) (fun E w1 hq => ?_) (fun v w1 hq => ?_)
  · obtain ⟨hr, hX1, hF1⟩ := hq
    obtain ⟨kx, hcd, hE⟩ := xr_inr hr
    have hle : cdQ a b s P.1 ≤ 2 := cdQ_le
    rcases kx with _ | _ | kx
    · have hE : E = "java/lang/IndexOutOfBoundsException" := hE
      subst hE
      refine XT.catch (name := "java/lang/IndexOutOfBoundsException") [] (0, 7, 8, 28) [(0, 7, 14, 20)] rfl (fun z hz => nomatch hz) ⟨by decide, by decide⟩ (by decide) cL_28 cast_IndexOutOfBoundsException (fun q => ?_)
      refine X_astore (i := 4) (lo' := [(4, _), (0, _), (1, _), (2, _), (3, _)]) dL_quantityByWalking_8 (by decide) rfl ?_
      refine X_ldc2 dL_quantityByWalking_10 kL_80 ?_
      refine X_lreturn dL_quantityByWalking_13 rfl ?_
      exact ⟨by rw [hcd]; rfl, ⟨_, hdc0, hdc1, hdc2, hX1⟩, hF1⟩
    · have hE : E = "java/lang/IllegalArgumentException" := hE
      subst hE
      refine XT.catch (name := "java/lang/IllegalArgumentException") [(0, 7, 8, 28)] (0, 7, 14, 20) [] rfl (List.forall_mem_cons.mpr ⟨⟨by decide, _, cL_28, List.mem_of_getElem? (i := 1) rfl⟩, (fun z hz => nomatch hz)⟩) ⟨by decide, by decide⟩ (by decide) cL_20 cast_IllegalArgumentException (fun q => ?_)
      refine X_astore (i := 4) (lo' := [(4, _), (0, _), (1, _), (2, _), (3, _)]) dL_quantityByWalking_14 (by decide) rfl ?_
      refine X_ldc2 dL_quantityByWalking_16 kL_82 ?_
      refine X_lreturn dL_quantityByWalking_19 rfl ?_
      exact ⟨by rw [hcd]; rfl, ⟨_, hdc0, hdc1, hdc2, hX1⟩, hF1⟩
    · exact absurd hcd (by omega)
  obtain ⟨hr, hX1, hF1⟩ := hq
  obtain ⟨hcd, hvv⟩ := xr_inl hr
  cases hvv
  refine X_lreturn dL_quantityByWalking_7 rfl ?_
  exact ⟨by rw [hcd]; rfl, ⟨_, hdc0, hdc1, hdc2, hX1⟩, hF1⟩
set_option maxRecDepth 20000 in
theorem h_whereUsed {P : PSt} {L : LSt} {pr : Nat → Nat} {O : OSt} {mp : Nat} {mk : Nat → UInt32} {a0 nn : Nat} (ha : w.1 0 = a0) (hS : ST nn G.2.2.1 w P L pr O mp mk) (hIP : IP P L pr O mp mk []) (a : Int32) (s : Int32) : XC G mL_whereUsed 8 3 18 [.ref a0, .int a, .int s] w (fun r w' => r = .inl (some (.int (hv (cdA a s P.1) [(-77), (-78)] (nI (cntB (fun p => decide (p ≠ idx a) && decide (hasN L pr (idx s) 5 p (idx a) ≠ 0)) P.1))))) ∧ ST nn G.2.2.1 w' P L pr O mp mk ∧ FX w w') := by
  subst ha
  obtain ⟨dc, hn0, hc1, hc2, hIX⟩ := hS
  have hdc0 := hn0
  have hdc1 := hc1
  have hdc2 := hc2
  refine XC.of (lo0 := [(0, .ref (w.1 0)), (1, .int a), (2, .int s)]) kmL_whereUsed (Nat.le_of_ble_eq_true rfl) rfl ?_
  refine X_aload_n dL_whereUsed_0 (i := 0) rfl rfl ?_
  refine X_iload_n dL_whereUsed_1 (i := 1) rfl rfl ?_
  refine X_iload_n dL_whereUsed_2 (i := 2) rfl rfl ?_
  refine X_callV (gc2 := 0) (gs2 := 0) (cx_whereUsed (a0 := w.1 0) (a39 := w.1 39) (a63 := w.1 63) (a64 := w.1 64) ⟨trivial, rfl, rfl, rfl, rfl⟩ hIX hIP a s) (i := 0) hIX.1 rfl rfl kmX10_whereUsed rfl lL_92 iX10_whereUsed vX10_whereUsed rfl rfl (Nat.le_of_ble_eq_true rfl) (by decide) dL_whereUsed_3 (by omega) (by omega) (fun E w1 hq => ?_) (fun v w1 hq => ?_)
  · obtain ⟨hr, hX1, hF1⟩ := hq
    obtain ⟨kx, hcd, hE⟩ := xr_inr hr
    have hle : cdA a s P.1 ≤ 2 := cdA_le
    rcases kx with _ | _ | kx
    · have hE : E = "java/lang/IndexOutOfBoundsException" := hE
      subst hE
      refine XT.catch (name := "java/lang/IndexOutOfBoundsException") [] (0, 6, 7, 28) [(0, 6, 11, 20)] rfl (fun z hz => nomatch hz) ⟨by decide, by decide⟩ (by decide) cL_28 cast_IndexOutOfBoundsException (fun q => ?_)
      refine X_astore_n (i := 3) (lo' := [(3, _), (0, _), (1, _), (2, _)]) dL_whereUsed_7 rfl (by decide) rfl ?_
      refine X_bipush (v := -77) dL_whereUsed_8 (by decide) ?_
      refine X_ireturn dL_whereUsed_10 rfl rfl ?_
      exact ⟨by rw [hcd]; rfl, ⟨_, hdc0, hdc1, hdc2, hX1⟩, hF1⟩
    · have hE : E = "java/lang/IllegalArgumentException" := hE
      subst hE
      refine XT.catch (name := "java/lang/IllegalArgumentException") [(0, 6, 7, 28)] (0, 6, 11, 20) [] rfl (List.forall_mem_cons.mpr ⟨⟨by decide, _, cL_28, List.mem_of_getElem? (i := 1) rfl⟩, (fun z hz => nomatch hz)⟩) ⟨by decide, by decide⟩ (by decide) cL_20 cast_IllegalArgumentException (fun q => ?_)
      refine X_astore_n (i := 3) (lo' := [(3, _), (0, _), (1, _), (2, _)]) dL_whereUsed_11 rfl (by decide) rfl ?_
      refine X_bipush (v := -78) dL_whereUsed_12 (by decide) ?_
      refine X_ireturn dL_whereUsed_14 rfl rfl ?_
      exact ⟨by rw [hcd]; rfl, ⟨_, hdc0, hdc1, hdc2, hX1⟩, hF1⟩
    · exact absurd hcd (by omega)
  obtain ⟨hr, hX1, hF1⟩ := hq
  obtain ⟨hcd, hvv⟩ := xr_inl hr
  cases hvv
  refine X_ireturn dL_whereUsed_6 rfl rfl ?_
  exact ⟨by rw [hcd]; rfl, ⟨_, hdc0, hdc1, hdc2, hX1⟩, hF1⟩
set_option maxRecDepth 20000 in
theorem h_levels {P : PSt} {L : LSt} {pr : Nat → Nat} {O : OSt} {mp : Nat} {mk : Nat → UInt32} {a0 nn : Nat} (ha : w.1 0 = a0) (hS : ST nn G.2.2.1 w P L pr O mp mk) (hIP : IP P L pr O mp mk []) (a : Int32) (s : Int32) : XC G mL_levels 8 3 18 [.ref a0, .int a, .int s] w (fun r w' => r = .inl (some (.int (hv (cdA a s P.1) [(-77), (-78)] (nI (dptN L pr (idx s) 5 (idx a)))))) ∧ ST nn G.2.2.1 w' P L pr O mp mk ∧ FX w w') := by
  subst ha
  obtain ⟨dc, hn0, hc1, hc2, hIX⟩ := hS
  have hdc0 := hn0
  have hdc1 := hc1
  have hdc2 := hc2
  refine XC.of (lo0 := [(0, .ref (w.1 0)), (1, .int a), (2, .int s)]) kmL_levels (Nat.le_of_ble_eq_true rfl) rfl ?_
  refine X_aload_n dL_levels_0 (i := 0) rfl rfl ?_
  refine X_iload_n dL_levels_1 (i := 1) rfl rfl ?_
  refine X_iload_n dL_levels_2 (i := 2) rfl rfl ?_
  refine X_callV (gc2 := 0) (gs2 := 0) (cx_levels (a0 := w.1 0) (a39 := w.1 39) (a63 := w.1 63) (a64 := w.1 64) ⟨trivial, rfl, rfl, rfl, rfl⟩ hIX hIP a s) (i := 0) hIX.1 rfl rfl kmX10_levels rfl lL_95 iX10_levels vX10_levels rfl rfl (Nat.le_of_ble_eq_true rfl) (by decide) dL_levels_3 (by omega) (by omega) (fun E w1 hq => ?_) (fun v w1 hq => ?_)
  · obtain ⟨hr, hX1, hF1⟩ := hq
    obtain ⟨kx, hcd, hE⟩ := xr_inr hr
    have hle : cdA a s P.1 ≤ 2 := cdA_le
    rcases kx with _ | _ | kx
    · have hE : E = "java/lang/IndexOutOfBoundsException" := hE
      subst hE
      refine XT.catch (name := "java/lang/IndexOutOfBoundsException") [] (0, 6, 7, 28) [(0, 6, 11, 20)] rfl (fun z hz => nomatch hz) ⟨by decide, by decide⟩ (by decide) cL_28 cast_IndexOutOfBoundsException (fun q => ?_)
      refine X_astore_n (i := 3) (lo' := [(3, _), (0, _), (1, _), (2, _)]) dL_levels_7 rfl (by decide) rfl ?_
      refine X_bipush (v := -77) dL_levels_8 (by decide) ?_
      refine X_ireturn dL_levels_10 rfl rfl ?_
      exact ⟨by rw [hcd]; rfl, ⟨_, hdc0, hdc1, hdc2, hX1⟩, hF1⟩
    · have hE : E = "java/lang/IllegalArgumentException" := hE
      subst hE
      refine XT.catch (name := "java/lang/IllegalArgumentException") [(0, 6, 7, 28)] (0, 6, 11, 20) [] rfl (List.forall_mem_cons.mpr ⟨⟨by decide, _, cL_28, List.mem_of_getElem? (i := 1) rfl⟩, (fun z hz => nomatch hz)⟩) ⟨by decide, by decide⟩ (by decide) cL_20 cast_IllegalArgumentException (fun q => ?_)
      refine X_astore_n (i := 3) (lo' := [(3, _), (0, _), (1, _), (2, _)]) dL_levels_11 rfl (by decide) rfl ?_
      refine X_bipush (v := -78) dL_levels_12 (by decide) ?_
      refine X_ireturn dL_levels_14 rfl rfl ?_
      exact ⟨by rw [hcd]; rfl, ⟨_, hdc0, hdc1, hdc2, hX1⟩, hF1⟩
    · exact absurd hcd (by omega)
  obtain ⟨hr, hX1, hF1⟩ := hq
  obtain ⟨hcd, hvv⟩ := xr_inl hr
  cases hvv
  refine X_ireturn dL_levels_6 rfl rfl ?_
  exact ⟨by rw [hcd]; rfl, ⟨_, hdc0, hdc1, hdc2, hX1⟩, hF1⟩
set_option maxRecDepth 20000 in
theorem h_cost {P : PSt} {L : LSt} {pr : Nat → Nat} {O : OSt} {mp : Nat} {mk : Nat → UInt32} {a0 nn : Nat} (ha : w.1 0 = a0) (hS : ST nn G.2.2.1 w P L pr O mp mk) (hIP : IP P L pr O mp mk []) (a : Int32) (s : Int32) : XC G mL_cost 8 3 18 [.ref a0, .int a, .int s] w (fun r w' => r = .inl (some (.float (hv (cdA a s P.1) [3264872448, 3265003520] ((priF P L pr (idx s) 5 (idx a)))))) ∧ ST nn G.2.2.1 w' P L pr O mp mk ∧ FX w w') := by
  subst ha
  obtain ⟨dc, hn0, hc1, hc2, hIX⟩ := hS
  have hdc0 := hn0
  have hdc1 := hc1
  have hdc2 := hc2
  refine XC.of (lo0 := [(0, .ref (w.1 0)), (1, .int a), (2, .int s)]) kmL_cost (Nat.le_of_ble_eq_true rfl) rfl ?_
  refine X_aload_n dL_cost_0 (i := 0) rfl rfl ?_
  refine X_iload_n dL_cost_1 (i := 1) rfl rfl ?_
  refine X_iload_n dL_cost_2 (i := 2) rfl rfl ?_
  refine X_callV (gc2 := 0) (gs2 := 0) (cx_cost (a0 := w.1 0) (a39 := w.1 39) (a63 := w.1 63) (a64 := w.1 64) ⟨trivial, rfl, rfl, rfl, rfl⟩ hIX hIP a s) (i := 0) hIX.1 rfl rfl kmX10_cost rfl lL_98 iX10_cost vX10_cost rfl rfl (Nat.le_of_ble_eq_true rfl) (by decide) dL_cost_3 (by omega) (by omega) (fun E w1 hq => ?_) (fun v w1 hq => ?_)
  · obtain ⟨hr, hX1, hF1⟩ := hq
    obtain ⟨kx, hcd, hE⟩ := xr_inr hr
    have hle : cdA a s P.1 ≤ 2 := cdA_le
    rcases kx with _ | _ | kx
    · have hE : E = "java/lang/IndexOutOfBoundsException" := hE
      subst hE
      refine XT.catch (name := "java/lang/IndexOutOfBoundsException") [] (0, 6, 7, 28) [(0, 6, 11, 20)] rfl (fun z hz => nomatch hz) ⟨by decide, by decide⟩ (by decide) cL_28 cast_IndexOutOfBoundsException (fun q => ?_)
      refine X_astore_n (i := 3) (lo' := [(3, _), (0, _), (1, _), (2, _)]) dL_cost_7 rfl (by decide) rfl ?_
      refine X_ldcf dL_cost_8 kL_102 ?_
      refine X_freturn dL_cost_10 rfl ?_
      exact ⟨by rw [hcd]; rfl, ⟨_, hdc0, hdc1, hdc2, hX1⟩, hF1⟩
    · have hE : E = "java/lang/IllegalArgumentException" := hE
      subst hE
      refine XT.catch (name := "java/lang/IllegalArgumentException") [(0, 6, 7, 28)] (0, 6, 11, 20) [] rfl (List.forall_mem_cons.mpr ⟨⟨by decide, _, cL_28, List.mem_of_getElem? (i := 1) rfl⟩, (fun z hz => nomatch hz)⟩) ⟨by decide, by decide⟩ (by decide) cL_20 cast_IllegalArgumentException (fun q => ?_)
      refine X_astore_n (i := 3) (lo' := [(3, _), (0, _), (1, _), (2, _)]) dL_cost_11 rfl (by decide) rfl ?_
      refine X_ldcf dL_cost_12 kL_103 ?_
      refine X_freturn dL_cost_14 rfl ?_
      exact ⟨by rw [hcd]; rfl, ⟨_, hdc0, hdc1, hdc2, hX1⟩, hF1⟩
    · exact absurd hcd (by omega)
  obtain ⟨hr, hX1, hF1⟩ := hq
  obtain ⟨hcd, hvv⟩ := xr_inl hr
  cases hvv
  refine X_freturn dL_cost_6 rfl ?_
  exact ⟨by rw [hcd]; rfl, ⟨_, hdc0, hdc1, hdc2, hX1⟩, hF1⟩
set_option maxRecDepth 20000 in
theorem h_costByWalking {P : PSt} {L : LSt} {pr : Nat → Nat} {O : OSt} {mp : Nat} {mk : Nat → UInt32} {a0 nn : Nat} (ha : w.1 0 = a0) (hS : ST nn G.2.2.1 w P L pr O mp mk) (hIP : IP P L pr O mp mk []) (a : Int32) (s : Int32) : XC G mL_costByWalking 8 3 18 [.ref a0, .int a, .int s] w (fun r w' => r = .inl (some (.float (hv (cdA a s P.1) [3264872448, 3265003520] ((priF P L pr (idx s) 5 (idx a)))))) ∧ ST nn G.2.2.1 w' P L pr O mp mk ∧ FX w w') := by
  subst ha
  obtain ⟨dc, hn0, hc1, hc2, hIX⟩ := hS
  have hdc0 := hn0
  have hdc1 := hc1
  have hdc2 := hc2
  refine XC.of (lo0 := [(0, .ref (w.1 0)), (1, .int a), (2, .int s)]) kmL_costByWalking (Nat.le_of_ble_eq_true rfl) rfl ?_
  refine X_aload_n dL_costByWalking_0 (i := 0) rfl rfl ?_
  refine X_iload_n dL_costByWalking_1 (i := 1) rfl rfl ?_
  refine X_iload_n dL_costByWalking_2 (i := 2) rfl rfl ?_
  refine X_callV (gc2 := 0) (gs2 := 0) (cx_costByWalking (a0 := w.1 0) (a39 := w.1 39) (a63 := w.1 63) (a64 := w.1 64) ⟨trivial, rfl, rfl, rfl, rfl⟩ hIX hIP a s) (i := 0) hIX.1 rfl rfl kmX10_costByWalking rfl lL_104 iX10_costByWalking vX10_costByWalking rfl rfl (Nat.le_of_ble_eq_true rfl) (by decide) dL_costByWalking_3 (by omega) (by omega) (fun E w1 hq => ?_) (fun v w1 hq => ?_)
  · obtain ⟨hr, hX1, hF1⟩ := hq
    obtain ⟨kx, hcd, hE⟩ := xr_inr hr
    have hle : cdA a s P.1 ≤ 2 := cdA_le
    rcases kx with _ | _ | kx
    · have hE : E = "java/lang/IndexOutOfBoundsException" := hE
      subst hE
      refine XT.catch (name := "java/lang/IndexOutOfBoundsException") [] (0, 6, 7, 28) [(0, 6, 11, 20)] rfl (fun z hz => nomatch hz) ⟨by decide, by decide⟩ (by decide) cL_28 cast_IndexOutOfBoundsException (fun q => ?_)
      refine X_astore_n (i := 3) (lo' := [(3, _), (0, _), (1, _), (2, _)]) dL_costByWalking_7 rfl (by decide) rfl ?_
      refine X_ldcf dL_costByWalking_8 kL_102 ?_
      refine X_freturn dL_costByWalking_10 rfl ?_
      exact ⟨by rw [hcd]; rfl, ⟨_, hdc0, hdc1, hdc2, hX1⟩, hF1⟩
    · have hE : E = "java/lang/IllegalArgumentException" := hE
      subst hE
      refine XT.catch (name := "java/lang/IllegalArgumentException") [(0, 6, 7, 28)] (0, 6, 11, 20) [] rfl (List.forall_mem_cons.mpr ⟨⟨by decide, _, cL_28, List.mem_of_getElem? (i := 1) rfl⟩, (fun z hz => nomatch hz)⟩) ⟨by decide, by decide⟩ (by decide) cL_20 cast_IllegalArgumentException (fun q => ?_)
      refine X_astore_n (i := 3) (lo' := [(3, _), (0, _), (1, _), (2, _)]) dL_costByWalking_11 rfl (by decide) rfl ?_
      refine X_ldcf dL_costByWalking_12 kL_103 ?_
      refine X_freturn dL_costByWalking_14 rfl ?_
      exact ⟨by rw [hcd]; rfl, ⟨_, hdc0, hdc1, hdc2, hX1⟩, hF1⟩
    · exact absurd hcd (by omega)
  obtain ⟨hr, hX1, hF1⟩ := hq
  obtain ⟨hcd, hvv⟩ := xr_inl hr
  cases hvv
  refine X_freturn dL_costByWalking_6 rfl ?_
  exact ⟨by rw [hcd]; rfl, ⟨_, hdc0, hdc1, hdc2, hX1⟩, hF1⟩
set_option maxRecDepth 20000 in
theorem h_costBits {P : PSt} {L : LSt} {pr : Nat → Nat} {O : OSt} {mp : Nat} {mk : Nat → UInt32} {a0 nn : Nat} (ha : w.1 0 = a0) (hS : ST nn G.2.2.1 w P L pr O mp mk) (hIP : IP P L pr O mp mk []) (a : Int32) (s : Int32) : XC G mL_costBits 8 3 18 [.ref a0, .int a, .int s] w (fun r w' => r = .inl (some (.int (hv (cdA a s P.1) [(-77), (-78)] ((priF P L pr (idx s) 5 (idx a)).toInt32)))) ∧ ST nn G.2.2.1 w' P L pr O mp mk ∧ FX w w') := by
  subst ha
  obtain ⟨dc, hn0, hc1, hc2, hIX⟩ := hS
  have hdc0 := hn0
  have hdc1 := hc1
  have hdc2 := hc2
  refine XC.of (lo0 := [(0, .ref (w.1 0)), (1, .int a), (2, .int s)]) kmL_costBits (Nat.le_of_ble_eq_true rfl) rfl ?_
  refine X_aload_n dL_costBits_0 (i := 0) rfl rfl ?_
  refine X_iload_n dL_costBits_1 (i := 1) rfl rfl ?_
  refine X_iload_n dL_costBits_2 (i := 2) rfl rfl ?_
  refine X_callV (gc2 := 0) (gs2 := 0) (cx_costBits (a0 := w.1 0) (a39 := w.1 39) (a63 := w.1 63) (a64 := w.1 64) ⟨trivial, rfl, rfl, rfl, rfl⟩ hIX hIP a s) (i := 0) hIX.1 rfl rfl kmX10_costBits rfl lL_107 iX10_costBits vX10_costBits rfl rfl (Nat.le_of_ble_eq_true rfl) (by decide) dL_costBits_3 (by omega) (by omega) (fun E w1 hq => ?_) (fun v w1 hq => ?_)
  · obtain ⟨hr, hX1, hF1⟩ := hq
    obtain ⟨kx, hcd, hE⟩ := xr_inr hr
    have hle : cdA a s P.1 ≤ 2 := cdA_le
    rcases kx with _ | _ | kx
    · have hE : E = "java/lang/IndexOutOfBoundsException" := hE
      subst hE
      refine XT.catch (name := "java/lang/IndexOutOfBoundsException") [] (0, 6, 7, 28) [(0, 6, 11, 20)] rfl (fun z hz => nomatch hz) ⟨by decide, by decide⟩ (by decide) cL_28 cast_IndexOutOfBoundsException (fun q => ?_)
      refine X_astore_n (i := 3) (lo' := [(3, _), (0, _), (1, _), (2, _)]) dL_costBits_7 rfl (by decide) rfl ?_
      refine X_bipush (v := -77) dL_costBits_8 (by decide) ?_
      refine X_ireturn dL_costBits_10 rfl rfl ?_
      exact ⟨by rw [hcd]; rfl, ⟨_, hdc0, hdc1, hdc2, hX1⟩, hF1⟩
    · have hE : E = "java/lang/IllegalArgumentException" := hE
      subst hE
      refine XT.catch (name := "java/lang/IllegalArgumentException") [(0, 6, 7, 28)] (0, 6, 11, 20) [] rfl (List.forall_mem_cons.mpr ⟨⟨by decide, _, cL_28, List.mem_of_getElem? (i := 1) rfl⟩, (fun z hz => nomatch hz)⟩) ⟨by decide, by decide⟩ (by decide) cL_20 cast_IllegalArgumentException (fun q => ?_)
      refine X_astore_n (i := 3) (lo' := [(3, _), (0, _), (1, _), (2, _)]) dL_costBits_11 rfl (by decide) rfl ?_
      refine X_bipush (v := -78) dL_costBits_12 (by decide) ?_
      refine X_ireturn dL_costBits_14 rfl rfl ?_
      exact ⟨by rw [hcd]; rfl, ⟨_, hdc0, hdc1, hdc2, hX1⟩, hF1⟩
    · exact absurd hcd (by omega)
  obtain ⟨hr, hX1, hF1⟩ := hq
  obtain ⟨hcd, hvv⟩ := xr_inl hr
  cases hvv
  refine X_ireturn dL_costBits_6 rfl rfl ?_
  exact ⟨by rw [hcd]; rfl, ⟨_, hdc0, hdc1, hdc2, hX1⟩, hF1⟩
set_option maxRecDepth 20000 in
theorem h_costCents {P : PSt} {L : LSt} {pr : Nat → Nat} {O : OSt} {mp : Nat} {mk : Nat → UInt32} {a0 nn : Nat} (ha : w.1 0 = a0) (hS : ST nn G.2.2.1 w P L pr O mp mk) (hIP : IP P L pr O mp mk []) (a : Int32) (s : Int32) : XC G mL_costCents 8 3 18 [.ref a0, .int a, .int s] w (fun r w' => r = .inl (some (.int (hv (cdA a s P.1) [(-77), (-78)] (FP.f2i (FP.fmul (priF P L pr (idx s) 5 (idx a)) 1120403456))))) ∧ ST nn G.2.2.1 w' P L pr O mp mk ∧ FX w w') := by
  subst ha
  obtain ⟨dc, hn0, hc1, hc2, hIX⟩ := hS
  have hdc0 := hn0
  have hdc1 := hc1
  have hdc2 := hc2
  refine XC.of (lo0 := [(0, .ref (w.1 0)), (1, .int a), (2, .int s)]) kmL_costCents (Nat.le_of_ble_eq_true rfl) rfl ?_
  refine X_aload_n dL_costCents_0 (i := 0) rfl rfl ?_
  refine X_iload_n dL_costCents_1 (i := 1) rfl rfl ?_
  refine X_iload_n dL_costCents_2 (i := 2) rfl rfl ?_
  refine X_callV (gc2 := 0) (gs2 := 0) (cx_costCents (a0 := w.1 0) (a39 := w.1 39) (a63 := w.1 63) (a64 := w.1 64) ⟨trivial, rfl, rfl, rfl, rfl⟩ hIX hIP a s) (i := 0) hIX.1 rfl rfl kmX10_costCents rfl lL_110 iX10_costCents vX10_costCents rfl rfl (Nat.le_of_ble_eq_true rfl) (by decide) dL_costCents_3 (by omega) (by omega) (fun E w1 hq => ?_) (fun v w1 hq => ?_)
  · obtain ⟨hr, hX1, hF1⟩ := hq
    obtain ⟨kx, hcd, hE⟩ := xr_inr hr
    have hle : cdA a s P.1 ≤ 2 := cdA_le
    rcases kx with _ | _ | kx
    · have hE : E = "java/lang/IndexOutOfBoundsException" := hE
      subst hE
      refine XT.catch (name := "java/lang/IndexOutOfBoundsException") [] (0, 6, 7, 28) [(0, 6, 11, 20)] rfl (fun z hz => nomatch hz) ⟨by decide, by decide⟩ (by decide) cL_28 cast_IndexOutOfBoundsException (fun q => ?_)
      refine X_astore_n (i := 3) (lo' := [(3, _), (0, _), (1, _), (2, _)]) dL_costCents_7 rfl (by decide) rfl ?_
      refine X_bipush (v := -77) dL_costCents_8 (by decide) ?_
      refine X_ireturn dL_costCents_10 rfl rfl ?_
      exact ⟨by rw [hcd]; rfl, ⟨_, hdc0, hdc1, hdc2, hX1⟩, hF1⟩
    · have hE : E = "java/lang/IllegalArgumentException" := hE
      subst hE
      refine XT.catch (name := "java/lang/IllegalArgumentException") [(0, 6, 7, 28)] (0, 6, 11, 20) [] rfl (List.forall_mem_cons.mpr ⟨⟨by decide, _, cL_28, List.mem_of_getElem? (i := 1) rfl⟩, (fun z hz => nomatch hz)⟩) ⟨by decide, by decide⟩ (by decide) cL_20 cast_IllegalArgumentException (fun q => ?_)
      refine X_astore_n (i := 3) (lo' := [(3, _), (0, _), (1, _), (2, _)]) dL_costCents_11 rfl (by decide) rfl ?_
      refine X_bipush (v := -78) dL_costCents_12 (by decide) ?_
      refine X_ireturn dL_costCents_14 rfl rfl ?_
      exact ⟨by rw [hcd]; rfl, ⟨_, hdc0, hdc1, hdc2, hX1⟩, hF1⟩
    · exact absurd hcd (by omega)
  obtain ⟨hr, hX1, hF1⟩ := hq
  obtain ⟨hcd, hvv⟩ := xr_inl hr
  cases hvv
  refine X_ireturn dL_costCents_6 rfl rfl ?_
  exact ⟨by rw [hcd]; rfl, ⟨_, hdc0, hdc1, hdc2, hX1⟩, hF1⟩
set_option maxRecDepth 20000 in
theorem h_dearest {P : PSt} {L : LSt} {pr : Nat → Nat} {O : OSt} {mp : Nat} {mk : Nat → UInt32} {a0 nn : Nat} (ha : w.1 0 = a0) (hS : ST nn G.2.2.1 w P L pr O mp mk) (hIP : IP P L pr O mp mk []) (a : Int32) (s : Int32) : XC G mL_dearest 8 4 24 [.ref a0, .int a, .int s] w (fun r w' => r = .inl (some (.int (hv (cdD a s P.1 (dstF L pr (idx s) (idx a) (mrF L (priF P L pr (idx s) 5)) 6)) [(-77), (-78), (-75)] (oI (dstF L pr (idx s) (idx a) (mrF L (priF P L pr (idx s) 5)) 6))))) ∧ ST nn G.2.2.1 w' P L pr O mp mk ∧ FX w w') := by
  subst ha
  obtain ⟨dc, hn0, hc1, hc2, hIX⟩ := hS
  have hdc0 := hn0
  have hdc1 := hc1
  have hdc2 := hc2
  refine XC.of (lo0 := [(0, .ref (w.1 0)), (1, .int a), (2, .int s)]) kmL_dearest (Nat.le_of_ble_eq_true rfl) rfl ?_
  refine X_aload_n dL_dearest_0 (i := 0) rfl rfl ?_
  refine X_iload_n dL_dearest_1 (i := 1) rfl rfl ?_
  refine X_iload_n dL_dearest_2 (i := 2) rfl rfl ?_
  refine X_callV (gc2 := 0) (gs2 := 0) (cx_dearest (a0 := w.1 0) (a39 := w.1 39) (a63 := w.1 63) (a64 := w.1 64) ⟨trivial, rfl, rfl, rfl, rfl⟩ hIX hIP a s) (i := 0) hIX.1 rfl rfl kmX10_dearest rfl lL_113 iX10_dearest vX10_dearest rfl rfl (Nat.le_of_ble_eq_true rfl) (by decide) dL_dearest_3 (by omega) (by omega) (fun E w1 hq => ?_) (fun v w1 hq => ?_)
  · obtain ⟨hr, hX1, hF1⟩ := hq
    obtain ⟨kx, hcd, hE⟩ := xr_inr hr
    have hle : cdD a s P.1 (dstF L pr (idx s) (idx a) (mrF L (priF P L pr (idx s) 5)) 6) ≤ 3 := cdD_le
    rcases kx with _ | _ | _ | kx
    · have hE : E = "java/lang/IndexOutOfBoundsException" := hE
      subst hE
      refine XT.catch (name := "java/lang/IndexOutOfBoundsException") [] (0, 6, 7, 28) [(0, 6, 11, 20), (0, 6, 15, 74)] rfl (fun z hz => nomatch hz) ⟨by decide, by decide⟩ (by decide) cL_28 cast_IndexOutOfBoundsException (fun q => ?_)
      refine X_astore_n (i := 3) (lo' := [(3, _), (0, _), (1, _), (2, _)]) dL_dearest_7 rfl (by decide) rfl ?_
      refine X_bipush (v := -77) dL_dearest_8 (by decide) ?_
      refine X_ireturn dL_dearest_10 rfl rfl ?_
      exact ⟨by rw [hcd]; rfl, ⟨_, hdc0, hdc1, hdc2, hX1⟩, hF1⟩
    · have hE : E = "java/lang/IllegalArgumentException" := hE
      subst hE
      refine XT.catch (name := "java/lang/IllegalArgumentException") [(0, 6, 7, 28)] (0, 6, 11, 20) [(0, 6, 15, 74)] rfl (List.forall_mem_cons.mpr ⟨⟨by decide, _, cL_28, List.mem_of_getElem? (i := 1) rfl⟩, (fun z hz => nomatch hz)⟩) ⟨by decide, by decide⟩ (by decide) cL_20 cast_IllegalArgumentException (fun q => ?_)
      refine X_astore_n (i := 3) (lo' := [(3, _), (0, _), (1, _), (2, _)]) dL_dearest_11 rfl (by decide) rfl ?_
      refine X_bipush (v := -78) dL_dearest_12 (by decide) ?_
      refine X_ireturn dL_dearest_14 rfl rfl ?_
      exact ⟨by rw [hcd]; rfl, ⟨_, hdc0, hdc1, hdc2, hX1⟩, hF1⟩
    · have hE : E = "java/util/NoSuchElementException" := hE
      subst hE
      refine XT.catch (name := "java/util/NoSuchElementException") [(0, 6, 7, 28), (0, 6, 11, 20)] (0, 6, 15, 74) [] rfl (List.forall_mem_cons.mpr ⟨⟨by decide, _, cL_28, List.mem_of_getElem? (i := 18) rfl⟩, (List.forall_mem_cons.mpr ⟨⟨by decide, _, cL_20, List.mem_of_getElem? (i := 16) rfl⟩, (fun z hz => nomatch hz)⟩)⟩) ⟨by decide, by decide⟩ (by decide) cL_74 cast_NoSuchElementException (fun q => ?_)
      refine X_astore_n (i := 3) (lo' := [(3, _), (0, _), (1, _), (2, _)]) dL_dearest_15 rfl (by decide) rfl ?_
      refine X_bipush (v := -75) dL_dearest_16 (by decide) ?_
      refine X_ireturn dL_dearest_18 rfl rfl ?_
      exact ⟨by rw [hcd]; rfl, ⟨_, hdc0, hdc1, hdc2, hX1⟩, hF1⟩
    · exact absurd hcd (by omega)
  obtain ⟨hr, hX1, hF1⟩ := hq
  obtain ⟨hcd, hvv⟩ := xr_inl hr
  cases hvv
  refine X_ireturn dL_dearest_6 rfl rfl ?_
  exact ⟨by rw [hcd]; rfl, ⟨_, hdc0, hdc1, hdc2, hX1⟩, hF1⟩
set_option maxRecDepth 20000 in
theorem h_weight {P : PSt} {L : LSt} {pr : Nat → Nat} {O : OSt} {mp : Nat} {mk : Nat → UInt32} {a0 nn : Nat} (ha : w.1 0 = a0) (hS : ST nn G.2.2.1 w P L pr O mp mk) (hIP : IP P L pr O mp mk []) (a : Int32) (s : Int32) : XC G mL_weight 8 3 18 [.ref a0, .int a, .int s] w (fun r w' => r = .inl (some (.double (hv (cdA a s P.1) [13858490847093325824, 13858561215837503488] ((masF P L pr (idx s) 5 (idx a)))))) ∧ ST nn G.2.2.1 w' P L pr O mp mk ∧ FX w w') := by
  subst ha
  obtain ⟨dc, hn0, hc1, hc2, hIX⟩ := hS
  have hdc0 := hn0
  have hdc1 := hc1
  have hdc2 := hc2
  refine XC.of (lo0 := [(0, .ref (w.1 0)), (1, .int a), (2, .int s)]) kmL_weight (Nat.le_of_ble_eq_true rfl) rfl ?_
  refine X_aload_n dL_weight_0 (i := 0) rfl rfl ?_
  refine X_iload_n dL_weight_1 (i := 1) rfl rfl ?_
  refine X_iload_n dL_weight_2 (i := 2) rfl rfl ?_
  refine X_callV (gc2 := 0) (gs2 := 0) (cx_weight (a0 := w.1 0) (a39 := w.1 39) (a63 := w.1 63) (a64 := w.1 64) ⟨trivial, rfl, rfl, rfl, rfl⟩ hIX hIP a s) (i := 0) hIX.1 rfl rfl kmX10_weight rfl lL_116 iX10_weight vX10_weight rfl rfl (Nat.le_of_ble_eq_true rfl) (by decide) dL_weight_3 (by omega) (by omega) (fun E w1 hq => ?_) (fun v w1 hq => ?_)
  · obtain ⟨hr, hX1, hF1⟩ := hq
    obtain ⟨kx, hcd, hE⟩ := xr_inr hr
    have hle : cdA a s P.1 ≤ 2 := cdA_le
    rcases kx with _ | _ | kx
    · have hE : E = "java/lang/IndexOutOfBoundsException" := hE
      subst hE
      refine XT.catch (name := "java/lang/IndexOutOfBoundsException") [] (0, 6, 7, 28) [(0, 6, 12, 20)] rfl (fun z hz => nomatch hz) ⟨by decide, by decide⟩ (by decide) cL_28 cast_IndexOutOfBoundsException (fun q => ?_)
      refine X_astore_n (i := 3) (lo' := [(3, _), (0, _), (1, _), (2, _)]) dL_weight_7 rfl (by decide) rfl ?_
      refine X_ldc2d dL_weight_8 kL_120 ?_
      refine X_dreturn dL_weight_11 rfl ?_
      exact ⟨by rw [hcd]; rfl, ⟨_, hdc0, hdc1, hdc2, hX1⟩, hF1⟩
    · have hE : E = "java/lang/IllegalArgumentException" := hE
      subst hE
      refine XT.catch (name := "java/lang/IllegalArgumentException") [(0, 6, 7, 28)] (0, 6, 12, 20) [] rfl (List.forall_mem_cons.mpr ⟨⟨by decide, _, cL_28, List.mem_of_getElem? (i := 1) rfl⟩, (fun z hz => nomatch hz)⟩) ⟨by decide, by decide⟩ (by decide) cL_20 cast_IllegalArgumentException (fun q => ?_)
      refine X_astore_n (i := 3) (lo' := [(3, _), (0, _), (1, _), (2, _)]) dL_weight_12 rfl (by decide) rfl ?_
      refine X_ldc2d dL_weight_13 kL_122 ?_
      refine X_dreturn dL_weight_16 rfl ?_
      exact ⟨by rw [hcd]; rfl, ⟨_, hdc0, hdc1, hdc2, hX1⟩, hF1⟩
    · exact absurd hcd (by omega)
  obtain ⟨hr, hX1, hF1⟩ := hq
  obtain ⟨hcd, hvv⟩ := xr_inl hr
  cases hvv
  refine X_dreturn dL_weight_6 rfl ?_
  exact ⟨by rw [hcd]; rfl, ⟨_, hdc0, hdc1, hdc2, hX1⟩, hF1⟩
set_option maxRecDepth 20000 in
theorem h_weightBits {P : PSt} {L : LSt} {pr : Nat → Nat} {O : OSt} {mp : Nat} {mk : Nat → UInt32} {a0 nn : Nat} (ha : w.1 0 = a0) (hS : ST nn G.2.2.1 w P L pr O mp mk) (hIP : IP P L pr O mp mk []) (a : Int32) (s : Int32) : XC G mL_weightBits 8 3 18 [.ref a0, .int a, .int s] w (fun r w' => r = .inl (some (.long (hv (cdA a s P.1) [(-77), (-78)] ((masF P L pr (idx s) 5 (idx a)).toInt64)))) ∧ ST nn G.2.2.1 w' P L pr O mp mk ∧ FX w w') := by
  subst ha
  obtain ⟨dc, hn0, hc1, hc2, hIX⟩ := hS
  have hdc0 := hn0
  have hdc1 := hc1
  have hdc2 := hc2
  refine XC.of (lo0 := [(0, .ref (w.1 0)), (1, .int a), (2, .int s)]) kmL_weightBits (Nat.le_of_ble_eq_true rfl) rfl ?_
  refine X_aload_n dL_weightBits_0 (i := 0) rfl rfl ?_
  refine X_iload_n dL_weightBits_1 (i := 1) rfl rfl ?_
  refine X_iload_n dL_weightBits_2 (i := 2) rfl rfl ?_
  refine X_callV (gc2 := 0) (gs2 := 0) (cx_weightBits (a0 := w.1 0) (a39 := w.1 39) (a63 := w.1 63) (a64 := w.1 64) ⟨trivial, rfl, rfl, rfl, rfl⟩ hIX hIP a s) (i := 0) hIX.1 rfl rfl kmX10_weightBits rfl lL_124 iX10_weightBits vX10_weightBits rfl rfl (Nat.le_of_ble_eq_true rfl) (by decide) dL_weightBits_3 (by omega) (by omega) (fun E w1 hq => ?_) (fun v w1 hq => ?_)
  · obtain ⟨hr, hX1, hF1⟩ := hq
    obtain ⟨kx, hcd, hE⟩ := xr_inr hr
    have hle : cdA a s P.1 ≤ 2 := cdA_le
    rcases kx with _ | _ | kx
    · have hE : E = "java/lang/IndexOutOfBoundsException" := hE
      subst hE
      refine XT.catch (name := "java/lang/IndexOutOfBoundsException") [] (0, 6, 7, 28) [(0, 6, 12, 20)] rfl (fun z hz => nomatch hz) ⟨by decide, by decide⟩ (by decide) cL_28 cast_IndexOutOfBoundsException (fun q => ?_)
      refine X_astore_n (i := 3) (lo' := [(3, _), (0, _), (1, _), (2, _)]) dL_weightBits_7 rfl (by decide) rfl ?_
      refine X_ldc2 dL_weightBits_8 kL_80 ?_
      refine X_lreturn dL_weightBits_11 rfl ?_
      exact ⟨by rw [hcd]; rfl, ⟨_, hdc0, hdc1, hdc2, hX1⟩, hF1⟩
    · have hE : E = "java/lang/IllegalArgumentException" := hE
      subst hE
      refine XT.catch (name := "java/lang/IllegalArgumentException") [(0, 6, 7, 28)] (0, 6, 12, 20) [] rfl (List.forall_mem_cons.mpr ⟨⟨by decide, _, cL_28, List.mem_of_getElem? (i := 1) rfl⟩, (fun z hz => nomatch hz)⟩) ⟨by decide, by decide⟩ (by decide) cL_20 cast_IllegalArgumentException (fun q => ?_)
      refine X_astore_n (i := 3) (lo' := [(3, _), (0, _), (1, _), (2, _)]) dL_weightBits_12 rfl (by decide) rfl ?_
      refine X_ldc2 dL_weightBits_13 kL_82 ?_
      refine X_lreturn dL_weightBits_16 rfl ?_
      exact ⟨by rw [hcd]; rfl, ⟨_, hdc0, hdc1, hdc2, hX1⟩, hF1⟩
    · exact absurd hcd (by omega)
  obtain ⟨hr, hX1, hF1⟩ := hq
  obtain ⟨hcd, hvv⟩ := xr_inl hr
  cases hvv
  refine X_lreturn dL_weightBits_6 rfl ?_
  exact ⟨by rw [hcd]; rfl, ⟨_, hdc0, hdc1, hdc2, hX1⟩, hF1⟩
set_option maxRecDepth 20000 in
theorem h_markCosts {P : PSt} {L : LSt} {pr : Nat → Nat} {O : OSt} {mp : Nat} {mk : Nat → UInt32} {a0 nn : Nat} (ha : w.1 0 = a0) (hS : ST nn G.2.2.1 w P L pr O mp mk) (hIP : IP P L pr O mp mk []) (s : Int32) : XC G mL_markCosts 8 2 12 [.ref a0, .int s] w (fun r w' => r = .inl (some (.int (hv (cdM s) [(-78)] (nI P.1)))) ∧ ST nn G.2.2.1 w' P L pr O (if (cdM s) = 0 then P.1 else mp) (if (cdM s) = 0 then (fun x => priF P L pr (idx s) 5 x) else mk) ∧ FX w w') := by
  subst ha
  obtain ⟨dc, hn0, hc1, hc2, hIX⟩ := hS
  have hdc0 := hn0
  have hdc1 := hc1
  have hdc2 := hc2
  refine XC.of (lo0 := [(0, .ref (w.1 0)), (1, .int s)]) kmL_markCosts (Nat.le_of_ble_eq_true rfl) rfl ?_
  refine X_aload_n dL_markCosts_0 (i := 0) rfl rfl ?_
  refine X_iload_n dL_markCosts_1 (i := 1) rfl rfl ?_
  refine X_callV (gc2 := 0) (gs2 := 0) (cx_markCosts (a0 := w.1 0) (a39 := w.1 39) (a63 := w.1 63) (a64 := w.1 64) ⟨trivial, rfl, rfl, rfl, rfl⟩ hIX hIP s) (i := 0) hIX.1 rfl rfl kmX10_markCosts rfl lL_128 iX10_markCosts vX10_markCosts rfl rfl (Nat.le_of_ble_eq_true rfl) (by decide) dL_markCosts_2 (by omega) (by omega) (fun E w1 hq => ?_) (fun v w1 hq => ?_)
  · obtain ⟨hr, hX1, hF1⟩ := hq
    obtain ⟨kx, hcd, hE⟩ := xr_inr hr
    have hle : cdM s ≤ 1 := cdM_le
    rcases kx with _ | kx
    · have hE : E = "java/lang/IllegalArgumentException" := hE
      subst hE
      refine XT.catch (name := "java/lang/IllegalArgumentException") [] (0, 5, 6, 20) [] rfl (fun z hz => nomatch hz) ⟨by decide, by decide⟩ (by decide) cL_20 cast_IllegalArgumentException (fun q => ?_)
      refine X_astore_n (i := 2) (lo' := [(2, _), (0, _), (1, _)]) dL_markCosts_6 rfl (by decide) rfl ?_
      refine X_bipush (v := -78) dL_markCosts_7 (by decide) ?_
      refine X_ireturn dL_markCosts_9 rfl rfl ?_
      exact ⟨by rw [hcd]; rfl, ⟨_, hdc0, hdc1, hdc2, hX1⟩, hF1⟩
    · exact absurd hcd (by omega)
  obtain ⟨hr, hX1, hF1⟩ := hq
  obtain ⟨hcd, hvv⟩ := xr_inl hr
  cases hvv
  refine X_ireturn dL_markCosts_5 rfl rfl ?_
  exact ⟨by rw [hcd]; rfl, ⟨_, hdc0, hdc1, hdc2, hX1⟩, hF1⟩
set_option maxRecDepth 20000 in
theorem h_costChange {P : PSt} {L : LSt} {pr : Nat → Nat} {O : OSt} {mp : Nat} {mk : Nat → UInt32} {a0 nn : Nat} (ha : w.1 0 = a0) (hS : ST nn G.2.2.1 w P L pr O mp mk) (hIP : IP P L pr O mp mk []) (a : Int32) (s : Int32) : XC G mL_costChange 8 4 24 [.ref a0, .int a, .int s] w (fun r w' => r = .inl (some (.float (hv (cdH a s P.1 mp) [3264872448, 3265003520, 3264610304] (FP.fsub (priF P L pr (idx s) 5 (idx a)) (mk (idx a)))))) ∧ ST nn G.2.2.1 w' P L pr O mp mk ∧ FX w w') := by
  subst ha
  obtain ⟨dc, hn0, hc1, hc2, hIX⟩ := hS
  have hdc0 := hn0
  have hdc1 := hc1
  have hdc2 := hc2
  refine XC.of (lo0 := [(0, .ref (w.1 0)), (1, .int a), (2, .int s)]) kmL_costChange (Nat.le_of_ble_eq_true rfl) rfl ?_
  refine X_aload_n dL_costChange_0 (i := 0) rfl rfl ?_
  refine X_iload_n dL_costChange_1 (i := 1) rfl rfl ?_
  refine X_iload_n dL_costChange_2 (i := 2) rfl rfl ?_
  refine X_callV (gc2 := 0) (gs2 := 0) (cx_costChange (a0 := w.1 0) (a39 := w.1 39) (a63 := w.1 63) (a64 := w.1 64) ⟨trivial, rfl, rfl, rfl, rfl⟩ hIX hIP a s) (i := 0) hIX.1 rfl rfl kmX10_costChange rfl lL_131 iX10_costChange vX10_costChange rfl rfl (Nat.le_of_ble_eq_true rfl) (by decide) dL_costChange_3 (by omega) (by omega) (fun E w1 hq => ?_) (fun v w1 hq => ?_)
  · obtain ⟨hr, hX1, hF1⟩ := hq
    obtain ⟨kx, hcd, hE⟩ := xr_inr hr
    have hle : cdH a s P.1 mp ≤ 3 := cdH_le
    rcases kx with _ | _ | _ | kx
    · have hE : E = "java/lang/IndexOutOfBoundsException" := hE
      subst hE
      refine XT.catch (name := "java/lang/IndexOutOfBoundsException") [] (0, 6, 7, 28) [(0, 6, 11, 20), (0, 6, 15, 74)] rfl (fun z hz => nomatch hz) ⟨by decide, by decide⟩ (by decide) cL_28 cast_IndexOutOfBoundsException (fun q => ?_)
      refine X_astore_n (i := 3) (lo' := [(3, _), (0, _), (1, _), (2, _)]) dL_costChange_7 rfl (by decide) rfl ?_
      refine X_ldcf dL_costChange_8 kL_102 ?_
      refine X_freturn dL_costChange_10 rfl ?_
      exact ⟨by rw [hcd]; rfl, ⟨_, hdc0, hdc1, hdc2, hX1⟩, hF1⟩
    · have hE : E = "java/lang/IllegalArgumentException" := hE
      subst hE
      refine XT.catch (name := "java/lang/IllegalArgumentException") [(0, 6, 7, 28)] (0, 6, 11, 20) [(0, 6, 15, 74)] rfl (List.forall_mem_cons.mpr ⟨⟨by decide, _, cL_28, List.mem_of_getElem? (i := 1) rfl⟩, (fun z hz => nomatch hz)⟩) ⟨by decide, by decide⟩ (by decide) cL_20 cast_IllegalArgumentException (fun q => ?_)
      refine X_astore_n (i := 3) (lo' := [(3, _), (0, _), (1, _), (2, _)]) dL_costChange_11 rfl (by decide) rfl ?_
      refine X_ldcf dL_costChange_12 kL_103 ?_
      refine X_freturn dL_costChange_14 rfl ?_
      exact ⟨by rw [hcd]; rfl, ⟨_, hdc0, hdc1, hdc2, hX1⟩, hF1⟩
    · have hE : E = "java/util/NoSuchElementException" := hE
      subst hE
      refine XT.catch (name := "java/util/NoSuchElementException") [(0, 6, 7, 28), (0, 6, 11, 20)] (0, 6, 15, 74) [] rfl (List.forall_mem_cons.mpr ⟨⟨by decide, _, cL_28, List.mem_of_getElem? (i := 18) rfl⟩, (List.forall_mem_cons.mpr ⟨⟨by decide, _, cL_20, List.mem_of_getElem? (i := 16) rfl⟩, (fun z hz => nomatch hz)⟩)⟩) ⟨by decide, by decide⟩ (by decide) cL_74 cast_NoSuchElementException (fun q => ?_)
      refine X_astore_n (i := 3) (lo' := [(3, _), (0, _), (1, _), (2, _)]) dL_costChange_15 rfl (by decide) rfl ?_
      refine X_ldcf dL_costChange_16 kL_134 ?_
      refine X_freturn dL_costChange_18 rfl ?_
      exact ⟨by rw [hcd]; rfl, ⟨_, hdc0, hdc1, hdc2, hX1⟩, hF1⟩
    · exact absurd hcd (by omega)
  obtain ⟨hr, hX1, hF1⟩ := hq
  obtain ⟨hcd, hvv⟩ := xr_inl hr
  cases hvv
  refine X_freturn dL_costChange_6 rfl ?_
  exact ⟨by rw [hcd]; rfl, ⟨_, hdc0, hdc1, hdc2, hX1⟩, hF1⟩
set_option maxRecDepth 20000 in
theorem h_order {P : PSt} {L : LSt} {pr : Nat → Nat} {O : OSt} {mp : Nat} {mk : Nat → UInt32} {a0 nn : Nat} (ha : w.1 0 = a0) (hS : ST nn G.2.2.1 w P L pr O mp mk) (hIP : IP P L pr O mp mk []) (p : Int32) (s : Int32) (u : Int32) : XC G mL_order 8 3 18 [.ref a0, .int p, .int s, .int u] w (fun r w' => r = .inl (some (.int (hv (cdO p s u P.1 O.1) [(-77), (-78), (-79)] (nI O.1)))) ∧ ST nn G.2.2.1 w' P L pr (if (cdO p s u P.1 O.1) = 0 then addO O (idx p) (idx s) (idx u) pr else O) mp mk ∧ FX w w') := by
  subst ha
  obtain ⟨dc, hn0, hc1, hc2, hIX⟩ := hS
  have hdc0 := hn0
  have hdc1 := hc1
  have hdc2 := hc2
  refine XC.of (lo0 := [(0, .ref (w.1 0)), (1, .int p), (2, .int s), (3, .int u)]) kmL_order (Nat.le_of_ble_eq_true rfl) rfl ?_
  refine X_aload_n dL_order_0 (i := 0) rfl rfl ?_
  refine X_iload_n dL_order_1 (i := 1) rfl rfl ?_
  refine X_iload_n dL_order_2 (i := 2) rfl rfl ?_
  refine X_iload_n dL_order_3 (i := 3) rfl rfl ?_
  refine X_callV (gc2 := 0) (gs2 := 0) (cx_order (a0 := w.1 0) (a39 := w.1 39) (a63 := w.1 63) (a64 := w.1 64) ⟨trivial, rfl, rfl, rfl, rfl⟩ hIX hIP p s u) (i := 0) hIX.1 rfl rfl kmX10_order rfl lL_135 iX10_order vX10_order rfl rfl (Nat.le_of_ble_eq_true rfl) (by decide) dL_order_4 (by omega) (by omega) (fun E w1 hq => ?_) (fun v w1 hq => ?_)
  · obtain ⟨hr, hX1, hF1⟩ := hq
    obtain ⟨kx, hcd, hE⟩ := xr_inr hr
    have hle : cdO p s u P.1 O.1 ≤ 3 := cdO_le
    rcases kx with _ | _ | _ | kx
    · have hE : E = "java/lang/IndexOutOfBoundsException" := hE
      subst hE
      refine XT.catch (name := "java/lang/IndexOutOfBoundsException") [] (0, 7, 8, 28) [(0, 7, 13, 20), (0, 7, 18, 22)] rfl (fun z hz => nomatch hz) ⟨by decide, by decide⟩ (by decide) cL_28 cast_IndexOutOfBoundsException (fun q => ?_)
      refine X_astore (i := 4) (lo' := [(4, _), (0, _), (1, _), (2, _), (3, _)]) dL_order_8 (by decide) rfl ?_
      refine X_bipush (v := -77) dL_order_10 (by decide) ?_
      refine X_ireturn dL_order_12 rfl rfl ?_
      exact ⟨by rw [hcd]; rfl, ⟨_, hdc0, hdc1, hdc2, hX1⟩, hF1⟩
    · have hE : E = "java/lang/IllegalArgumentException" := hE
      subst hE
      refine XT.catch (name := "java/lang/IllegalArgumentException") [(0, 7, 8, 28)] (0, 7, 13, 20) [(0, 7, 18, 22)] rfl (List.forall_mem_cons.mpr ⟨⟨by decide, _, cL_28, List.mem_of_getElem? (i := 1) rfl⟩, (fun z hz => nomatch hz)⟩) ⟨by decide, by decide⟩ (by decide) cL_20 cast_IllegalArgumentException (fun q => ?_)
      refine X_astore (i := 4) (lo' := [(4, _), (0, _), (1, _), (2, _), (3, _)]) dL_order_13 (by decide) rfl ?_
      refine X_bipush (v := -78) dL_order_15 (by decide) ?_
      refine X_ireturn dL_order_17 rfl rfl ?_
      exact ⟨by rw [hcd]; rfl, ⟨_, hdc0, hdc1, hdc2, hX1⟩, hF1⟩
    · have hE : E = "java/lang/IllegalStateException" := hE
      subst hE
      refine XT.catch (name := "java/lang/IllegalStateException") [(0, 7, 8, 28), (0, 7, 13, 20)] (0, 7, 18, 22) [] rfl (List.forall_mem_cons.mpr ⟨⟨by decide, _, cL_28, List.mem_of_getElem? (i := 5) rfl⟩, (List.forall_mem_cons.mpr ⟨⟨by decide, _, cL_20, List.mem_of_getElem? (i := 4) rfl⟩, (fun z hz => nomatch hz)⟩)⟩) ⟨by decide, by decide⟩ (by decide) cL_22 cast_IllegalStateException (fun q => ?_)
      refine X_astore (i := 4) (lo' := [(4, _), (0, _), (1, _), (2, _), (3, _)]) dL_order_18 (by decide) rfl ?_
      refine X_bipush (v := -79) dL_order_20 (by decide) ?_
      refine X_ireturn dL_order_22 rfl rfl ?_
      exact ⟨by rw [hcd]; rfl, ⟨_, hdc0, hdc1, hdc2, hX1⟩, hF1⟩
    · exact absurd hcd (by omega)
  obtain ⟨hr, hX1, hF1⟩ := hq
  obtain ⟨hcd, hvv⟩ := xr_inl hr
  cases hvv
  refine X_ireturn dL_order_7 rfl rfl ?_
  exact ⟨by rw [hcd]; rfl, ⟨_, hdc0, hdc1, hdc2, hX1⟩, hF1⟩
set_option maxRecDepth 20000 in
theorem h_cancel {P : PSt} {L : LSt} {pr : Nat → Nat} {O : OSt} {mp : Nat} {mk : Nat → UInt32} {a0 nn : Nat} (ha : w.1 0 = a0) (hS : ST nn G.2.2.1 w P L pr O mp mk) (hIP : IP P L pr O mp mk []) (o : Int32) : XC G mL_cancel 8 2 12 [.ref a0, .int o] w (fun r w' => r = .inl (some (.int (hv (cdX o O) [(-77), (-79)] (nI (cntB (fun k => !(canO O (idx o)).2.2.2.2.2 k) O.1))))) ∧ ST nn G.2.2.1 w' P L pr (if (cdX o O) = 0 then canO O (idx o) else O) mp mk ∧ FX w w') := by
  subst ha
  obtain ⟨dc, hn0, hc1, hc2, hIX⟩ := hS
  have hdc0 := hn0
  have hdc1 := hc1
  have hdc2 := hc2
  refine XC.of (lo0 := [(0, .ref (w.1 0)), (1, .int o)]) kmL_cancel (Nat.le_of_ble_eq_true rfl) rfl ?_
  refine X_aload_n dL_cancel_0 (i := 0) rfl rfl ?_
  refine X_iload_n dL_cancel_1 (i := 1) rfl rfl ?_
  refine X_callV (gc2 := 0) (gs2 := 0) (cx_cancel (a0 := w.1 0) (a39 := w.1 39) (a63 := w.1 63) (a64 := w.1 64) ⟨trivial, rfl, rfl, rfl, rfl⟩ hIX hIP o) (i := 0) hIX.1 rfl rfl kmX10_cancel rfl lL_138 iX10_cancel vX10_cancel rfl rfl (Nat.le_of_ble_eq_true rfl) (by decide) dL_cancel_2 (by omega) (by omega) (fun E w1 hq => ?_) (fun v w1 hq => ?_)
  · obtain ⟨hr, hX1, hF1⟩ := hq
    obtain ⟨kx, hcd, hE⟩ := xr_inr hr
    have hle : cdX o O ≤ 2 := cdX_le
    rcases kx with _ | _ | kx
    · have hE : E = "java/lang/IndexOutOfBoundsException" := hE
      subst hE
      refine XT.catch (name := "java/lang/IndexOutOfBoundsException") [] (0, 5, 6, 28) [(0, 5, 10, 22)] rfl (fun z hz => nomatch hz) ⟨by decide, by decide⟩ (by decide) cL_28 cast_IndexOutOfBoundsException (fun q => ?_)
      refine X_astore_n (i := 2) (lo' := [(2, _), (0, _), (1, _)]) dL_cancel_6 rfl (by decide) rfl ?_
      refine X_bipush (v := -77) dL_cancel_7 (by decide) ?_
      refine X_ireturn dL_cancel_9 rfl rfl ?_
      exact ⟨by rw [hcd]; rfl, ⟨_, hdc0, hdc1, hdc2, hX1⟩, hF1⟩
    · have hE : E = "java/lang/IllegalStateException" := hE
      subst hE
      refine XT.catch (name := "java/lang/IllegalStateException") [(0, 5, 6, 28)] (0, 5, 10, 22) [] rfl (List.forall_mem_cons.mpr ⟨⟨by decide, _, cL_28, List.mem_of_getElem? (i := 5) rfl⟩, (fun z hz => nomatch hz)⟩) ⟨by decide, by decide⟩ (by decide) cL_22 cast_IllegalStateException (fun q => ?_)
      refine X_astore_n (i := 2) (lo' := [(2, _), (0, _), (1, _)]) dL_cancel_10 rfl (by decide) rfl ?_
      refine X_bipush (v := -79) dL_cancel_11 (by decide) ?_
      refine X_ireturn dL_cancel_13 rfl rfl ?_
      exact ⟨by rw [hcd]; rfl, ⟨_, hdc0, hdc1, hdc2, hX1⟩, hF1⟩
    · exact absurd hcd (by omega)
  obtain ⟨hr, hX1, hF1⟩ := hq
  obtain ⟨hcd, hvv⟩ := xr_inl hr
  cases hvv
  refine X_ireturn dL_cancel_5 rfl rfl ?_
  exact ⟨by rw [hcd]; rfl, ⟨_, hdc0, hdc1, hdc2, hX1⟩, hF1⟩
set_option maxRecDepth 20000 in
theorem h_need {P : PSt} {L : LSt} {pr : Nat → Nat} {O : OSt} {mp : Nat} {mk : Nat → UInt32} {a0 nn : Nat} (ha : w.1 0 = a0) (hS : ST nn G.2.2.1 w P L pr O mp mk) (hIP : IP P L pr O mp mk []) (c : Int32) : XC G mL_need 8 2 12 [.ref a0, .int c] w (fun r w' => r = .inl (some (.long (hv (cdP c P.1) [(-77)] (nL (needN L O (idx c) O.1))))) ∧ ST nn G.2.2.1 w' P L pr O mp mk ∧ FX w w') := by
  subst ha
  obtain ⟨dc, hn0, hc1, hc2, hIX⟩ := hS
  have hdc0 := hn0
  have hdc1 := hc1
  have hdc2 := hc2
  refine XC.of (lo0 := [(0, .ref (w.1 0)), (1, .int c)]) kmL_need (Nat.le_of_ble_eq_true rfl) rfl ?_
  refine X_aload_n dL_need_0 (i := 0) rfl rfl ?_
  refine X_iload_n dL_need_1 (i := 1) rfl rfl ?_
  refine X_callV (gc2 := 0) (gs2 := 0) (cx_need (a0 := w.1 0) (a39 := w.1 39) (a63 := w.1 63) (a64 := w.1 64) ⟨trivial, rfl, rfl, rfl, rfl⟩ hIX hIP c) (i := 0) hIX.1 rfl rfl kmX10_need rfl lL_141 iX10_need vX10_need rfl rfl (Nat.le_of_ble_eq_true rfl) (by decide) dL_need_2 (by omega) (by omega) (fun E w1 hq => ?_) (fun v w1 hq => ?_)
  · obtain ⟨hr, hX1, hF1⟩ := hq
    obtain ⟨kx, hcd, hE⟩ := xr_inr hr
    have hle : cdP c P.1 ≤ 1 := cdP_le
    rcases kx with _ | kx
    · have hE : E = "java/lang/IndexOutOfBoundsException" := hE
      subst hE
      refine XT.catch (name := "java/lang/IndexOutOfBoundsException") [] (0, 5, 6, 28) [] rfl (fun z hz => nomatch hz) ⟨by decide, by decide⟩ (by decide) cL_28 cast_IndexOutOfBoundsException (fun q => ?_)
      refine X_astore_n (i := 2) (lo' := [(2, _), (0, _), (1, _)]) dL_need_6 rfl (by decide) rfl ?_
      refine X_ldc2 dL_need_7 kL_80 ?_
      refine X_lreturn dL_need_10 rfl ?_
      exact ⟨by rw [hcd]; rfl, ⟨_, hdc0, hdc1, hdc2, hX1⟩, hF1⟩
    · exact absurd hcd (by omega)
  obtain ⟨hr, hX1, hF1⟩ := hq
  obtain ⟨hcd, hvv⟩ := xr_inl hr
  cases hvv
  refine X_lreturn dL_need_5 rfl ?_
  exact ⟨by rw [hcd]; rfl, ⟨_, hdc0, hdc1, hdc2, hX1⟩, hF1⟩
set_option maxRecDepth 20000 in
theorem g_listSize {P : PSt} {L : LSt} {pr : Nat → Nat} {O : OSt} {mp : Nat} {mk : Nat → UInt32} {a0 nn : Nat} (ha : w.1 0 = a0) (hS : ST nn G.2.2.1 w P L pr O mp mk) (hIP : IP P L pr O mp mk []) (a : Int32) (s : Int32) (hlen : (listN P.2.1 L pr (idx s) 5 (idx a) 1).length ≤ nn) : XC G mL_listSize 10 2 12 [.ref a0, .int a, .int s] w (fun r w' => r = .inl (some (.int (hv (cdA a s P.1) [(-77), (-78)] (nI (listN P.2.1 L pr (idx s) 5 (idx a) 1).length)))) ∧ ST nn G.2.2.1 w' P L pr O mp mk ∧ FX w w') := by
  subst ha
  obtain ⟨dc, hn0, hc1, hc2, hIX⟩ := hS
  have hid : (if cdA a s P.1 = 0 then capL 0 dc (listN P.2.1 L pr (idx s) 5 (idx a) 1).length else dc) = dc := by
    split
    · exact capL_id (by omega)
    · rfl
  have hdc0 : nn ≤ (if cdA a s P.1 = 0 then capL 0 dc (listN P.2.1 L pr (idx s) 5 (idx a) 1).length else dc) := by rw [hid]; exact hn0
  have hdc1 : 16 ≤ (if cdA a s P.1 = 0 then capL 0 dc (listN P.2.1 L pr (idx s) 5 (idx a) 1).length else dc) := by rw [hid]; exact hc1
  have hdc2 : (if cdA a s P.1 = 0 then capL 0 dc (listN P.2.1 L pr (idx s) 5 (idx a) 1).length else dc) ≤ 72 := by rw [hid]; exact hc2
  refine XC.of (lo0 := [(0, .ref (w.1 0)), (1, .int a), (2, .int s)]) kmL_listSize (Nat.le_of_ble_eq_true rfl) rfl ?_
  refine X_aload_n dL_listSize_0 (i := 0) rfl rfl ?_
  refine X_iload_n dL_listSize_1 (i := 1) rfl rfl ?_
  refine X_iload_n dL_listSize_2 (i := 2) rfl rfl ?_
  refine X_callV (gc2 := 0) (gs2 := 0) (cx_listSize (a0 := w.1 0) (a39 := w.1 39) (a63 := w.1 63) (a64 := w.1 64) ⟨trivial, rfl, rfl, rfl, rfl⟩ hIX hIP a s) (i := 0) hIX.1 rfl rfl kmX10_listSize rfl lL_67 iX10_listSize vX10_listSize rfl rfl (Nat.le_of_ble_eq_true rfl) (by decide) dL_listSize_3 (by omega) (by omega) (fun E w1 hq => ?_) (fun v w1 hq => ?_)
  · obtain ⟨hr, hX1, hF1⟩ := hq
    obtain ⟨kx, hcd, hE⟩ := xr_inr hr
    have hle : cdA a s P.1 ≤ 2 := cdA_le
    rcases kx with _ | _ | kx
    · have hE : E = "java/lang/IndexOutOfBoundsException" := hE
      subst hE
      refine XT.catch (name := "java/lang/IndexOutOfBoundsException") [] (0, 6, 7, 28) [(0, 6, 11, 20)] rfl (fun z hz => nomatch hz) ⟨by decide, by decide⟩ (by decide) cL_28 cast_IndexOutOfBoundsException (fun q => ?_)
      refine X_astore_n (i := 3) (lo' := [(3, _), (0, _), (1, _), (2, _)]) dL_listSize_7 rfl (by decide) rfl ?_
      refine X_bipush (v := -77) dL_listSize_8 (by decide) ?_
      refine X_ireturn dL_listSize_10 rfl rfl ?_
      exact ⟨by rw [hcd]; rfl, ⟨_, hdc0, hdc1, hdc2, hX1⟩, hF1⟩
    · have hE : E = "java/lang/IllegalArgumentException" := hE
      subst hE
      refine XT.catch (name := "java/lang/IllegalArgumentException") [(0, 6, 7, 28)] (0, 6, 11, 20) [] rfl (List.forall_mem_cons.mpr ⟨⟨by decide, _, cL_28, List.mem_of_getElem? (i := 1) rfl⟩, (fun z hz => nomatch hz)⟩) ⟨by decide, by decide⟩ (by decide) cL_20 cast_IllegalArgumentException (fun q => ?_)
      refine X_astore_n (i := 3) (lo' := [(3, _), (0, _), (1, _), (2, _)]) dL_listSize_11 rfl (by decide) rfl ?_
      refine X_bipush (v := -78) dL_listSize_12 (by decide) ?_
      refine X_ireturn dL_listSize_14 rfl rfl ?_
      exact ⟨by rw [hcd]; rfl, ⟨_, hdc0, hdc1, hdc2, hX1⟩, hF1⟩
    · exact absurd hcd (by omega)
  obtain ⟨hr, hX1, hF1⟩ := hq
  obtain ⟨hcd, hvv⟩ := xr_inl hr
  cases hvv
  refine X_ireturn dL_listSize_6 rfl rfl ?_
  exact ⟨by rw [hcd]; rfl, ⟨_, hdc0, hdc1, hdc2, hX1⟩, hF1⟩
set_option maxRecDepth 20000 in
theorem g_listPart {P : PSt} {L : LSt} {pr : Nat → Nat} {O : OSt} {mp : Nat} {mk : Nat → UInt32} {a0 nn : Nat} (ha : w.1 0 = a0) (hS : ST nn G.2.2.1 w P L pr O mp mk) (hIP : IP P L pr O mp mk []) (a : Int32) (s : Int32) (i : Int32) (hlen : (listN P.2.1 L pr (idx s) 5 (idx a) 1).length ≤ nn) : XC G mL_listPart 10 3 18 [.ref a0, .int a, .int s, .int i] w (fun r w' => r = .inl (some (.int (hv (cdLP a s i P.1 (listN P.2.1 L pr (idx s) 5 (idx a) 1).length) [(-77), (-78), (-75)] (nI ((listN P.2.1 L pr (idx s) 5 (idx a) 1).getD (idx i) (0, 0)).1)))) ∧ ST nn G.2.2.1 w' P L pr O mp mk ∧ FX w w') := by
  subst ha
  obtain ⟨dc, hn0, hc1, hc2, hIX⟩ := hS
  have hid : (if cdA a s P.1 = 0 then capL 0 dc (listN P.2.1 L pr (idx s) 5 (idx a) 1).length else dc) = dc := by
    split
    · exact capL_id (by omega)
    · rfl
  have hdc0 : nn ≤ (if cdA a s P.1 = 0 then capL 0 dc (listN P.2.1 L pr (idx s) 5 (idx a) 1).length else dc) := by rw [hid]; exact hn0
  have hdc1 : 16 ≤ (if cdA a s P.1 = 0 then capL 0 dc (listN P.2.1 L pr (idx s) 5 (idx a) 1).length else dc) := by rw [hid]; exact hc1
  have hdc2 : (if cdA a s P.1 = 0 then capL 0 dc (listN P.2.1 L pr (idx s) 5 (idx a) 1).length else dc) ≤ 72 := by rw [hid]; exact hc2
  refine XC.of (lo0 := [(0, .ref (w.1 0)), (1, .int a), (2, .int s), (3, .int i)]) kmL_listPart (Nat.le_of_ble_eq_true rfl) rfl ?_
  refine X_aload_n dL_listPart_0 (i := 0) rfl rfl ?_
  refine X_iload_n dL_listPart_1 (i := 1) rfl rfl ?_
  refine X_iload_n dL_listPart_2 (i := 2) rfl rfl ?_
  refine X_iload_n dL_listPart_3 (i := 3) rfl rfl ?_
  refine X_callV (gc2 := 0) (gs2 := 0) (cx_listPart (a0 := w.1 0) (a39 := w.1 39) (a63 := w.1 63) (a64 := w.1 64) ⟨trivial, rfl, rfl, rfl, rfl⟩ hIX hIP a s i) (i := 0) hIX.1 rfl rfl kmX10_listPart rfl lL_70 iX10_listPart vX10_listPart rfl rfl (Nat.le_of_ble_eq_true rfl) (by decide) dL_listPart_4 (by omega) (by omega) (fun E w1 hq => ?_) (fun v w1 hq => ?_)
  · obtain ⟨hr, hX1, hF1⟩ := hq
    obtain ⟨kx, hcd, hE⟩ := xr_inr hr
    have hle : cdLP a s i P.1 (listN P.2.1 L pr (idx s) 5 (idx a) 1).length ≤ 3 := cdLP_le
    rcases kx with _ | _ | _ | kx
    · have hE : E = "java/lang/IndexOutOfBoundsException" := hE
      subst hE
      refine XT.catch (name := "java/lang/IndexOutOfBoundsException") [] (0, 7, 8, 28) [(0, 7, 13, 20), (0, 7, 18, 74)] rfl (fun z hz => nomatch hz) ⟨by decide, by decide⟩ (by decide) cL_28 cast_IndexOutOfBoundsException (fun q => ?_)
      refine X_astore (i := 4) (lo' := [(4, _), (0, _), (1, _), (2, _), (3, _)]) dL_listPart_8 (by decide) rfl ?_
      refine X_bipush (v := -77) dL_listPart_10 (by decide) ?_
      refine X_ireturn dL_listPart_12 rfl rfl ?_
      exact ⟨by rw [hcd]; rfl, ⟨_, hdc0, hdc1, hdc2, hX1⟩, hF1⟩
    · have hE : E = "java/lang/IllegalArgumentException" := hE
      subst hE
      refine XT.catch (name := "java/lang/IllegalArgumentException") [(0, 7, 8, 28)] (0, 7, 13, 20) [(0, 7, 18, 74)] rfl (List.forall_mem_cons.mpr ⟨⟨by decide, _, cL_28, List.mem_of_getElem? (i := 1) rfl⟩, (fun z hz => nomatch hz)⟩) ⟨by decide, by decide⟩ (by decide) cL_20 cast_IllegalArgumentException (fun q => ?_)
      refine X_astore (i := 4) (lo' := [(4, _), (0, _), (1, _), (2, _), (3, _)]) dL_listPart_13 (by decide) rfl ?_
      refine X_bipush (v := -78) dL_listPart_15 (by decide) ?_
      refine X_ireturn dL_listPart_17 rfl rfl ?_
      exact ⟨by rw [hcd]; rfl, ⟨_, hdc0, hdc1, hdc2, hX1⟩, hF1⟩
    · have hE : E = "java/util/NoSuchElementException" := hE
      subst hE
      refine XT.catch (name := "java/util/NoSuchElementException") [(0, 7, 8, 28), (0, 7, 13, 20)] (0, 7, 18, 74) [] rfl (List.forall_mem_cons.mpr ⟨⟨by decide, _, cL_28, List.mem_of_getElem? (i := 18) rfl⟩, (List.forall_mem_cons.mpr ⟨⟨by decide, _, cL_20, List.mem_of_getElem? (i := 16) rfl⟩, (fun z hz => nomatch hz)⟩)⟩) ⟨by decide, by decide⟩ (by decide) cL_74 cast_NoSuchElementException (fun q => ?_)
      refine X_astore (i := 4) (lo' := [(4, _), (0, _), (1, _), (2, _), (3, _)]) dL_listPart_18 (by decide) rfl ?_
      refine X_bipush (v := -75) dL_listPart_20 (by decide) ?_
      refine X_ireturn dL_listPart_22 rfl rfl ?_
      exact ⟨by rw [hcd]; rfl, ⟨_, hdc0, hdc1, hdc2, hX1⟩, hF1⟩
    · exact absurd hcd (by omega)
  obtain ⟨hr, hX1, hF1⟩ := hq
  obtain ⟨hcd, hvv⟩ := xr_inl hr
  cases hvv
  refine X_ireturn dL_listPart_7 rfl rfl ?_
  exact ⟨by rw [hcd]; rfl, ⟨_, hdc0, hdc1, hdc2, hX1⟩, hF1⟩
set_option maxRecDepth 20000 in
theorem g_listQuantity {P : PSt} {L : LSt} {pr : Nat → Nat} {O : OSt} {mp : Nat} {mk : Nat → UInt32} {a0 nn : Nat} (ha : w.1 0 = a0) (hS : ST nn G.2.2.1 w P L pr O mp mk) (hIP : IP P L pr O mp mk []) (a : Int32) (s : Int32) (i : Int32) (hlen : (listN P.2.1 L pr (idx s) 5 (idx a) 1).length ≤ nn) : XC G mL_listQuantity 10 3 18 [.ref a0, .int a, .int s, .int i] w (fun r w' => r = .inl (some (.long (hv (cdLP a s i P.1 (listN P.2.1 L pr (idx s) 5 (idx a) 1).length) [(-77), (-78), (-75)] (nL ((listN P.2.1 L pr (idx s) 5 (idx a) 1).getD (idx i) (0, 0)).2)))) ∧ ST nn G.2.2.1 w' P L pr O mp mk ∧ FX w w') := by
  subst ha
  obtain ⟨dc, hn0, hc1, hc2, hIX⟩ := hS
  have hid : (if cdA a s P.1 = 0 then capL 0 dc (listN P.2.1 L pr (idx s) 5 (idx a) 1).length else dc) = dc := by
    split
    · exact capL_id (by omega)
    · rfl
  have hdc0 : nn ≤ (if cdA a s P.1 = 0 then capL 0 dc (listN P.2.1 L pr (idx s) 5 (idx a) 1).length else dc) := by rw [hid]; exact hn0
  have hdc1 : 16 ≤ (if cdA a s P.1 = 0 then capL 0 dc (listN P.2.1 L pr (idx s) 5 (idx a) 1).length else dc) := by rw [hid]; exact hc1
  have hdc2 : (if cdA a s P.1 = 0 then capL 0 dc (listN P.2.1 L pr (idx s) 5 (idx a) 1).length else dc) ≤ 72 := by rw [hid]; exact hc2
  refine XC.of (lo0 := [(0, .ref (w.1 0)), (1, .int a), (2, .int s), (3, .int i)]) kmL_listQuantity (Nat.le_of_ble_eq_true rfl) rfl ?_
  refine X_aload_n dL_listQuantity_0 (i := 0) rfl rfl ?_
  refine X_iload_n dL_listQuantity_1 (i := 1) rfl rfl ?_
  refine X_iload_n dL_listQuantity_2 (i := 2) rfl rfl ?_
  refine X_iload_n dL_listQuantity_3 (i := 3) rfl rfl ?_
  refine X_callV (gc2 := 0) (gs2 := 0) (cx_listQuantity (a0 := w.1 0) (a39 := w.1 39) (a63 := w.1 63) (a64 := w.1 64) ⟨trivial, rfl, rfl, rfl, rfl⟩ hIX hIP a s i) (i := 0) hIX.1 rfl rfl kmX10_listQuantity rfl lL_76 iX10_listQuantity vX10_listQuantity rfl rfl (Nat.le_of_ble_eq_true rfl) (by decide) dL_listQuantity_4 (by omega) (by omega) (fun E w1 hq => ?_) (fun v w1 hq => ?_)
  · obtain ⟨hr, hX1, hF1⟩ := hq
    obtain ⟨kx, hcd, hE⟩ := xr_inr hr
    have hle : cdLP a s i P.1 (listN P.2.1 L pr (idx s) 5 (idx a) 1).length ≤ 3 := cdLP_le
    rcases kx with _ | _ | _ | kx
    · have hE : E = "java/lang/IndexOutOfBoundsException" := hE
      subst hE
      refine XT.catch (name := "java/lang/IndexOutOfBoundsException") [] (0, 7, 8, 28) [(0, 7, 14, 20), (0, 7, 20, 74)] rfl (fun z hz => nomatch hz) ⟨by decide, by decide⟩ (by decide) cL_28 cast_IndexOutOfBoundsException (fun q => ?_)
      refine X_astore (i := 4) (lo' := [(4, _), (0, _), (1, _), (2, _), (3, _)]) dL_listQuantity_8 (by decide) rfl ?_
      refine X_ldc2 dL_listQuantity_10 kL_80 ?_
      refine X_lreturn dL_listQuantity_13 rfl ?_
      exact ⟨by rw [hcd]; rfl, ⟨_, hdc0, hdc1, hdc2, hX1⟩, hF1⟩
    · have hE : E = "java/lang/IllegalArgumentException" := hE
      subst hE
      refine XT.catch (name := "java/lang/IllegalArgumentException") [(0, 7, 8, 28)] (0, 7, 14, 20) [(0, 7, 20, 74)] rfl (List.forall_mem_cons.mpr ⟨⟨by decide, _, cL_28, List.mem_of_getElem? (i := 1) rfl⟩, (fun z hz => nomatch hz)⟩) ⟨by decide, by decide⟩ (by decide) cL_20 cast_IllegalArgumentException (fun q => ?_)
      refine X_astore (i := 4) (lo' := [(4, _), (0, _), (1, _), (2, _), (3, _)]) dL_listQuantity_14 (by decide) rfl ?_
      refine X_ldc2 dL_listQuantity_16 kL_82 ?_
      refine X_lreturn dL_listQuantity_19 rfl ?_
      exact ⟨by rw [hcd]; rfl, ⟨_, hdc0, hdc1, hdc2, hX1⟩, hF1⟩
    · have hE : E = "java/util/NoSuchElementException" := hE
      subst hE
      refine XT.catch (name := "java/util/NoSuchElementException") [(0, 7, 8, 28), (0, 7, 14, 20)] (0, 7, 20, 74) [] rfl (List.forall_mem_cons.mpr ⟨⟨by decide, _, cL_28, List.mem_of_getElem? (i := 18) rfl⟩, (List.forall_mem_cons.mpr ⟨⟨by decide, _, cL_20, List.mem_of_getElem? (i := 16) rfl⟩, (fun z hz => nomatch hz)⟩)⟩) ⟨by decide, by decide⟩ (by decide) cL_74 cast_NoSuchElementException (fun q => ?_)
      refine X_astore (i := 4) (lo' := [(4, _), (0, _), (1, _), (2, _), (3, _)]) dL_listQuantity_20 (by decide) rfl ?_
      refine X_ldc2 dL_listQuantity_22 kL_84 ?_
      refine X_lreturn dL_listQuantity_25 rfl ?_
      exact ⟨by rw [hcd]; rfl, ⟨_, hdc0, hdc1, hdc2, hX1⟩, hF1⟩
    · exact absurd hcd (by omega)
  obtain ⟨hr, hX1, hF1⟩ := hq
  obtain ⟨hcd, hvv⟩ := xr_inl hr
  cases hvv
  refine X_lreturn dL_listQuantity_7 rfl ?_
  exact ⟨by rw [hcd]; rfl, ⟨_, hdc0, hdc1, hdc2, hX1⟩, hF1⟩
theorem q_lines {P : PSt} {L : LSt} {pr : Nat → Nat} {O : OSt} {mp : Nat} {mk : Nat → UInt32} {a0 nn : Nat} (ha : w.1 0 = a0) (hS : ST nn G.2.2.1 w P L pr O mp mk) : XC G mX10_lines 7 0 0 [.ref a0] w (fun r w' => r = .inl (some (.int (nI (ln L)))) ∧ w' = w) := by
  subst ha
  obtain ⟨dc, hn0, hc1, hc2, hIX⟩ := hS
  exact c_lines hIX.1 hIX.2.1 hIX.2.2.2.1
theorem ST.c0 {P : PSt} {L : LSt} {pr : Nat → Nat} {O : OSt} {mp : Nat} {mk : Nat → UInt32} {nn : Nat} (hS : ST nn G.2.2.1 w P L pr O mp mk) : cel w 0 (oB 9 [.ref (w.1 1), .ref (w.1 20), .ref (w.1 26), .ref (w.1 29), .ref (w.1 31), .ref (w.1 33), .ref (w.1 36), .ref (w.1 38), .int (nI mp), .int (nI (cfg pr))]) := by
  obtain ⟨dc, hn0, hc1, hc2, hIX⟩ := hS
  exact hIX.1
end HelpQ
