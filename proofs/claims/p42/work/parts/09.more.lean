/-! THROWS, NEW THINGS, NATIVES, METHODS WITH HANDLERS, THE SCRIPT over XJ -/
section XMore
variable {G : Gx} {μ : Mth} {d gc gs pc : Nat} {lo : List (Nat × Value)} {st : List Value} {w : Wd} {Q : XRes → Wd → Prop}
theorem X_later {s t : State} {H : Heap} {locs : List Loc} {E : String} (hQ : Q (.inr E) w) (hw : WG G w H) (hS : va_S G.2.2.2.1 s.heap H locs) (hsz : H.size ≤ t.heap.size) (ho : ∀ q : Nat, q < H.size → t.heap[q]? = H[q]?) : XQ G Q E s t := by
  refine ⟨⟨w, hQ, hw.1.kept (fun k q hk => ho _ (hw.1 k q hk).lt), hw.2⟩, Nat.le_trans hS.1 hsz, fun q h1 h2 => ?_⟩
  rw [ho q (Nat.lt_of_lt_of_le h1 hS.1)]
  exact hS.2.1 q h1 h2
def xnames : List String := ["java/lang/RuntimeException", "java/lang/Exception"]
/-- what a throw of cls in class own needs of the tables -/
def ThrowOK (own cls : String) (ik ic : Nat) : Prop := Bundle.fit cls = true ∧ (∀ n ∈ xnames, Bundle.fit n = true) ∧ Cond.classLink own ik cls ∈ xall ∧ Cond.initialized cls ∈ xall ∧ (∀ w ∈ vx_atS own ic cls xnames, w ∈ xall) ∧ ∀ w ∈ Cond.classLink own ik cls :: Cond.initialized cls :: vx_atS own ic cls xnames, vx_ot w = true
theorem X_throwS {cls text : String} {ik is ic : Nat} (ok : ThrowOK μ.1 cls ik ic) (hstr : (μ.1, is, text) ∈ xstrs) (hh : μ.2.2.2.2.2 = [])
    (d0 : decode μ.2.2.1 pc = .ok (.new ik, 3)) (d3 : decode μ.2.2.1 (pc + 3) = .ok (.dup, 1)) (d4 : decode μ.2.2.1 (pc + 4) = .ok (.ldc is, 2)) (d6 : decode μ.2.2.1 (pc + 6) = .ok (.invokespecial ic, 3)) (d9 : decode μ.2.2.1 (pc + 9) = .ok (.athrow, 1))
    (hr : (st.map fun v => v.category).sum ≤ 8) (hdd : 6 ≤ d) (hgc : 1 ≤ gc) (hgs : 6 ≤ gs) (hQ : Q (.inr cls) w) : XJ G μ d gc gs pc lo st w Q := by
  intro p e R s m args below meth c hc mc ms H locs cells slots ls h1 h2 h3 h4 hw hS hl
  obtain ⟨sa, hsa⟩ := hc.1.2.2.2.1 _ hstr
  have ht := hc.2.2.2.2.2.1
  have hfr := hc.2.2.2.2.2.2.2.2.2.1
  have hlc := hc.2.2.2.2.2.2.2.2.2.2.1
  refine vx_throwS (names := xnames) (text := text) (sa := sa) (A := G.2.2.2.1) hc.2.1 hc.2.2.1 hc.1.2.2.2.2.2.2.1 hc.2.2.2.2.1 ok.1 ok.2.1 (ht _ ok.2.2.1) (ht _ ok.2.2.2.1) hsa (fun w hw => ht _ (ok.2.2.2.2.1 w hw)) ok.2.2.2.2.2 hc.1.2.1 hc.1.2.2.1 hS (hl.1.trans hc.2.2.2.1.symm) d0 d3 d4 d6 d9 ?_ (by show 2 + 3 < R.frames; omega) (by show _ + (13 * (2 + 1) + 43) ≤ R.locals; omega) (by omega) (by omega) hc.2.2.2.2.2.2.2.1 (fun t hA hsz ho => X_later hQ hw hS hsz ho) hS.2.2 (by omega) (by omega)
  intro x hx
  rw [hc.2.2.2.2.2.2.2.2.2.2.2, hh] at hx
  cases hx
theorem X_throwSW {cls text : String} {ik is ic : Nat} (ok : ThrowOK μ.1 cls ik ic) (hstr : (μ.1, is, text) ∈ xstrs) (hh : μ.2.2.2.2.2 = [])
    (d0 : decode μ.2.2.1 pc = .ok (.new ik, 3)) (d3 : decode μ.2.2.1 (pc + 3) = .ok (.dup, 1)) (d4 : decode μ.2.2.1 (pc + 4) = .ok (.ldc_w is, 3)) (d7 : decode μ.2.2.1 (pc + 7) = .ok (.invokespecial ic, 3)) (d10 : decode μ.2.2.1 (pc + 10) = .ok (.athrow, 1))
    (hr : (st.map fun v => v.category).sum ≤ 8) (hdd : 6 ≤ d) (hgc : 1 ≤ gc) (hgs : 6 ≤ gs) (hQ : Q (.inr cls) w) : XJ G μ d gc gs pc lo st w Q := by
  intro p e R s m args below meth c hc mc ms H locs cells slots ls h1 h2 h3 h4 hw hS hl
  obtain ⟨sa, hsa⟩ := hc.1.2.2.2.1 _ hstr
  have ht := hc.2.2.2.2.2.1
  have hfr := hc.2.2.2.2.2.2.2.2.2.1
  have hlc := hc.2.2.2.2.2.2.2.2.2.2.1
  refine vx_throwSW (names := xnames) (text := text) (sa := sa) (A := G.2.2.2.1) hc.2.1 hc.2.2.1 hc.1.2.2.2.2.2.2.1 hc.2.2.2.2.1 ok.1 ok.2.1 (ht _ ok.2.2.1) (ht _ ok.2.2.2.1) hsa (fun w hw => ht _ (ok.2.2.2.2.1 w hw)) ok.2.2.2.2.2 hc.1.2.1 hc.1.2.2.1 hS (hl.1.trans hc.2.2.2.1.symm) d0 d3 d4 d7 d10 ?_ (by show 2 + 3 < R.frames; omega) (by show _ + (13 * (2 + 1) + 43) ≤ R.locals; omega) (by omega) (by omega) hc.2.2.2.2.2.2.2.1 (fun t hA hsz ho => X_later hQ hw hS hsz ho) hS.2.2 (by omega) (by omega)
  intro x hx
  rw [hc.2.2.2.2.2.2.2.2.2.2.2, hh] at hx
  cases hx
/-! ## new things -/
theorem X_new {ci N index : Nat} {C : String} {T : u_T} {fs : List Value} (ty0 : Nat → FieldType) (hty : ∀ k, k < N → parseFieldDescriptor (T k).2.2.1 = some (ty0 k)) (hc0 : vwCl[ci]? = some (C, T, N)) (hin : ∀ q ∈ u_ws C T N, q ∈ xall) (hcl : Cond.classLink μ.1 index C ∈ xall) (hinst : Cond.instantiable C N ∈ xall) (hini : Cond.initialized C ∈ xall) (hfs : ∀ j, j < N → defaultValue (ty0 j) = vp_V fs j) (hgc : 1 ≤ gc) (hgs : N ≤ gs) (hd : decode μ.2.2.1 pc = .ok (.new index, 3))
    (kk : ∀ q : Nat, XJ G μ d (gc - 1) (gs - N) (pc + 3) lo (.ref q :: st) (addM w q (oB ci fs)) Q) : XJ G μ d gc gs pc lo st w Q := by
  intro p e R s m args below meth c hc mc ms H locs cells slots ls h1 h2 h3 h4 hw hS hl
  have ht := hc.2.2.2.2.2.1
  refine va_new hc.2.1 hc.2.2.1 ht hin ty0 hty hc.2.2.2.2.1 (ht _ hcl) (ht _ hinst) (ht _ hini) hc.1.1 hw.1 hw.2 hS hc.1.2.2.2.2.2.2.2.1 hc0 hfs (by omega) (by omega) hd ?_
  intro q H1 hP hD hS1
  rw [show (.inr (ci, fs) : va_E) = oB ci fs from rfl, xw_add] at hP hD
  exact kk q p e R s m args below meth c hc mc ms H1 locs (cells + 1) (slots + N) ls (by omega) (by omega) h3 h4 ⟨hP, hD⟩ hS1 hl
theorem X_newa {t N' : Nat} {atype : ArrayType} {ty : FieldType} {n : Int32} {a0 : vp_A} (hty : newarray.typeOf atype = ty) (ht0 : (tysK G.2.2.1)[t]? = some (G.2.2.1 t, ty)) (hne : ∀ C, ty ≠ .object C) (harr : Cond.arrayClass (newarray.typeOf atype) ∈ xall) (ha : ∀ cA : ClassId, vp_cell cA a0 = arrV cA N' (fun _ => defaultValue ty)) (hn : n = nI N') (hb : N' * componentBytes ty ≤ 536870912) (hb2 : N' < 2 ^ 31) (hgc : 1 ≤ gc) (hgs : N' ≤ gs) (hd : decode μ.2.2.1 pc = .ok (.newarray atype, 2))
    (kk : ∀ q : Nat, XJ G μ d (gc - 1) (gs - N') (pc + 2) lo (.ref q :: st) (addM w q (.inl (G.2.2.1 t, a0))) Q) : XJ G μ d gc gs pc lo (.int n :: st) w Q := by
  subst hn
  intro p e R s m args below meth c hc mc ms H locs cells slots ls h1 h2 h3 h4 hw hS hl
  have ht := hc.2.2.2.2.2.1
  refine va_newa hc.2.1 hc.2.2.1 (ht _ harr) hty hc.1.1 hw.1 hw.2 hS hc.1.2.2.2.2.2.2.2.1 ha (nI_pos hb2) (nI_clamp hb2) hb (by omega) (by omega) hd ?_
  intro q cA H1 hK hP hD hS1
  have e1 : va_RA s cA ty := (hK.2 (tysK G.2.2.1).length (cA, ty) (by simp)).2
  have e2 : va_RA s (G.2.2.1 t) ty := (hc.1.1.2 t _ ht0).2
  have e3 : cA = G.2.2.1 t := by
    cases ty with
    | object C => exact absurd rfl (hne C)
    | _ =>
      simp only [va_RA] at e1 e2
      rw [e1] at e2
      exact Option.some.inj e2
  subst e3
  rw [xw_add] at hP hD
  exact kk q p e R s m args below meth c hc mc ms H1 locs (cells + 1) (slots + N') ls (by omega) (by omega) h3 h4 ⟨hP, hD⟩ hS1 hl
theorem X_objInit {a index : Nat} (hlink : Cond.methodLink μ.1 index Lib.objectInit ∈ xall) (hinst : Cond.instanceMethod Lib.objectInit ∈ xall) (hcode : Cond.code Lib.objectInit ⟨#[0xb1]⟩ 1 none ∈ xall) (hr : (st.map fun v => v.category).sum ≤ 8) (hdd : 1 ≤ d) (hd : decode μ.2.2.1 pc = .ok (.invokespecial index, 3))
    (kk : XJ G μ d gc gs (pc + 3) lo st w Q) : XJ G μ d gc gs pc lo (.ref a :: st) w Q := by
  intro p e R s m args below meth c hc mc ms H locs cells slots ls h1 h2 h3 h4 hw hS hl
  have ht := hc.2.2.2.2.2.1
  have hfr := hc.2.2.2.2.2.2.2.2.2.1
  have hlc := hc.2.2.2.2.2.2.2.2.2.2.1
  refine W.objInit hc.2.1 hc.2.2.1 hc.2.2.2.2.1 (ht _ hlink) (ht _ hinst) (ht _ hcode) rfl (by rw [hc.2.2.2.1]; exact hl.1) rfl hd (by omega) (by have := lv_room (m := m) (pc := pc) (ls := ls) (rest := st) hr; simp only [] at this ⊢; omega) ?_
  exact kk p e R s m args below meth c hc mc ms H locs cells slots ls h1 h2 h3 h4 hw hS hl
/-! ## natives -/
theorem X_f2ib {x : UInt32} {index : Nat} (hlink : Cond.methodLink μ.1 index ⟨"java/lang/Float", "floatToRawIntBits", "(F)I"⟩ ∈ xall) (hnat : Cond.native ⟨"java/lang/Float", "floatToRawIntBits", "(F)I"⟩ ∈ xall) (hstat : Cond.static ⟨"java/lang/Float", "floatToRawIntBits", "(F)I"⟩ ∈ xall) (hini : Cond.initialized "java/lang/Float" ∈ xall) (hr : (st.map fun v => v.category).sum ≤ 8) (hdd : 1 ≤ d) (hd : decode μ.2.2.1 pc = .ok (.invokestatic index, 3))
    (kk : XJ G μ d gc gs (pc + 3) lo (.int x.toInt32 :: st) w Q) : XJ G μ d gc gs pc lo (.float x :: st) w Q := by
  intro p e R s m args below meth c hc mc ms H locs cells slots ls h1 h2 h3 h4 hw hS hl
  have ht := hc.2.2.2.2.2.1
  have hfr := hc.2.2.2.2.2.2.2.2.2.1
  have hlc := hc.2.2.2.2.2.2.2.2.2.2.1
  exact vn_f2i hc.2.1 hc.2.2.1 (by rw [hc.2.2.2.1]; exact hl.1.symm) hc.2.2.2.2.1 (ht _ hlink) (ht _ hnat) (ht _ hstat) (ht _ hini) (by omega) (by omega) hd (kk p e R s m args below meth c hc mc ms H locs cells slots ls h1 h2 h3 h4 hw hS hl)
theorem X_d2lb {x : UInt64} {index : Nat} (hlink : Cond.methodLink μ.1 index ⟨"java/lang/Double", "doubleToRawLongBits", "(D)J"⟩ ∈ xall) (hnat : Cond.native ⟨"java/lang/Double", "doubleToRawLongBits", "(D)J"⟩ ∈ xall) (hstat : Cond.static ⟨"java/lang/Double", "doubleToRawLongBits", "(D)J"⟩ ∈ xall) (hini : Cond.initialized "java/lang/Double" ∈ xall) (hr : (st.map fun v => v.category).sum ≤ 8) (hdd : 1 ≤ d) (hd : decode μ.2.2.1 pc = .ok (.invokestatic index, 3))
    (kk : XJ G μ d gc gs (pc + 3) lo (.long x.toInt64 :: st) w Q) : XJ G μ d gc gs pc lo (.double x :: st) w Q := by
  intro p e R s m args below meth c hc mc ms H locs cells slots ls h1 h2 h3 h4 hw hS hl
  have ht := hc.2.2.2.2.2.1
  have hfr := hc.2.2.2.2.2.2.2.2.2.1
  have hlc := hc.2.2.2.2.2.2.2.2.2.2.1
  exact vn_d2l hc.2.1 hc.2.2.1 (by rw [hc.2.2.2.1]; exact hl.1.symm) hc.2.2.2.2.1 (ht _ hlink) (ht _ hnat) (ht _ hstat) (ht _ hini) (by omega) (by omega) hd (kk p e R s m args below meth c hc mc ms H locs cells slots ls h1 h2 h3 h4 hw hS hl)
theorem X_ldcw {index : Nat} {v : Int32} (hd : decode μ.2.2.1 pc = .ok (.ldc_w index, 3)) (hc : Cond.constant μ.1 index v ∈ xall) (k : XJ G μ d gc gs (pc + 3) lo (.int v :: st) w Q) : XJ G μ d gc gs pc lo (st) w Q :=
  XJ.step (fun hx hb hown ht hS ls hl kk => lv_ldcw hx hb hown (ht _ hc) hd kk) k
/-- System.arraycopy from the start of one row of ints (or chars) to the start of another -/
theorem X_copyi {a0 a1 i0 i1 t n0 n1 n index : Nat} {ty : FieldType} {f g : Nat → Int32} (hM0 : cel w i0 (.inl (G.2.2.1 t, n0, .inl f))) (hM1 : cel w i1 (.inl (G.2.2.1 t, n1, .inl g))) (ha0 : w.1 i0 = a0) (ha1 : w.1 i1 = a1) (ht : (tysK G.2.2.1)[t]? = some (G.2.2.1 t, ty)) (hprim : refKind ty = false)
    (hlink : Cond.methodLink μ.1 index arraycopyName ∈ xall) (hnat : Cond.native arraycopyName ∈ xall) (hstat : Cond.static arraycopyName ∈ xall) (hini : Cond.initialized "java/lang/System" ∈ xall)
    (hb : n < 2 ^ 31) (h4 : n ≤ n0) (h5 : n ≤ n1) (hfit : ∀ i, i < n → fits ty (.int (f i)) = true) (hr : (st.map fun v => v.category).sum ≤ 8) (hdd : 1 ≤ d) (hd : decode μ.2.2.1 pc = .ok (.invokestatic index, 3))
    (kk : XJ G μ d gc gs (pc + 3) lo st (setM w i1 (.inl (G.2.2.1 t, n1, .inl (va_cpy f g 0 0 n)))) Q) : XJ G μ d gc gs pc lo (.int (nI n) :: .int 0 :: .ref a1 :: .int 0 :: .ref a0 :: st) w Q := by
  subst ha0
  subst ha1
  intro p e R s m args below meth c hc mc ms H locs cells slots ls g1 g2 g3 g4 hw hS hl
  have hts := hc.2.2.2.2.2.1
  have hfr := hc.2.2.2.2.2.2.2.2.2.1
  have hlc := hc.2.2.2.2.2.2.2.2.2.2.1
  have e0 : (0 : Int32).toNatClampNeg = 0 := by decide +kernel
  refine va_copyi (f := f) (g := g) hc.2.1 hc.2.2.1 (by rw [hc.2.2.2.1]; exact hl.1.symm) hc.2.2.2.2.1 (hts _ hlink) (hts _ hnat) (hts _ hstat) (hts _ hini) hc.1.1 hw.1 hw.2 hS i0 i1 t t hM0.at hM1.at ht ht hprim (by decide) (by decide) (nI_pos hb) (by rw [e0, nI_clamp hb]; omega) (by rw [e0, nI_clamp hb]; omega) (by rw [nI_clamp hb, e0]; intro i hi; rw [Nat.zero_add]; exact hfit i hi) (by omega) ?_ hd ?_
  · have hw2 : nativeFrameWords "java/lang/System" "arraycopy" 5 ≤ 20 := by decide +kernel
    omega
  · intro H1 locs1 hP hD hS1
    rw [e0, nI_clamp hb] at hP hD
    have ee := xw_set (e := .inl (G.2.2.1 t, n1, .inl (va_cpy f g 0 0 n))) hM1.1
    exact kk p e R s m args below meth c hc mc ms H1 locs1 cells slots ls g1 g2 g3 g4 ⟨by rw [← ee]; exact hP, by rw [← ee]; exact hD⟩ hS1 hl
theorem X_copyl {a0 a1 i0 i1 n0 n1 n index : Nat} {f g : Nat → Int64} (hM0 : cel w i0 (aL G.2.2.1 n0 f)) (hM1 : cel w i1 (aL G.2.2.1 n1 g)) (ha0 : w.1 i0 = a0) (ha1 : w.1 i1 = a1)
    (hlink : Cond.methodLink μ.1 index arraycopyName ∈ xall) (hnat : Cond.native arraycopyName ∈ xall) (hstat : Cond.static arraycopyName ∈ xall) (hini : Cond.initialized "java/lang/System" ∈ xall)
    (hb : n < 2 ^ 31) (h4 : n ≤ n0) (h5 : n ≤ n1) (hr : (st.map fun v => v.category).sum ≤ 8) (hdd : 1 ≤ d) (hd : decode μ.2.2.1 pc = .ok (.invokestatic index, 3))
    (kk : XJ G μ d gc gs (pc + 3) lo st (setM w i1 (aL G.2.2.1 n1 (va_cpy f g 0 0 n))) Q) : XJ G μ d gc gs pc lo (.int (nI n) :: .int 0 :: .ref a1 :: .int 0 :: .ref a0 :: st) w Q := by
  subst ha0
  subst ha1
  intro p e R s m args below meth c hc mc ms H locs cells slots ls g1 g2 g3 g4 hw hS hl
  have hts := hc.2.2.2.2.2.1
  have hfr := hc.2.2.2.2.2.2.2.2.2.1
  have hlc := hc.2.2.2.2.2.2.2.2.2.2.1
  have e0 : (0 : Int32).toNatClampNeg = 0 := by decide +kernel
  refine va_copyl (f := f) (g := g) hc.2.1 hc.2.2.1 (by rw [hc.2.2.2.1]; exact hl.1.symm) hc.2.2.2.2.1 (hts _ hlink) (hts _ hnat) (hts _ hstat) (hts _ hini) hc.1.1 hw.1 hw.2 hS i0 i1 3 3 hM0.at hM1.at rfl rfl rfl (by decide) (by decide) (nI_pos hb) (by rw [e0, nI_clamp hb]; omega) (by rw [e0, nI_clamp hb]; omega) (by intro i hi; rfl) (by omega) ?_ hd ?_
  · have hw2 : nativeFrameWords "java/lang/System" "arraycopy" 5 ≤ 20 := by decide +kernel
    omega
  · intro H1 locs1 hP hD hS1
    rw [e0, nI_clamp hb] at hP hD
    have ee := xw_set (e := aL G.2.2.1 n1 (va_cpy f g 0 0 n)) hM1.1
    exact kk p e R s m args below meth c hc mc ms H1 locs1 cells slots ls g1 g2 g3 g4 ⟨by rw [← ee]; exact hP, by rw [← ee]; exact hD⟩ hS1 hl
/-! ## methods with handlers -/
theorem X_callSW {μ' : Mth} {n index : Nat} {av rest : List Value} {d' gc' gs' gc2 gs2 : Nat} {Q1 : XRes → Wd → Prop} {h0 : Nat × Nat × Nat × Nat} {ht : List (Nat × Nat × Nat × Nat)} (hC : XC G μ' d' gc' gs' av w Q1) (hk : KM μ' n) (hh : μ'.2.2.2.2.2 = h0 :: ht) (hlink : Cond.methodLink μ.1 index μ'.2.1 ∈ xall) (hstat : Cond.static μ'.2.1 ∈ xall) (hn : av.length = n) (hst : st = av.reverse ++ rest) (hr : (rest.map fun v => v.category).sum ≤ 8) (hdd : d' + 1 ≤ d) (hd : decode μ.2.2.1 pc = .ok (.invokestatic index, 3))
    (h1 : gc' + gc2 ≤ gc) (h2 : gs' + gs2 ≤ gs)
    (kx : ∀ (E : String) (w1 : Wd), Q1 (.inr E) w1 → XT G μ d gc2 gs2 pc lo w1 Q E)
    (kk : ∀ (v : Option Value) (w1 : Wd), Q1 (.inl v) w1 → XJ G μ d gc2 gs2 (pc + 3) lo (v.toList ++ rest) w1 Q) : XJ G μ d gc gs pc lo st w Q := by
  have hcw : xword μ' = Cond.codeWith μ'.2.1 μ'.2.2.1 μ'.2.2.2.1 μ'.2.2.2.2.1 μ'.2.2.2.2.2 := by unfold xword; rw [hh]
  refine XJ.call (av := av) (d' := d') (gc' := gc') (gs' := gs') (gc2 := gc2) (gs2 := gs2) (Q1 := Q1) (rest := rest) ?_ h1 h2 kx kk
  intro p e R s m args below meth c H locs cells slots ls hc hw hS hsz hf
  have ht := hc.2.2.2.2.2.1
  have hfr := hc.2.2.2.2.2.2.2.2.2.1
  have hlc := hc.2.2.2.2.2.2.2.2.2.2.1
  have hml := hk.2.2.2.2.2.2
  exact vx_runSX (Ts := xall) (hh := μ'.2.2.2.2.2) ⟨hc.2.1, hc.2.2.1, hc.2.2.2.1, hc.2.2.2.2.1, ht⟩ hC ⟨⟨rfl, rfl, by show d' + 1 ≤ R.frames; omega, by show 8 + (μ'.2.2.2.1 + 11) + 64 * d' ≤ R.locals; omega, hk.words ht, by rw [xws, hcw]; exact List.mem_singleton.mpr rfl⟩, by rw [← hcw]; exact ht _ hk.1, ht _ hk.2.1, hk.2.2.1, hk.pars, ht _ hlink, ht _ hstat⟩ ⟨PC_blind, fun U hU hW => PC_at hc.1 hw hS hU hW⟩ rfl hn hsz hst (lv_room hr) hd hf


/-- the same heap seen as another world: each of its cells is a cell of the old one -/
theorem WG.by {G : Gx} {w w' : Wd} {H : Heap} (f : Nat → Nat) (hf : ∀ i, i < w'.2.1 → f i < w.2.1 ∧ w.1 (f i) = w'.1 i ∧ w.2.2 (f i) = w'.2.2 i) (hinj : ∀ i j, i < w'.2.1 → j < w'.2.1 → f i = f j → i = j) (h : WG G w H) : WG G w' H := by
  have key : ∀ (k : Nat) (q : Nat × va_E), (xw w')[k]? = some q → k < w'.2.1 ∧ (xw w)[f k]? = some q := by
    intro k q hk
    have hlt : k < w'.2.1 := by
      have := (List.getElem?_eq_some_iff.mp hk).1
      simpa [xw] using this
    obtain ⟨h1, h2, h3⟩ := hf k hlt
    refine ⟨hlt, ?_⟩
    rw [xw_at h1, h2, h3, ← xw_at hlt]
    exact hk
  refine ⟨fun k q hk => h.1 (f k) q (key k q hk).2, ?_, fun k q hk => h.2.2 (f k) q (key k q hk).2⟩
  intro i j p q hi hj hpq
  exact hinj i j (key i p hi).1 (key j q hj).1 (h.2.1 (f i) (f j) p q (key i p hi).2 (key j q hj).2 hpq)
theorem XJ.by {w' : Wd} (f : Nat → Nat) (hf : ∀ i, i < w'.2.1 → f i < w.2.1 ∧ w.1 (f i) = w'.1 i ∧ w.2.2 (f i) = w'.2.2 i) (hinj : ∀ i j, i < w'.2.1 → j < w'.2.1 → f i = f j → i = j) (k : XJ G μ d gc gs pc lo st w' Q) : XJ G μ d gc gs pc lo st w Q := by
  intro p e R s m args below meth c hc mc ms H locs cells slots ls h1 h2 h3 h4 hw hS hl
  exact k p e R s m args below meth c hc mc ms H locs cells slots ls h1 h2 h3 h4 (hw.by f hf hinj) hS hl
/-- the last cell takes the place of cell i, which is given up -/
def dropM (w : Wd) (i : Nat) : Wd := (fun j => bif Nat.beq j i then w.1 (w.2.1 - 1) else w.1 j, w.2.1 - 1, fun j => bif Nat.beq j i then w.2.2 (w.2.1 - 1) else w.2.2 j)
theorem XJ.drop (i : Nat) (hi : i < w.2.1 - 1) (k : XJ G μ d gc gs pc lo st (dropM w i) Q) : XJ G μ d gc gs pc lo st w Q := by
  refine XJ.by (fun j => bif Nat.beq j i then w.2.1 - 1 else j) ?_ ?_ k
  · intro j hj
    have hj' : j < w.2.1 - 1 := hj
    cases hb : Nat.beq j i with
    | true => exact ⟨by simp only [cond_true]; omega, by show _ = bif Nat.beq j i then _ else _; rw [hb]; rfl, by show _ = bif Nat.beq j i then _ else _; rw [hb]; rfl⟩
    | false => exact ⟨by simp only [cond_false]; omega, by show _ = bif Nat.beq j i then _ else _; rw [hb]; rfl, by show _ = bif Nat.beq j i then _ else _; rw [hb]; rfl⟩
  · intro j k hj hk he
    have hj' : j < w.2.1 - 1 := hj
    have hk' : k < w.2.1 - 1 := hk
    cases hb : Nat.beq j i <;> cases hb2 : Nat.beq k i <;> rw [hb, hb2] at he <;> simp only [cond_true, cond_false] at he
    · exact he
    · omega
    · omega
    · rw [Nat.eq_of_beq_eq_true hb, Nat.eq_of_beq_eq_true hb2]
/-! ## the script -/
theorem X_sld {j : Nat} {x : Int32} (hx0 : x = nI j) (hj : j < G.2.2.2.2.2.1) (hn : G.2.2.2.2.2.1 < 2 ^ 31) (hd : decode μ.2.2.1 pc = .ok (.iaload, 1))
    (kk : XJ G μ d gc gs (pc + 1) lo (.int (G.2.2.2.2.2.2 j) :: st) w Q) : XJ G μ d gc gs pc lo (.int x :: .ref G.2.2.2.2.1 :: st) w Q := by
  subst hx0
  refine XJ.stepG (fun hx hw hS ls k1 => va_sld hx.2.1 hx.2.2.1 hx.1.2.2.2.2.2.2.2.2.1 hx.1.2.2.2.2.2.2.2.2.2.1 hx.1.2.2.2.2.2.2.2.2.2.2 hS (vp_in_nI hj hn) hd ?_) kk
  rw [nI_clamp (Nat.lt_trans hj hn)]
  exact k1
theorem X_slen (hd : decode μ.2.2.1 pc = .ok (.arraylength, 1))
    (kk : XJ G μ d gc gs (pc + 1) lo (.int (nI G.2.2.2.2.2.1) :: st) w Q) : XJ G μ d gc gs pc lo (.ref G.2.2.2.2.1 :: st) w Q :=
  XJ.stepG (fun hx hw hS ls k1 => va_slen hx.2.1 hx.2.2.1 hx.1.2.2.2.2.2.2.2.2.1 hx.1.2.2.2.2.2.2.2.2.2.1 hx.1.2.2.2.2.2.2.2.2.2.2 hS hd k1) kk
end XMore
