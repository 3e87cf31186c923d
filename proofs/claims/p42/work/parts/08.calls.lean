/-! CALLS, ENDS, THROWS, NEW THINGS over XJ -/
section XCalls
variable {G : Gx} {μ : Mth} {d gc gs pc : Nat} {lo : List (Nat × Value)} {st : List Value} {w : Wd} {Q : XRes → Wd → Prop}
/-! ## ends -/
theorem X_qj {s t : State} {args : Array Value} {H : Heap} {locs : List Loc} {v : Option Value} (hQ : Q (.inl v) w) (hw : WG G w H) (hS : va_S G.2.2.2.1 s.heap H locs) (ht : t.heap = H) : QJ G Q args s (.returned v) t := by
  subst ht
  exact ⟨⟨v, w, rfl, hQ, hw⟩, hS.F rfl⟩
theorem X_vreturn (hd : decode μ.2.2.1 pc = .ok (.return_, 1)) (hr : μ.2.2.2.2.1 = none) (hQ : Q (.inl none) w) : XJ G μ d gc gs pc lo [] w Q := by
  intro p e R s m args below meth c hc mc ms H locs cells slots ls h1 h2 h3 h4 hw hS hl
  refine W.widen (k := mc) (n := ms) (by omega) (by omega) (vx_ret ?_)
  exact W.vret hc.2.1 hc.2.2.1 (hc.2.2.2.2.2.2.1.trans hr) (fun t ht _ => X_qj hQ hw hS ht) hS.2.2 hd hc.2.2.2.2.2.2.2.1
theorem X_ireturn {ty : FieldType} {v : Int32} (hd : decode μ.2.2.1 pc = .ok (.ireturn, 1)) (hr : μ.2.2.2.2.1 = some ty) (hn : narrow ty (.int v) = .int v) (hQ : Q (.inl (some (.int v))) w) : XJ G μ d gc gs pc lo [.int v] w Q := by
  intro p e R s m args below meth c hc mc ms H locs cells slots ls h1 h2 h3 h4 hw hS hl
  refine W.widen (k := mc) (n := ms) (by omega) (by omega) (vx_ret ?_)
  exact W.zret hc.2.1 hc.2.2.1 (hc.2.2.2.2.2.2.1.trans hr) hn (fun t ht _ => X_qj hQ hw hS ht) hS.2.2 hd hc.2.2.2.2.2.2.2.1
theorem X_lreturn {v : Int64} (hd : decode μ.2.2.1 pc = .ok (.lreturn, 1)) (hr : μ.2.2.2.2.1 = some .long) (hQ : Q (.inl (some (.long v))) w) : XJ G μ d gc gs pc lo [.long v] w Q := by
  intro p e R s m args below meth c hc mc ms H locs cells slots ls h1 h2 h3 h4 hw hS hl
  refine W.widen (k := mc) (n := ms) (by omega) (by omega) (vx_ret ?_)
  exact W.lret hc.2.1 hc.2.2.1 (hc.2.2.2.2.2.2.1.trans hr) (fun t ht _ => X_qj hQ hw hS ht) hS.2.2 hd hc.2.2.2.2.2.2.2.1
theorem X_freturn {v : UInt32} (hd : decode μ.2.2.1 pc = .ok (.freturn, 1)) (hr : μ.2.2.2.2.1 = some .float) (hQ : Q (.inl (some (.float v))) w) : XJ G μ d gc gs pc lo [.float v] w Q := by
  intro p e R s m args below meth c hc mc ms H locs cells slots ls h1 h2 h3 h4 hw hS hl
  refine W.widen (k := mc) (n := ms) (by omega) (by omega) (vx_ret ?_)
  exact W.fret hc.2.1 hc.2.2.1 (hc.2.2.2.2.2.2.1.trans hr) (fun t ht _ => X_qj hQ hw hS ht) hS.2.2 hd hc.2.2.2.2.2.2.2.1
theorem X_dreturn {v : UInt64} (hd : decode μ.2.2.1 pc = .ok (.dreturn, 1)) (hr : μ.2.2.2.2.1 = some .double) (hQ : Q (.inl (some (.double v))) w) : XJ G μ d gc gs pc lo [.double v] w Q := by
  intro p e R s m args below meth c hc mc ms H locs cells slots ls h1 h2 h3 h4 hw hS hl
  refine W.widen (k := mc) (n := ms) (by omega) (by omega) (vx_ret ?_)
  exact W.dret hc.2.1 hc.2.2.1 (hc.2.2.2.2.2.2.1.trans hr) (fun t ht _ => X_qj hQ hw hS ht) hS.2.2 hd hc.2.2.2.2.2.2.2.1
/-! ## exceptions -/
/-- it leaves the method -/
theorem XT.out {E : String} (hh : μ.2.2.2.2.2 = []) (hQ : Q (.inr E) w) : XT G μ d gc gs pc lo w Q E := by
  intro p e R s m args below meth c hc mc ms H locs cells slots ls h1 h2 h3 h4 hw hS hl q ce rest hq hv hcl
  refine vx_out (fun x hx => ?_) hc.2.2.2.2.2.2.2.1 hq hv hcl (fun t ht hA => ?_) hS.2.2 (by omega) (by omega)
  · rw [hc.2.2.2.2.2.2.2.2.2.2.2, hh] at hx
    cases hx
  · subst ht
    exact ⟨⟨w, hQ, hw⟩, hS.F rfl⟩
/-- it is caught by row x of the table, the rows ahead let it pass; the local lx is the exception's own -/
theorem XT.catch {E name : String} (pre : List (Nat × Nat × Nat × Nat)) (x : Nat × Nat × Nat × Nat) (suf : List (Nat × Nat × Nat × Nat)) (hsplit : μ.2.2.2.2.2 = pre ++ x :: suf)
    (hpass : ∀ z ∈ pre, z.2.2.2 ≠ 0 ∧ ∃ nm : String, Cond.classLink μ.1 z.2.2.2 nm ∈ xall ∧ (E, nm) ∈ xncs) (hx : x.1 ≤ pc ∧ pc < x.2.1) (h0 : x.2.2.2 ≠ 0)
    (hlink : Cond.classLink μ.1 x.2.2.2 name ∈ xall) (hcast : Cond.castable E name ∈ xall)
    (k : ∀ q : Nat, XJ G μ d gc gs x.2.2.1 lo [.ref q] w Q) : XT G μ d gc gs pc lo w Q E := by
  intro p e R s m args below meth c hc mc ms H locs cells slots ls h1 h2 h3 h4 hw hS hl q ce rest hq hv hcl
  refine vx_catch (own := μ.1) (name := name) (E := E) hc.2.2.2.2.1 (tableOf pre) ⟨x.1, x.2.1, x.2.2.1, x.2.2.2⟩ (tableOf suf) ?_ ?_ ?_ h0 (hc.2.2.2.2.2.1 _ hlink) (hc.2.2.2.2.2.1 _ hcast) hq hv hcl ?_
  · rw [hc.2.2.2.2.2.2.2.2.2.2.2, hsplit]
    simp [tableOf]
  · intro z hz
    obtain ⟨y, hy, rfl⟩ := List.mem_map.mp hz
    obtain ⟨e1, nm, e2, e3⟩ := hpass y hy
    exact Or.inr ⟨e1, nm, hc.2.2.2.2.2.1 _ e2, hc.1.2.2.2.2.2.1 _ e3⟩
  · simp [covers, hx.1, hx.2]
  · exact k q p e R s m args below meth c hc mc ms H locs cells slots ls h1 h2 h3 h4 hw hS hl
/-! ## calls -/
/-- what a callee's tables' words say of it -/
def KM (μ : Mth) (n : Nat) : Prop := xword μ ∈ xall ∧ Cond.initialized μ.2.1.cls ∈ xall ∧ (μ.2.1.cls ≠ "java/lang/invoke/MethodHandle" ∧ μ.2.1.cls ≠ "java/lang/invoke/VarHandle") ∧ (parseMethodDescriptor μ.2.1.desc).map (fun d => d.parameters.length) = some n ∧ plainFor μ.2.1 = true ∧ μ.1 = μ.2.1.cls ∧ μ.2.2.2.1 ≤ 45
theorem KM.words {μ' : Mth} {n : Nat} (h : KM μ' n) {s : State} {args : Array Value} (ht : ∀ w ∈ xall, w.before args s = true) : ∀ w ∈ xws μ', ∀ (a' : Array Value) (U : State), s.WarmedH U.vm → w.before a' U = true := by
  intro w hw a' U hW
  have e := List.mem_singleton.mp hw
  subst e
  exact xgood_warm hW _ (List.mem_filter.mp h.1).2 (ht _ h.1)
theorem KM.pars {μ' : Mth} {n : Nat} (h : KM μ' n) : ∀ sig, parseMethodDescriptor μ'.2.1.desc = some sig → n = sig.parameters.length := by
  intro sig hs
  have e := h.2.2.2.1
  rw [hs] at e
  simpa using e.symm
theorem PC_blind {av : List Value} : FrameBlind (va_Pc av (fun U => SG G U ∧ WG G w U.heap)) := by
  intro a U g mk ⟨e, h1, h2⟩
  exact ⟨e, SG.blind h1, h2⟩
theorem PC_at {s U : State} {H : Heap} {locs : List Loc} {av : List Value} (hG : SG G s) (hw : WG G w H) (hS : va_S G.2.2.2.1 s.heap H locs) (hU : U.heap = H) (hW : s.WarmedH U.vm) : va_Pc av (fun U => SG G U ∧ WG G w U.heap) av.toArray U := by
  subst hU
  exact ⟨rfl, SG.moved hG hW hS, hw⟩
theorem XJ.call {av rest : List Value} {d' gc' gs' gc2 gs2 : Nat} {Q1 : XRes → Wd → Prop}
    (hrun : ∀ {p : Program} {e : Env} {R : Room} {s : State} {m : MethodId} {args : Array Value} {below : List Frame} {meth : Method} {c : Code} {H : Heap} {locs : List Loc} {cells slots : Nat} {ls : Array Slot},
      Cx G μ d p R s m args meth c → WG G w H → va_S G.2.2.2.1 s.heap H locs → ls.size = μ.2.2.2.1 → cells + gc' ≤ R.cells ∧ slots + gs' ≤ R.slots → vx_Run p G.1 e R s m args below meth c H locs cells slots gc' gs' (F0 m pc ls st) rest (QJ G Q1 av.toArray) (XQ G Q1) G.2.2.2.1)
    (h1 : gc' + gc2 ≤ gc) (h2 : gs' + gs2 ≤ gs)
    (kx : ∀ (E : String) (w1 : Wd), Q1 (.inr E) w1 → XT G μ d gc2 gs2 pc lo w1 Q E)
    (kk : ∀ (v : Option Value) (w1 : Wd), Q1 (.inl v) w1 → XJ G μ d gc2 gs2 (pc + 3) lo (v.toList ++ rest) w1 Q) : XJ G μ d gc gs pc lo st w Q := by
  intro p e R s m args below meth c hc mc ms H locs cells slots ls a1 a2 a3 a4 hw hS hl T hT X
  rcases hrun hc hw hS hl.1 ⟨by omega, by omega⟩ T hT X with ⟨v, st₀, t, T', L, h0, X', hL, e1, e2, ⟨⟨v', w1, hv, hq, hw1⟩, hF⟩, go⟩ | ⟨q, st₀, t, T', L, E, ce, h0, X', hL, e1, e2, ⟨⟨w1, hq, hw1⟩, hF⟩, hce, hcv, hcl, go⟩
  · cases hv
    obtain ⟨k1, k2, k3⟩ := vx_keep h0 e1 hS (fun _ _ h => h) (fun _ h => h) hL hF
    obtain ⟨t2, b1, b2⟩ := kk v w1 hq p e R s m args below meth c hc mc ms T'.heap (locs ++ L) (cells + gc') (slots + gs') ls (by omega) (by omega) a3 a4 (by rw [e1]; exact hw1) k3 hl T' rfl X'
    exact ⟨t2, go t2 b1, b2⟩
  · obtain ⟨k1, k2, k3⟩ := vx_keep h0 e1 hS (fun _ _ h => h) (fun _ h => h) hL hF
    obtain ⟨t2, b1, b2⟩ := kx E w1 hq p e R s m args below meth c hc mc ms T'.heap (locs ++ L) (cells + gc') (slots + gs') ls (by omega) (by omega) a3 a4 (by rw [e1]; exact hw1) k3 hl q ce rest (by rw [e1]; exact hce) hcv hcl T' rfl X'
    exact ⟨t2, go.trans b1, b2⟩
/-- a static method of the own class -/
theorem X_callS {μ' : Mth} {n index : Nat} {av rest : List Value} {d' gc' gs' gc2 gs2 : Nat} {Q1 : XRes → Wd → Prop} (hC : XC G μ' d' gc' gs' av w Q1) (hk : KM μ' n) (hh : μ'.2.2.2.2.2 = []) (hlink : Cond.methodLink μ.1 index μ'.2.1 ∈ xall) (hstat : Cond.static μ'.2.1 ∈ xall) (hn : av.length = n) (hst : st = av.reverse ++ rest) (hr : (rest.map fun v => v.category).sum ≤ 8) (hdd : d' + 1 ≤ d) (hd : decode μ.2.2.1 pc = .ok (.invokestatic index, 3))
    (h1 : gc' + gc2 ≤ gc) (h2 : gs' + gs2 ≤ gs)
    (kx : ∀ (E : String) (w1 : Wd), Q1 (.inr E) w1 → XT G μ d gc2 gs2 pc lo w1 Q E)
    (kk : ∀ (v : Option Value) (w1 : Wd), Q1 (.inl v) w1 → XJ G μ d gc2 gs2 (pc + 3) lo (v.toList ++ rest) w1 Q) : XJ G μ d gc gs pc lo st w Q := by
  have hcw : xword μ' = Cond.code μ'.2.1 μ'.2.2.1 μ'.2.2.2.1 μ'.2.2.2.2.1 := by unfold xword; rw [hh]
  refine XJ.call (av := av) (d' := d') (gc' := gc') (gs' := gs') (gc2 := gc2) (gs2 := gs2) (Q1 := Q1) (rest := rest) ?_ h1 h2 kx kk
  intro p e R s m args below meth c H locs cells slots ls hc hw hS hsz hf
  have ht := hc.2.2.2.2.2.1
  have hfr := hc.2.2.2.2.2.2.2.2.2.1
  have hlc := hc.2.2.2.2.2.2.2.2.2.2.1
  have hml := hk.2.2.2.2.2.2
  exact vx_runS (Ts := xall) ⟨hc.2.1, hc.2.2.1, hc.2.2.2.1, hc.2.2.2.2.1, ht⟩ hC ⟨⟨rfl, rfl, by show d' + 1 ≤ R.frames; omega, by show 8 + (μ'.2.2.2.1 + 11) + 64 * d' ≤ R.locals; omega, hk.words ht, by rw [xws, hcw]; exact List.mem_singleton.mpr rfl, by rw [← hcw]; exact ht _ hk.1, ht _ hk.2.1, hk.2.2.1, hk.pars, ht _ hlink⟩, ht _ hstat⟩ ⟨PC_blind, fun U hU hW => PC_at hc.1 hw hS hU hW⟩ rfl hn hsz hst (lv_room hr) hd hf
/-- a private static method of a nest mate -/
theorem X_callSN {μ' : Mth} {n index : Nat} {host : String} {av rest : List Value} {d' gc' gs' gc2 gs2 : Nat} {Q1 : XRes → Wd → Prop} (hC : XC G μ' d' gc' gs' av w Q1) (hk : KM μ' n) (hh : μ'.2.2.2.2.2 = []) (hlink : Cond.methodLinkNest μ.1 index μ'.2.1 host ∈ xall) (hstat : Cond.static μ'.2.1 ∈ xall) (hn : av.length = n) (hst : st = av.reverse ++ rest) (hr : (rest.map fun v => v.category).sum ≤ 8) (hdd : d' + 1 ≤ d) (hd : decode μ.2.2.1 pc = .ok (.invokestatic index, 3))
    (h1 : gc' + gc2 ≤ gc) (h2 : gs' + gs2 ≤ gs)
    (kx : ∀ (E : String) (w1 : Wd), Q1 (.inr E) w1 → XT G μ d gc2 gs2 pc lo w1 Q E)
    (kk : ∀ (v : Option Value) (w1 : Wd), Q1 (.inl v) w1 → XJ G μ d gc2 gs2 (pc + 3) lo (v.toList ++ rest) w1 Q) : XJ G μ d gc gs pc lo st w Q := by
  have hcw : xword μ' = Cond.code μ'.2.1 μ'.2.2.1 μ'.2.2.2.1 μ'.2.2.2.2.1 := by unfold xword; rw [hh]
  refine XJ.call (av := av) (d' := d') (gc' := gc') (gs' := gs') (gc2 := gc2) (gs2 := gs2) (Q1 := Q1) (rest := rest) ?_ h1 h2 kx kk
  intro p e R s m args below meth c H locs cells slots ls hc hw hS hsz hf
  have ht := hc.2.2.2.2.2.1
  have hfr := hc.2.2.2.2.2.2.2.2.2.1
  have hlc := hc.2.2.2.2.2.2.2.2.2.2.1
  have hml := hk.2.2.2.2.2.2
  exact vx_runSN (Ts := xall) (host := host) ⟨hc.2.1, hc.2.2.1, hc.2.2.2.1, hc.2.2.2.2.1, ht⟩ hC ⟨⟨⟨rfl, rfl, by show d' + 1 ≤ R.frames; omega, by show 8 + (μ'.2.2.2.1 + 11) + 64 * d' ≤ R.locals; omega, hk.words ht, by rw [xws, hcw]; exact List.mem_singleton.mpr rfl⟩, by rw [← hcw]; exact ht _ hk.1, ht _ hk.2.1, hk.2.2.1, hk.pars, ht _ hlink⟩, ht _ hstat, trivial⟩ ⟨PC_blind, fun U hU hW => PC_at hc.1 hw hS hU hW⟩ rfl hn hsz hst (lv_room hr) hd hf
/-- an instance method by the receiver -/
theorem X_callV {μ' : Mth} {n index i ci N b : Nat} {T : u_T} {fs : List Value} {As rest : List Value} {d' gc' gs' gc2 gs2 : Nat} {Q1 : XRes → Wd → Prop} (hC : XC G μ' d' gc' gs' (.ref b :: As) w Q1) (hM : cel w i (oB ci fs)) (hb : w.1 i = b) (hcl : vwCl[ci]? = some (μ'.1, T, N)) (hk : KM μ' n) (hh : μ'.2.2.2.2.2 = []) (hlink : Cond.methodLink μ.1 index μ'.2.1 ∈ xall) (hinst : Cond.instanceMethod μ'.2.1 ∈ xall) (hsel : Cond.selects μ'.2.1.cls μ'.2.1 μ'.2.1 ∈ xall) (hn : As.length = n) (hst : st = As.reverse ++ .ref b :: rest) (hr : (rest.map fun v => v.category).sum ≤ 8) (hdd : d' + 1 ≤ d) (hd : decode μ.2.2.1 pc = .ok (.invokevirtual index, 3))
    (h1 : gc' + gc2 ≤ gc) (h2 : gs' + gs2 ≤ gs)
    (kx : ∀ (E : String) (w1 : Wd), Q1 (.inr E) w1 → XT G μ d gc2 gs2 pc lo w1 Q E)
    (kk : ∀ (v : Option Value) (w1 : Wd), Q1 (.inl v) w1 → XJ G μ d gc2 gs2 (pc + 3) lo (v.toList ++ rest) w1 Q) : XJ G μ d gc gs pc lo st w Q := by
  subst hb
  have hcw : xword μ' = Cond.code μ'.2.1 μ'.2.2.1 μ'.2.2.2.1 μ'.2.2.2.2.1 := by unfold xword; rw [hh]
  refine XJ.call (av := .ref (w.1 i) :: As) (d' := d') (gc' := gc') (gs' := gs') (gc2 := gc2) (gs2 := gs2) (Q1 := Q1) (rest := rest) ?_ h1 h2 kx kk
  intro p e R s m args below meth c H locs cells slots ls hc hw hS hsz hf
  have ht := hc.2.2.2.2.2.1
  have hfr := hc.2.2.2.2.2.2.2.2.2.1
  have hlc := hc.2.2.2.2.2.2.2.2.2.2.1
  have hml := hk.2.2.2.2.2.2
  exact vx_runV (Ts := xall) (C := μ'.2.1.cls) ⟨hc.2.1, hc.2.2.1, hc.2.2.2.1, hc.2.2.2.2.1, ht⟩ hC ⟨⟨rfl, rfl, by show d' + 1 ≤ R.frames; omega, by show 8 + (μ'.2.2.2.1 + 11) + 64 * d' ≤ R.locals; omega, hk.words ht, by rw [xws, hcw]; exact List.mem_singleton.mpr rfl, by rw [← hcw]; exact ht _ hk.1, ht _ hk.2.1, hk.2.2.1, hk.pars, ht _ hlink⟩, ht _ hinst, ht _ hsel⟩ ⟨PC_blind, by rw [← hk.2.2.2.2.2.1]; exact va_recv hc.1.1 hw.1 hcl hM.at, fun U hU hW => PC_at hc.1 hw hS hU hW⟩ rfl hn hsz hst (lv_room hr) hd hf
/-- a constructor -/
theorem X_callI {μ' : Mth} {n index b : Nat} {As rest : List Value} {d' gc' gs' gc2 gs2 : Nat} {Q1 : XRes → Wd → Prop} (hC : XC G μ' d' gc' gs' (.ref b :: As) w Q1) (hk : KM μ' n) (hh : μ'.2.2.2.2.2 = []) (hrt : μ'.2.2.2.2.1 = none) (hni : μ'.2.1.name = "<init>") (hlink : Cond.methodLink μ.1 index μ'.2.1 ∈ xall) (hinst : Cond.instanceMethod μ'.2.1 ∈ xall) (hn : As.length = n) (hst : st = As.reverse ++ .ref b :: rest) (hr : (rest.map fun v => v.category).sum ≤ 8) (hdd : d' + 1 ≤ d) (hd : decode μ.2.2.1 pc = .ok (.invokespecial index, 3))
    (h1 : gc' + gc2 ≤ gc) (h2 : gs' + gs2 ≤ gs)
    (kx : ∀ (E : String) (w1 : Wd), Q1 (.inr E) w1 → XT G μ d gc2 gs2 pc lo w1 Q E)
    (kk : ∀ (v : Option Value) (w1 : Wd), Q1 (.inl v) w1 → XJ G μ d gc2 gs2 (pc + 3) lo (v.toList ++ rest) w1 Q) : XJ G μ d gc gs pc lo st w Q := by
  have hcw : xword μ' = Cond.code μ'.2.1 μ'.2.2.1 μ'.2.2.2.1 none := by unfold xword; rw [hh, hrt]
  refine XJ.call (av := .ref b :: As) (d' := d') (gc' := gc') (gs' := gs') (gc2 := gc2) (gs2 := gs2) (Q1 := Q1) (rest := rest) ?_ h1 h2 kx kk
  intro p e R s m args below meth c H locs cells slots ls hc hw hS hsz hf
  have ht := hc.2.2.2.2.2.1
  have hfr := hc.2.2.2.2.2.2.2.2.2.1
  have hlc := hc.2.2.2.2.2.2.2.2.2.2.1
  have hml := hk.2.2.2.2.2.2
  exact vx_runI (Ts := xall) ⟨hc.2.1, hc.2.2.1, hc.2.2.2.1, hc.2.2.2.2.1, ht⟩ hC ⟨⟨rfl, rfl, by show d' + 1 ≤ R.frames; omega, by show 8 + (μ'.2.2.2.1 + 11) + 64 * d' ≤ R.locals; omega, hk.words ht, by rw [xws, hcw]; exact List.mem_singleton.mpr rfl, by rw [← hcw]; exact ht _ hk.1, ht _ hk.2.1, hk.2.2.1, hk.pars, ht _ hlink⟩, hni, ht _ hinst⟩ ⟨PC_blind, fun U hU hW => PC_at hc.1 hw hS hU hW⟩ rfl hn hsz hst (lv_room hr) hd hf
/-- a private constructor of a nest mate -/
theorem X_callIN {μ' : Mth} {n index b : Nat} {host : String} {As rest : List Value} {d' gc' gs' gc2 gs2 : Nat} {Q1 : XRes → Wd → Prop} (hC : XC G μ' d' gc' gs' (.ref b :: As) w Q1) (hk : KM μ' n) (hh : μ'.2.2.2.2.2 = []) (hrt : μ'.2.2.2.2.1 = none) (hni : μ'.2.1.name = "<init>") (hlink : Cond.methodLinkNest μ.1 index μ'.2.1 host ∈ xall) (hinst : Cond.instanceMethod μ'.2.1 ∈ xall) (hn : As.length = n) (hst : st = As.reverse ++ .ref b :: rest) (hr : (rest.map fun v => v.category).sum ≤ 8) (hdd : d' + 1 ≤ d) (hd : decode μ.2.2.1 pc = .ok (.invokespecial index, 3))
    (h1 : gc' + gc2 ≤ gc) (h2 : gs' + gs2 ≤ gs)
    (kx : ∀ (E : String) (w1 : Wd), Q1 (.inr E) w1 → XT G μ d gc2 gs2 pc lo w1 Q E)
    (kk : ∀ (v : Option Value) (w1 : Wd), Q1 (.inl v) w1 → XJ G μ d gc2 gs2 (pc + 3) lo (v.toList ++ rest) w1 Q) : XJ G μ d gc gs pc lo st w Q := by
  have hcw : xword μ' = Cond.code μ'.2.1 μ'.2.2.1 μ'.2.2.2.1 none := by unfold xword; rw [hh, hrt]
  refine XJ.call (av := .ref b :: As) (d' := d') (gc' := gc') (gs' := gs') (gc2 := gc2) (gs2 := gs2) (Q1 := Q1) (rest := rest) ?_ h1 h2 kx kk
  intro p e R s m args below meth c H locs cells slots ls hc hw hS hsz hf
  have ht := hc.2.2.2.2.2.1
  have hfr := hc.2.2.2.2.2.2.2.2.2.1
  have hlc := hc.2.2.2.2.2.2.2.2.2.2.1
  have hml := hk.2.2.2.2.2.2
  exact vx_runIN (Ts := xall) (host := host) ⟨hc.2.1, hc.2.2.1, hc.2.2.2.1, hc.2.2.2.2.1, ht⟩ hC ⟨⟨⟨rfl, rfl, by show d' + 1 ≤ R.frames; omega, by show 8 + (μ'.2.2.2.1 + 11) + 64 * d' ≤ R.locals; omega, hk.words ht, by rw [xws, hcw]; exact List.mem_singleton.mpr rfl⟩, by rw [← hcw]; exact ht _ hk.1, ht _ hk.2.1, hk.2.2.1, hk.pars, ht _ hlink⟩, hni, ht _ hinst⟩ ⟨PC_blind, fun U hU hW => PC_at hc.1 hw hS hU hW⟩ rfl hn hsz hst (lv_room hr) hd hf
/-! ## a contract out of a walk -/
/-- a contract by the body's walk, for a class among whose methods some are run by entries, this one not (vx_ofW, vx_ofWH of the kit with plainFor) -/
theorem XC_ofW {y : MethodName} {cw : Cond} {rm : Room} {Pc : Array Value → State → Prop} {Qc : Array Value → State → Outcome → State → Prop} {XX : String → State → State → Prop} {mc ms : Nat} {free : Addr → Prop} {cc : ByteArray} {maxL : Nat} {ret : Option FieldType} {hh : List (Nat × Nat × Nat × Nat)} {l : Launch}
    (hy : plainFor y = true) (hw : (hh = [] ∧ cw = Cond.code y cc maxL ret) ∨ cw = Cond.codeWith y cc maxL ret hh)
    (body : ∀ p e s m args below meth c s₁, BodyLoose p l y (headSpec [cw] rm) cc maxL ret e s m args below meth c s₁ → c.maxLocals = maxL → c.exceptionTable.toList = tableOf hh → Pc args s →
      W p l e (headSpec [cw] rm).room s m args below meth c s.heap [] 0 0 (vx_MQ below Qc XX args s mc ms free) (entryFrame m args maxL)) : vx_Met l y [cw] rm Pc Qc XX mc ms free := by
  refine MetFree.of_bodySF (code := cc) (maxLocals := maxL) (ret := ret) hy ?_ ?_
  · intro args s m h hn
    have hcw := atoms_spec (ws := [cw]) h _ List.mem_cons_self
    rcases hw with ⟨-, rfl⟩ | rfl
    · obtain ⟨meth, c, h1, h2, h3, h4, h5, h6, -, -⟩ := Cond.code_spec hn hcw
      exact ⟨meth, c, h1, h2, h3, h4, h5, h6⟩
    · obtain ⟨m9, meth, c, hn9, h1, h2, h3, h4, -, h5, h6, -⟩ := Cond.codeWith_spec hcw
      cases hn.symm.trans hn9
      exact ⟨meth, c, h1, h2, h3, h4, h5, h6⟩
  · intro p e s m args below meth c s₁ B hml hP _
    have hcw := atoms_spec (ws := [cw]) B.pre _ List.mem_cons_self
    have hh0 : s₁.heap = s.heap := by rw [B.state]; rfl
    have ht : c.exceptionTable.toList = tableOf hh := by
      rcases hw with ⟨rfl, rfl⟩ | rfl
      · obtain ⟨meth9, c9, h1, h2, -, -, -, -, h7, -⟩ := Cond.code_spec B.named hcw
        cases Option.some.inj (h1.symm.trans B.method)
        cases Option.some.inj (h2.symm.trans (Stand.of_body B).code)
        rw [Array.isEmpty_iff.mp h7]
        rfl
      · exact vx_table (x := y) B hcw
    obtain ⟨t, a1, o, b1, b2, b3⟩ := body p e s m args below meth c s₁ B hml ht hP s₁ hh0 (Stand.of_body B)
    exact ⟨t, o, a1, b1, b2, b3⟩
theorem XC.of {n : Nat} {av : List Value} {lo0 : List (Nat × Value)} (hk : KM μ n) (hlen : (lg_sl av).length ≤ μ.2.2.2.1) (hlo : lv_args 0 av = lo0) (k : XJ G μ d gc gs 0 lo0 [] w Q) : XC G μ d gc gs av w Q := by
  have hcw : (μ.2.2.2.2.2 = [] ∧ xword μ = Cond.code μ.2.1 μ.2.2.1 μ.2.2.2.1 μ.2.2.2.2.1) ∨ xword μ = Cond.codeWith μ.2.1 μ.2.2.1 μ.2.2.2.1 μ.2.2.2.2.1 μ.2.2.2.2.2 := by
    unfold xword
    cases h : μ.2.2.2.2.2 with
    | nil => exact Or.inl ⟨rfl, rfl⟩
    | cons a t => exact Or.inr rfl
  refine XC_ofW (cc := μ.2.2.1) (maxL := μ.2.2.2.1) (ret := μ.2.2.2.2.1) (hh := μ.2.2.2.2.2) hk.2.2.2.2.1 hcw ?_
  intro p e s m args below meth c s₁ B hml htab hpc
  obtain ⟨rfl, hG, hw⟩ := hpc
  have hl := lv_entry av (n := μ.2.2.2.1) hlen
  rw [lg_entry_eq]
  rw [hlo] at hl
  refine k p e _ s m av.toArray below meth c ⟨hG, B.exec, B.bytes, hml, ?_, ?_, B.returns, B.notSynchronized, (name_of_methodNamed B.named B.method).1, Nat.le_refl d, Nat.le_refl _, htab⟩ gc gs s.heap [] 0 0 _ (by omega) (by omega) (Nat.le_refl _) (Nat.le_refl _) hw va_S.rf hl
  · rw [hk.2.2.2.2.2.1]
    exact findClass_of_methodNamed B.named
  · intro w hw
    exact xgood_args w (List.mem_filter.mp hw).2 (hG.2.2.2.2.1 w hw)
theorem XC.mono {av : List Value} {Q' : XRes → Wd → Prop} (h : ∀ r w', Q r w' → Q' r w') (k : XC G μ d gc gs av w Q) : XC G μ d gc gs av w Q' := by
  have h1 : ∀ a st o t, vx_Q (QJ G Q) (XQ G Q) gc gs G.2.2.2.1 a st o t → vx_Q (QJ G Q') (XQ G Q') gc gs G.2.2.2.1 a st o t := by
    intro a st o t h7
    rcases h7 with ⟨⟨⟨v, w', e1, e2, e3⟩, e4⟩, e5⟩ | ⟨q, e1, E, ce, L, ⟨⟨w', e2, e3⟩, e4⟩, e5⟩
    · exact Or.inl ⟨⟨⟨v, w', e1, h _ _ e2, e3⟩, e4⟩, e5⟩
    · exact Or.inr ⟨q, e1, E, ce, L, ⟨⟨w', h _ _ e2, e3⟩, e4⟩, e5⟩
  intro p e b1 b2 b3 s m args below b4 b5 b6 b7
  obtain ⟨n, o, c1, c2, c3, c4⟩ := k p e b1 b2 b3 s m args below b4 b5 b6 b7
  exact ⟨n, o, c1, c2, c3, h1 _ _ _ _ c4⟩
end XCalls
