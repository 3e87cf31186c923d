/-! HEAP ROWS: fields, rows of numbers, new things, calls, ends, throws, over XJ -/
section XHeap
variable {G : Gx} {μ : Mth} {d gc gs pc : Nat} {lo : List (Nat × Value)} {st : List Value} {w : Wd} {Q : XRes → Wd → Prop}
/-- cell i of the world is e -/
def cel (w : Wd) (i : Nat) (e : va_E) : Prop := i < w.2.1 ∧ w.2.2 i = e
theorem cel.at {w : Wd} {i : Nat} {e : va_E} (h : cel w i e) : (xw w)[i]? = some (w.1 i, e) := by
  rw [xw_at h.1, h.2]
theorem cel.set {w : Wd} {i : Nat} {e e' : va_E} (h : cel w i e) : cel (setM w i e') i e' := ⟨h.1, setM_at⟩
theorem cel.ne {w : Wd} {i j : Nat} {e e' : va_E} (hij : i ≠ j) (h : cel w i e) : cel (setM w j e') i e := ⟨h.1, (setM_ne hij).trans h.2⟩
theorem XJ.stepG {pc2 : Nat} {st2 : List Value}
    (h : ∀ {p : Program} {e : Env} {R : Room} {s : State} {m : MethodId} {args : Array Value} {below : List Frame} {meth : Method} {c : Code} {H : Heap} {locs : List Loc} {cells slots : Nat} {QQ : State → Prop},
      Cx G μ d p R s m args meth c → WG G w H → va_S G.2.2.2.1 s.heap H locs → ∀ ls : Array Slot, W p G.1 e R s m args below meth c H locs cells slots QQ (F0 m pc2 ls st2) → W p G.1 e R s m args below meth c H locs cells slots QQ (F0 m pc ls st))
    (k : XJ G μ d gc gs pc2 lo st2 w Q) : XJ G μ d gc gs pc lo st w Q := by
  intro p e R s m args below meth c hc mc ms H locs cells slots ls h1 h2 h3 h4 hw hS hl
  exact h hc hw hS ls (k p e R s m args below meth c hc mc ms H locs cells slots ls h1 h2 h3 h4 hw hS hl)
theorem XJ.stepM {pc2 : Nat} {st2 : List Value} {w2 : Wd}
    (h : ∀ {p : Program} {e : Env} {R : Room} {s : State} {m : MethodId} {args : Array Value} {below : List Frame} {meth : Method} {c : Code} {H : Heap} {locs : List Loc} {cells slots : Nat} {QQ : State → Prop},
      Cx G μ d p R s m args meth c → WG G w H → va_S G.2.2.2.1 s.heap H locs → ∀ ls : Array Slot, (∀ (H1 : Heap) (locs1 : List Loc), WG G w2 H1 → va_S G.2.2.2.1 s.heap H1 locs1 → W p G.1 e R s m args below meth c H1 locs1 cells slots QQ (F0 m pc2 ls st2)) → W p G.1 e R s m args below meth c H locs cells slots QQ (F0 m pc ls st))
    (k : XJ G μ d gc gs pc2 lo st2 w2 Q) : XJ G μ d gc gs pc lo st w Q := by
  intro p e R s m args below meth c hc mc ms H locs cells slots ls h1 h2 h3 h4 hw hS hl
  exact h hc hw hS ls (fun H1 locs1 hw1 hS1 => k p e R s m args below meth c hc mc ms H1 locs1 cells slots ls h1 h2 h3 h4 hw1 hS1 hl)
/-! ## fields -/
theorem X_get {a i ci k N index : Nat} {C : String} {T : u_T} {fs : List Value} {v : Value} (hM : cel w i (oB ci fs)) (ha : w.1 i = a) (hc : vwCl[ci]? = some (C, T, N)) (hin : ∀ q ∈ u_ws C T N, q ∈ xall) (hk : k < N) (hlink : Cond.fieldLink μ.1 index (T k).1 (T k).2.1 (T k).2.2.1 ∈ xall) (hv : fs[k]? = some v) (hd : decode μ.2.2.1 pc = .ok (.getfield index, 3))
    (kk : XJ G μ d gc gs (pc + 3) lo (v :: st) w Q) : XJ G μ d gc gs pc lo (.ref a :: st) w Q := by
  subst ha
  exact XJ.stepG (fun hx hw hS ls k1 => va_get hx.2.1 hx.2.2.1 hx.2.2.2.2.2.1 hin hx.2.2.2.2.1 hx.1.1 hw.1 i hM.at hc k hk (hx.2.2.2.2.2.1 _ hlink) (fun _ h => h) hv hd k1) kk
theorem X_put {a i ci k N index : Nat} {C : String} {T : u_T} {fs : List Value} {v : Value} (ty0 : Nat → FieldType) (hty : ∀ k, k < N → parseFieldDescriptor (T k).2.2.1 = some (ty0 k)) (hnm : ∀ a, a < N → ∀ b, b < N → a ≠ b → (T a).2.1 ≠ (T b).2.1) (hM : cel w i (oB ci fs)) (ha : w.1 i = a) (hc : vwCl[ci]? = some (C, T, N)) (hin : ∀ q ∈ u_ws C T N, q ∈ xall) (hk : k < N) (hlink : Cond.fieldLink μ.1 index (T k).1 (T k).2.1 (T k).2.2.1 ∈ xall) (hfin : (T k).2.2.2 = false)
    (hn : narrow (ty0 k) v = v) (hfit : fits (ty0 k) v = true) (hl : k < fs.length) (hd : decode μ.2.2.1 pc = .ok (.putfield index, 3))
    (kk : cel (setM w i (oB ci (fs.set k v))) i (oB ci (fs.set k v)) → XJ G μ d gc gs (pc + 3) lo st (setM w i (oB ci (fs.set k v))) Q) : XJ G μ d gc gs pc lo (v :: .ref a :: st) w Q := by
  subst ha
  refine XJ.stepM (fun hx hw hS ls k1 => va_put hx.2.1 hx.2.2.1 hx.2.2.2.2.2.1 hin ty0 hty hnm hx.2.2.2.2.1 hx.1.1 hw.1 hw.2 hS i hM.at hc k hk (hx.2.2.2.2.2.1 _ hlink) (fun _ h => h) hfin (hty k hk) hn hfit hl hd (fun H1 locs1 hP hD hS1 => k1 H1 locs1 ?_ hS1)) (kk hM.set)
  have e := xw_set (e := oB ci (fs.set k v)) hM.1
  exact ⟨by rw [← e]; exact hP, by rw [← e]; exact hD⟩
theorem X_putF {a i ci k N index : Nat} {C : String} {T : u_T} {fs : List Value} {v : Value} (ty0 : Nat → FieldType) (hty : ∀ k, k < N → parseFieldDescriptor (T k).2.2.1 = some (ty0 k)) (hnm : ∀ a, a < N → ∀ b, b < N → a ≠ b → (T a).2.1 ≠ (T b).2.1) (hM : cel w i (oB ci fs)) (ha : w.1 i = a) (hc : vwCl[ci]? = some (C, T, N)) (hin : ∀ q ∈ u_ws C T N, q ∈ xall) (hk : k < N) (hlink : Cond.fieldLink μ.1 index (T k).1 (T k).2.1 (T k).2.2.1 ∈ xall) (hfin : (T k).2.2.2 = true) (hini : μ.2.1.name = "<init>") (hdecl : (T k).1 = μ.1)
    (hn : narrow (ty0 k) v = v) (hfit : fits (ty0 k) v = true) (hl : k < fs.length) (hd : decode μ.2.2.1 pc = .ok (.putfield index, 3))
    (kk : cel (setM w i (oB ci (fs.set k v))) i (oB ci (fs.set k v)) → XJ G μ d gc gs (pc + 3) lo st (setM w i (oB ci (fs.set k v))) Q) : XJ G μ d gc gs pc lo (v :: .ref a :: st) w Q := by
  subst ha
  refine XJ.stepM (fun hx hw hS ls k1 => va_putF hx.2.1 hx.2.2.1 hx.2.2.2.2.2.1 hin ty0 hty hnm hx.2.2.2.2.1 hx.1.1 hw.1 hw.2 hS i hM.at hc k hk (hx.2.2.2.2.2.1 _ hlink) (fun _ h => h) hfin (hx.2.2.2.2.2.2.2.2.1.trans hini) hdecl (hty k hk) hn hfit hl hd (fun H1 locs1 hP hD hS1 => k1 H1 locs1 ?_ hS1)) (kk hM.set)
  have e := xw_set (e := oB ci (fs.set k v)) hM.1
  exact ⟨by rw [← e]; exact hP, by rw [← e]; exact hD⟩
/-! ## rows of numbers: the index is a number nI j -/
theorem X_alen {a i n t : Nat} {x : vp_A} {ty : FieldType} {v : Int32} (hM : cel w i (.inl (G.2.2.1 t, x))) (ha : w.1 i = a) (ht : (tysK G.2.2.1)[t]? = some (G.2.2.1 t, ty)) (hv : Int32.ofNat x.1 = v) (hd : decode μ.2.2.1 pc = .ok (.arraylength, 1))
    (kk : XJ G μ d gc gs (pc + 1) lo (.int v :: st) w Q) : XJ G μ d gc gs pc lo (.ref a :: st) w Q := by
  subst ha
  exact XJ.stepG (fun hx hw hS ls k1 => va_alen hx.2.1 hx.2.2.1 hx.1.1 hw.1 i t hM.at ht hv hd k1) kk
theorem X_iald {a i n j : Nat} {x : Int32} {f : Nat → Int32} (hM : cel w i (aI G.2.2.1 n f)) (ha : w.1 i = a) (hx0 : x = nI j) (hj : j < n) (hn : n < 2 ^ 31) (hd : decode μ.2.2.1 pc = .ok (.iaload, 1))
    (kk : XJ G μ d gc gs (pc + 1) lo (.int (f j) :: st) w Q) : XJ G μ d gc gs pc lo (.int x :: .ref a :: st) w Q := by
  subst ha
  subst hx0
  refine XJ.stepG (fun hx hw hS ls k1 => va_iald hx.2.1 hx.2.2.1 hx.1.1 hw.1 i 0 hM.at rfl (vp_in_nI hj hn) hd ?_) kk
  rw [nI_clamp (Nat.lt_trans hj hn)]
  exact k1
theorem X_cald {a i n j : Nat} {x : Int32} {f : Nat → Int32} (hM : cel w i (aC G.2.2.1 n f)) (ha : w.1 i = a) (hx0 : x = nI j) (hj : j < n) (hn : n < 2 ^ 31) (hd : decode μ.2.2.1 pc = .ok (.caload, 1))
    (kk : XJ G μ d gc gs (pc + 1) lo (.int (f j) :: st) w Q) : XJ G μ d gc gs pc lo (.int x :: .ref a :: st) w Q := by
  subst ha
  subst hx0
  refine XJ.stepG (fun hx hw hS ls k1 => va_cald hx.2.1 hx.2.2.1 hx.1.1 hw.1 i 1 hM.at rfl (vp_in_nI hj hn) hd ?_) kk
  rw [nI_clamp (Nat.lt_trans hj hn)]
  exact k1
theorem X_zald {a i n j : Nat} {x : Int32} {f : Nat → Int32} (hM : cel w i (aZ G.2.2.1 n f)) (ha : w.1 i = a) (hx0 : x = nI j) (hj : j < n) (hn : n < 2 ^ 31) (hd : decode μ.2.2.1 pc = .ok (.baload, 1))
    (kk : XJ G μ d gc gs (pc + 1) lo (.int (f j) :: st) w Q) : XJ G μ d gc gs pc lo (.int x :: .ref a :: st) w Q := by
  subst ha
  subst hx0
  refine XJ.stepG (fun hx hw hS ls k1 => va_zald hx.2.1 hx.2.2.1 hx.1.1 hw.1 i 2 hM.at rfl (vp_in_nI hj hn) hd ?_) kk
  rw [nI_clamp (Nat.lt_trans hj hn)]
  exact k1
theorem X_lald {a i n j : Nat} {x : Int32} {f : Nat → Int64} (hM : cel w i (aL G.2.2.1 n f)) (ha : w.1 i = a) (hx0 : x = nI j) (hj : j < n) (hn : n < 2 ^ 31) (hd : decode μ.2.2.1 pc = .ok (.laload, 1))
    (kk : XJ G μ d gc gs (pc + 1) lo (.long (f j) :: st) w Q) : XJ G μ d gc gs pc lo (.int x :: .ref a :: st) w Q := by
  subst ha
  subst hx0
  refine XJ.stepG (fun hx hw hS ls k1 => va_lald hx.2.1 hx.2.2.1 hx.1.1 hw.1 i 3 hM.at rfl (vp_in_nI hj hn) hd ?_) kk
  rw [nI_clamp (Nat.lt_trans hj hn)]
  exact k1
theorem X_fald {a i n j : Nat} {x : Int32} {f : Nat → UInt32} (hM : cel w i (aF G.2.2.1 n f)) (ha : w.1 i = a) (hx0 : x = nI j) (hj : j < n) (hn : n < 2 ^ 31) (hd : decode μ.2.2.1 pc = .ok (.faload, 1))
    (kk : XJ G μ d gc gs (pc + 1) lo (.float (f j) :: st) w Q) : XJ G μ d gc gs pc lo (.int x :: .ref a :: st) w Q := by
  subst ha
  subst hx0
  refine XJ.stepG (fun hx hw hS ls k1 => va_fald hx.2.1 hx.2.2.1 hx.1.1 hw.1 i 4 hM.at rfl (vp_in_nI hj hn) hd ?_) kk
  rw [nI_clamp (Nat.lt_trans hj hn)]
  exact k1
theorem X_dald {a i n j : Nat} {x : Int32} {f : Nat → UInt64} (hM : cel w i (aD G.2.2.1 n f)) (ha : w.1 i = a) (hx0 : x = nI j) (hj : j < n) (hn : n < 2 ^ 31) (hd : decode μ.2.2.1 pc = .ok (.daload, 1))
    (kk : XJ G μ d gc gs (pc + 1) lo (.double (f j) :: st) w Q) : XJ G μ d gc gs pc lo (.int x :: .ref a :: st) w Q := by
  subst ha
  subst hx0
  refine XJ.stepG (fun hx hw hS ls k1 => va_dald hx.2.1 hx.2.2.1 hx.1.1 hw.1 i 5 hM.at rfl (vp_in_nI hj hn) hd ?_) kk
  rw [nI_clamp (Nat.lt_trans hj hn)]
  exact k1
theorem X_iast {a i n j : Nat} {x : Int32} {v : Int32} {f : Nat → Int32} (hM : cel w i (aI G.2.2.1 n f)) (ha : w.1 i = a) (hx0 : x = nI j) (hj : j < n) (hn : n < 2 ^ 31) (hd : decode μ.2.2.1 pc = .ok (.iastore, 1))
    (kk : cel (setM w i (aI G.2.2.1 n (va_up f j (v)))) i (aI G.2.2.1 n (va_up f j (v))) → XJ G μ d gc gs (pc + 1) lo st (setM w i (aI G.2.2.1 n (va_up f j (v)))) Q) : XJ G μ d gc gs pc lo (.int v :: .int x :: .ref a :: st) w Q := by
  subst ha
  subst hx0
  refine XJ.stepM (fun hx hw hS ls k1 => va_iast hx.2.1 hx.2.2.1 hx.1.1 hw.1 hw.2 hS i 0 hM.at rfl (vp_in_nI hj hn) hd (fun H1 locs1 hP hD hS1 => k1 H1 locs1 ?_ hS1)) (kk hM.set)
  rw [nI_clamp (Nat.lt_trans hj hn)] at hP hD
  have e := xw_set (e := aI G.2.2.1 n (va_up f j (v))) hM.1
  exact ⟨by rw [← e]; exact hP, by rw [← e]; exact hD⟩
theorem X_cast {a i n j : Nat} {x : Int32} {v : Int32} {f : Nat → Int32} (hM : cel w i (aC G.2.2.1 n f)) (ha : w.1 i = a) (hx0 : x = nI j) (hj : j < n) (hn : n < 2 ^ 31) (hd : decode μ.2.2.1 pc = .ok (.castore, 1))
    (kk : cel (setM w i (aC G.2.2.1 n (va_up f j (vp_nar .char v)))) i (aC G.2.2.1 n (va_up f j (vp_nar .char v))) → XJ G μ d gc gs (pc + 1) lo st (setM w i (aC G.2.2.1 n (va_up f j (vp_nar .char v)))) Q) : XJ G μ d gc gs pc lo (.int v :: .int x :: .ref a :: st) w Q := by
  subst ha
  subst hx0
  refine XJ.stepM (fun hx hw hS ls k1 => va_cast hx.2.1 hx.2.2.1 hx.1.1 hw.1 hw.2 hS i 1 hM.at rfl (vp_in_nI hj hn) hd (fun H1 locs1 hP hD hS1 => k1 H1 locs1 ?_ hS1)) (kk hM.set)
  rw [nI_clamp (Nat.lt_trans hj hn)] at hP hD
  have e := xw_set (e := aC G.2.2.1 n (va_up f j (vp_nar .char v))) hM.1
  exact ⟨by rw [← e]; exact hP, by rw [← e]; exact hD⟩
theorem X_zast {a i n j : Nat} {x : Int32} {v : Int32} {f : Nat → Int32} (hM : cel w i (aZ G.2.2.1 n f)) (ha : w.1 i = a) (hx0 : x = nI j) (hj : j < n) (hn : n < 2 ^ 31) (hd : decode μ.2.2.1 pc = .ok (.bastore, 1))
    (kk : cel (setM w i (aZ G.2.2.1 n (va_up f j (vp_nar .boolean v)))) i (aZ G.2.2.1 n (va_up f j (vp_nar .boolean v))) → XJ G μ d gc gs (pc + 1) lo st (setM w i (aZ G.2.2.1 n (va_up f j (vp_nar .boolean v)))) Q) : XJ G μ d gc gs pc lo (.int v :: .int x :: .ref a :: st) w Q := by
  subst ha
  subst hx0
  refine XJ.stepM (fun hx hw hS ls k1 => va_zast hx.2.1 hx.2.2.1 hx.1.1 hw.1 hw.2 hS i 2 hM.at rfl (vp_in_nI hj hn) hd (fun H1 locs1 hP hD hS1 => k1 H1 locs1 ?_ hS1)) (kk hM.set)
  rw [nI_clamp (Nat.lt_trans hj hn)] at hP hD
  have e := xw_set (e := aZ G.2.2.1 n (va_up f j (vp_nar .boolean v))) hM.1
  exact ⟨by rw [← e]; exact hP, by rw [← e]; exact hD⟩
theorem X_last {a i n j : Nat} {x : Int32} {v : Int64} {f : Nat → Int64} (hM : cel w i (aL G.2.2.1 n f)) (ha : w.1 i = a) (hx0 : x = nI j) (hj : j < n) (hn : n < 2 ^ 31) (hd : decode μ.2.2.1 pc = .ok (.lastore, 1))
    (kk : cel (setM w i (aL G.2.2.1 n (va_up f j (v)))) i (aL G.2.2.1 n (va_up f j (v))) → XJ G μ d gc gs (pc + 1) lo st (setM w i (aL G.2.2.1 n (va_up f j (v)))) Q) : XJ G μ d gc gs pc lo (.long v :: .int x :: .ref a :: st) w Q := by
  subst ha
  subst hx0
  refine XJ.stepM (fun hx hw hS ls k1 => va_last hx.2.1 hx.2.2.1 hx.1.1 hw.1 hw.2 hS i 3 hM.at rfl (vp_in_nI hj hn) hd (fun H1 locs1 hP hD hS1 => k1 H1 locs1 ?_ hS1)) (kk hM.set)
  rw [nI_clamp (Nat.lt_trans hj hn)] at hP hD
  have e := xw_set (e := aL G.2.2.1 n (va_up f j (v))) hM.1
  exact ⟨by rw [← e]; exact hP, by rw [← e]; exact hD⟩
theorem X_fast {a i n j : Nat} {x : Int32} {v : UInt32} {f : Nat → UInt32} (hM : cel w i (aF G.2.2.1 n f)) (ha : w.1 i = a) (hx0 : x = nI j) (hj : j < n) (hn : n < 2 ^ 31) (hd : decode μ.2.2.1 pc = .ok (.fastore, 1))
    (kk : cel (setM w i (aF G.2.2.1 n (va_up f j (v)))) i (aF G.2.2.1 n (va_up f j (v))) → XJ G μ d gc gs (pc + 1) lo st (setM w i (aF G.2.2.1 n (va_up f j (v)))) Q) : XJ G μ d gc gs pc lo (.float v :: .int x :: .ref a :: st) w Q := by
  subst ha
  subst hx0
  refine XJ.stepM (fun hx hw hS ls k1 => va_fast hx.2.1 hx.2.2.1 hx.1.1 hw.1 hw.2 hS i 4 hM.at rfl (vp_in_nI hj hn) hd (fun H1 locs1 hP hD hS1 => k1 H1 locs1 ?_ hS1)) (kk hM.set)
  rw [nI_clamp (Nat.lt_trans hj hn)] at hP hD
  have e := xw_set (e := aF G.2.2.1 n (va_up f j (v))) hM.1
  exact ⟨by rw [← e]; exact hP, by rw [← e]; exact hD⟩
theorem X_dast {a i n j : Nat} {x : Int32} {v : UInt64} {f : Nat → UInt64} (hM : cel w i (aD G.2.2.1 n f)) (ha : w.1 i = a) (hx0 : x = nI j) (hj : j < n) (hn : n < 2 ^ 31) (hd : decode μ.2.2.1 pc = .ok (.dastore, 1))
    (kk : cel (setM w i (aD G.2.2.1 n (va_up f j (v)))) i (aD G.2.2.1 n (va_up f j (v))) → XJ G μ d gc gs (pc + 1) lo st (setM w i (aD G.2.2.1 n (va_up f j (v)))) Q) : XJ G μ d gc gs pc lo (.double v :: .int x :: .ref a :: st) w Q := by
  subst ha
  subst hx0
  refine XJ.stepM (fun hx hw hS ls k1 => va_dast hx.2.1 hx.2.2.1 hx.1.1 hw.1 hw.2 hS i 5 hM.at rfl (vp_in_nI hj hn) hd (fun H1 locs1 hP hD hS1 => k1 H1 locs1 ?_ hS1)) (kk hM.set)
  rw [nI_clamp (Nat.lt_trans hj hn)] at hP hD
  have e := xw_set (e := aD G.2.2.1 n (va_up f j (v))) hM.1
  exact ⟨by rw [← e]; exact hP, by rw [← e]; exact hD⟩
end XHeap
