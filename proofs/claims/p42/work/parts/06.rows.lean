/-! ROWS: an instruction that touches no heap, over XJ (written by gen/rows.py) -/
section XRows
def lkp : List (Nat × Value) → Nat → Option Value
  | [], _ => none
  | (k, v) :: t, i => bif Nat.beq k i then some v else lkp t i
theorem lkp_mem {lo : List (Nat × Value)} {i : Nat} {v : Value} (h : lkp lo i = some v) : (i, v) ∈ lo := by
  induction lo with
  | nil => cases h
  | cons q t ih =>
    obtain ⟨k, u⟩ := q
    cases hb : Nat.beq k i with
    | true =>
      have h' : (bif Nat.beq k i then some u else lkp t i) = some v := h
      rw [hb] at h'
      cases h'
      rw [Nat.eq_of_beq_eq_true hb]
      exact List.mem_cons_self
    | false =>
      have h' : (bif Nat.beq k i then some u else lkp t i) = some v := h
      rw [hb] at h'
      exact List.mem_cons_of_mem _ (ih h')
theorem lkp_at {lo : List (Nat × Value)} {ls : Array Slot} {nL i : Nat} {v : Value} (hl : lv_has ls nL lo) (h : lkp lo i = some v) : ls[i]? = some (.val v) := hl.2.2 _ (lkp_mem h)
theorem lkp_ix {lo : List (Nat × Value)} {i : Nat} {v : Value} (h : lkp lo i = some v) : ∃ j : Nat, lo[j]? = some (i, v) := List.getElem?_of_mem (lkp_mem h)
def vcat2 : Value → Bool
  | .long _ => true
  | .double _ => true
  | _ => false
/-- without slot i (and without a long that reaches into it) -/
def ldel (i : Nat) : List (Nat × Value) → List (Nat × Value)
  | [] => []
  | (k, v) :: t => bif (Nat.beq k i || (Nat.beq (k + 1) i && vcat2 v)) then ldel i t else (k, v) :: ldel i t
def lset1 (lo : List (Nat × Value)) (i : Nat) (v : Value) : List (Nat × Value) := (i, v) :: ldel i lo
theorem beq_nat (k i : Nat) : (k == i) = Nat.beq k i := by
  cases h : Nat.beq k i with
  | true => rw [Nat.eq_of_beq_eq_true h]; simp
  | false =>
    have : k ≠ i := fun h2 => by rw [h2, Nat.beq_refl] at h; cases h
    simp [this]
theorem vcat2_eq (v : Value) : Nat.beq v.category 2 = vcat2 v := by cases v <;> rfl
theorem ldel_eq (i : Nat) (lo : List (Nat × Value)) : lo.filter (fun q => !(q.1 == i) && !(q.1 + 1 == i && q.2.category == 2)) = ldel i lo := by
  induction lo with
  | nil => rfl
  | cons q t ih =>
    obtain ⟨k, v⟩ := q
    rw [List.filter_cons, ih]
    simp only [beq_nat, vcat2_eq, ldel]
    cases Nat.beq k i <;> cases Nat.beq (k + 1) i <;> cases vcat2 v <;> rfl
def ldel2 (i : Nat) : List (Nat × Value) → List (Nat × Value)
  | [] => []
  | (k, v) :: t => bif (Nat.beq k i || (Nat.beq k (i + 1) || (Nat.beq (k + 1) i && vcat2 v))) then ldel2 i t else (k, v) :: ldel2 i t
def lset2 (lo : List (Nat × Value)) (i : Nat) (v : Value) : List (Nat × Value) := (i, v) :: ldel2 i lo
theorem ldel2_eq (i : Nat) (lo : List (Nat × Value)) : lo.filter (fun q => !(q.1 == i) && (!(q.1 == i + 1) && !(q.1 + 1 == i && q.2.category == 2))) = ldel2 i lo := by
  induction lo with
  | nil => rfl
  | cons q t ih =>
    obtain ⟨k, v⟩ := q
    rw [List.filter_cons, ih]
    simp only [beq_nat, vcat2_eq, ldel2]
    cases Nat.beq k i <;> cases Nat.beq k (i + 1) <;> cases Nat.beq (k + 1) i <;> cases vcat2 v <;> rfl
theorem lset1_eq {lo lo' : List (Nat × Value)} {i : Nat} {v : Value} (h : lset1 lo i v = lo') : (i, v) :: lo.filter (fun q => !(q.1 == i) && !(q.1 + 1 == i && q.2.category == 2)) = lo' := by
  rw [ldel_eq]; exact h
theorem lset2_eq {lo lo' : List (Nat × Value)} {i : Nat} {v : Value} (h : lset2 lo i v = lo') : (i, v) :: lo.filter (fun q => !(q.1 == i) && (!(q.1 == i + 1) && !(q.1 + 1 == i && q.2.category == 2))) = lo' := by
  rw [ldel2_eq]; exact h
variable {G : Gx} {μ : Mth} {d gc gs pc : Nat} {lo : List (Nat × Value)} {st : List Value} {w : Wd} {Q : XRes → Wd → Prop}
theorem XJ.step {pc2 : Nat} {st2 : List Value}
    (h : ∀ {p : Program} {l : Launch} {e : Env} {R : Room} {s : State} {m : MethodId} {args : Array Value} {below : List Frame} {meth : Method} {c : Code} {H : Heap} {locs : List Loc} {cells slots : Nat} {QQ : State → Prop},
      p.tables.exec = Jvm.exec → c.code = μ.2.2.1 → s.vm.findClass μ.1 = some m.cls → (∀ w ∈ xall, w.before args s = true) → SG G s → ∀ ls : Array Slot, lv_has ls μ.2.2.2.1 lo → W p l e R s m args below meth c H locs cells slots QQ (F0 m pc2 ls st2) → W p l e R s m args below meth c H locs cells slots QQ (F0 m pc ls st))
    (k : XJ G μ d gc gs pc2 lo st2 w Q) : XJ G μ d gc gs pc lo st w Q := by
  intro p e R s m args below meth c hc mc ms H locs cells slots ls h1 h2 h3 h4 hw hS hl
  exact h hc.2.1 hc.2.2.1 hc.2.2.2.2.1 hc.2.2.2.2.2.1 hc.1 ls hl (k p e R s m args below meth c hc mc ms H locs cells slots ls h1 h2 h3 h4 hw hS hl)
theorem XJ.stepL {pc2 : Nat} {st2 : List Value} {lo2 : List (Nat × Value)}
    (h : ∀ {p : Program} {l : Launch} {e : Env} {R : Room} {s : State} {m : MethodId} {args : Array Value} {below : List Frame} {meth : Method} {c : Code} {H : Heap} {locs : List Loc} {cells slots : Nat} {QQ : State → Prop},
      p.tables.exec = Jvm.exec → c.code = μ.2.2.1 → ∀ ls : Array Slot, lv_has ls μ.2.2.2.1 lo → (∀ ls' : Array Slot, lv_has ls' μ.2.2.2.1 lo2 → W p l e R s m args below meth c H locs cells slots QQ (F0 m pc2 ls' st2)) → W p l e R s m args below meth c H locs cells slots QQ (F0 m pc ls st))
    (k : XJ G μ d gc gs pc2 lo2 st2 w Q) : XJ G μ d gc gs pc lo st w Q := by
  intro p e R s m args below meth c hc mc ms H locs cells slots ls h1 h2 h3 h4 hw hS hl
  exact h hc.2.1 hc.2.2.1 ls hl (fun ls' hl' => k p e R s m args below meth c hc mc ms H locs cells slots ls' h1 h2 h3 h4 hw hS hl')
/-- other locals, less of them -/
theorem XJ.loc {lo' : List (Nat × Value)} (h : ∀ q ∈ lo', q ∈ lo) (k : XJ G μ d gc gs pc lo' st w Q) : XJ G μ d gc gs pc lo st w Q := by
  intro p e R s m args below meth c hc mc ms H locs cells slots ls h1 h2 h3 h4 hw hS hl
  exact k p e R s m args below meth c hc mc ms H locs cells slots ls h1 h2 h3 h4 hw hS ⟨hl.1, hl.2.1, fun q hq => hl.2.2 q (h q hq)⟩
/-- the locals of the list are found in the other -/
def lsub (lo' lo : List (Nat × Value)) : Prop := ∀ q ∈ lo', lkp lo q.1 = some q.2
theorem XJ.los {lo' : List (Nat × Value)} (h : ∀ q ∈ lo', lkp lo q.1 = some q.2) (k : XJ G μ d gc gs pc lo' st w Q) : XJ G μ d gc gs pc lo st w Q := XJ.loc (fun q hq => lkp_mem (h q hq)) k
theorem XJ.wd {w' : Wd} (h : w = w') (k : XJ G μ d gc gs pc lo st w' Q) : XJ G μ d gc gs pc lo st w Q := h ▸ k
theorem XJ.mono {Q' : XRes → Wd → Prop} (h : ∀ r w', Q r w' → Q' r w') (k : XJ G μ d gc gs pc lo st w Q) : XJ G μ d gc gs pc lo st w Q' := by
  intro p e R s m args below meth c hc mc ms H locs cells slots ls h1 h2 h3 h4 hw hS hl T hT X
  obtain ⟨t, st', o, h5, h6, h7⟩ := k p e R s m args below meth c hc mc ms H locs cells slots ls h1 h2 h3 h4 hw hS hl T hT X
  refine ⟨t, st', o, h5, h6, ?_⟩
  rcases h7 with ⟨⟨⟨v, w', e1, e2, e3⟩, e4⟩, e5⟩ | ⟨q, e1, E, ce, L, ⟨⟨w', e2, e3⟩, e4⟩, e5⟩
  · exact Or.inl ⟨⟨⟨v, w', e1, h _ _ e2, e3⟩, e4⟩, e5⟩
  · exact Or.inr ⟨q, e1, E, ce, L, ⟨⟨w', h _ _ e2, e3⟩, e4⟩, e5⟩
/-- fewer cells and slots to make -/
theorem XJ.less {gc' gs' : Nat} (h1 : gc' ≤ gc) (h2 : gs' ≤ gs) (k : XJ G μ d gc' gs' pc lo st w Q) : XJ G μ d gc gs pc lo st w Q := by
  intro p e R s m args below meth c hc mc ms H locs cells slots ls a1 a2 a3 a4 hw hS hl
  exact k p e R s m args below meth c hc mc ms H locs cells slots ls (by omega) (by omega) a3 a4 hw hS hl
theorem X_iconst {n : Int} {v : Int32} (hd : decode μ.2.2.1 pc = .ok (.iconst n, 1)) (hv : Int32.ofInt n = v) (k : XJ G μ d gc gs (pc + 1) lo (.int v :: st) w Q) : XJ G μ d gc gs pc lo (st) w Q :=
  XJ.step (fun hx hb hown ht hS ls hl kk => lv_iconst hx hb hd hv kk) k
theorem X_bipush {n : Int} {v : Int32} (hd : decode μ.2.2.1 pc = .ok (.bipush n, 2)) (hv : (Int8.ofInt n).toInt32 = v) (k : XJ G μ d gc gs (pc + 2) lo (.int v :: st) w Q) : XJ G μ d gc gs pc lo (st) w Q :=
  XJ.step (fun hx hb hown ht hS ls hl kk => lv_bipush hx hb hd hv kk) k
theorem X_sipush {n : Int} {v : Int32} (hd : decode μ.2.2.1 pc = .ok (.sipush n, 3)) (hv : (Int16.ofInt n).toInt32 = v) (k : XJ G μ d gc gs (pc + 3) lo (.int v :: st) w Q) : XJ G μ d gc gs pc lo (st) w Q :=
  XJ.step (fun hx hb hown ht hS ls hl kk => lv_sipush hx hb hd hv kk) k
theorem X_lconst {n : Fin 2} {v : Int64} (hd : decode μ.2.2.1 pc = .ok (.lconst n, 1)) (hv : Int64.ofNat (n : Nat) = v) (k : XJ G μ d gc gs (pc + 1) lo (.long v :: st) w Q) : XJ G μ d gc gs pc lo (st) w Q :=
  XJ.step (fun hx hb hown ht hS ls hl kk => lv_lconst hx hb hd hv kk) k
theorem X_fconst0 (hd : decode μ.2.2.1 pc = .ok (.fconst 0, 1)) (k : XJ G μ d gc gs (pc + 1) lo (.float FP.fconst0 :: st) w Q) : XJ G μ d gc gs pc lo (st) w Q :=
  XJ.step (fun hx hb hown ht hS ls hl kk => lv_fconst0 hx hb hd kk) k
theorem X_fconst1 (hd : decode μ.2.2.1 pc = .ok (.fconst 1, 1)) (k : XJ G μ d gc gs (pc + 1) lo (.float FP.fconst1 :: st) w Q) : XJ G μ d gc gs pc lo (st) w Q :=
  XJ.step (fun hx hb hown ht hS ls hl kk => lv_fconst1 hx hb hd kk) k
theorem X_fconst2 (hd : decode μ.2.2.1 pc = .ok (.fconst 2, 1)) (k : XJ G μ d gc gs (pc + 1) lo (.float FP.fconst2 :: st) w Q) : XJ G μ d gc gs pc lo (st) w Q :=
  XJ.step (fun hx hb hown ht hS ls hl kk => lv_fconst2 hx hb hd kk) k
theorem X_dconst0 (hd : decode μ.2.2.1 pc = .ok (.dconst 0, 1)) (k : XJ G μ d gc gs (pc + 1) lo (.double FP.dconst0 :: st) w Q) : XJ G μ d gc gs pc lo (st) w Q :=
  XJ.step (fun hx hb hown ht hS ls hl kk => lv_dconst0 hx hb hd kk) k
theorem X_dconst1 (hd : decode μ.2.2.1 pc = .ok (.dconst 1, 1)) (k : XJ G μ d gc gs (pc + 1) lo (.double FP.dconst1 :: st) w Q) : XJ G μ d gc gs pc lo (st) w Q :=
  XJ.step (fun hx hb hown ht hS ls hl kk => lv_dconst1 hx hb hd kk) k
theorem X_ldc {index : Nat} {v : Int32} (hd : decode μ.2.2.1 pc = .ok (.ldc index, 2)) (hc : Cond.constant μ.1 index v ∈ xall) (k : XJ G μ d gc gs (pc + 2) lo (.int v :: st) w Q) : XJ G μ d gc gs pc lo (st) w Q :=
  XJ.step (fun hx hb hown ht hS ls hl kk => lv_ldc hx hb hown (ht _ hc) hd kk) k
theorem X_ldcf {index : Nat} {v : UInt32} (hd : decode μ.2.2.1 pc = .ok (.ldc index, 2)) (hc : Cond.constantFloat μ.1 index v ∈ xall) (k : XJ G μ d gc gs (pc + 2) lo (.float v :: st) w Q) : XJ G μ d gc gs pc lo (st) w Q :=
  XJ.step (fun hx hb hown ht hS ls hl kk => lv_ldcf hx hb hown (ht _ hc) hd kk) k
theorem X_ldc2 {index : Nat} {v : Int64} (hd : decode μ.2.2.1 pc = .ok (.ldc2_w index, 3)) (hc : Cond.constantLong μ.1 index v ∈ xall) (k : XJ G μ d gc gs (pc + 3) lo (.long v :: st) w Q) : XJ G μ d gc gs pc lo (st) w Q :=
  XJ.step (fun hx hb hown ht hS ls hl kk => lv_ldc2 hx hb hown (ht _ hc) hd kk) k
theorem X_ldc2d {index : Nat} {v : UInt64} (hd : decode μ.2.2.1 pc = .ok (.ldc2_w index, 3)) (hc : Cond.constantDouble μ.1 index v ∈ xall) (k : XJ G μ d gc gs (pc + 3) lo (.double v :: st) w Q) : XJ G μ d gc gs pc lo (st) w Q :=
  XJ.step (fun hx hb hown ht hS ls hl kk => lv_ldc2d hx hb hown (ht _ hc) hd kk) k
theorem X_iload_n {k0 : Fin 4} {i : Nat} {x : Int32} (hd : decode μ.2.2.1 pc = .ok (.iload_n k0, 1)) (hi : (k0 : Nat) = i) (hv : lkp lo i = some (.int x)) (k : XJ G μ d gc gs (pc + 1) lo (.int x :: st) w Q) : XJ G μ d gc gs pc lo (st) w Q :=
  XJ.step (fun hx hb hown ht hS ls hl kk => lv_iload_n hx hb hd hi (lkp_at hl hv) kk) k
theorem X_iload {i : Nat} {x : Int32} (hd : decode μ.2.2.1 pc = .ok (.iload i, 2)) (hv : lkp lo i = some (.int x)) (k : XJ G μ d gc gs (pc + 2) lo (.int x :: st) w Q) : XJ G μ d gc gs pc lo (st) w Q :=
  XJ.step (fun hx hb hown ht hS ls hl kk => lv_iload hx hb hd (lkp_at hl hv) kk) k
theorem X_lload_n {k0 : Fin 4} {i : Nat} {x : Int64} (hd : decode μ.2.2.1 pc = .ok (.lload_n k0, 1)) (hi : (k0 : Nat) = i) (hv : lkp lo i = some (.long x)) (k : XJ G μ d gc gs (pc + 1) lo (.long x :: st) w Q) : XJ G μ d gc gs pc lo (st) w Q :=
  XJ.step (fun hx hb hown ht hS ls hl kk => lv_lload_n hx hb hd hi (lkp_at hl hv) kk) k
theorem X_lload {i : Nat} {x : Int64} (hd : decode μ.2.2.1 pc = .ok (.lload i, 2)) (hv : lkp lo i = some (.long x)) (k : XJ G μ d gc gs (pc + 2) lo (.long x :: st) w Q) : XJ G μ d gc gs pc lo (st) w Q :=
  XJ.step (fun hx hb hown ht hS ls hl kk => lv_lload hx hb hd (lkp_at hl hv) kk) k
theorem X_fload_n {k0 : Fin 4} {i : Nat} {x : UInt32} (hd : decode μ.2.2.1 pc = .ok (.fload_n k0, 1)) (hi : (k0 : Nat) = i) (hv : lkp lo i = some (.float x)) (k : XJ G μ d gc gs (pc + 1) lo (.float x :: st) w Q) : XJ G μ d gc gs pc lo (st) w Q :=
  XJ.step (fun hx hb hown ht hS ls hl kk => lv_fload_n hx hb hd hi (lkp_at hl hv) kk) k
theorem X_fload {i : Nat} {x : UInt32} (hd : decode μ.2.2.1 pc = .ok (.fload i, 2)) (hv : lkp lo i = some (.float x)) (k : XJ G μ d gc gs (pc + 2) lo (.float x :: st) w Q) : XJ G μ d gc gs pc lo (st) w Q :=
  XJ.step (fun hx hb hown ht hS ls hl kk => lv_fload hx hb hd (lkp_at hl hv) kk) k
theorem X_dload_n {k0 : Fin 4} {i : Nat} {x : UInt64} (hd : decode μ.2.2.1 pc = .ok (.dload_n k0, 1)) (hi : (k0 : Nat) = i) (hv : lkp lo i = some (.double x)) (k : XJ G μ d gc gs (pc + 1) lo (.double x :: st) w Q) : XJ G μ d gc gs pc lo (st) w Q :=
  XJ.step (fun hx hb hown ht hS ls hl kk => lv_dload_n hx hb hd hi (lkp_at hl hv) kk) k
theorem X_dload {i : Nat} {x : UInt64} (hd : decode μ.2.2.1 pc = .ok (.dload i, 2)) (hv : lkp lo i = some (.double x)) (k : XJ G μ d gc gs (pc + 2) lo (.double x :: st) w Q) : XJ G μ d gc gs pc lo (st) w Q :=
  XJ.step (fun hx hb hown ht hS ls hl kk => lv_dload hx hb hd (lkp_at hl hv) kk) k
theorem X_aload_n {k0 : Fin 4} {i : Nat} {x : Nat} (hd : decode μ.2.2.1 pc = .ok (.aload_n k0, 1)) (hi : (k0 : Nat) = i) (hv : lkp lo i = some (.ref x)) (k : XJ G μ d gc gs (pc + 1) lo (.ref x :: st) w Q) : XJ G μ d gc gs pc lo (st) w Q :=
  XJ.step (fun hx hb hown ht hS ls hl kk => lv_aload_n hx hb hd hi (lkp_at hl hv) kk) k
theorem X_aload {i : Nat} {x : Nat} (hd : decode μ.2.2.1 pc = .ok (.aload i, 2)) (hv : lkp lo i = some (.ref x)) (k : XJ G μ d gc gs (pc + 2) lo (.ref x :: st) w Q) : XJ G μ d gc gs pc lo (st) w Q :=
  XJ.step (fun hx hb hown ht hS ls hl kk => lv_aload hx hb hd (lkp_at hl hv) kk) k
theorem X_istore_n {k0 : Fin 4} {i : Nat} {x : Int32} {lo' : List (Nat × Value)} (hd : decode μ.2.2.1 pc = .ok (.istore_n k0, 1)) (hi : (k0 : Nat) = i) (hn : i < μ.2.2.2.1) (hl0 : lset1 lo i (.int x) = lo') (k : XJ G μ d gc gs (pc + 1) lo' st w Q) : XJ G μ d gc gs pc lo (.int x :: st) w Q :=
  XJ.stepL (fun hx hb ls hl kk => lv_istore_n hx hb hd hi hl hn (lset1_eq hl0) kk) k
theorem X_istore {i : Nat} {x : Int32} {lo' : List (Nat × Value)} (hd : decode μ.2.2.1 pc = .ok (.istore i, 2)) (hn : i < μ.2.2.2.1) (hl0 : lset1 lo i (.int x) = lo') (k : XJ G μ d gc gs (pc + 2) lo' st w Q) : XJ G μ d gc gs pc lo (.int x :: st) w Q :=
  XJ.stepL (fun hx hb ls hl kk => lv_istore hx hb hd hl hn (lset1_eq hl0) kk) k
theorem X_lstore_n {k0 : Fin 4} {i : Nat} {x : Int64} {lo' : List (Nat × Value)} (hd : decode μ.2.2.1 pc = .ok (.lstore_n k0, 1)) (hi : (k0 : Nat) = i) (hn : i + 1 < μ.2.2.2.1) (hl0 : lset2 lo i (.long x) = lo') (k : XJ G μ d gc gs (pc + 1) lo' st w Q) : XJ G μ d gc gs pc lo (.long x :: st) w Q :=
  XJ.stepL (fun hx hb ls hl kk => lv_lstore_n hx hb hd hi hl hn (lset2_eq hl0) kk) k
theorem X_lstore {i : Nat} {x : Int64} {lo' : List (Nat × Value)} (hd : decode μ.2.2.1 pc = .ok (.lstore i, 2)) (hn : i + 1 < μ.2.2.2.1) (hl0 : lset2 lo i (.long x) = lo') (k : XJ G μ d gc gs (pc + 2) lo' st w Q) : XJ G μ d gc gs pc lo (.long x :: st) w Q :=
  XJ.stepL (fun hx hb ls hl kk => lv_lstore hx hb hd hl hn (lset2_eq hl0) kk) k
theorem X_fstore_n {k0 : Fin 4} {i : Nat} {x : UInt32} {lo' : List (Nat × Value)} (hd : decode μ.2.2.1 pc = .ok (.fstore_n k0, 1)) (hi : (k0 : Nat) = i) (hn : i < μ.2.2.2.1) (hl0 : lset1 lo i (.float x) = lo') (k : XJ G μ d gc gs (pc + 1) lo' st w Q) : XJ G μ d gc gs pc lo (.float x :: st) w Q :=
  XJ.stepL (fun hx hb ls hl kk => lv_fstore_n hx hb hd hi hl hn (lset1_eq hl0) kk) k
theorem X_fstore {i : Nat} {x : UInt32} {lo' : List (Nat × Value)} (hd : decode μ.2.2.1 pc = .ok (.fstore i, 2)) (hn : i < μ.2.2.2.1) (hl0 : lset1 lo i (.float x) = lo') (k : XJ G μ d gc gs (pc + 2) lo' st w Q) : XJ G μ d gc gs pc lo (.float x :: st) w Q :=
  XJ.stepL (fun hx hb ls hl kk => lv_fstore hx hb hd hl hn (lset1_eq hl0) kk) k
theorem X_dstore_n {k0 : Fin 4} {i : Nat} {x : UInt64} {lo' : List (Nat × Value)} (hd : decode μ.2.2.1 pc = .ok (.dstore_n k0, 1)) (hi : (k0 : Nat) = i) (hn : i + 1 < μ.2.2.2.1) (hl0 : lset2 lo i (.double x) = lo') (k : XJ G μ d gc gs (pc + 1) lo' st w Q) : XJ G μ d gc gs pc lo (.double x :: st) w Q :=
  XJ.stepL (fun hx hb ls hl kk => lv_dstore_n hx hb hd hi hl hn (lset2_eq hl0) kk) k
theorem X_dstore {i : Nat} {x : UInt64} {lo' : List (Nat × Value)} (hd : decode μ.2.2.1 pc = .ok (.dstore i, 2)) (hn : i + 1 < μ.2.2.2.1) (hl0 : lset2 lo i (.double x) = lo') (k : XJ G μ d gc gs (pc + 2) lo' st w Q) : XJ G μ d gc gs pc lo (.double x :: st) w Q :=
  XJ.stepL (fun hx hb ls hl kk => lv_dstore hx hb hd hl hn (lset2_eq hl0) kk) k
theorem X_astore_n {k0 : Fin 4} {i : Nat} {x : Nat} {lo' : List (Nat × Value)} (hd : decode μ.2.2.1 pc = .ok (.astore_n k0, 1)) (hi : (k0 : Nat) = i) (hn : i < μ.2.2.2.1) (hl0 : lset1 lo i (.ref x) = lo') (k : XJ G μ d gc gs (pc + 1) lo' st w Q) : XJ G μ d gc gs pc lo (.ref x :: st) w Q :=
  XJ.stepL (fun hx hb ls hl kk => lv_astore_n hx hb hd hi hl hn (lset1_eq hl0) kk) k
theorem X_astore {i : Nat} {x : Nat} {lo' : List (Nat × Value)} (hd : decode μ.2.2.1 pc = .ok (.astore i, 2)) (hn : i < μ.2.2.2.1) (hl0 : lset1 lo i (.ref x) = lo') (k : XJ G μ d gc gs (pc + 2) lo' st w Q) : XJ G μ d gc gs pc lo (.ref x :: st) w Q :=
  XJ.stepL (fun hx hb ls hl kk => lv_astore hx hb hd hl hn (lset1_eq hl0) kk) k
theorem X_iinc {i : Nat} {n : Int} {x v : Int32} {lo' : List (Nat × Value)} (hd : decode μ.2.2.1 pc = .ok (.iinc i n, 3)) (hg : lkp lo i = some (.int x)) (hv : x + Int32.ofInt n = v) (hn : i < μ.2.2.2.1) (hl0 : lset1 lo i (.int v) = lo') (k : XJ G μ d gc gs (pc + 3) lo' st w Q) : XJ G μ d gc gs pc lo st w Q := by
  obtain ⟨j, hj⟩ := lkp_ix hg
  exact XJ.stepL (fun hx hb ls hl kk => lv_iinc hx hb hd hl hj hv hn (lset1_eq hl0) kk) k
theorem X_iadd {x y : Int32} (hd : decode μ.2.2.1 pc = .ok (.iadd, 1)) (k : XJ G μ d gc gs (pc + 1) lo (.int (x + y) :: st) w Q) : XJ G μ d gc gs pc lo (.int y :: .int x :: st) w Q :=
  XJ.step (fun hx hb hown ht hS ls hl kk => lv_iadd hx hb hd kk) k
theorem X_isub {x y : Int32} (hd : decode μ.2.2.1 pc = .ok (.isub, 1)) (k : XJ G μ d gc gs (pc + 1) lo (.int (x - y) :: st) w Q) : XJ G μ d gc gs pc lo (.int y :: .int x :: st) w Q :=
  XJ.step (fun hx hb hown ht hS ls hl kk => lv_isub hx hb hd kk) k
theorem X_imul {x y : Int32} (hd : decode μ.2.2.1 pc = .ok (.imul, 1)) (k : XJ G μ d gc gs (pc + 1) lo (.int (x * y) :: st) w Q) : XJ G μ d gc gs pc lo (.int y :: .int x :: st) w Q :=
  XJ.step (fun hx hb hown ht hS ls hl kk => lv_imul hx hb hd kk) k
theorem X_iand {x y : Int32} (hd : decode μ.2.2.1 pc = .ok (.iand, 1)) (k : XJ G μ d gc gs (pc + 1) lo (.int (x &&& y) :: st) w Q) : XJ G μ d gc gs pc lo (.int y :: .int x :: st) w Q :=
  XJ.step (fun hx hb hown ht hS ls hl kk => lv_iand hx hb hd kk) k
theorem X_ior {x y : Int32} (hd : decode μ.2.2.1 pc = .ok (.ior, 1)) (k : XJ G μ d gc gs (pc + 1) lo (.int (x ||| y) :: st) w Q) : XJ G μ d gc gs pc lo (.int y :: .int x :: st) w Q :=
  XJ.step (fun hx hb hown ht hS ls hl kk => lv_ior hx hb hd kk) k
theorem X_ixor {x y : Int32} (hd : decode μ.2.2.1 pc = .ok (.ixor, 1)) (k : XJ G μ d gc gs (pc + 1) lo (.int (x ^^^ y) :: st) w Q) : XJ G μ d gc gs pc lo (.int y :: .int x :: st) w Q :=
  XJ.step (fun hx hb hown ht hS ls hl kk => lv_ixor hx hb hd kk) k
theorem X_ishl {x y : Int32} (hd : decode μ.2.2.1 pc = .ok (.ishl, 1)) (k : XJ G μ d gc gs (pc + 1) lo (.int (x <<< (y &&& 31)) :: st) w Q) : XJ G μ d gc gs pc lo (.int y :: .int x :: st) w Q :=
  XJ.step (fun hx hb hown ht hS ls hl kk => lv_ishl hx hb hd kk) k
theorem X_ishr {x y : Int32} (hd : decode μ.2.2.1 pc = .ok (.ishr, 1)) (k : XJ G μ d gc gs (pc + 1) lo (.int (x >>> (y &&& 31)) :: st) w Q) : XJ G μ d gc gs pc lo (.int y :: .int x :: st) w Q :=
  XJ.step (fun hx hb hown ht hS ls hl kk => lv_ishr hx hb hd kk) k
theorem X_ladd {x y : Int64} (hd : decode μ.2.2.1 pc = .ok (.ladd, 1)) (k : XJ G μ d gc gs (pc + 1) lo (.long (x + y) :: st) w Q) : XJ G μ d gc gs pc lo (.long y :: .long x :: st) w Q :=
  XJ.step (fun hx hb hown ht hS ls hl kk => lv_ladd hx hb hd kk) k
theorem X_lsub {x y : Int64} (hd : decode μ.2.2.1 pc = .ok (.lsub, 1)) (k : XJ G μ d gc gs (pc + 1) lo (.long (x - y) :: st) w Q) : XJ G μ d gc gs pc lo (.long y :: .long x :: st) w Q :=
  XJ.step (fun hx hb hown ht hS ls hl kk => lv_lsub hx hb hd kk) k
theorem X_lmul {x y : Int64} (hd : decode μ.2.2.1 pc = .ok (.lmul, 1)) (k : XJ G μ d gc gs (pc + 1) lo (.long (x * y) :: st) w Q) : XJ G μ d gc gs pc lo (.long y :: .long x :: st) w Q :=
  XJ.step (fun hx hb hown ht hS ls hl kk => lv_lmul hx hb hd kk) k
theorem X_lor {x y : Int64} (hd : decode μ.2.2.1 pc = .ok (.lor, 1)) (k : XJ G μ d gc gs (pc + 1) lo (.long (x ||| y) :: st) w Q) : XJ G μ d gc gs pc lo (.long y :: .long x :: st) w Q :=
  XJ.step (fun hx hb hown ht hS ls hl kk => lv_lor hx hb hd kk) k
theorem X_ldiv {x y : Int64} (hd : decode μ.2.2.1 pc = .ok (.ldiv, 1)) (hne : ¬ y = 0) (k : XJ G μ d gc gs (pc + 1) lo (.long (x / y) :: st) w Q) : XJ G μ d gc gs pc lo (.long y :: .long x :: st) w Q :=
  XJ.step (fun hx hb hown ht hS ls hl kk => lv_ldiv hx hb hd hne kk) k
theorem X_lrem {x y : Int64} (hd : decode μ.2.2.1 pc = .ok (.lrem, 1)) (hne : ¬ y = 0) (k : XJ G μ d gc gs (pc + 1) lo (.long (x - x / y * y) :: st) w Q) : XJ G μ d gc gs pc lo (.long y :: .long x :: st) w Q :=
  XJ.step (fun hx hb hown ht hS ls hl kk => lv_lrem hx hb hd hne kk) k
theorem X_lshl {x v : Int64} {y : Int32} (hd : decode μ.2.2.1 pc = .ok (.lshl, 1)) (hv : x <<< (y.toInt64 &&& 63) = v) (k : XJ G μ d gc gs (pc + 1) lo (.long v :: st) w Q) : XJ G μ d gc gs pc lo (.int y :: .long x :: st) w Q :=
  XJ.step (fun hx hb hown ht hS ls hl kk => lv_lshl hx hb hd hv kk) k
theorem X_i2l {x : Int32} {v : Int64} (hd : decode μ.2.2.1 pc = .ok (.i2l, 1)) (hv : x.toInt64 = v) (k : XJ G μ d gc gs (pc + 1) lo (.long v :: st) w Q) : XJ G μ d gc gs pc lo (.int x :: st) w Q :=
  XJ.step (fun hx hb hown ht hS ls hl kk => lv_i2l hx hb hd hv kk) k
theorem X_l2i {x : Int64} {v : Int32} (hd : decode μ.2.2.1 pc = .ok (.l2i, 1)) (hv : x.toInt32 = v) (k : XJ G μ d gc gs (pc + 1) lo (.int v :: st) w Q) : XJ G μ d gc gs pc lo (.long x :: st) w Q :=
  XJ.step (fun hx hb hown ht hS ls hl kk => lv_l2i hx hb hd hv kk) k
theorem X_i2c {x v : Int32} (hd : decode μ.2.2.1 pc = .ok (.i2c, 1)) (hv : (x.toUInt32 % 65536).toInt32 = v) (k : XJ G μ d gc gs (pc + 1) lo (.int v :: st) w Q) : XJ G μ d gc gs pc lo (.int x :: st) w Q :=
  XJ.step (fun hx hb hown ht hS ls hl kk => lv_i2c hx hb hd hv kk) k
theorem X_i2f {x : Int32} (hd : decode μ.2.2.1 pc = .ok (.i2f, 1)) (k : XJ G μ d gc gs (pc + 1) lo (.float (FP.i2f x) :: st) w Q) : XJ G μ d gc gs pc lo (.int x :: st) w Q :=
  XJ.step (fun hx hb hown ht hS ls hl kk => lv_i2f hx hb hd kk) k
theorem X_i2d {x : Int32} (hd : decode μ.2.2.1 pc = .ok (.i2d, 1)) (k : XJ G μ d gc gs (pc + 1) lo (.double (FP.i2d x) :: st) w Q) : XJ G μ d gc gs pc lo (.int x :: st) w Q :=
  XJ.step (fun hx hb hown ht hS ls hl kk => lv_i2d hx hb hd kk) k
theorem X_f2i {x : UInt32} (hd : decode μ.2.2.1 pc = .ok (.f2i, 1)) (k : XJ G μ d gc gs (pc + 1) lo (.int (FP.f2i x) :: st) w Q) : XJ G μ d gc gs pc lo (.float x :: st) w Q :=
  XJ.step (fun hx hb hown ht hS ls hl kk => lv_f2i hx hb hd kk) k
theorem X_d2l {x : UInt64} (hd : decode μ.2.2.1 pc = .ok (.d2l, 1)) (k : XJ G μ d gc gs (pc + 1) lo (.long (FP.d2l x) :: st) w Q) : XJ G μ d gc gs pc lo (.double x :: st) w Q :=
  XJ.step (fun hx hb hown ht hS ls hl kk => lv_d2l hx hb hd kk) k
theorem X_f2d {x : UInt32} (hd : decode μ.2.2.1 pc = .ok (.f2d, 1)) (hne : vf_n64 (FP.f2d x)) (k : XJ G μ d gc gs (pc + 1) lo (.double (FP.f2d x) :: st) w Q) : XJ G μ d gc gs pc lo (.float x :: st) w Q :=
  XJ.step (fun hx hb hown ht hS ls hl kk => lv_f2d hx hb hd hne kk) k
theorem X_fadd {x y : UInt32} (hd : decode μ.2.2.1 pc = .ok (.fadd, 1)) (hne : vf_n32 (FP.fadd x y)) (k : XJ G μ d gc gs (pc + 1) lo (.float (FP.fadd x y) :: st) w Q) : XJ G μ d gc gs pc lo (.float y :: .float x :: st) w Q :=
  XJ.step (fun hx hb hown ht hS ls hl kk => lv_fadd hx hb hd hne kk) k
theorem X_fsub {x y : UInt32} (hd : decode μ.2.2.1 pc = .ok (.fsub, 1)) (hne : vf_n32 (FP.fsub x y)) (k : XJ G μ d gc gs (pc + 1) lo (.float (FP.fsub x y) :: st) w Q) : XJ G μ d gc gs pc lo (.float y :: .float x :: st) w Q :=
  XJ.step (fun hx hb hown ht hS ls hl kk => lv_fsub hx hb hd hne kk) k
theorem X_fmul {x y : UInt32} (hd : decode μ.2.2.1 pc = .ok (.fmul, 1)) (hne : vf_n32 (FP.fmul x y)) (k : XJ G μ d gc gs (pc + 1) lo (.float (FP.fmul x y) :: st) w Q) : XJ G μ d gc gs pc lo (.float y :: .float x :: st) w Q :=
  XJ.step (fun hx hb hown ht hS ls hl kk => lv_fmul hx hb hd hne kk) k
theorem X_fdiv {x y : UInt32} (hd : decode μ.2.2.1 pc = .ok (.fdiv, 1)) (hne : vf_n32 (FP.fdiv x y)) (k : XJ G μ d gc gs (pc + 1) lo (.float (FP.fdiv x y) :: st) w Q) : XJ G μ d gc gs pc lo (.float y :: .float x :: st) w Q :=
  XJ.step (fun hx hb hown ht hS ls hl kk => lv_fdiv hx hb hd hne kk) k
theorem X_dadd {x y : UInt64} (hd : decode μ.2.2.1 pc = .ok (.dadd, 1)) (hne : vf_n64 (FP.dadd x y)) (k : XJ G μ d gc gs (pc + 1) lo (.double (FP.dadd x y) :: st) w Q) : XJ G μ d gc gs pc lo (.double y :: .double x :: st) w Q :=
  XJ.step (fun hx hb hown ht hS ls hl kk => lv_dadd hx hb hd hne kk) k
theorem X_dsub {x y : UInt64} (hd : decode μ.2.2.1 pc = .ok (.dsub, 1)) (hne : vf_n64 (FP.dsub x y)) (k : XJ G μ d gc gs (pc + 1) lo (.double (FP.dsub x y) :: st) w Q) : XJ G μ d gc gs pc lo (.double y :: .double x :: st) w Q :=
  XJ.step (fun hx hb hown ht hS ls hl kk => lv_dsub hx hb hd hne kk) k
theorem X_dmul {x y : UInt64} (hd : decode μ.2.2.1 pc = .ok (.dmul, 1)) (hne : vf_n64 (FP.dmul x y)) (k : XJ G μ d gc gs (pc + 1) lo (.double (FP.dmul x y) :: st) w Q) : XJ G μ d gc gs pc lo (.double y :: .double x :: st) w Q :=
  XJ.step (fun hx hb hown ht hS ls hl kk => lv_dmul hx hb hd hne kk) k
theorem X_ddiv {x y : UInt64} (hd : decode μ.2.2.1 pc = .ok (.ddiv, 1)) (hne : vf_n64 (FP.ddiv x y)) (k : XJ G μ d gc gs (pc + 1) lo (.double (FP.ddiv x y) :: st) w Q) : XJ G μ d gc gs pc lo (.double y :: .double x :: st) w Q :=
  XJ.step (fun hx hb hown ht hS ls hl kk => lv_ddiv hx hb hd hne kk) k
theorem X_fcmp {x y : UInt32} {op : CmpOp} (hd : decode μ.2.2.1 pc = .ok (.fcmp op, 1)) (k : XJ G μ d gc gs (pc + 1) lo (.int (Op.cmpValue (FP.fcmp x y) op) :: st) w Q) : XJ G μ d gc gs pc lo (.float y :: .float x :: st) w Q :=
  XJ.step (fun hx hb hown ht hS ls hl kk => lv_fcmp hx hb hd kk) k
theorem X_dcmp {x y : UInt64} {op : CmpOp} (hd : decode μ.2.2.1 pc = .ok (.dcmp op, 1)) (k : XJ G μ d gc gs (pc + 1) lo (.int (Op.cmpValue (FP.dcmp x y) op) :: st) w Q) : XJ G μ d gc gs pc lo (.double y :: .double x :: st) w Q :=
  XJ.step (fun hx hb hown ht hS ls hl kk => lv_dcmp hx hb hd kk) k
theorem X_lcmp {x y : Int64} (hd : decode μ.2.2.1 pc = .ok (.lcmp, 1)) (k : XJ G μ d gc gs (pc + 1) lo (.int (lg_cmp x y) :: st) w Q) : XJ G μ d gc gs pc lo (.long y :: .long x :: st) w Q :=
  XJ.step (fun hx hb hown ht hS ls hl kk => W.lcmp hx hb hd kk) k
theorem X_dup {va : Value} (hd : decode μ.2.2.1 pc = .ok (.dup, 1)) (hva : va.category = 1) (k : XJ G μ d gc gs (pc + 1) lo (va :: va :: st) w Q) : XJ G μ d gc gs pc lo (va :: st) w Q :=
  XJ.step (fun hx hb hown ht hS ls hl kk => lv_dup hx hb hd hva kk) k
theorem X_dup2_11 {va vb : Value} (hd : decode μ.2.2.1 pc = .ok (.dup2, 1)) (hva : va.category = 1) (hvb : vb.category = 1) (k : XJ G μ d gc gs (pc + 1) lo (va :: vb :: va :: vb :: st) w Q) : XJ G μ d gc gs pc lo (va :: vb :: st) w Q :=
  XJ.step (fun hx hb hown ht hS ls hl kk => lv_dup2_11 hx hb hd hva hvb kk) k
theorem X_dup2_2 {va : Value} (hd : decode μ.2.2.1 pc = .ok (.dup2, 1)) (hva : va.category = 2) (k : XJ G μ d gc gs (pc + 1) lo (va :: va :: st) w Q) : XJ G μ d gc gs pc lo (va :: st) w Q :=
  XJ.step (fun hx hb hown ht hS ls hl kk => lv_dup2_2 hx hb hd hva kk) k
theorem X_icmp_eq {x y : Int32} {off : Int} {tgt : Nat} (hd : decode μ.2.2.1 pc = .ok (.if_icmp .eq off, 3)) (ht : (pc : Int) + off = (tgt : Int)) (kt : x = y → XJ G μ d gc gs tgt lo st w Q) (kf : ¬ (x = y) → XJ G μ d gc gs (pc + 3) lo st w Q) : XJ G μ d gc gs pc lo (.int y :: .int x :: st) w Q := by
  intro p e R s m args below meth c hc mc ms H locs cells slots ls h1 h2 h3 h4 hw hS hl
  exact lv_icmp_eq hc.2.1 hc.2.2.1 hd ht (fun h => kt h p e R s m args below meth c hc mc ms H locs cells slots ls h1 h2 h3 h4 hw hS hl) (fun h => kf h p e R s m args below meth c hc mc ms H locs cells slots ls h1 h2 h3 h4 hw hS hl)
theorem X_if_eq {x : Int32} {off : Int} {tgt : Nat} (hd : decode μ.2.2.1 pc = .ok (.ifCond .eq off, 3)) (ht : (pc : Int) + off = (tgt : Int)) (kt : x = 0 → XJ G μ d gc gs tgt lo st w Q) (kf : ¬ (x = 0) → XJ G μ d gc gs (pc + 3) lo st w Q) : XJ G μ d gc gs pc lo (.int x :: st) w Q := by
  intro p e R s m args below meth c hc mc ms H locs cells slots ls h1 h2 h3 h4 hw hS hl
  exact lv_if_eq hc.2.1 hc.2.2.1 hd ht (fun h => kt h p e R s m args below meth c hc mc ms H locs cells slots ls h1 h2 h3 h4 hw hS hl) (fun h => kf h p e R s m args below meth c hc mc ms H locs cells slots ls h1 h2 h3 h4 hw hS hl)
theorem X_icmp_ne {x y : Int32} {off : Int} {tgt : Nat} (hd : decode μ.2.2.1 pc = .ok (.if_icmp .ne off, 3)) (ht : (pc : Int) + off = (tgt : Int)) (kt : x ≠ y → XJ G μ d gc gs tgt lo st w Q) (kf : x = y → XJ G μ d gc gs (pc + 3) lo st w Q) : XJ G μ d gc gs pc lo (.int y :: .int x :: st) w Q := by
  intro p e R s m args below meth c hc mc ms H locs cells slots ls h1 h2 h3 h4 hw hS hl
  exact lv_icmp_ne hc.2.1 hc.2.2.1 hd ht (fun h => kt h p e R s m args below meth c hc mc ms H locs cells slots ls h1 h2 h3 h4 hw hS hl) (fun h => kf h p e R s m args below meth c hc mc ms H locs cells slots ls h1 h2 h3 h4 hw hS hl)
theorem X_if_ne {x : Int32} {off : Int} {tgt : Nat} (hd : decode μ.2.2.1 pc = .ok (.ifCond .ne off, 3)) (ht : (pc : Int) + off = (tgt : Int)) (kt : x ≠ 0 → XJ G μ d gc gs tgt lo st w Q) (kf : x = 0 → XJ G μ d gc gs (pc + 3) lo st w Q) : XJ G μ d gc gs pc lo (.int x :: st) w Q := by
  intro p e R s m args below meth c hc mc ms H locs cells slots ls h1 h2 h3 h4 hw hS hl
  exact lv_if_ne hc.2.1 hc.2.2.1 hd ht (fun h => kt h p e R s m args below meth c hc mc ms H locs cells slots ls h1 h2 h3 h4 hw hS hl) (fun h => kf h p e R s m args below meth c hc mc ms H locs cells slots ls h1 h2 h3 h4 hw hS hl)
theorem X_icmp_lt {x y : Int32} {off : Int} {tgt : Nat} (hd : decode μ.2.2.1 pc = .ok (.if_icmp .lt off, 3)) (ht : (pc : Int) + off = (tgt : Int)) (kt : x < y → XJ G μ d gc gs tgt lo st w Q) (kf : ¬ (x < y) → XJ G μ d gc gs (pc + 3) lo st w Q) : XJ G μ d gc gs pc lo (.int y :: .int x :: st) w Q := by
  intro p e R s m args below meth c hc mc ms H locs cells slots ls h1 h2 h3 h4 hw hS hl
  exact lv_icmp_lt hc.2.1 hc.2.2.1 hd ht (fun h => kt h p e R s m args below meth c hc mc ms H locs cells slots ls h1 h2 h3 h4 hw hS hl) (fun h => kf h p e R s m args below meth c hc mc ms H locs cells slots ls h1 h2 h3 h4 hw hS hl)
theorem X_if_lt {x : Int32} {off : Int} {tgt : Nat} (hd : decode μ.2.2.1 pc = .ok (.ifCond .lt off, 3)) (ht : (pc : Int) + off = (tgt : Int)) (kt : x < 0 → XJ G μ d gc gs tgt lo st w Q) (kf : ¬ (x < 0) → XJ G μ d gc gs (pc + 3) lo st w Q) : XJ G μ d gc gs pc lo (.int x :: st) w Q := by
  intro p e R s m args below meth c hc mc ms H locs cells slots ls h1 h2 h3 h4 hw hS hl
  exact lv_if_lt hc.2.1 hc.2.2.1 hd ht (fun h => kt h p e R s m args below meth c hc mc ms H locs cells slots ls h1 h2 h3 h4 hw hS hl) (fun h => kf h p e R s m args below meth c hc mc ms H locs cells slots ls h1 h2 h3 h4 hw hS hl)
theorem X_icmp_ge {x y : Int32} {off : Int} {tgt : Nat} (hd : decode μ.2.2.1 pc = .ok (.if_icmp .ge off, 3)) (ht : (pc : Int) + off = (tgt : Int)) (kt : y ≤ x → XJ G μ d gc gs tgt lo st w Q) (kf : ¬ (y ≤ x) → XJ G μ d gc gs (pc + 3) lo st w Q) : XJ G μ d gc gs pc lo (.int y :: .int x :: st) w Q := by
  intro p e R s m args below meth c hc mc ms H locs cells slots ls h1 h2 h3 h4 hw hS hl
  exact lv_icmp_ge hc.2.1 hc.2.2.1 hd ht (fun h => kt h p e R s m args below meth c hc mc ms H locs cells slots ls h1 h2 h3 h4 hw hS hl) (fun h => kf h p e R s m args below meth c hc mc ms H locs cells slots ls h1 h2 h3 h4 hw hS hl)
theorem X_if_ge {x : Int32} {off : Int} {tgt : Nat} (hd : decode μ.2.2.1 pc = .ok (.ifCond .ge off, 3)) (ht : (pc : Int) + off = (tgt : Int)) (kt : 0 ≤ x → XJ G μ d gc gs tgt lo st w Q) (kf : ¬ (0 ≤ x) → XJ G μ d gc gs (pc + 3) lo st w Q) : XJ G μ d gc gs pc lo (.int x :: st) w Q := by
  intro p e R s m args below meth c hc mc ms H locs cells slots ls h1 h2 h3 h4 hw hS hl
  exact lv_if_ge hc.2.1 hc.2.2.1 hd ht (fun h => kt h p e R s m args below meth c hc mc ms H locs cells slots ls h1 h2 h3 h4 hw hS hl) (fun h => kf h p e R s m args below meth c hc mc ms H locs cells slots ls h1 h2 h3 h4 hw hS hl)
theorem X_icmp_gt {x y : Int32} {off : Int} {tgt : Nat} (hd : decode μ.2.2.1 pc = .ok (.if_icmp .gt off, 3)) (ht : (pc : Int) + off = (tgt : Int)) (kt : y < x → XJ G μ d gc gs tgt lo st w Q) (kf : ¬ (y < x) → XJ G μ d gc gs (pc + 3) lo st w Q) : XJ G μ d gc gs pc lo (.int y :: .int x :: st) w Q := by
  intro p e R s m args below meth c hc mc ms H locs cells slots ls h1 h2 h3 h4 hw hS hl
  exact lv_icmp_gt hc.2.1 hc.2.2.1 hd ht (fun h => kt h p e R s m args below meth c hc mc ms H locs cells slots ls h1 h2 h3 h4 hw hS hl) (fun h => kf h p e R s m args below meth c hc mc ms H locs cells slots ls h1 h2 h3 h4 hw hS hl)
theorem X_if_gt {x : Int32} {off : Int} {tgt : Nat} (hd : decode μ.2.2.1 pc = .ok (.ifCond .gt off, 3)) (ht : (pc : Int) + off = (tgt : Int)) (kt : 0 < x → XJ G μ d gc gs tgt lo st w Q) (kf : ¬ (0 < x) → XJ G μ d gc gs (pc + 3) lo st w Q) : XJ G μ d gc gs pc lo (.int x :: st) w Q := by
  intro p e R s m args below meth c hc mc ms H locs cells slots ls h1 h2 h3 h4 hw hS hl
  exact lv_if_gt hc.2.1 hc.2.2.1 hd ht (fun h => kt h p e R s m args below meth c hc mc ms H locs cells slots ls h1 h2 h3 h4 hw hS hl) (fun h => kf h p e R s m args below meth c hc mc ms H locs cells slots ls h1 h2 h3 h4 hw hS hl)
theorem X_icmp_le {x y : Int32} {off : Int} {tgt : Nat} (hd : decode μ.2.2.1 pc = .ok (.if_icmp .le off, 3)) (ht : (pc : Int) + off = (tgt : Int)) (kt : x ≤ y → XJ G μ d gc gs tgt lo st w Q) (kf : ¬ (x ≤ y) → XJ G μ d gc gs (pc + 3) lo st w Q) : XJ G μ d gc gs pc lo (.int y :: .int x :: st) w Q := by
  intro p e R s m args below meth c hc mc ms H locs cells slots ls h1 h2 h3 h4 hw hS hl
  exact lv_icmp_le hc.2.1 hc.2.2.1 hd ht (fun h => kt h p e R s m args below meth c hc mc ms H locs cells slots ls h1 h2 h3 h4 hw hS hl) (fun h => kf h p e R s m args below meth c hc mc ms H locs cells slots ls h1 h2 h3 h4 hw hS hl)
theorem X_if_le {x : Int32} {off : Int} {tgt : Nat} (hd : decode μ.2.2.1 pc = .ok (.ifCond .le off, 3)) (ht : (pc : Int) + off = (tgt : Int)) (kt : x ≤ 0 → XJ G μ d gc gs tgt lo st w Q) (kf : ¬ (x ≤ 0) → XJ G μ d gc gs (pc + 3) lo st w Q) : XJ G μ d gc gs pc lo (.int x :: st) w Q := by
  intro p e R s m args below meth c hc mc ms H locs cells slots ls h1 h2 h3 h4 hw hS hl
  exact lv_if_le hc.2.1 hc.2.2.1 hd ht (fun h => kt h p e R s m args below meth c hc mc ms H locs cells slots ls h1 h2 h3 h4 hw hS hl) (fun h => kf h p e R s m args below meth c hc mc ms H locs cells slots ls h1 h2 h3 h4 hw hS hl)
theorem X_goto {off : Int} {tgt : Nat} (hd : decode μ.2.2.1 pc = .ok (.goto off, 3)) (ht : (pc : Int) + off = (tgt : Int)) (k : XJ G μ d gc gs tgt lo st w Q) : XJ G μ d gc gs pc lo st w Q :=
  XJ.step (fun hx hb hown ht2 hS ls hl kk => lv_goto hx hb hd ht kk) k
theorem X_tableIn {dflt lo9 hi : Int} {offs : Array Int} {len : Nat} {x : Int32} {off : Int} {tgt : Nat} (hd : decode μ.2.2.1 pc = .ok (.tableswitch dflt lo9 hi offs, len)) (h1 : ¬ x.toInt < lo9) (h2 : ¬ hi < x.toInt) (ho : offs[(x.toInt - lo9).toNat]? = some off) (ht : (pc : Int) + off = (tgt : Int)) (k : XJ G μ d gc gs tgt lo st w Q) : XJ G μ d gc gs pc lo (.int x :: st) w Q :=
  XJ.step (fun hx hb hown ht2 hS ls hl kk => lv_tableIn hx hb hd h1 h2 ho ht kk) k
theorem X_tableOut {dflt lo9 hi : Int} {offs : Array Int} {len : Nat} {x : Int32} {tgt : Nat} (hd : decode μ.2.2.1 pc = .ok (.tableswitch dflt lo9 hi offs, len)) (h : x.toInt < lo9 ∨ hi < x.toInt) (ht : (pc : Int) + dflt = (tgt : Int)) (k : XJ G μ d gc gs tgt lo st w Q) : XJ G μ d gc gs pc lo (.int x :: st) w Q :=
  XJ.step (fun hx hb hown ht2 hS ls hl kk => lv_tableOut hx hb hd h ht kk) k
end XRows
