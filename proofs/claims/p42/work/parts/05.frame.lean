/-! FRAME: a world of numbered cells, a method's data, the judgement XJ (a walk from here), the contract XC, one row an instruction -/
abbrev Wd : Type := (Nat → Nat) × Nat × (Nat → va_E)
/-- the cells of a world as the kit's list -/
def xw (w : Wd) : va_W := (List.range w.2.1).map (fun i => (w.1 i, w.2.2 i))
/-- cell i holds e now -/
def setM (w : Wd) (i : Nat) (e : va_E) : Wd := (w.1, w.2.1, fun j => bif Nat.beq j i then e else w.2.2 j)
/-- a new cell at the end -/
def addM (w : Wd) (q : Nat) (e : va_E) : Wd := (fun j => bif Nat.beq j w.2.1 then q else w.1 j, w.2.1 + 1, fun j => bif Nat.beq j w.2.1 then e else w.2.2 j)
abbrev XRes : Type := Option Value ⊕ String
/-- own class, name, bytes, locals, answer's type, handlers -/
abbrev Mth : Type := String × MethodName × ByteArray × Nat × Option FieldType × List (Nat × Nat × Nat × Nat)
def tysK (K : Nat → ClassId) : List (ClassId × FieldType) := [(K 0, .int), (K 1, .char), (K 2, .boolean), (K 3, .long), (K 4, .float), (K 5, .double)]
def aI (K : Nat → ClassId) (n : Nat) (f : Nat → Int32) : va_E := .inl (K 0, n, .inl f)
def aC (K : Nat → ClassId) (n : Nat) (f : Nat → Int32) : va_E := .inl (K 1, n, .inl f)
def aZ (K : Nat → ClassId) (n : Nat) (f : Nat → Int32) : va_E := .inl (K 2, n, .inl f)
def aL (K : Nat → ClassId) (n : Nat) (f : Nat → Int64) : va_E := .inl (K 3, n, .inr (.inl f))
def aF (K : Nat → ClassId) (n : Nat) (f : Nat → UInt32) : va_E := .inl (K 4, n, .inr (.inr (.inl f)))
def aD (K : Nat → ClassId) (n : Nat) (f : Nat → UInt64) : va_E := .inl (K 5, n, .inr (.inr (.inr (.inl f))))
def oB (ci : Nat) (fs : List Value) : va_E := .inr (ci, fs)
/-- the words of the claim's tables that go along -/
def xgood2 (w : Cond) : Bool := match w with
  | .arrayClass _ => true
  | .methodLinkNest .. => true
  | _ => false
def xgood (w : Cond) : Bool := (w.onTables && w.keepsFace) || xgood2 w
def xall : List Cond := lw_tbl.filter xgood
theorem xgood_warm {args args' : Array Value} {s T : State} (hW : s.WarmedH T.vm) (w : Cond) (hg : xgood w = true) (h : w.before args s = true) : w.before args' T = true := by
  rcases Bool.or_eq_true_iff.mp hg with h1 | h1
  · have hg2 := Bool.and_eq_true_iff.mp h1
    exact Cond.onTables_warmFace (T := T) hW hg2.1 hg2.2 h
  · cases w <;> first
    | (simp [xgood2] at h1; done)
    | exact word_at hW (Or.inr ⟨_, rfl⟩) h
    | exact va_Nw.use rfl (va_Nw.warmM hW (va_Nw.of rfl h))
theorem arrayClass_vm {args args' : Array Value} {u U : State} (hv : u.vm = U.vm) {ty : FieldType} (h : (Cond.arrayClass ty).before args u = true) : (Cond.arrayClass ty).before args' U = true := by
  have e : (Cond.arrayClass ty).before args' U = (Cond.arrayClass ty).before args u := by
    simp [Cond.before, Cond.holds, Cond.value, hv]
  rw [e]; exact h
theorem xgood_moved {args args' : Array Value} {u U : State} (hv : u.vm = U.vm) (w : Cond) (hg : xgood w = true) (h : w.before args u = true) : w.before args' U = true := by
  rcases Bool.or_eq_true_iff.mp hg with h1 | h1
  · have hg2 := Bool.and_eq_true_iff.mp h1
    exact va_tabs hg2.1 hv h
  · cases w <;> first
    | (simp [xgood2] at h1; done)
    | exact va_tabs rfl hv h
    | exact arrayClass_vm hv h
theorem xgood_args {args args' : Array Value} {s : State} (w : Cond) (hg : xgood w = true) (h : w.before args s = true) : w.before args' s = true := xgood_moved rfl w hg h
def xword (μ : Mth) : Cond := match μ.2.2.2.2.2 with
  | [] => .code μ.2.1 μ.2.2.1 μ.2.2.2.1 μ.2.2.2.2.1
  | h :: t => .codeWith μ.2.1 μ.2.2.1 μ.2.2.2.1 μ.2.2.2.2.1 (h :: t)
def xws (μ : Mth) : List Cond := [xword μ]
/-- the class's texts, by their places in its file -/
def xstrs : List (String × Nat × String) := [("BillOfMaterials", 390, "no such kind"), ("BillOfMaterials", 393, "price out of range"), ("BillOfMaterials", 395, "weight out of range"), ("BillOfMaterials", 91, "there are 16 parts"), ("BillOfMaterials", 343, "no such part"), ("BillOfMaterials", 397, "position out of range"), ("BillOfMaterials", 399, "quantity out of range"), ("BillOfMaterials", 401, "range of serial numbers out of range"), ("BillOfMaterials", 362, "the line would be a circle"), ("BillOfMaterials", 371, "the line would be too deep"), ("BillOfMaterials", 373, "there are 40 lines"), ("BillOfMaterials", 384, "the line would collide with another line"), ("BillOfMaterials", 403, "condition out of range"), ("BillOfMaterials", 345, "no such line"), ("BillOfMaterials", 354, "the line can't be cut at this serial number"), ("BillOfMaterials", 183, "scrap rate out of range"), ("BillOfMaterials", 405, "serial number out of range"), ("BillOfMaterials", 407, "no such option"), ("BillOfMaterials", 196, "choice out of range"), ("BillOfMaterials", 349, "no such entry"), ("BillOfMaterials", 276, "the part has no lines"), ("BillOfMaterials", 290, "no cost of this part is marked"), ("BillOfMaterials", 292, "number of units out of range"), ("BillOfMaterials", 295, "there are 8 orders"), ("BillOfMaterials", 347, "no such order"), ("BillOfMaterials", 305, "the order was cancelled before")]
/-- exceptions that aren't caught as others -/
def xncs : List (String × String) := [("java/lang/IllegalArgumentException", "java/lang/IllegalStateException"), ("java/lang/IllegalArgumentException", "java/lang/IndexOutOfBoundsException"), ("java/lang/IllegalArgumentException", "java/lang/UnsupportedOperationException"), ("java/lang/IllegalArgumentException", "java/util/NoSuchElementException"), ("java/lang/IllegalStateException", "java/lang/IllegalArgumentException"), ("java/lang/IllegalStateException", "java/lang/IndexOutOfBoundsException"), ("java/lang/IllegalStateException", "java/lang/UnsupportedOperationException"), ("java/lang/IllegalStateException", "java/util/NoSuchElementException"), ("java/lang/IndexOutOfBoundsException", "java/lang/IllegalArgumentException"), ("java/lang/IndexOutOfBoundsException", "java/lang/IllegalStateException"), ("java/lang/IndexOutOfBoundsException", "java/lang/UnsupportedOperationException"), ("java/lang/IndexOutOfBoundsException", "java/util/NoSuchElementException"), ("java/lang/UnsupportedOperationException", "java/lang/IllegalArgumentException"), ("java/lang/UnsupportedOperationException", "java/lang/IllegalStateException"), ("java/lang/UnsupportedOperationException", "java/lang/IndexOutOfBoundsException"), ("java/lang/UnsupportedOperationException", "java/util/NoSuchElementException"), ("java/util/NoSuchElementException", "java/lang/IllegalArgumentException"), ("java/util/NoSuchElementException", "java/lang/IllegalStateException"), ("java/util/NoSuchElementException", "java/lang/IndexOutOfBoundsException"), ("java/util/NoSuchElementException", "java/lang/UnsupportedOperationException")]
def xroom (d gc gs : Nat) : Room := { frames := d, cells := gc, slots := gs, locals := 64 * d }
/-- what holds of every state of the run, worlds apart: classes, the two statics of Throwable, the texts, nest mates' links, what isn't castable -/
def SW (l : Launch) (D : va_G) (K : Nat → ClassId) (A : Nat → Prop) (sc : Nat × Nat × (Nat → Int32)) (U : State) : Prop :=
  va_K D vwCl (tysK K) U ∧ vx_Zq Bundle.tN "UNASSIGNED_STACK" Bundle.steD A U U.heap ∧ vx_Zq Bundle.tN "SUPPRESSED_SENTINEL" Bundle.listD A U U.heap ∧
  (∀ q ∈ xstrs, ∃ a, vk_R q.1 q.2.1 q.2.2 a U) ∧ (∀ w ∈ xall, w.before #[] U = true) ∧ (∀ q ∈ xncs, va_Nc q.1 q.2 U) ∧ l.stackTraces = false ∧ (∀ q : Nat, U.heap.size ≤ q → A q) ∧ va_X sc.1 sc.2.1 sc.2.2 U U.heap ∧ sc.1 < U.heap.size ∧ ¬ A sc.1
/-- what a launch, its classes and the law's start give: one name for all of it -/
abbrev Gx : Type := Launch × va_G × (Nat → ClassId) × (Nat → Prop) × (Nat × Nat × (Nat → Int32))
def SG (G : Gx) (U : State) : Prop := SW G.1 G.2.1 G.2.2.1 G.2.2.2.1 G.2.2.2.2 U
def WG (G : Gx) (w : Wd) (H : Heap) : Prop := va_P G.2.1 vwCl (xw w) H ∧ va_D G.2.2.2.1 (xw w)
def QJ (G : Gx) (Q : XRes → Wd → Prop) : Array Value → State → Outcome → State → Prop := fun _ st oc t =>
  (∃ (v : Option Value) (w' : Wd), oc = .returned v ∧ Q (.inl v) w' ∧ WG G w' t.heap) ∧ va_F G.2.2.2.1 st t
def XQ (G : Gx) (Q : XRes → Wd → Prop) : String → State → State → Prop := fun E st t =>
  (∃ w' : Wd, Q (.inr E) w' ∧ WG G w' t.heap) ∧ va_F G.2.2.2.1 st t
/-- a contract: from the world w and the arguments av the method comes to an answer and a world that Q allows -/
def XC (G : Gx) (μ : Mth) (d gc gs : Nat) (av : List Value) (w : Wd) (Q : XRes → Wd → Prop) : Prop :=
  vx_Met G.1 μ.2.1 (xws μ) (xroom d gc gs) (va_Pc av (fun U => SG G U ∧ WG G w U.heap)) (QJ G Q) (XQ G Q) gc gs G.2.2.2.1
/-- an activation of the method -/
def Cx (G : Gx) (μ : Mth) (d : Nat) (p : Program) (R : Room) (s : State) (m : MethodId) (args : Array Value) (meth : Method) (c : Code) : Prop :=
  SG G s ∧ p.tables.exec = Jvm.exec ∧ c.code = μ.2.2.1 ∧ c.maxLocals = μ.2.2.2.1 ∧ s.vm.findClass μ.1 = some m.cls ∧ (∀ w ∈ xall, w.before args s = true) ∧ meth.sig.returnType = μ.2.2.2.2.1 ∧ meth.locks = false ∧ meth.name = μ.2.1.name ∧ d ≤ R.frames ∧ 64 * d ≤ R.locals ∧ c.exceptionTable.toList = tableOf μ.2.2.2.2.2
/-- a walk from pc with these locals, this stack, this world, gc cells and gs slots still to make, comes to Q -/
def XJ (G : Gx) (μ : Mth) (d gc gs pc : Nat) (lo : List (Nat × Value)) (st : List Value) (w : Wd) (Q : XRes → Wd → Prop) : Prop :=
  ∀ (p : Program) (e : Env) (R : Room) (s : State) (m : MethodId) (args : Array Value) (below : List Frame) (meth : Method) (c : Code), Cx G μ d p R s m args meth c →
  ∀ (mc ms : Nat) (H : Heap) (locs : List Loc) (cells slots : Nat) (ls : Array Slot), cells + gc ≤ mc → slots + gs ≤ ms → mc ≤ R.cells → ms ≤ R.slots → WG G w H → va_S G.2.2.2.1 s.heap H locs → lv_has ls μ.2.2.2.1 lo →
  W p G.1 e R s m args below meth c H locs cells slots (vx_MQ below (QJ G Q) (XQ G Q) args s mc ms G.2.2.2.1) (F0 m pc ls st)
/-- an exception of class E over the frame at pc -/
def XT (G : Gx) (μ : Mth) (d gc gs pc : Nat) (lo : List (Nat × Value)) (w : Wd) (Q : XRes → Wd → Prop) (E : String) : Prop :=
  ∀ (p : Program) (e : Env) (R : Room) (s : State) (m : MethodId) (args : Array Value) (below : List Frame) (meth : Method) (c : Code), Cx G μ d p R s m args meth c →
  ∀ (mc ms : Nat) (H : Heap) (locs : List Loc) (cells slots : Nat) (ls : Array Slot), cells + gc ≤ mc → slots + gs ≤ ms → mc ≤ R.cells → ms ≤ R.slots → WG G w H → va_S G.2.2.2.1 s.heap H locs → lv_has ls μ.2.2.2.1 lo →
  ∀ (q : Addr) (ce : Cell) (rest : List Value), H[q]? = some ce → ce.vm = .none → s.vm.findClass E = some ce.cls →
  vx_W p G.1 e R s m args below meth c H locs cells slots (vx_MQ below (QJ G Q) (XQ G Q) args s mc ms G.2.2.2.1) (F0 m pc ls rest) q
/-! ## worlds -/
theorem xw_at {w : Wd} {i : Nat} (h : i < w.2.1) : (xw w)[i]? = some (w.1 i, w.2.2 i) := by
  simp [xw, h]
theorem xw_set {w : Wd} {i : Nat} {e : va_E} (h : i < w.2.1) : (xw w).set i (w.1 i, e) = xw (setM w i e) := by
  apply List.ext_getElem?
  intro j
  simp only [xw, setM, List.getElem?_set, List.getElem?_map, List.length_map, List.length_range]
  by_cases hj : j < w.2.1
  · by_cases hij : i = j
    · subst hij
      simp [h]
    · have : Nat.beq j i = false := by
        cases hb : Nat.beq j i with
        | false => rfl
        | true => exact absurd (Nat.eq_of_beq_eq_true hb).symm hij
      simp [hij, hj, this]
  · have hne : i ≠ j := fun h2 => hj (h2 ▸ h)
    simp [hne, hj]
theorem xw_add {w : Wd} {q : Nat} {e : va_E} : xw w ++ [(q, e)] = xw (addM w q e) := by
  simp only [xw, addM, List.range_succ, List.map_append, List.map_cons, List.map_nil]
  have hb : Nat.beq w.2.1 w.2.1 = true := Nat.beq_refl _
  rw [hb]
  congr 1
  apply List.map_congr_left
  intro j hj
  have hj' : j < w.2.1 := List.mem_range.mp hj
  have : Nat.beq j w.2.1 = false := by
    cases hb : Nat.beq j w.2.1 with
    | false => rfl
    | true => exact absurd (Nat.eq_of_beq_eq_true hb) (by omega)
  rw [this]
  rfl
theorem setM_setM {w : Wd} {i : Nat} {e e' : va_E} : setM (setM w i e) i e' = setM w i e' := by
  simp only [setM]
  congr 2
  funext j
  cases Nat.beq j i <;> rfl
theorem setM_comm {w : Wd} {i k : Nat} {e e' : va_E} (h : i ≠ k) : setM (setM w i e) k e' = setM (setM w k e') i e := by
  simp only [setM]
  congr 2
  funext j
  cases hj : Nat.beq j k with
  | false => cases Nat.beq j i <;> rfl
  | true =>
    have hk := Nat.eq_of_beq_eq_true hj
    have hi : Nat.beq j i = false := by
      cases hb : Nat.beq j i with
      | false => rfl
      | true => exact absurd ((Nat.eq_of_beq_eq_true hb).symm.trans hk) h
    rw [hi]; rfl
theorem setM_id {w : Wd} {i : Nat} {e : va_E} (h : w.2.2 i = e) : setM w i e = w := by
  have : (fun j => bif Nat.beq j i then e else w.2.2 j) = w.2.2 := by
    funext j
    cases hj : Nat.beq j i with
    | false => rfl
    | true => rw [Nat.eq_of_beq_eq_true hj, h]; rfl
  simp only [setM, this]
theorem setM_at {w : Wd} {i : Nat} {e : va_E} : (setM w i e).2.2 i = e := by
  show (bif Nat.beq i i then e else w.2.2 i) = e
  rw [Nat.beq_refl]; rfl
theorem setM_ne {w : Wd} {i j : Nat} {e : va_E} (h : j ≠ i) : (setM w i e).2.2 j = w.2.2 j := by
  show (bif Nat.beq j i then e else w.2.2 j) = w.2.2 j
  have : Nat.beq j i = false := by
    cases hb : Nat.beq j i with
    | false => rfl
    | true => exact absurd (Nat.eq_of_beq_eq_true hb) h
  rw [this]; rfl
/-! ## the static part goes along -/
theorem SG.moved {G : Gx} {s U : State} {locs : List Loc} (h : SG G s) (hW : s.WarmedH U.vm) (hS : va_S G.2.2.2.1 s.heap U.heap locs) : SG G U := by
  obtain ⟨h1, h2, h3, h4, h5, h6, h7, h8, ⟨scr, x1, x2, x3, x4, x5⟩, x6, x7⟩ := h
  refine ⟨va_K.moved hW.alike h1, vx_Zq.moved hW.alike (vx_Zq.kept h2 hS.2.1), vx_Zq.moved hW.alike (vx_Zq.kept h3 hS.2.1), ?_, ?_, ?_, h7, fun q hq => h8 q (Nat.le_trans hS.1 hq), ⟨scr, by rw [hS.2.1 _ x6 x7]; exact x1, State.isArrayOf_alike hW.alike x2, x3, x4, x5⟩, Nat.lt_of_lt_of_le x6 hS.1, x7⟩
  · intro q hq
    obtain ⟨a, ha⟩ := h4 q hq
    exact ⟨a, vk_R.warm hW ha⟩
  · intro w hw
    exact xgood_warm hW w (List.mem_filter.mp hw).2 (h5 w hw)
  · intro q hq
    exact va_Nc.moved hW.alike (h6 q hq)
theorem SG.blind {G : Gx} {U : State} {g : JFrame} {mk : MethodId} {a : Array Value} (h : SG G U) : SG G (U.calling g mk a) := by
  obtain ⟨h1, h2, h3, h4, h5, h6, h7, h8, ⟨scr, x1, x2, x3, x4, x5⟩, x6, x7⟩ := h
  have hA : U.vm.Alike (U.calling g mk a).vm := Vm.Alike.refl U.vm
  refine ⟨va_K.moved hA h1, vx_Zq.moved (u := U) (U := U.calling g mk a) hA h2, vx_Zq.moved (u := U) (U := U.calling g mk a) hA h3, ?_, ?_, ?_, h7, h8, ⟨scr, x1, State.isArrayOf_alike hA x2, x3, x4, x5⟩, x6, x7⟩
  · intro q hq
    obtain ⟨a, ha⟩ := h4 q hq
    exact ⟨a, vk_R.same rfl ha⟩
  · intro w hw
    exact xgood_moved (args := #[]) (u := U) (U := U.calling g mk a) rfl w (List.mem_filter.mp hw).2 (h5 w hw)
  · intro q hq
    exact va_Nc.moved hA (h6 q hq)
