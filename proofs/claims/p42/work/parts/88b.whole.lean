/-! THE START: what the Statement gives, as one name; the law to its end -/
theorem str_k {own tx : String} {k cur : Nat} {args : Array Value} {s : State} (h : (Cond.stringRef own k tx).before args s = true) (hcur : s.vm.findClass own = some cur) : ∃ a, vk_R own k tx a s := by
  obtain ⟨_, _, _, a, _, _, _, _, _, he⟩ := Cond.stringRef_spec hcur h
  exact ⟨a, vk_R.of h he⟩
theorem arr_k0 {args : Array Value} {s : State} (h : (Cond.arrayClass .int).before args s = true) : ∃ cA, ArrOfT s cA .int ∧ va_RA s cA .int := by
  obtain ⟨cA, kA, comp, h1, h2, h3⟩ := Cond.arrayClass_spec h
  exact ⟨cA, fun n z => ⟨fun k h => (by cases h), kA, h2, comp, h3⟩, h1⟩
theorem arr_k1 {args : Array Value} {s : State} (h : (Cond.arrayClass .char).before args s = true) : ∃ cA, ArrOfT s cA .char ∧ va_RA s cA .char := by
  obtain ⟨cA, kA, comp, h1, h2, h3⟩ := Cond.arrayClass_spec h
  exact ⟨cA, fun n z => ⟨fun k h => (by cases h), kA, h2, comp, h3⟩, h1⟩
theorem arr_k2 {args : Array Value} {s : State} (h : (Cond.arrayClass .boolean).before args s = true) : ∃ cA, ArrOfT s cA .boolean ∧ va_RA s cA .boolean := by
  obtain ⟨cA, kA, comp, h1, h2, h3⟩ := Cond.arrayClass_spec h
  exact ⟨cA, fun n z => ⟨fun k h => (by cases h), kA, h2, comp, h3⟩, h1⟩
theorem arr_k3 {args : Array Value} {s : State} (h : (Cond.arrayClass .long).before args s = true) : ∃ cA, ArrOfT s cA .long ∧ va_RA s cA .long := by
  obtain ⟨cA, kA, comp, h1, h2, h3⟩ := Cond.arrayClass_spec h
  exact ⟨cA, fun n z => ⟨fun k h => (by cases h), kA, h2, comp, h3⟩, h1⟩
theorem arr_k4 {args : Array Value} {s : State} (h : (Cond.arrayClass .float).before args s = true) : ∃ cA, ArrOfT s cA .float ∧ va_RA s cA .float := by
  obtain ⟨cA, kA, comp, h1, h2, h3⟩ := Cond.arrayClass_spec h
  exact ⟨cA, fun n z => ⟨fun k h => (by cases h), kA, h2, comp, h3⟩, h1⟩
theorem arr_k5 {args : Array Value} {s : State} (h : (Cond.arrayClass .double).before args s = true) : ∃ cA, ArrOfT s cA .double ∧ va_RA s cA .double := by
  obtain ⟨cA, kA, comp, h1, h2, h3⟩ := Cond.arrayClass_spec h
  exact ⟨cA, fun n z => ⟨fun k h => (by cases h), kA, h2, comp, h3⟩, h1⟩
set_option maxRecDepth 20000 in
set_option maxHeartbeats 4000000 in
theorem sg_start {p : Program} {s : State} {m : MethodId} {meth : Method} {c : Code} (l : Launch) (hflags : l.flags = flags0) {b L : Nat} {xs : Nat → Int32} (C0 : lw_At p s m meth c b L xs) : ∃ (D : va_G) (K : Nat → ClassId), SG (l, D, K, (fun q : Nat => s.heap.size ≤ q), b, L, xs) s := by
  obtain ⟨hx, hb, hr, hml, hown, hts, hX, hbl, hlocks, hgv⟩ := id C0
  have hA : ∀ a : Nat, a < s.heap.size → ¬ (fun q : Nat => s.heap.size ≤ q) a := fun a h => Nat.not_le.mpr h
  have hxa : ∀ w ∈ xall, w.before #[Value.ref b] s = true := fun w hw => hts w (List.mem_filter.mp hw).1
  obtain ⟨c0, i0, k0⟩ := u_known (C := RX0) (T := TX0) (N := 6) (n := 6) hxa in0 (hxa _ instX0)
  obtain ⟨c1, i1, k1⟩ := u_known (C := RX2) (T := TX2) (N := 1) (n := 1) hxa in2 (hxa _ instX2)
  obtain ⟨c2, i2, k2⟩ := u_known (C := RX3) (T := TX3) (N := 3) (n := 3) hxa in3 (hxa _ instX3)
  obtain ⟨c3, i3, k3⟩ := u_known (C := RX4) (T := TX4) (N := 10) (n := 10) hxa in4 (hxa _ instX4)
  obtain ⟨c4, i4, k4⟩ := u_known (C := RX5) (T := TX5) (N := 6) (n := 6) hxa in5 (hxa _ instX5)
  obtain ⟨c5, i5, k5⟩ := u_known (C := RX6) (T := TX6) (N := 2) (n := 2) hxa in6 (hxa _ instX6)
  obtain ⟨c6, i6, k6⟩ := u_known (C := RX7) (T := TX7) (N := 4) (n := 4) hxa in7 (hxa _ instX7)
  obtain ⟨c7, i7, k7⟩ := u_known (C := RX8) (T := TX8) (N := 2) (n := 2) hxa in8 (hxa _ instX8)
  obtain ⟨c8, i8, k8⟩ := u_known (C := RX9) (T := TX9) (N := 1) (n := 1) hxa in9 (hxa _ instX9)
  obtain ⟨c9, i9, k9⟩ := u_known (C := RX10) (T := TX10) (N := 10) (n := 10) hxa in10 (hxa _ instX10)
  obtain ⟨dC, dI, hKc⟩ : ∃ (dC : Nat → ClassId) (dI : Nat → Nat → Nat), ∀ (k : Nat) (q : vw_C), vwCl[k]? = some q → u_Kn s q.1 q.2.1 q.2.2 (dC k) (dI k) := by
    refine ⟨fun k => [c0, c1, c2, c3, c4, c5, c6, c7, c8, c9].getD k 0, fun k => [i0, i1, i2, i3, i4, i5, i6, i7, i8, i9].getD k (fun _ => 0), ?_⟩
    intro k q hq
    match k, hq with
    | 0, hq => cases hq; exact k0
    | 1, hq => cases hq; exact k1
    | 2, hq => cases hq; exact k2
    | 3, hq => cases hq; exact k3
    | 4, hq => cases hq; exact k4
    | 5, hq => cases hq; exact k5
    | 6, hq => cases hq; exact k6
    | 7, hq => cases hq; exact k7
    | 8, hq => cases hq; exact k8
    | 9, hq => cases hq; exact k9
    | k + 10, hq => simp [vwCl] at hq
  obtain ⟨a0, A0, R0⟩ := arr_k0 (hxa _ arr_int)
  obtain ⟨a1, A1, R1⟩ := arr_k1 (hxa _ arr_char)
  obtain ⟨a2, A2, R2⟩ := arr_k2 (hxa _ arr_boolean)
  obtain ⟨a3, A3, R3⟩ := arr_k3 (hxa _ arr_long)
  obtain ⟨a4, A4, R4⟩ := arr_k4 (hxa _ arr_float)
  obtain ⟨a5, A5, R5⟩ := arr_k5 (hxa _ arr_double)
  obtain ⟨cB, kB, hcB, -⟩ := Cond.instantiable_spec (hxa _ instX10)
  have hs := flat_of_before _ hgv
  refine ⟨(dC, dI), fun k => [a0, a1, a2, a3, a4, a5].getD k 0, ⟨hKc, fun k q hq => ?_⟩, ?_, ?_, ?_, fun w hw => xgood_args w (List.mem_filter.mp hw).2 (hxa w hw), ?_, ?_, fun q hq => hq, hX, hbl, Nat.not_le.mpr hbl⟩
  · match k, hq with
    | 0, hq => cases hq; exact ⟨A0, R0⟩
    | 1, hq => cases hq; exact ⟨A1, R1⟩
    | 2, hq => cases hq; exact ⟨A2, R2⟩
    | 3, hq => cases hq; exact ⟨A3, R3⟩
    | 4, hq => cases hq; exact ⟨A4, R4⟩
    | 5, hq => cases hq; exact ⟨A5, R5⟩
    | k + 6, hq => simp [tysK] at hq
  · exact vx_Zqof (hts _ (List.mem_of_getElem? (i := 420) (by decide +kernel))) (hts _ (List.mem_of_getElem? (i := 29) (by decide +kernel))) (hs _ (by decide +kernel)) hA
  · exact vx_Zqof (hts _ (List.mem_of_getElem? (i := 422) (by decide +kernel))) (hts _ (List.mem_of_getElem? (i := 29) (by decide +kernel))) (hs _ (by decide +kernel)) hA
  · exact List.forall_mem_cons.mpr ⟨str_k (hts _ (List.mem_of_getElem? (i := 436) (by decide +kernel))) hcB, List.forall_mem_cons.mpr ⟨str_k (hts _ (List.mem_of_getElem? (i := 467) (by decide +kernel))) hcB, List.forall_mem_cons.mpr ⟨str_k (hts _ (List.mem_of_getElem? (i := 471) (by decide +kernel))) hcB, List.forall_mem_cons.mpr ⟨str_k (hts _ (List.mem_of_getElem? (i := 481) (by decide +kernel))) hcB, List.forall_mem_cons.mpr ⟨str_k (hts _ (List.mem_of_getElem? (i := 513) (by decide +kernel))) hcB, List.forall_mem_cons.mpr ⟨str_k (hts _ (List.mem_of_getElem? (i := 531) (by decide +kernel))) hcB, List.forall_mem_cons.mpr ⟨str_k (hts _ (List.mem_of_getElem? (i := 535) (by decide +kernel))) hcB, List.forall_mem_cons.mpr ⟨str_k (hts _ (List.mem_of_getElem? (i := 539) (by decide +kernel))) hcB, List.forall_mem_cons.mpr ⟨str_k (hts _ (List.mem_of_getElem? (i := 557) (by decide +kernel))) hcB, List.forall_mem_cons.mpr ⟨str_k (hts _ (List.mem_of_getElem? (i := 573) (by decide +kernel))) hcB, List.forall_mem_cons.mpr ⟨str_k (hts _ (List.mem_of_getElem? (i := 574) (by decide +kernel))) hcB, List.forall_mem_cons.mpr ⟨str_k (hts _ (List.mem_of_getElem? (i := 582) (by decide +kernel))) hcB, List.forall_mem_cons.mpr ⟨str_k (hts _ (List.mem_of_getElem? (i := 609) (by decide +kernel))) hcB, List.forall_mem_cons.mpr ⟨str_k (hts _ (List.mem_of_getElem? (i := 621) (by decide +kernel))) hcB, List.forall_mem_cons.mpr ⟨str_k (hts _ (List.mem_of_getElem? (i := 626) (by decide +kernel))) hcB, List.forall_mem_cons.mpr ⟨str_k (hts _ (List.mem_of_getElem? (i := 641) (by decide +kernel))) hcB, List.forall_mem_cons.mpr ⟨str_k (hts _ (List.mem_of_getElem? (i := 659) (by decide +kernel))) hcB, List.forall_mem_cons.mpr ⟨str_k (hts _ (List.mem_of_getElem? (i := 677) (by decide +kernel))) hcB, List.forall_mem_cons.mpr ⟨str_k (hts _ (List.mem_of_getElem? (i := 678) (by decide +kernel))) hcB, List.forall_mem_cons.mpr ⟨str_k (hts _ (List.mem_of_getElem? (i := 1015) (by decide +kernel))) hcB, List.forall_mem_cons.mpr ⟨str_k (hts _ (List.mem_of_getElem? (i := 915) (by decide +kernel))) hcB, List.forall_mem_cons.mpr ⟨str_k (hts _ (List.mem_of_getElem? (i := 774) (by decide +kernel))) hcB, List.forall_mem_cons.mpr ⟨str_k (hts _ (List.mem_of_getElem? (i := 795) (by decide +kernel))) hcB, List.forall_mem_cons.mpr ⟨str_k (hts _ (List.mem_of_getElem? (i := 796) (by decide +kernel))) hcB, List.forall_mem_cons.mpr ⟨str_k (hts _ (List.mem_of_getElem? (i := 812) (by decide +kernel))) hcB, List.forall_mem_cons.mpr ⟨str_k (hts _ (List.mem_of_getElem? (i := 813) (by decide +kernel))) hcB, (fun _ h => absurd h List.not_mem_nil)⟩⟩⟩⟩⟩⟩⟩⟩⟩⟩⟩⟩⟩⟩⟩⟩⟩⟩⟩⟩⟩⟩⟩⟩⟩⟩
  · exact List.forall_mem_cons.mpr ⟨va_Nc.of (hs _ (by decide +kernel)), List.forall_mem_cons.mpr ⟨va_Nc.of (hs _ (by decide +kernel)), List.forall_mem_cons.mpr ⟨va_Nc.of (hs _ (by decide +kernel)), List.forall_mem_cons.mpr ⟨va_Nc.of (hs _ (by decide +kernel)), List.forall_mem_cons.mpr ⟨va_Nc.of (hs _ (by decide +kernel)), List.forall_mem_cons.mpr ⟨va_Nc.of (hs _ (by decide +kernel)), List.forall_mem_cons.mpr ⟨va_Nc.of (hs _ (by decide +kernel)), List.forall_mem_cons.mpr ⟨va_Nc.of (hs _ (by decide +kernel)), List.forall_mem_cons.mpr ⟨va_Nc.of (hs _ (by decide +kernel)), List.forall_mem_cons.mpr ⟨va_Nc.of (hs _ (by decide +kernel)), List.forall_mem_cons.mpr ⟨va_Nc.of (hs _ (by decide +kernel)), List.forall_mem_cons.mpr ⟨va_Nc.of (hs _ (by decide +kernel)), List.forall_mem_cons.mpr ⟨va_Nc.of (hs _ (by decide +kernel)), List.forall_mem_cons.mpr ⟨va_Nc.of (hs _ (by decide +kernel)), List.forall_mem_cons.mpr ⟨va_Nc.of (hs _ (by decide +kernel)), List.forall_mem_cons.mpr ⟨va_Nc.of (hs _ (by decide +kernel)), List.forall_mem_cons.mpr ⟨va_Nc.of (hs _ (by decide +kernel)), List.forall_mem_cons.mpr ⟨va_Nc.of (hs _ (by decide +kernel)), List.forall_mem_cons.mpr ⟨va_Nc.of (hs _ (by decide +kernel)), List.forall_mem_cons.mpr ⟨va_Nc.of (hs _ (by decide +kernel)), (fun _ h => absurd h List.not_mem_nil)⟩⟩⟩⟩⟩⟩⟩⟩⟩⟩⟩⟩⟩⟩⟩⟩⟩⟩⟩⟩
  · show l.stackTraces = false
    unfold Launch.stackTraces
    rw [hflags]
    decide +kernel
/-- the end of the walk is the end that is asked for -/
theorem law_conv {G : Gx} {s t : State} {below : List Frame} {b : Nat} (hG : G.2.2.2.1 = fun q : Nat => s.heap.size ≤ q) (h : vx_MQ below (QJ G QL) (XQ G QL) #[Value.ref b] s 600074 7301550 G.2.2.2.1 t) : lw_Z below #[Value.ref b] s t := by
  obtain ⟨o, h1, h2, h3⟩ := h
  rcases h3 with ⟨⟨⟨v, w', rfl, e2, -⟩, -⟩, J, hF, hfree⟩ | ⟨q, -, E, ce, J, ⟨⟨w', e2, -⟩, -⟩, -⟩
  · have e2 : (.inl v : XRes) = .inl (some (.int 1)) := e2
    cases e2
    obtain ⟨g1, g2, g3⟩ := hF
    have g4 : s.sameButNew ({ t with vm := s.vm } : State) ([] ++ J) 600074 7301550 := g3
    have g5 := State.sameButNew.drop_fresh g4 (fun x hx => by have := hfree x hx; rw [hG] at this; exact this)
    exact ⟨_, h1, h2, rfl, lw_closed (d0 := s.drawn) (Drawn.sameBut.refl s.drawn lw_cs) ⟨_, rfl⟩ g2 g5⟩
  · exact nomatch (show (.inr E : XRes) = .inl (some (.int 1)) from e2)
theorem whole_start {p : Program} {e : Env} {s : State} {m : MethodId} {below : List Frame} {meth : Method} {c : Code} (l : Launch) (hflags : l.flags = flags0) {b L : Nat} {xs : Nat → Int32} (hL : L ≤ 260) (C0 : lw_At p s m meth c b L xs) : W p l e room_1 s m #[Value.ref b] below meth c s.heap [] 0 0 (lw_Z below #[Value.ref b] s) (entryFrame m ([Value.ref b] : List Value).toArray 25) := by
  obtain ⟨D, K, hG⟩ := sg_start l hflags C0
  obtain ⟨hx, hb, hr, hml, hown, hts, hX, hbl, hlocks, hgv⟩ := id C0
  have hl := lv_entry ([.ref b]) (n := 25) (Nat.le_of_ble_eq_true rfl)
  rw [lg_entry_eq]
  have hw : WG (l, D, K, (fun q : Nat => s.heap.size ≤ q), b, L, xs) (lw [] []) s.heap := ⟨fun k q h => by simp [xw, lw] at h, ⟨fun i j p q h => by simp [xw, lw] at h, fun k q h => by simp [xw, lw] at h⟩⟩
  have hJ := law_start (G := (l, D, K, (fun q : Nat => s.heap.size ≤ q), b, L, xs)) (nm := meth.name) (hh := c.exceptionTable.toList.map fun h => (h.startPc, h.endPc, h.handlerPc, h.catchType)) hL
  have hW := hJ p e room_1 s m #[Value.ref b] below meth c ⟨hG, hx, hb, hml, hown, fun w hw => hts w (List.mem_filter.mp hw).1, hr, hlocks, rfl, by decide, by decide, (table_eq _).symm⟩ 600074 7301550 s.heap [] 0 0 _ (by decide) (by decide) (by decide) (by decide) hw va_S.rf hl
  intro T hT X
  obtain ⟨t, st, hq⟩ := hW T hT X
  exact ⟨t, st, law_conv rfl hq⟩
