/-! THE LAW, its parts (walks by gen/spec87.py) -/
section InitQ
variable {G : Gx} {w : Wd}
/-- the kinds of the law's parts -/
def kdN (j : Nat) : Nat := if j < 2 then 109 else if j = 4 then 112 else 98
theorem b5 {v : Nat} (h : v < 5000) : btw (nI v) 0 99999 = true := by
  rw [show (0 : Int32) = nI 0 from rfl, c99999, btw_of (by omega) (by decide) (by decide), decide_eq_true (Nat.zero_le v), decide_eq_true (show v ≤ 99999 by omega)]; rfl
theorem kd_up {P : PSt} {n kd : Nat} {a b : Nat → Nat} (hP : P.1 = n) (h : ∀ j, j < n → P.2.1 j = kdN j) (hk : kd = kdN n) : ∀ j, j < n + 1 → ((P.1 + 1, va_up P.2.1 P.1 kd, a, b) : PSt).2.1 j = kdN j := by
  intro j hj
  show va_up P.2.1 P.1 kd j = kdN j
  by_cases e : j = n
  · rw [e, hP, va_up_self, hk]
  · rw [hP, va_up_ne _ _ e]; exact h j (by omega)
theorem kd_KD {P : PSt} (h : ∀ j, j < 6 → P.2.1 j = kdN j) : KD P := by
  intro p hp hk
  rw [h p hp, kdN] at hk
  split at hk
  · exact absurd hk (by decide)
  · split at hk
    · assumption
    · exact absurd hk (by decide)
set_option maxRecDepth 20000 in
theorem law_79 {nm : String} {hh : List (Nat × Nat × Nat × Nat)} {P : PSt} {L : LSt} {pr : Nat → Nat} {O : OSt} {mp : Nat} {mk : Nat → UInt32} {a0 a1 a2 a3 a4 : Nat} {f1 f2 f3 f4 : Nat → Int32} {kd n gA gB : Nat} (hL : G.2.2.2.2.2.1 < 2 ^ 31) (hIP : IP P L pr O mp mk []) (hP : P.1 = n) (hkn : ∀ j, j < n → P.2.1 j = kdN j) (n6 : n < 6) (hk : kd = kdN n) (hkd : isK (nI kd) = true) (hk16 : kd < 65536) (hn : ∀ (P' : PSt) (w2 : Wd), IP P' L pr O mp mk [] → P'.1 = n + 1 → (∀ j, j < n + 1 → P'.2.1 j = kdN j) → ST 0 G.2.2.1 w2 P' L pr O mp mk → LR 43 G.2.2.1 w2 a0 a1 a2 a3 a4 f1 f2 f3 f4 → XJ G (mLaw nm hh) 40 gA gB 45 [(0, .ref G.2.2.2.2.1), (1, .ref a0), (2, .ref a1), (3, .ref a2), (4, .ref a3), (5, .ref a4), (6, .int (nI (ln L))), (7, .int (nI O.1)), (8, .int 1), (9, .int (nI (2 * (n + 1)))), (10, .int (nI (n + 1)))] [] w2 QL) {w1 : Wd} (hS : ST 0 G.2.2.1 w1 P L pr O mp mk) (hR : LR 43 G.2.2.1 w1 a0 a1 a2 a3 a4 f1 f2 f3 f4) : XJ G (mLaw nm hh) 40 (4 + gA) (24 + gB) 79 [(0, .ref G.2.2.2.2.1), (1, .ref a0), (2, .ref a1), (3, .ref a2), (4, .ref a3), (5, .ref a4), (6, .int (nI (ln L))), (7, .int (nI O.1)), (8, .int 1), (9, .int (nI (2 * n))), (10, .int (nI n))] [.int (nI kd), .ref a0, .int 1] w1 QL := by
  refine X_aload_n dL_law_79 (i := 0) rfl rfl ?_
  refine X_iload dL_law_80 (i := 9) rfl ?_
  refine X_sipush (v := 5000) dL_law_82 (by decide) ?_
  refine X_callS (gc2 := (4 + gA)) (gs2 := (24 + gB)) (j_pick hL (2 * n) 5000 (by omega) (by decide) (by decide)) kmL_pick rfl lL_146 sL_pick rfl rfl (Nat.le_of_ble_eq_true rfl) (by decide) dL_law_85 (by omega) (by omega) (fun E w1 hq => (by obtain ⟨⟨_, _, hx⟩, -⟩ := hq; cases hx)) (fun v w1 hq => ?_)
  obtain ⟨⟨va, hva, hvv⟩, hww⟩ := hq
  subst hww
  cases hvv
  refine X_aload_n dL_law_88 (i := 0) rfl rfl ?_
  refine X_iload dL_law_89 (i := 9) rfl ?_
  refine X_iconst (v := 1) dL_law_91 (by decide) ?_
  refine X_iadd dL_law_92 ?_
  refine XJ.top (v' := .int (nI (2 * n + 1))) (congrArg Value.int (nI_add (2 * n) 1)) ?_
  refine X_sipush (v := 5000) dL_law_93 (by decide) ?_
  refine X_callS (gc2 := (4 + gA)) (gs2 := (24 + gB)) (j_pick hL (2 * n + 1) 5000 (by omega) (by decide) (by decide)) kmL_pick rfl lL_146 sL_pick rfl rfl (Nat.le_of_ble_eq_true rfl) (by decide) dL_law_96 (by omega) (by omega) (fun E w1 hq => (by obtain ⟨⟨_, _, hx⟩, -⟩ := hq; cases hx)) (fun v w1 hq => ?_)
  obtain ⟨⟨vb, hvb, hvv⟩, hww⟩ := hq
  subst hww
  cases hvv
  refine X_callSW (gc2 := (0 + gA)) (gs2 := (0 + gB)) (h_addPart hR.e0 hS hIP kd hk16 (nI va) (nI vb)) kmL_addPart rfl lL_150 sL_addPart rfl rfl (Nat.le_of_ble_eq_true rfl) (by decide) dL_law_99 (by omega) (by omega) (fun E w1 hq => nomatch hq.1) (fun v w1 hq => ?_)
  have hvv := hq.1
  have hS := hq.2.1
  have hR := hR.fx hq.2.2
  cases hvv
  have hcd : cdAdd (nI kd) (nI va) (nI vb) P.1 = 0 := by
    rw [cdAdd, hkd, b5 hva, b5 hvb, if_neg (show ¬ P.1 = 16 by omega)]; rfl
  have hIP2 := ip_addPart hIP kd hk16 (nI va) (nI vb)
  rw [addP_0 hcd] at hS hIP2
  refine XJ.top (v' := .int (nI n)) (by rw [hv_0 hcd, hP]) ?_
  refine X_iload dL_law_102 (i := 10) rfl ?_
  refine X_icmp_ne (tgt := 111) dL_law_104 (by decide) (fun h104 => ?_) (fun h104 => ?_)
  · exact absurd rfl h104
  refine X_iconst (v := 1) dL_law_107 (by decide) ?_
  refine X_goto (tgt := 112) dL_law_108 (by decide) ?_
  refine X_iand dL_law_112 ?_
  refine XJ.top (v' := .int 1) (by decide) ?_
  refine X_istore (i := 8) (lo' := [(8, _), (0, _), (1, _), (2, _), (3, _), (4, _), (5, _), (6, _), (7, _), (9, _), (10, _)]) dL_law_113 (Nat.le_of_ble_eq_true rfl) rfl ?_
  refine X_iinc (i := 9) (v := nI (2 * (n + 1))) (lo' := [(9, _), (8, _), (0, _), (1, _), (2, _), (3, _), (4, _), (5, _), (6, _), (7, _), (10, _)]) dL_law_115 rfl (by rw [show Int32.ofInt 2 = nI 2 from rfl, nI_add]; rfl) (Nat.le_of_ble_eq_true rfl) rfl ?_
  refine X_iinc (i := 10) (v := nI (n + 1)) (lo' := [(10, _), (9, _), (8, _), (0, _), (1, _), (2, _), (3, _), (4, _), (5, _), (6, _), (7, _)]) dL_law_118 rfl (nI_inc n) (Nat.le_of_ble_eq_true rfl) rfl ?_
  refine X_goto (tgt := 45) dL_law_121 (by decide) ?_
  exact XJ.less (by omega) (by omega) (XJ.lcs (lo' := [(0, .ref G.2.2.2.2.1), (1, .ref a0), (2, .ref a1), (3, .ref a2), (4, .ref a3), (5, .ref a4), (6, .int (nI (ln L))), (7, .int (nI O.1)), (8, .int 1), (9, .int (nI (2 * (n + 1)))), (10, .int (nI (n + 1)))]) ⟨rfl, rfl, rfl, rfl, rfl, rfl, rfl, rfl, rfl, rfl, rfl, trivial⟩ (hn _ _ hIP2 (by rw [hP]) (kd_up hP hkn hk) hS hR))
set_option maxRecDepth 20000 in
theorem law_init {nm : String} {hh : List (Nat × Nat × Nat × Nat)} {L : LSt} {pr : Nat → Nat} {O : OSt} {mp : Nat} {mk : Nat → UInt32} {a0 a1 a2 a3 a4 : Nat} {f1 f2 f3 f4 : Nat → Int32} {gA gB : Nat} (hL : G.2.2.2.2.2.1 < 2 ^ 31) (hf : ∀ (P' : PSt) (w2 : Wd), IP P' L pr O mp mk [] → P'.1 = 6 → KD P' → ST 0 G.2.2.1 w2 P' L pr O mp mk → LR 43 G.2.2.1 w2 a0 a1 a2 a3 a4 f1 f2 f3 f4 → XJ G (mLaw nm hh) 40 gA gB 124 [(0, .ref G.2.2.2.2.1), (1, .ref a0), (2, .ref a1), (3, .ref a2), (4, .ref a3), (5, .ref a4), (6, .int (nI (ln L))), (7, .int (nI O.1)), (8, .int 1), (9, .int (nI 12))] [] w2 QL) : ∀ (i n : Nat) (P : PSt) (w1 : Wd), 6 - n < i → n ≤ 6 → IP P L pr O mp mk [] → P.1 = n → (∀ j, j < n → P.2.1 j = kdN j) → ST 0 G.2.2.1 w1 P L pr O mp mk → LR 43 G.2.2.1 w1 a0 a1 a2 a3 a4 f1 f2 f3 f4 → XJ G (mLaw nm hh) 40 (4 * i + gA) (24 * i + gB) 45 [(0, .ref G.2.2.2.2.1), (1, .ref a0), (2, .ref a1), (3, .ref a2), (4, .ref a3), (5, .ref a4), (6, .int (nI (ln L))), (7, .int (nI O.1)), (8, .int 1), (9, .int (nI (2 * n))), (10, .int (nI n))] [] w1 QL := by
  intro i
  induction i with
  | zero => intro n P w1 hm; exact absurd hm (Nat.not_lt_zero _)
  | succ i ih =>
    intro n P w1 hm hn6 hIP hP hkn hS hR
    refine X_iload dL_law_45 (i := 10) rfl ?_
    refine X_bipush (v := 6) dL_law_47 (by decide) ?_
    refine X_icmp_ge (tgt := 124) dL_law_49 (by decide) (fun h49 => ?_) (fun h49 => ?_)
    · have e6 : n = 6 := ge6 (by decide) hn6 h49
      subst e6
      exact XJ.less (by omega) (by omega) (XJ.lcs (lo' := [(0, .ref G.2.2.2.2.1), (1, .ref a0), (2, .ref a1), (3, .ref a2), (4, .ref a3), (5, .ref a4), (6, .int (nI (ln L))), (7, .int (nI O.1)), (8, .int 1), (9, .int (nI 12))]) ⟨rfl, rfl, rfl, rfl, rfl, rfl, rfl, rfl, rfl, rfl, trivial⟩ (hf P _ hIP hP (kd_KD hkn) hS hR))
    · have n6 : n < 6 := lt6 (by decide) hn6 h49
      refine X_iload dL_law_52 (i := 8) rfl ?_
      refine X_aload_n dL_law_54 (i := 1) rfl rfl ?_
      refine X_iload dL_law_55 (i := 10) rfl ?_
      refine X_iconst (v := 2) dL_law_57 (by decide) ?_
      refine X_icmp_ge (tgt := 66) dL_law_58 (by decide) (fun h58 => ?_) (fun h58 => ?_)
      · have n2 : 2 ≤ n := (nI_leI (a := 2) (by decide) (by omega)).mp h58
        refine X_iload dL_law_66 (i := 10) rfl ?_
        refine X_iconst (v := 4) dL_law_68 (by decide) ?_
        refine X_icmp_ne (tgt := 77) dL_law_69 (by decide) (fun h69 => ?_) (fun h69 => ?_)
        · have n4 : n ≠ 4 := fun e => h69 (by rw [e]; rfl)
          refine X_bipush (v := 98) dL_law_77 (by decide) ?_
          exact XJ.less (gc' := 4 + (4 * i + gA)) (gs' := 24 + (24 * i + gB)) (by omega) (by omega) (law_79 (kd := 98) hL hIP hP hkn n6 (by rw [kdN]; rw [if_neg (by omega), if_neg n4]) (by decide) (by decide) (fun P' w2 b1 b2 b3 b4 b5 => ih (n + 1) P' w2 (by omega) (by omega) b1 b2 b3 b4 b5) hS hR)
        · have n4 : n = 4 := (nI_eq (b := 4) (by omega) (by decide)).mp h69
          refine X_bipush (v := 112) dL_law_72 (by decide) ?_
          refine X_goto (tgt := 79) dL_law_74 (by decide) ?_
          exact XJ.less (gc' := 4 + (4 * i + gA)) (gs' := 24 + (24 * i + gB)) (by omega) (by omega) (law_79 (kd := 112) hL hIP hP hkn n6 (by rw [kdN]; rw [if_neg (by omega), if_pos n4]) (by decide) (by decide) (fun P' w2 b1 b2 b3 b4 b5 => ih (n + 1) P' w2 (by omega) (by omega) b1 b2 b3 b4 b5) hS hR)
      · have n2 : n < 2 := by
          rcases Nat.lt_or_ge n 2 with h | h
          · exact h
          · exact absurd ((nI_leI (a := 2) (by decide) (by omega)).mpr h) h58
        refine X_bipush (v := 109) dL_law_61 (by decide) ?_
        refine X_goto (tgt := 79) dL_law_63 (by decide) ?_
        exact XJ.less (gc' := 4 + (4 * i + gA)) (gs' := 24 + (24 * i + gB)) (by omega) (by omega) (law_79 (kd := 109) hL hIP hP hkn n6 (by rw [kdN]; rw [if_pos n2]) (by decide) (by decide) (fun P' w2 b1 b2 b3 b4 b5 => ih (n + 1) P' w2 (by omega) (by omega) b1 b2 b3 b4 b5) hS hR)
end InitQ
