/-! NEW, cut and scrapped lines: their cells, told with free numbers -/
section LinesSt
variable {G : Gx} {w w0 : Wd} {K : Nat → ClassId} {L L' : LSt}
theorem XL_xNew (h : XL K w L) : XL K (xNew K w L') L' := ⟨⟨h.1.1, rfl⟩, ⟨h.2.1.1, rfl⟩, ⟨h.2.2.1.1, rfl⟩, ⟨h.2.2.2.1.1, rfl⟩, ⟨h.2.2.2.2.1.1, rfl⟩, ⟨h.2.2.2.2.2.1.1, rfl⟩, ⟨h.2.2.2.2.2.2.1.1, rfl⟩, ⟨h.2.2.2.2.2.2.2.1.1, rfl⟩, ⟨h.2.2.2.2.2.2.2.2.1.1, rfl⟩, ⟨h.2.2.2.2.2.2.2.2.2.1, rfl⟩⟩
theorem XS_xNew (h : XS K w L) : XS K (xNew K w L') L' := ⟨⟨h.1.1, rfl⟩, ⟨h.2.1, rfl⟩⟩
theorem XL_la (h : XL K w L) {f : Nat → Nat} : XL K (setM w 13 (aI K 40 (nf f))) (ln L, pa L, po L, ch L, qt L, sc L, fi L, f, op L, cs L) :=
  ⟨h.1, h.2.1, h.2.2.1, h.2.2.2.1, h.2.2.2.2.1, h.2.2.2.2.2.1, h.2.2.2.2.2.2.1, ⟨h.2.2.2.2.2.2.2.1.1, rfl⟩, h.2.2.2.2.2.2.2.2.1, h.2.2.2.2.2.2.2.2.2⟩
theorem XL_sc (h : XL K w L) {f : Nat → Nat} : XL K (setM w 11 (aI K 40 (nf f))) (ln L, pa L, po L, ch L, qt L, f, fi L, la L, op L, cs L) :=
  ⟨h.1, h.2.1, h.2.2.1, h.2.2.2.1, h.2.2.2.2.1, ⟨h.2.2.2.2.2.1.1, rfl⟩, h.2.2.2.2.2.2.1, h.2.2.2.2.2.2.2.1, h.2.2.2.2.2.2.2.2.1, h.2.2.2.2.2.2.2.2.2⟩
theorem XS_la (h : XS K w L) {f : Nat → Nat} {e : va_E} : XS K (setM w 13 e) (ln L, pa L, po L, ch L, qt L, sc L, fi L, f, op L, cs L) := h
theorem XS_sc (h : XS K w L) {f : Nat → Nat} {e : va_E} : XS K (setM w 11 e) (ln L, pa L, po L, ch L, qt L, f, fi L, la L, op L, cs L) := h
theorem ML_la (h : ML K w L) {f : Nat → Nat} {e : va_E} : ML K (setM (setM w 39 e) 48 (aI K 40 (nf f))) (ln L, pa L, po L, ch L, qt L, sc L, fi L, f, op L, cs L) :=
  ⟨h.1, h.2.1, h.2.2.1, h.2.2.2.1, h.2.2.2.2.1, ⟨h.2.2.2.2.2.1.1, rfl⟩, h.2.2.2.2.2.2.1, h.2.2.2.2.2.2.2.1, h.2.2.2.2.2.2.2.2⟩
theorem ML_sc (h : ML K w L) {f : Nat → Nat} {e : va_E} : ML K (setM (setM w 39 e) 49 (aI K 40 (nf f))) (ln L, pa L, po L, ch L, qt L, f, fi L, la L, op L, cs L) :=
  ⟨h.1, h.2.1, h.2.2.1, h.2.2.2.1, h.2.2.2.2.1, h.2.2.2.2.2.1, ⟨h.2.2.2.2.2.2.1.1, rfl⟩, h.2.2.2.2.2.2.2.1, h.2.2.2.2.2.2.2.2⟩
theorem ML_mPut {np nl no nm nw en : Nat} (h : ML K w L) : ML K (mPut K w L' np nl no nm nw en) L' := ⟨⟨h.1.1, rfl⟩, ⟨h.2.1.1, rfl⟩, ⟨h.2.2.1.1, rfl⟩, ⟨h.2.2.2.1.1, rfl⟩, ⟨h.2.2.2.2.1.1, rfl⟩, ⟨h.2.2.2.2.2.1.1, rfl⟩, ⟨h.2.2.2.2.2.2.1.1, rfl⟩, ⟨h.2.2.2.2.2.2.2.1.1, rfl⟩, ⟨h.2.2.2.2.2.2.2.2.1, rfl⟩⟩
theorem M0_mPut {t np nl no nm nw en : Nat} (h : M0 w t np nl no nm nw en) : M0 (mPut K w L' np nl no nm nw en) 0 np (nl + 1) no nm nw en := ⟨h.1, rfl⟩
/-- a line replaced: what came on top of the new line -/
theorem XL_rep {j s c q : Nat} (h : XL K w L) : XL K (setM (setM (xNew K w (newL L (pa L j) (po L j) c q 0 s (la L j) (op L j) (cs L j))) 11 (aI K 40 (nf (sc (repL L j s c q))))) 13 (aI K 40 (nf (la (repL L j s c q))))) (repL L j s c q) := by
  have g : XL K (xNew K w (newL L (pa L j) (po L j) c q 0 s (la L j) (op L j) (cs L j))) (newL L (pa L j) (po L j) c q 0 s (la L j) (op L j) (cs L j)) := XL_xNew h
  obtain ⟨g1, g2, g3, g4, g5, g6, g7, g8, g9, g10⟩ := g
  generalize hw : xNew K w (newL L (pa L j) (po L j) c q 0 s (la L j) (op L j) (cs L j)) = w1 at *
  exact ⟨g1, g2, g3, g4, g5, ⟨g6.1, rfl⟩, g7, ⟨g8.1, rfl⟩, g9, g10⟩
theorem XS_rep {j s c q : Nat} {e e' : va_E} (h : XS K w L) : XS K (setM (setM (xNew K w (newL L (pa L j) (po L j) c q 0 s (la L j) (op L j) (cs L j))) 11 e) 13 e') (repL L j s c q) := by
  have g : XS K (xNew K w (newL L (pa L j) (po L j) c q 0 s (la L j) (op L j) (cs L j))) (newL L (pa L j) (po L j) c q 0 s (la L j) (op L j) (cs L j)) := XS_xNew h
  obtain ⟨g1, g2⟩ := g
  generalize hw : xNew K w (newL L (pa L j) (po L j) c q 0 s (la L j) (op L j) (cs L j)) = w1 at *
  exact ⟨g1, g2⟩
theorem ML_rep {j s c q np nl no nm nw en : Nat} (h : ML K w L) : ML K (setM (setM (mPut K w (newL L (pa L j) (po L j) c q 0 s (la L j) (op L j) (cs L j)) np nl no nm nw en) 49 (aI K 40 (nf (sc (repL L j s c q))))) 48 (aI K 40 (nf (la (repL L j s c q))))) (repL L j s c q) := by
  have g : ML K (mPut K w (newL L (pa L j) (po L j) c q 0 s (la L j) (op L j) (cs L j)) np nl no nm nw en) (newL L (pa L j) (po L j) c q 0 s (la L j) (op L j) (cs L j)) := ML_mPut h
  obtain ⟨g1, g2, g3, g4, g5, g6, g7, g8, g9⟩ := g
  generalize hw : mPut K w (newL L (pa L j) (po L j) c q 0 s (la L j) (op L j) (cs L j)) np nl no nm nw en = w1 at *
  exact ⟨g1, g2, g3, g4, g5, ⟨g6.1, rfl⟩, ⟨g7.1, rfl⟩, g8, g9⟩
theorem M0_rep {t np nl no nm nw en : Nat} {L1 : LSt} {e e' : va_E} (h : M0 w t np nl no nm nw en) : M0 (setM (setM (mPut K w L1 np nl no nm nw en) 49 e) 48 e') 0 np (nl + 1) no nm nw en := ⟨h.1, rfl⟩
theorem cdH_lt {a s : Int32} {np mp : Nat} (h : cdH a s np mp = 0) : idx a < mp := by
  by_cases h1 : cdA a s np = 0
  · by_cases h2 : idx a < mp
    · exact h2
    · rw [cdH_3 h1 h2] at h; cases h
  · rw [cdH_n h1] at h; exact absurd h h1
theorem xr_nz {cd : Nat} {es : List String} {v v' : Value} (h : cd ≠ 0) : xr cd es v = xr cd es v' := by
  cases cd with
  | zero => exact absurd rfl h
  | succ k => rfl
end LinesSt
