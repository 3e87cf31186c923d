/-! WHAT A CALL KEEPS, and the law's helpers (walks by gen/spec68.py) -/
section Helpers
variable {G : Gx} {w : Wd}
theorem bif_le {b : Bool} {x y n : Nat} (hx : x ≤ n) (hy : y ≤ n) : (bif b then x else y) ≤ n := by cases b; exact hy; exact hx
theorem ite_le' {i j : Nat} {x y n : Nat} (hx : x ≤ n) (hy : y ≤ n) : (if i = j then x else y) ≤ n := by split; exact hx; exact hy
theorem cdL_le {L : LSt} {p c : Nat} {b : Bool} : cdL L p c b ≤ 4 := by
  unfold cdL
  repeat (first | exact Nat.zero_le _ | decide | refine bif_le ?_ ?_ | split)
theorem cdAdd_le {k c g : Int32} {n : Nat} : cdAdd k c g n ≤ 2 := by
  unfold cdAdd
  repeat (first | exact cdL_le | exact Nat.zero_le _ | decide | refine bif_le ?_ ?_ | split)
theorem cdPC_le {p c : Int32} {n : Nat} : cdPC p c n ≤ 2 := by
  unfold cdPC
  repeat (first | exact cdL_le | exact Nat.zero_le _ | decide | refine bif_le ?_ ?_ | split)
theorem cdPK_le {p k : Int32} {n : Nat} : cdPK p k n ≤ 2 := by
  unfold cdPK
  repeat (first | exact cdL_le | exact Nat.zero_le _ | decide | refine bif_le ?_ ?_ | split)
theorem cdP_le {p : Int32} {n : Nat} : cdP p n ≤ 1 := by
  unfold cdP
  repeat (first | exact cdL_le | exact Nat.zero_le _ | decide | refine bif_le ?_ ?_ | split)
theorem cdAL_le {np : Nat} {L : LSt} {p k c q a b : Int32} : cdAL np L p k c q a b ≤ 4 := by
  unfold cdAL
  repeat (first | exact cdL_le | exact Nat.zero_le _ | decide | refine bif_le ?_ ?_ | split)
theorem cdAV_le {np : Nat} {L : LSt} {p k c q a b : Int32} : cdAV np L p k c q a b ≤ 4 := by
  unfold cdAV
  repeat (first | exact cdL_le | exact Nat.zero_le _ | decide | refine bif_le ?_ ?_ | split)
theorem cdRF_le {np : Nat} {L : LSt} {l s c q : Int32} : cdRF np L l s c q ≤ 4 := by
  unfold cdRF
  repeat (first | exact cdL_le | exact Nat.zero_le _ | decide | refine bif_le ?_ ?_ | split)
theorem cdEB_le {L : LSt} {l s : Int32} : cdEB L l s ≤ 2 := by
  unfold cdEB
  repeat (first | exact cdL_le | exact Nat.zero_le _ | decide | refine bif_le ?_ ?_ | split)
theorem cdSS_le {L : LSt} {l s : Int32} : cdSS L l s ≤ 2 := by
  unfold cdSS
  repeat (first | exact cdL_le | exact Nat.zero_le _ | decide | refine bif_le ?_ ?_ | split)
theorem cdA_le {p s : Int32} {n : Nat} : cdA p s n ≤ 2 := by
  unfold cdA
  repeat (first | exact cdL_le | exact Nat.zero_le _ | decide | refine bif_le ?_ ?_ | split)
theorem cdSC_le {a b : Int32} : cdSC a b ≤ 2 := by
  unfold cdSC
  repeat (first | exact cdL_le | exact Nat.zero_le _ | decide | refine bif_le ?_ ?_ | split)
theorem cdC_le {a : Int32} : cdC a ≤ 1 := by
  unfold cdC
  repeat (first | exact cdL_le | exact Nat.zero_le _ | decide | refine bif_le ?_ ?_ | split)
theorem cdQ_le {a b s : Int32} {n : Nat} : cdQ a b s n ≤ 2 := by
  unfold cdQ
  repeat (first | exact cdL_le | exact Nat.zero_le _ | decide | refine bif_le ?_ ?_ | split)
theorem cdM_le {a : Int32} : cdM a ≤ 1 := by
  unfold cdM
  repeat (first | exact cdL_le | exact Nat.zero_le _ | decide | refine bif_le ?_ ?_ | split)
theorem cdO_le {p s u : Int32} {np no : Nat} : cdO p s u np no ≤ 3 := by
  unfold cdO
  repeat (first | exact cdL_le | exact Nat.zero_le _ | decide | refine bif_le ?_ ?_ | split)
theorem cdX_le {o : Int32} {O : OSt} : cdX o O ≤ 2 := by
  unfold cdX
  repeat (first | exact cdL_le | exact Nat.zero_le _ | decide | refine bif_le ?_ ?_ | split)
theorem cdI_le {i : Int32} {n : Nat} : cdI i n ≤ 3 := by
  unfold cdI
  repeat (first | exact cdL_le | exact Nat.zero_le _ | decide | refine bif_le ?_ ?_ | split)
theorem cdLP_le {a s i : Int32} {np n : Nat} : cdLP a s i np n ≤ 3 := by
  by_cases h : cdA a s np = 0
  · rw [cdLP_0 h]; exact cdI_le
  · rw [cdLP_n h]; exact Nat.le_trans cdA_le (by decide)
theorem cdD_le {a s : Int32} {np : Nat} {d : Option Nat} : cdD a s np d ≤ 3 := by
  by_cases h : cdA a s np = 0
  · cases d with
    | none => rw [cdD_3 h]; decide
    | some b => rw [cdD_0 h]; decide
  · rw [cdD_n h]; exact Nat.le_trans cdA_le (by decide)
theorem cdH_le {a s : Int32} {np mp : Nat} : cdH a s np mp ≤ 3 := by
  by_cases h : cdA a s np = 0
  · by_cases h2 : idx a < mp
    · rw [cdH_0 h h2]; decide
    · rw [cdH_3 h h2]; decide
  · rw [cdH_n h]; exact Nat.le_trans cdA_le (by decide)
theorem LI_up {np : Nat} {L : LSt} (h : LW np L) (hn : np + 1 ≤ 16) : LW (np + 1) L := ⟨⟨hn, h.1.2.1, fun j hj => by
  have hb := h.1.2.2 j hj
  exact ⟨by omega, hb.2.1, by have := hb.2.2.1; omega, hb.2.2.2⟩⟩, h.2⟩
theorem OI_up {np : Nat} {O : OSt} (h : OI np O) : OI (np + 1) O := ⟨h.1, fun k hk => by
  have hb := h.2.1 k hk
  exact ⟨by omega, hb.2⟩, h.2.2⟩
theorem btw_le {x : Int32} (h : btw x 0 99999 = true) : idx x ≤ 99999 := (btw_i (lo := 0) (hi := 99999) (by decide) (by decide) h).2
theorem cdAdd_iv {k c g : Int32} {n : Nat} (h : cdAdd k c g n = 0) : isK k = true ∧ btw c 0 99999 = true ∧ btw g 0 99999 = true ∧ n ≠ 16 := by
  unfold cdAdd at h
  cases h1 : isK k && (btw c 0 99999 && btw g 0 99999) with
  | false => rw [h1] at h; cases h
  | true =>
    rw [h1] at h
    simp only [Bool.and_eq_true] at h1
    refine ⟨h1.1, h1.2.1, h1.2.2, fun e => ?_⟩
    have h : (if n = 16 then 2 else 0) = 0 := h
    rw [if_pos e] at h; cases h
theorem cdPC_iv {p c : Int32} {n : Nat} (h : cdPC p c n = 0) : inP p n = true ∧ btw c 0 99999 = true := by
  unfold cdPC at h
  cases h1 : inP p n with
  | false => rw [h1] at h; cases h
  | true =>
    rw [h1] at h
    cases h2 : btw c 0 99999 with
    | false => rw [h2] at h; cases h
    | true => exact ⟨rfl, rfl⟩
theorem cdPK_iv {p k : Int32} {n : Nat} (h : cdPK p k n = 0) : inP p n = true ∧ isK k = true := by
  unfold cdPK at h
  cases h1 : inP p n with
  | false => rw [h1] at h; cases h
  | true =>
    rw [h1] at h
    cases h2 : isK k with
    | false => rw [h2] at h; cases h
    | true => exact ⟨rfl, rfl⟩
theorem cdSC_iv {a b : Int32} (h : cdSC a b = 0) : btw a 0 3 = true ∧ btw b 0 3 = true := by
  unfold cdSC at h
  cases h1 : btw a 0 3 with
  | false => rw [h1] at h; cases h
  | true =>
    rw [h1] at h
    cases h2 : btw b 0 3 with
    | false => rw [h2] at h; cases h
    | true => exact ⟨rfl, rfl⟩
theorem cdO_iv {p s u : Int32} {np no : Nat} (h : cdO p s u np no = 0) : inP p np = true ∧ btw s 1 999 = true ∧ btw u 1 999 = true ∧ no ≠ 8 := by
  unfold cdO at h
  cases h1 : inP p np with
  | false => rw [h1] at h; cases h
  | true =>
    rw [h1] at h
    cases h2 : btw s 1 999 && btw u 1 999 with
    | false => rw [h2] at h; cases h
    | true =>
      rw [h2] at h
      simp only [Bool.and_eq_true] at h2
      refine ⟨rfl, h2.1, h2.2, fun e => ?_⟩
      have h : (if no = 8 then 3 else 0) = 0 := h
      rw [if_pos e] at h; cases h
theorem cdEB_iv {L : LSt} {l s : Int32} (h : cdEB L l s = 0) : inP l (ln L) = true ∧ cutOK L (idx l) s = true := by
  unfold cdEB at h
  cases h1 : inP l (ln L) with
  | false => rw [h1] at h; cases h
  | true =>
    rw [h1] at h
    cases h2 : cutOK L (idx l) s with
    | false => rw [h2] at h; cases h
    | true => exact ⟨rfl, rfl⟩
theorem cdSS_iv {L : LSt} {l c : Int32} (h : cdSS L l c = 0) : inP l (ln L) = true ∧ btw c 0 50 = true := by
  unfold cdSS at h
  cases h1 : inP l (ln L) with
  | false => rw [h1] at h; cases h
  | true =>
    rw [h1] at h
    cases h2 : btw c 0 50 with
    | false => rw [h2] at h; cases h
    | true => exact ⟨rfl, rfl⟩
theorem cdX_iv {o : Int32} {O : OSt} (h : cdX o O = 0) : inP o O.1 = true := by
  unfold cdX at h
  cases h1 : inP o O.1 with
  | false => rw [h1] at h; cases h
  | true => rfl
theorem addP_0 {P : PSt} {cd k c g : Nat} (h : cd = 0) : addP P cd k c g = (P.1 + 1, va_up P.2.1 P.1 k, va_up P.2.2.1 P.1 c, va_up P.2.2.2 P.1 g) := by
  subst h; rfl
theorem addP_nn {P : PSt} {cd k c g : Nat} (h : cd ≠ 0) : addP P cd k c g = P := by
  show (addN cd P.1, upIf cd P.2.1 P.1 k, upIf cd P.2.2.1 P.1 c, upIf cd P.2.2.2 P.1 g) = P
  unfold addN upIf
  rw [if_neg h, if_neg h, if_neg h, if_neg h]
theorem up16 {f : Nat → Nat} {j k : Nat} (h : ∀ x, f x < 65536) (hk : k < 65536) : ∀ x, va_up f j k x < 65536 := fun x => by
  by_cases e : x = j
  · rw [e, up_eq]; exact hk
  · rw [up_ne e]; exact h x
theorem PI_set {n : Nat} {a b c : Nat → Nat} {a' b' c' : Nat → Nat} {j : Nat} (h : PI (n, a, b, c)) (ha : ∀ x, x ≠ j → a' x = a x) (hb : ∀ x, x ≠ j → b' x = b x) (hc : ∀ x, x ≠ j → c' x = c x) (hj : isK (nI (a' j)) = true ∧ b' j ≤ 99999 ∧ c' j ≤ 99999) : PI (n, a', b', c') := by
  refine ⟨h.1, fun x hx => ?_⟩
  by_cases e : x = j
  · subst e; exact hj
  · have := h.2 x hx
    refine ⟨?_, ?_, ?_⟩
    · show isK (nI (a' x)) = true; rw [ha x e]; exact this.1
    · show b' x ≤ 99999; rw [hb x e]; exact this.2.1
    · show c' x ≤ 99999; rw [hc x e]; exact this.2.2
theorem ip_addPart {P : PSt} {L : LSt} {pr : Nat → Nat} {O : OSt} {mp : Nat} {mk : Nat → UInt32} {T : List Nat} (h : IP P L pr O mp mk T) (k : Nat) (hk : k < 65536) (c : Int32) (g : Int32) : IP (addP P (cdAdd (nI k) c g P.1) k (idx c) (idx g)) L pr O mp mk T := by
  obtain ⟨hPI, hk16, hLW, hOI, hpr, hmp0, hmz, hT20, hch⟩ := h
  by_cases hc : cdAdd (nI k) c g P.1 = 0
  · obtain ⟨h1, h2, h3, h4⟩ := cdAdd_iv hc
    rw [addP_0 hc]
    have h16 := hPI.1
    refine ⟨⟨by show P.1 + 1 ≤ 16; omega, fun j hj => ?_⟩, up16 hk16 hk, LI_up hLW (by omega), OI_up hOI, hpr, (by show mp ≤ P.1 + 1; omega), hmz, hT20, hch⟩
    show isK (nI (va_up P.2.1 P.1 k j)) = true ∧ va_up P.2.2.1 P.1 (idx c) j ≤ 99999 ∧ va_up P.2.2.2 P.1 (idx g) j ≤ 99999
    by_cases e : j = P.1
    · rw [e, up_eq, up_eq, up_eq]; exact ⟨h1, btw_le h2, btw_le h3⟩
    · rw [up_ne e, up_ne e, up_ne e]; exact hPI.2 j (by have : j < P.1 + 1 := hj; omega)
  · rw [addP_nn hc]
    exact ⟨hPI, hk16, hLW, hOI, hpr, hmp0, hmz, hT20, hch⟩
theorem upIf_z {cd : Nat} {f : Nat → Nat} {k x : Nat} (h : cd = 0) : upIf cd f k x = va_up f k x := if_pos h
theorem upIf_k {cd : Nat} {f : Nat → Nat} {k x : Nat} (h : cd ≠ 0) : upIf cd f k x = f := if_neg h
theorem ip_setPrice {P : PSt} {L : LSt} {pr : Nat → Nat} {O : OSt} {mp : Nat} {mk : Nat → UInt32} {T : List Nat} (h : IP P L pr O mp mk T) (p : Int32) (c : Int32) : IP ((P.1, P.2.1, upIf (cdPC p c P.1) P.2.2.1 (idx p) (idx c), P.2.2.2)) L pr O mp mk T := by
  obtain ⟨hPI, hk16, hLW, hOI, hpr, hmp0, hmz, hT20, hch⟩ := h
  by_cases hc : cdPC p c P.1 = 0
  · obtain ⟨h1, h2⟩ := cdPC_iv hc
    have h16 := hPI.1
    have hi := inP_i (by omega) h1
    rw [upIf_z hc]
    exact ⟨PI_set (j := idx p) hPI (fun _ _ => rfl) (fun x hx => up_ne hx) (fun _ _ => rfl) ⟨(hPI.2 _ hi).1, by rw [up_eq]; exact btw_le h2, (hPI.2 _ hi).2.2⟩, hk16, hLW, hOI, hpr, hmp0, hmz, hT20, hch⟩
  · rw [upIf_k hc]
    exact ⟨hPI, hk16, hLW, hOI, hpr, hmp0, hmz, hT20, hch⟩
theorem ip_setGrams {P : PSt} {L : LSt} {pr : Nat → Nat} {O : OSt} {mp : Nat} {mk : Nat → UInt32} {T : List Nat} (h : IP P L pr O mp mk T) (p : Int32) (c : Int32) : IP ((P.1, P.2.1, P.2.2.1, upIf (cdPC p c P.1) P.2.2.2 (idx p) (idx c))) L pr O mp mk T := by
  obtain ⟨hPI, hk16, hLW, hOI, hpr, hmp0, hmz, hT20, hch⟩ := h
  by_cases hc : cdPC p c P.1 = 0
  · obtain ⟨h1, h2⟩ := cdPC_iv hc
    have h16 := hPI.1
    have hi := inP_i (by omega) h1
    rw [upIf_z hc]
    exact ⟨PI_set (j := idx p) hPI (fun _ _ => rfl) (fun _ _ => rfl) (fun x hx => up_ne hx) ⟨(hPI.2 _ hi).1, (hPI.2 _ hi).2.1, by rw [up_eq]; exact btw_le h2⟩, hk16, hLW, hOI, hpr, hmp0, hmz, hT20, hch⟩
  · rw [upIf_k hc]
    exact ⟨hPI, hk16, hLW, hOI, hpr, hmp0, hmz, hT20, hch⟩
theorem ip_setKind {P : PSt} {L : LSt} {pr : Nat → Nat} {O : OSt} {mp : Nat} {mk : Nat → UInt32} {T : List Nat} (h : IP P L pr O mp mk T) (p : Int32) (k : Nat) (hk : k < 65536) : IP ((P.1, upIf (cdPK p (nI k) P.1) P.2.1 (idx p) k, P.2.2.1, P.2.2.2)) L pr O mp mk T := by
  obtain ⟨hPI, hk16, hLW, hOI, hpr, hmp0, hmz, hT20, hch⟩ := h
  by_cases hc : cdPK p (nI k) P.1 = 0
  · obtain ⟨h1, h2⟩ := cdPK_iv hc
    have h16 := hPI.1
    have hi := inP_i (by omega) h1
    rw [upIf_z hc]
    exact ⟨PI_set (j := idx p) hPI (fun x hx => up_ne hx) (fun _ _ => rfl) (fun _ _ => rfl) ⟨by rw [up_eq]; exact h2, (hPI.2 _ hi).2⟩, up16 hk16 hk, hLW, hOI, hpr, hmp0, hmz, hT20, hch⟩
  · rw [upIf_k hc]
    exact ⟨hPI, hk16, hLW, hOI, hpr, hmp0, hmz, hT20, hch⟩
theorem ip_addLine {P : PSt} {L : LSt} {pr : Nat → Nat} {O : OSt} {mp : Nat} {mk : Nat → UInt32} {T : List Nat} (h : IP P L pr O mp mk T) (p : Int32) (k : Int32) (c : Int32) (q : Int32) (a : Int32) (b : Int32) : IP P (if (cdAL P.1 L p k c q a b) = 0 then newL L (idx p) (idx k) (idx c) (idx q) 0 (idx a) (idx b) 0 0 else L) pr O mp mk T := by
  obtain ⟨hPI, hk16, hLW, hOI, hpr, hmp0, hmz, hT20, hch⟩ := h
  by_cases hc : cdAL P.1 L p k c q a b = 0
  · rw [if_pos hc]
    exact ⟨hPI, hk16, LW_addLine hLW hc, hOI, hpr, hmp0, hmz, hT20, hch⟩
  · rw [if_neg hc]
    exact ⟨hPI, hk16, hLW, hOI, hpr, hmp0, hmz, hT20, hch⟩
theorem ip_addVariant {P : PSt} {L : LSt} {pr : Nat → Nat} {O : OSt} {mp : Nat} {mk : Nat → UInt32} {T : List Nat} (h : IP P L pr O mp mk T) (p : Int32) (k : Int32) (c : Int32) (q : Int32) (o : Int32) (s : Int32) : IP P (if (cdAV P.1 L p k c q o s) = 0 then newL L (idx p) (idx k) (idx c) (idx q) 0 1 999 (idx o + 1) (idx s) else L) pr O mp mk T := by
  obtain ⟨hPI, hk16, hLW, hOI, hpr, hmp0, hmz, hT20, hch⟩ := h
  by_cases hc : cdAV P.1 L p k c q o s = 0
  · rw [if_pos hc]
    exact ⟨hPI, hk16, LW_addVariant hLW hc, hOI, hpr, hmp0, hmz, hT20, hch⟩
  · rw [if_neg hc]
    exact ⟨hPI, hk16, hLW, hOI, hpr, hmp0, hmz, hT20, hch⟩
theorem ip_replaceFrom {P : PSt} {L : LSt} {pr : Nat → Nat} {O : OSt} {mp : Nat} {mk : Nat → UInt32} {T : List Nat} (h : IP P L pr O mp mk T) (l : Int32) (s : Int32) (c : Int32) (q : Int32) : IP P (if (cdRF P.1 L l s c q) = 0 then repL L (idx l) (idx s) (idx c) (idx q) else L) pr O mp mk T := by
  obtain ⟨hPI, hk16, hLW, hOI, hpr, hmp0, hmz, hT20, hch⟩ := h
  by_cases hc : cdRF P.1 L l s c q = 0
  · rw [if_pos hc]
    exact ⟨hPI, hk16, LW_replace hLW hc, hOI, hpr, hmp0, hmz, hT20, hch⟩
  · rw [if_neg hc]
    exact ⟨hPI, hk16, hLW, hOI, hpr, hmp0, hmz, hT20, hch⟩
theorem ip_endBefore {P : PSt} {L : LSt} {pr : Nat → Nat} {O : OSt} {mp : Nat} {mk : Nat → UInt32} {T : List Nat} (h : IP P L pr O mp mk T) (l : Int32) (s : Int32) : IP P (if (cdEB L l s) = 0 then cutL L (idx l) (idx s - 1) else L) pr O mp mk T := by
  obtain ⟨hPI, hk16, hLW, hOI, hpr, hmp0, hmz, hT20, hch⟩ := h
  by_cases hc : cdEB L l s = 0
  · obtain ⟨h1, h2⟩ := cdEB_iv hc
    have h40 := hLW.1.2.1
    have hi := inP_i (by omega) h1
    obtain ⟨m, m1, m2, rfl⟩ := cut_n hLW.1 hi h2
    have hb := hLW.1.2.2 _ hi
    have hm : idx (nI m) = m := idx_nI (by have := hb.2.2.2.2.2.1; omega)
    rw [if_pos hc, hm]
    exact ⟨hPI, hk16, LW_cut hLW hi (by omega) (by omega), hOI, hpr, hmp0, hmz, hT20, hch⟩
  · rw [if_neg hc]
    exact ⟨hPI, hk16, hLW, hOI, hpr, hmp0, hmz, hT20, hch⟩
theorem ip_setScrap {P : PSt} {L : LSt} {pr : Nat → Nat} {O : OSt} {mp : Nat} {mk : Nat → UInt32} {T : List Nat} (h : IP P L pr O mp mk T) (l : Int32) (c : Int32) : IP P (if (cdSS L l c) = 0 then (ln L, pa L, po L, ch L, qt L, va_up (sc L) (idx l) (idx c), fi L, la L, op L, cs L) else L) pr O mp mk T := by
  obtain ⟨hPI, hk16, hLW, hOI, hpr, hmp0, hmz, hT20, hch⟩ := h
  by_cases hc : cdSS L l c = 0
  · obtain ⟨h1, h2⟩ := cdSS_iv hc
    rw [if_pos hc]
    exact ⟨hPI, hk16, LW_scrap hLW (btw_i (lo := 0) (hi := 50) (by decide) (by decide) h2).2, hOI, hpr, hmp0, hmz, hT20, hch⟩
  · rw [if_neg hc]
    exact ⟨hPI, hk16, hLW, hOI, hpr, hmp0, hmz, hT20, hch⟩
theorem ip_setChoice {P : PSt} {L : LSt} {pr : Nat → Nat} {O : OSt} {mp : Nat} {mk : Nat → UInt32} {T : List Nat} (h : IP P L pr O mp mk T) (l : Int32) (c : Int32) : IP P L (if (cdSC l c) = 0 then va_up pr (idx l) (idx c) else pr) O mp mk T := by
  obtain ⟨hPI, hk16, hLW, hOI, hpr, hmp0, hmz, hT20, hch⟩ := h
  by_cases hc : cdSC l c = 0
  · obtain ⟨h1, h2⟩ := cdSC_iv hc
    rw [if_pos hc]
    refine ⟨hPI, hk16, hLW, hOI, fun i hi => ?_, hmp0, hmz, hT20, hch⟩
    by_cases e : i = idx l
    · rw [e, up_eq]; have := (btw_i (lo := 0) (hi := 3) (by decide) (by decide) h2).2; omega
    · rw [up_ne e]; exact hpr i hi
  · rw [if_neg hc]
    exact ⟨hPI, hk16, hLW, hOI, hpr, hmp0, hmz, hT20, hch⟩
theorem ip_writeList {P : PSt} {L : LSt} {pr : Nat → Nat} {O : OSt} {mp : Nat} {mk : Nat → UInt32} {T : List Nat} (h : IP P L pr O mp mk T) (a : Int32) (s : Int32) : IP P L pr O mp mk (if (cdA a s P.1) = 0 then lstT false (listN P.2.1 L pr (idx s) 5 (idx a) 1) else T) := by
  obtain ⟨hPI, hk16, hLW, hOI, hpr, hmp0, hmz, hT20, hch⟩ := h
  by_cases hc : cdA a s P.1 = 0
  · rw [if_pos hc]
    have hlen : (listN P.2.1 L pr (idx s) 5 (idx a) 1).length ≤ 1296 := xsN_len hLW.2.2
    have hxb : ∀ x ∈ listN P.2.1 L pr (idx s) 5 (idx a) 1, x.1 < 100 ∧ x.2 < 10 ^ 7 := fun x hx => by have := listN_mem hLW.1 hx; have h16 := hLW.1.1; omega
    have hTl := lstT_len (xs := listN P.2.1 L pr (idx s) 5 (idx a) 1) (c := false) hxb
    exact ⟨hPI, hk16, hLW, hOI, hpr, hmp0, hmz, (by omega), lstT_ch⟩
  · rw [if_neg hc]
    exact ⟨hPI, hk16, hLW, hOI, hpr, hmp0, hmz, hT20, hch⟩
theorem ip_markCosts {P : PSt} {L : LSt} {pr : Nat → Nat} {O : OSt} {mp : Nat} {mk : Nat → UInt32} {T : List Nat} (h : IP P L pr O mp mk T) (s : Int32) : IP P L pr O (if (cdM s) = 0 then P.1 else mp) (if (cdM s) = 0 then (fun x => priF P L pr (idx s) 5 x) else mk) T := by
  obtain ⟨hPI, hk16, hLW, hOI, hpr, hmp0, hmz, hT20, hch⟩ := h
  by_cases hc : cdM s = 0
  · rw [if_pos hc, if_pos hc]
    exact ⟨hPI, hk16, hLW, hOI, hpr, Nat.le_refl _, (fun x hx => pri5_z hLW.1 rfl hPI hx), hT20, hch⟩
  · rw [if_neg hc, if_neg hc]
    exact ⟨hPI, hk16, hLW, hOI, hpr, hmp0, hmz, hT20, hch⟩
theorem ip_order {P : PSt} {L : LSt} {pr : Nat → Nat} {O : OSt} {mp : Nat} {mk : Nat → UInt32} {T : List Nat} (h : IP P L pr O mp mk T) (p : Int32) (s : Int32) (u : Int32) : IP P L pr (if (cdO p s u P.1 O.1) = 0 then addO O (idx p) (idx s) (idx u) pr else O) mp mk T := by
  obtain ⟨hPI, hk16, hLW, hOI, hpr, hmp0, hmz, hT20, hch⟩ := h
  by_cases hc : cdO p s u P.1 O.1 = 0
  · obtain ⟨h1, h2, h3, h4⟩ := cdO_iv hc
    have h16 := hPI.1
    have h8 := hOI.1
    rw [if_pos hc]
    refine ⟨hPI, hk16, hLW, ⟨by show O.1 + 1 ≤ 8; omega, fun k hk => ?_, fun k hk => hOI.2.2 k (by have : O.1 + 1 ≤ k := hk; omega)⟩, hpr, hmp0, hmz, hT20, hch⟩
    show va_up O.2.1 O.1 (idx p) k < P.1 ∧ (1 ≤ va_up O.2.2.1 O.1 (idx s) k ∧ va_up O.2.2.1 O.1 (idx s) k ≤ 999) ∧ (1 ≤ va_up O.2.2.2.1 O.1 (idx u) k ∧ va_up O.2.2.2.1 O.1 (idx u) k ≤ 999) ∧ ∀ i, i < 4 → va_up O.2.2.2.2.1 O.1 pr k i < 4
    by_cases e : k = O.1
    · rw [e, up_eq, up_eq, up_eq, up_eq]; exact ⟨inP_i (by omega) h1, btw_i (lo := 1) (hi := 999) (by decide) (by decide) h2, btw_i (lo := 1) (hi := 999) (by decide) (by decide) h3, hpr⟩
    · rw [up_ne e, up_ne e, up_ne e, up_ne e]; exact hOI.2.1 k (by have : k < O.1 + 1 := hk; omega)
  · rw [if_neg hc]
    exact ⟨hPI, hk16, hLW, hOI, hpr, hmp0, hmz, hT20, hch⟩
theorem ip_cancel {P : PSt} {L : LSt} {pr : Nat → Nat} {O : OSt} {mp : Nat} {mk : Nat → UInt32} {T : List Nat} (h : IP P L pr O mp mk T) (o : Int32) : IP P L pr (if (cdX o O) = 0 then canO O (idx o) else O) mp mk T := by
  obtain ⟨hPI, hk16, hLW, hOI, hpr, hmp0, hmz, hT20, hch⟩ := h
  by_cases hc : cdX o O = 0
  · have h1 := cdX_iv hc
    have h8 := hOI.1
    have hi := inP_i (by omega) h1
    rw [if_pos hc]
    refine ⟨hPI, hk16, hLW, ⟨hOI.1, hOI.2.1, fun k hk => ?_⟩, hpr, hmp0, hmz, hT20, hch⟩
    show va_up O.2.2.2.2.2 (idx o) true k = false
    have hk : O.1 ≤ k := hk
    rw [up_ne (by omega)]; exact hOI.2.2 k hk
  · rw [if_neg hc]
    exact ⟨hPI, hk16, hLW, hOI, hpr, hmp0, hmz, hT20, hch⟩
theorem ip_kind {P : PSt} {L : LSt} {pr : Nat → Nat} {O : OSt} {mp : Nat} {mk : Nat → UInt32} {T : List Nat} (h : IP P L pr O mp mk T) (p : Int32) : IP P L pr O mp mk T := by
  obtain ⟨hPI, hk16, hLW, hOI, hpr, hmp0, hmz, hT20, hch⟩ := h
  exact ⟨hPI, hk16, hLW, hOI, hpr, hmp0, hmz, hT20, hch⟩
theorem ip_lastSerial {P : PSt} {L : LSt} {pr : Nat → Nat} {O : OSt} {mp : Nat} {mk : Nat → UInt32} {T : List Nat} (h : IP P L pr O mp mk T) (l : Int32) : IP P L pr O mp mk T := by
  obtain ⟨hPI, hk16, hLW, hOI, hpr, hmp0, hmz, hT20, hch⟩ := h
  exact ⟨hPI, hk16, hLW, hOI, hpr, hmp0, hmz, hT20, hch⟩
theorem ip_holds {P : PSt} {L : LSt} {pr : Nat → Nat} {O : OSt} {mp : Nat} {mk : Nat → UInt32} {T : List Nat} (h : IP P L pr O mp mk T) (l : Int32) (s : Int32) : IP P L pr O mp mk T := by
  obtain ⟨hPI, hk16, hLW, hOI, hpr, hmp0, hmz, hT20, hch⟩ := h
  exact ⟨hPI, hk16, hLW, hOI, hpr, hmp0, hmz, hT20, hch⟩
theorem ip_choice {P : PSt} {L : LSt} {pr : Nat → Nat} {O : OSt} {mp : Nat} {mk : Nat → UInt32} {T : List Nat} (h : IP P L pr O mp mk T) (l : Int32) : IP P L pr O mp mk T := by
  obtain ⟨hPI, hk16, hLW, hOI, hpr, hmp0, hmz, hT20, hch⟩ := h
  exact ⟨hPI, hk16, hLW, hOI, hpr, hmp0, hmz, hT20, hch⟩
theorem ip_listSize {P : PSt} {L : LSt} {pr : Nat → Nat} {O : OSt} {mp : Nat} {mk : Nat → UInt32} {T : List Nat} (h : IP P L pr O mp mk T) (a : Int32) (s : Int32) : IP P L pr O mp mk T := by
  obtain ⟨hPI, hk16, hLW, hOI, hpr, hmp0, hmz, hT20, hch⟩ := h
  exact ⟨hPI, hk16, hLW, hOI, hpr, hmp0, hmz, hT20, hch⟩
theorem ip_listPart {P : PSt} {L : LSt} {pr : Nat → Nat} {O : OSt} {mp : Nat} {mk : Nat → UInt32} {T : List Nat} (h : IP P L pr O mp mk T) (a : Int32) (s : Int32) (i : Int32) : IP P L pr O mp mk T := by
  obtain ⟨hPI, hk16, hLW, hOI, hpr, hmp0, hmz, hT20, hch⟩ := h
  exact ⟨hPI, hk16, hLW, hOI, hpr, hmp0, hmz, hT20, hch⟩
theorem ip_listQuantity {P : PSt} {L : LSt} {pr : Nat → Nat} {O : OSt} {mp : Nat} {mk : Nat → UInt32} {T : List Nat} (h : IP P L pr O mp mk T) (a : Int32) (s : Int32) (i : Int32) : IP P L pr O mp mk T := by
  obtain ⟨hPI, hk16, hLW, hOI, hpr, hmp0, hmz, hT20, hch⟩ := h
  exact ⟨hPI, hk16, hLW, hOI, hpr, hmp0, hmz, hT20, hch⟩
theorem ip_charAt {P : PSt} {L : LSt} {pr : Nat → Nat} {O : OSt} {mp : Nat} {mk : Nat → UInt32} {T : List Nat} (h : IP P L pr O mp mk T) (i : Int32) : IP P L pr O mp mk T := by
  obtain ⟨hPI, hk16, hLW, hOI, hpr, hmp0, hmz, hT20, hch⟩ := h
  exact ⟨hPI, hk16, hLW, hOI, hpr, hmp0, hmz, hT20, hch⟩
theorem ip_quantity {P : PSt} {L : LSt} {pr : Nat → Nat} {O : OSt} {mp : Nat} {mk : Nat → UInt32} {T : List Nat} (h : IP P L pr O mp mk T) (a : Int32) (b : Int32) (s : Int32) : IP P L pr O mp mk T := by
  obtain ⟨hPI, hk16, hLW, hOI, hpr, hmp0, hmz, hT20, hch⟩ := h
  exact ⟨hPI, hk16, hLW, hOI, hpr, hmp0, hmz, hT20, hch⟩
theorem ip_quantityByWalking {P : PSt} {L : LSt} {pr : Nat → Nat} {O : OSt} {mp : Nat} {mk : Nat → UInt32} {T : List Nat} (h : IP P L pr O mp mk T) (a : Int32) (b : Int32) (s : Int32) : IP P L pr O mp mk T := by
  obtain ⟨hPI, hk16, hLW, hOI, hpr, hmp0, hmz, hT20, hch⟩ := h
  exact ⟨hPI, hk16, hLW, hOI, hpr, hmp0, hmz, hT20, hch⟩
theorem ip_whereUsed {P : PSt} {L : LSt} {pr : Nat → Nat} {O : OSt} {mp : Nat} {mk : Nat → UInt32} {T : List Nat} (h : IP P L pr O mp mk T) (a : Int32) (s : Int32) : IP P L pr O mp mk T := by
  obtain ⟨hPI, hk16, hLW, hOI, hpr, hmp0, hmz, hT20, hch⟩ := h
  exact ⟨hPI, hk16, hLW, hOI, hpr, hmp0, hmz, hT20, hch⟩
theorem ip_levels {P : PSt} {L : LSt} {pr : Nat → Nat} {O : OSt} {mp : Nat} {mk : Nat → UInt32} {T : List Nat} (h : IP P L pr O mp mk T) (a : Int32) (s : Int32) : IP P L pr O mp mk T := by
  obtain ⟨hPI, hk16, hLW, hOI, hpr, hmp0, hmz, hT20, hch⟩ := h
  exact ⟨hPI, hk16, hLW, hOI, hpr, hmp0, hmz, hT20, hch⟩
theorem ip_cost {P : PSt} {L : LSt} {pr : Nat → Nat} {O : OSt} {mp : Nat} {mk : Nat → UInt32} {T : List Nat} (h : IP P L pr O mp mk T) (a : Int32) (s : Int32) : IP P L pr O mp mk T := by
  obtain ⟨hPI, hk16, hLW, hOI, hpr, hmp0, hmz, hT20, hch⟩ := h
  exact ⟨hPI, hk16, hLW, hOI, hpr, hmp0, hmz, hT20, hch⟩
theorem ip_costByWalking {P : PSt} {L : LSt} {pr : Nat → Nat} {O : OSt} {mp : Nat} {mk : Nat → UInt32} {T : List Nat} (h : IP P L pr O mp mk T) (a : Int32) (s : Int32) : IP P L pr O mp mk T := by
  obtain ⟨hPI, hk16, hLW, hOI, hpr, hmp0, hmz, hT20, hch⟩ := h
  exact ⟨hPI, hk16, hLW, hOI, hpr, hmp0, hmz, hT20, hch⟩
theorem ip_costBits {P : PSt} {L : LSt} {pr : Nat → Nat} {O : OSt} {mp : Nat} {mk : Nat → UInt32} {T : List Nat} (h : IP P L pr O mp mk T) (a : Int32) (s : Int32) : IP P L pr O mp mk T := by
  obtain ⟨hPI, hk16, hLW, hOI, hpr, hmp0, hmz, hT20, hch⟩ := h
  exact ⟨hPI, hk16, hLW, hOI, hpr, hmp0, hmz, hT20, hch⟩
theorem ip_costCents {P : PSt} {L : LSt} {pr : Nat → Nat} {O : OSt} {mp : Nat} {mk : Nat → UInt32} {T : List Nat} (h : IP P L pr O mp mk T) (a : Int32) (s : Int32) : IP P L pr O mp mk T := by
  obtain ⟨hPI, hk16, hLW, hOI, hpr, hmp0, hmz, hT20, hch⟩ := h
  exact ⟨hPI, hk16, hLW, hOI, hpr, hmp0, hmz, hT20, hch⟩
theorem ip_dearest {P : PSt} {L : LSt} {pr : Nat → Nat} {O : OSt} {mp : Nat} {mk : Nat → UInt32} {T : List Nat} (h : IP P L pr O mp mk T) (a : Int32) (s : Int32) : IP P L pr O mp mk T := by
  obtain ⟨hPI, hk16, hLW, hOI, hpr, hmp0, hmz, hT20, hch⟩ := h
  exact ⟨hPI, hk16, hLW, hOI, hpr, hmp0, hmz, hT20, hch⟩
theorem ip_weight {P : PSt} {L : LSt} {pr : Nat → Nat} {O : OSt} {mp : Nat} {mk : Nat → UInt32} {T : List Nat} (h : IP P L pr O mp mk T) (a : Int32) (s : Int32) : IP P L pr O mp mk T := by
  obtain ⟨hPI, hk16, hLW, hOI, hpr, hmp0, hmz, hT20, hch⟩ := h
  exact ⟨hPI, hk16, hLW, hOI, hpr, hmp0, hmz, hT20, hch⟩
theorem ip_weightBits {P : PSt} {L : LSt} {pr : Nat → Nat} {O : OSt} {mp : Nat} {mk : Nat → UInt32} {T : List Nat} (h : IP P L pr O mp mk T) (a : Int32) (s : Int32) : IP P L pr O mp mk T := by
  obtain ⟨hPI, hk16, hLW, hOI, hpr, hmp0, hmz, hT20, hch⟩ := h
  exact ⟨hPI, hk16, hLW, hOI, hpr, hmp0, hmz, hT20, hch⟩
theorem ip_costChange {P : PSt} {L : LSt} {pr : Nat → Nat} {O : OSt} {mp : Nat} {mk : Nat → UInt32} {T : List Nat} (h : IP P L pr O mp mk T) (a : Int32) (s : Int32) : IP P L pr O mp mk T := by
  obtain ⟨hPI, hk16, hLW, hOI, hpr, hmp0, hmz, hT20, hch⟩ := h
  exact ⟨hPI, hk16, hLW, hOI, hpr, hmp0, hmz, hT20, hch⟩
theorem ip_orderCost {P : PSt} {L : LSt} {pr : Nat → Nat} {O : OSt} {mp : Nat} {mk : Nat → UInt32} {T : List Nat} (h : IP P L pr O mp mk T) (a : Int32) : IP P L pr O mp mk T := by
  obtain ⟨hPI, hk16, hLW, hOI, hpr, hmp0, hmz, hT20, hch⟩ := h
  exact ⟨hPI, hk16, hLW, hOI, hpr, hmp0, hmz, hT20, hch⟩
theorem ip_need {P : PSt} {L : LSt} {pr : Nat → Nat} {O : OSt} {mp : Nat} {mk : Nat → UInt32} {T : List Nat} (h : IP P L pr O mp mk T) (c : Int32) : IP P L pr O mp mk T := by
  obtain ⟨hPI, hk16, hLW, hOI, hpr, hmp0, hmz, hT20, hch⟩ := h
  exact ⟨hPI, hk16, hLW, hOI, hpr, hmp0, hmz, hT20, hch⟩
end Helpers
