/-! TEXT of the class: the calls (walks by gen/spec46c.py) -/
section TextR
variable {G : Gx} {w : Wd}
def txX (K : Nat → ClassId) (w : Wd) (P : PSt) (L : LSt) (pr : Nat → Nat) (cap tc : Nat) (a s : Int32) (cd : Nat) (w' : Wd) : Prop := if cd = 0 then ∃ q1 q2 a1 b1 q t1, w' = relT K (relD K (selW K w L pr (idx s)) q1 q2 (listN P.2.1 L pr (idx s) 5 (idx a) 1).length (capL 0 cap (listN P.2.1 L pr (idx s) 5 (idx a) 1).length) a1 b1) q (lstT false (listN P.2.1 L pr (idx s) 5 (idx a) 1)).length (capF 0 tc (lstP false (listN P.2.1 L pr (idx s) 5 (idx a) 1))) t1 ∧ DC a1 b1 (listN P.2.1 L pr (idx s) 5 (idx a) 1) ∧ TC t1 (lstT false (listN P.2.1 L pr (idx s) 5 (idx a) 1)) else w' = w
theorem relT_clear {K : Nat → ClassId} {n cap : Nat} {t : Nat → Int32} (h : XT2 K w n cap t) : setM w 36 (oB 5 [.ref (w.1 37), .int (nI 0)]) = relT K w (w.1 37) 0 cap t := (congrArg (fun z => setM z 36 (oB 5 [.ref (w.1 37), .int (nI 0)])) (relT_id h)).trans relT_n
end TextR
