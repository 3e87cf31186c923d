/-! COSTS of the reference: what is asked for (walks by gen/spec62.py) -/
section CostN
variable {G : Gx} {w : Wd} {t np nl no nm nw en : Nat}
/-- the reference's world after the costs were marked -/
def mrkM (K : Nat → ClassId) (w : Wd) (P : PSt) (L : LSt) (pr : Nat → Nat) (np nl no nw en s : Nat) (w' : Wd) : Prop := ∃ f' : Nat → UInt32, w' = setM (setM w 39 (m39 w 0 np nl no np nw en)) 59 (aF K 16 f') ∧ ∀ x, x < np → f' x = priF P L pr s 5 x
end CostN
