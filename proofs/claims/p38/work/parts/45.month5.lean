/-- the model's goods behind the month -/
def zgm (S T : ZS) (k r j : Nat) : Int32 := if k = 22 ∧ r = 8 then 0 else if k = 22 ∧ r = 6 ∧ S 2 j 0 = 1 then zamt S (zll S j) j else T k r j
