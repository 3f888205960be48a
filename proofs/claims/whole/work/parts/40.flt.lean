/-- what a call throws: the first of three needs that fails -/
def Flt3 (A B C : Prop) (E : String) : Prop := (E = eIO ∧ ¬ A) ∨ (E = eIA ∧ A ∧ ¬ B) ∨ (E = eIS ∧ A ∧ B ∧ ¬ C)
