/-- what a call throws: the first of three needs that fails -/
def Flt3 (A B C : Prop) (E : String) : Prop := (E = eIO ∧ ¬ A) ∨ (E = eIA ∧ A ∧ ¬ B) ∨ (E = eIS ∧ A ∧ B ∧ ¬ C)
def Flt2 (e1 e2 : String) (A B : Prop) (E : String) : Prop := (E = e1 ∧ ¬ A) ∨ (E = e2 ∧ A ∧ ¬ B)
theorem Btw_1 {v : Int32} (h : Btw v 1 100) : ∃ d, d < 101 ∧ v = nI d := Btw_of (n := 100) (by decide) ⟨Int32.le_trans (by decide) h.1, h.2⟩
