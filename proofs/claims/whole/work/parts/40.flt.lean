/-- what a call throws: the first of three needs that fails -/
def Flt3 (A B C : Prop) (E : String) : Prop := (E = eIO ∧ ¬ A) ∨ (E = eIA ∧ A ∧ ¬ B) ∨ (E = eIS ∧ A ∧ B ∧ ¬ C)
def Flt2 (e1 e2 : String) (A B : Prop) (E : String) : Prop := (E = e1 ∧ ¬ A) ∨ (E = e2 ∧ A ∧ ¬ B)
theorem Btw_1 {v : Int32} (h : Btw v 1 100) : ∃ d, d < 101 ∧ v = nI d := Btw_of (n := 100) (by decide) ⟨Int32.le_trans (by decide) h.1, h.2⟩
def Flt3a (A B C : Prop) (E : String) : Prop := (E = eIO ∧ ¬ A) ∨ (E = eIS ∧ A ∧ ¬ B) ∨ (E = eIA ∧ A ∧ B ∧ ¬ C)
theorem nI01 : nI 0 = 0 ∧ nI 1 = 1 := ⟨rfl, rfl⟩
theorem alt_b {f : Nat → Int32} {o n k : Nat} (n50 : n ≤ 50) (ho : o < n) (hk : k < 3) (e : f o = nI k) (h : ¬ k = 0) : ∀ x, x < n → nI o = nI x → ¬ f x = 0 := by
  intro x hx ex q
  have := (nI_eq (by omega) (by omega)).mp ex
  subst this
  rw [e] at q
  have q2 : nI k = nI 0 := q
  exact h ((nI_eq (by omega) (by omega)).mp q2)
theorem alt_0 {f : Nat → Int32} {o k : Nat} (e : f o = nI k) (h : k = 0) : f o = 0 := by rw [e, h]; rfl
theorem alt_e1 {f : Nat → Int32} {o k : Nat} (e : f o = nI k) (h : k = 1) : (if f o = 1 then (8 : Int32) else 1023) = 8 := by rw [if_pos (by rw [e, h]; rfl)]
theorem alt_e2 {f : Nat → Int32} {o k : Nat} (hk : k < 3) (e : f o = nI k) (h : ¬ k = 1) : (if f o = 1 then (8 : Int32) else 1023) = 1023 := if_neg (fun q => h ((nI_eq (by omega) (by omega)).mp (e.symm.trans q : nI k = nI 1)))
theorem alt_1 {f : Nat → Int32} {o k : Nat} {x : Int32} (_hk : k < 3) (e : f o = nI k) (h : k = 1) (g : Btw x 0 (if f o = 1 then 8 else 1023)) : Btw x 0 8 := by rw [alt_e1 e h] at g; exact g
theorem alt_2 {f : Nat → Int32} {o k : Nat} {x : Int32} (hk : k < 3) (e : f o = nI k) (h : ¬ k = 1) (g : Btw x 0 (if f o = 1 then 8 else 1023)) : Btw x 0 1023 := by rw [alt_e2 hk e h] at g; exact g
theorem alt_1r {f : Nat → Int32} {o k : Nat} {x : Int32} (_hk : k < 3) (e : f o = nI k) (h : k = 1) (g : Btw x 0 8) : Btw x 0 (if f o = 1 then 8 else 1023) := by rw [alt_e1 e h]; exact g
theorem alt_2r {f : Nat → Int32} {o k : Nat} {x : Int32} (hk : k < 3) (e : f o = nI k) (h : ¬ k = 1) (g : Btw x 0 1023) : Btw x 0 (if f o = 1 then 8 else 1023) := by rw [alt_e2 hk e h]; exact g
