/-! the path that a draft makes: nets that stand twice in a row count once -/
abbrev SqK (dr : Nat → Nat) (j : Nat) : Prop := j = 0 ∨ ¬ dr j = dr (j - 1)
def sqn (dr : Nat → Nat) : Nat → Nat
  | 0 => 0
  | j + 1 => if SqK dr j then sqn dr j + 1 else sqn dr j
def sqp (dr : Nat → Nat) : Nat → Nat → Nat
  | 0, _ => 0
  | j + 1, x => if SqK dr j ∧ x = sqn dr j then dr j else sqp dr j x
theorem sqn_y {dr : Nat → Nat} {j : Nat} (h : SqK dr j) : sqn dr (j + 1) = sqn dr j + 1 := if_pos h
theorem sqn_n {dr : Nat → Nat} {j : Nat} (h : ¬ SqK dr j) : sqn dr (j + 1) = sqn dr j := if_neg h
theorem sqn_le {dr : Nat → Nat} : ∀ j, sqn dr j ≤ j
  | 0 => Nat.le_refl _
  | j + 1 => by
    have := sqn_le (dr := dr) j
    by_cases h : SqK dr j
    · rw [sqn_y h]; omega
    · rw [sqn_n h]; omega
theorem sqn_pos {dr : Nat → Nat} : ∀ j, 1 ≤ j → 1 ≤ sqn dr j
  | 0, h => absurd h (by omega)
  | j + 1, _ => by
    by_cases h : SqK dr j
    · rw [sqn_y h]; omega
    · rw [sqn_n h]
      exact sqn_pos j (Nat.pos_of_ne_zero fun q => h (Or.inl q))
theorem sqp_new {dr : Nat → Nat} {j : Nat} (h : SqK dr j) : sqp dr (j + 1) (sqn dr j) = dr j := if_pos ⟨h, rfl⟩
theorem sqp_old {dr : Nat → Nat} {j x : Nat} (h : ¬ (SqK dr j ∧ x = sqn dr j)) : sqp dr (j + 1) x = sqp dr j x := if_neg h
/-- the last one so far is the draft's last one so far -/
theorem sqp_last {dr : Nat → Nat} : ∀ j, sqp dr (j + 1) (sqn dr (j + 1) - 1) = dr j
  | 0 => by
    have h : SqK dr 0 := Or.inl rfl
    rw [sqn_y h]
    exact sqp_new h
  | j + 1 => by
    by_cases h : SqK dr (j + 1)
    · rw [sqn_y h, Nat.add_sub_cancel]
      exact sqp_new h
    · rw [sqn_n h, sqp_old (fun q => h q.1), sqp_last j]
      exact Classical.byContradiction fun q => h (Or.inr (fun z => q z.symm))
def SqR (f : Nat → Int32) (b : Nat) (dr : Nat → Nat) (j : Nat) : Prop := ∀ x, x < sqn dr j → f (b + x) = nI (sqp dr j x)
theorem SqR_y {f : Nat → Int32} {b : Nat} {dr : Nat → Nat} {j : Nat} (h : SqK dr j) (hf : SqR f b dr j) : SqR (upd f (b + sqn dr j) (nI (dr j))) b dr (j + 1) := by
  intro x hx
  rw [sqn_y h] at hx
  by_cases q : x = sqn dr j
  · subst q
    rw [upd_eq, sqp_new h]
  · rw [upd_ne (by omega), sqp_old (fun z => q z.2)]
    exact hf x (by omega)
theorem SqR_n {f : Nat → Int32} {b : Nat} {dr : Nat → Nat} {j : Nat} (h : ¬ SqK dr j) (hf : SqR f b dr j) : SqR f b dr (j + 1) := by
  intro x hx
  rw [sqn_n h] at hx
  rw [sqp_old (fun z => h z.1)]
  exact hf x hx
