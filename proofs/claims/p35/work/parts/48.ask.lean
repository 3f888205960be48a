/-! what is asked of routes -/
def IsRt (R : Nat) (Th : Nat → Prop) (v : Int32) : Prop := ∃ a, a < R ∧ v = nI a ∧ Th a
theorem IsRt_at {R a : Nat} {Th : Nat → Prop} (hR : R ≤ 24) (ha : a < R) (h : IsRt R Th (nI a)) : Th a := by
  obtain ⟨b, h1, h2, h3⟩ := h
  have := (nI_eq (by omega) (by omega)).mp h2
  subst this
  exact h3
theorem IsRt_n {R : Nat} {Th : Nat → Prop} {v : Int32} (hR : R ≤ 24) (h : v < 0 ∨ nI R ≤ v) : ¬ IsRt R Th v := by
  rintro ⟨a, h1, rfl, -⟩
  rcases h with h | h
  · exact nz_lt (by omega) h
  · exact Int32.not_lt.mpr h ((nI_ltI (by omega) (by omega)).mpr h1)
theorem rt_in {v : Int32} {R : Nat} (hR : R ≤ 24) (h1 : ¬ v < 0) (h2 : ¬ nI R ≤ v) : ∃ a, a < R ∧ v = nI a := by
  rcases pk_ix v (n := R) (by omega) with q | q | q
  · exact absurd q h1
  · exact absurd q h2
  · exact q
/-- the net at the first place from lo on, ahead of hi, where A holds; -1 if it holds nowhere -/
def FirstR (A : Nat → Prop) (P : Nat → Nat) (lo hi : Nat) (r : Int32) : Prop := (∃ k, lo ≤ k ∧ k < hi ∧ A k ∧ (∀ j, lo ≤ j → j < k → ¬ A j) ∧ r = nI (P k)) ∨ ((∀ k, lo ≤ k → k < hi → ¬ A k) ∧ r = -1)
theorem FirstR_one {A A' : Nat → Prop} {P : Nat → Nat} {lo hi : Nat} {r r' : Int32} (e : ∀ k, lo ≤ k → k < hi → (A k ↔ A' k)) (h : FirstR A P lo hi r) (h' : FirstR A' P lo hi r') : r = r' := by
  rcases h with ⟨k, a1, a2, a3, a4, rfl⟩ | ⟨a1, rfl⟩ <;> rcases h' with ⟨k', b1, b2, b3, b4, rfl⟩ | ⟨b1, rfl⟩
  · have : k = k' := by
      rcases Nat.lt_trichotomy k k' with q | q | q
      · exact absurd ((e k a1 a2).mp a3) (b4 k a1 q)
      · exact q
      · exact absurd ((e k' b1 b2).mpr b3) (a4 k' b1 q)
    rw [this]
  · exact absurd ((e k a1 a2).mp a3) (b1 k a1 a2)
  · exact absurd ((e k' b1 b2).mpr b3) (a1 k' b1 b2)
  · rfl
theorem no_succ {A : Nat → Prop} {lo k : Nat} (h : ∀ j, lo ≤ j → j < k → ¬ A j) (h2 : ¬ A k) : ∀ j, lo ≤ j → j < k + 1 → ¬ A j := by
  intro j h3 h4
  rcases lt_succ_or.mp h4 with q | rfl
  · exact h j h3 q
  · exact h2
abbrev LkAt (ti : Nat → Nat → Int32) (P : Nat → Nat) (k : Nat) : Prop := ¬ ti (P (k - 1)) (P k) = 0 ∧ ¬ ti (P (k + 1)) (P k) = 0 ∧ ¬ (ti (P (k - 1)) (P k) = 1 ∨ ti (P (k + 1)) (P k) = 1)
/-- a net with a filter that refuses -/
abbrev SpAt (F : Nat) (bad : Prop) (ti : Nat → Nat → Int32) (hv pv : Nat → Int32) (P : Nat → Nat) (k : Nat) : Prop := F.testBit (P k) = true ∧ (bad ∨ Rf ti hv pv P k)
/-- addresses that a set of origins reaches; f, g: values and lengths of the routes' blocks -/
def ReA (f g : Nat → Int32) (PP : Nat → Nat → Nat) (Th : Nat → Prop) (S ad i : Nat) : Prop := ∃ r, r < i ∧ Th r ∧ S.testBit (PP r 0) = true ∧ LiesIn (nI ad) 8 (f r) (g r)
theorem ReA_succ {f g : Nat → Int32} {PP : Nat → Nat → Nat} {Th : Nat → Prop} {S ad i : Nat} : ReA f g PP Th S ad (i + 1) ↔ ReA f g PP Th S ad i ∨ (Th i ∧ S.testBit (PP i 0) = true ∧ LiesIn (nI ad) 8 (f i) (g i)) := ex_succ
theorem ReA_mono {f g : Nat → Int32} {PP : Nat → Nat → Nat} {Th : Nat → Prop} {S ad i j : Nat} (h : i ≤ j) (q : ReA f g PP Th S ad i) : ReA f g PP Th S ad j := by
  obtain ⟨r, h1, h2⟩ := q
  exact ⟨r, by omega, h2⟩
theorem ReA_0 {f g : Nat → Int32} {PP : Nat → Nat → Nat} {Th : Nat → Prop} {S ad : Nat} : ¬ ReA f g PP Th S ad 0 := fun ⟨_, h, _⟩ => absurd h (Nat.not_lt_zero _)
theorem ReA_n {f g : Nat → Int32} {PP : Nat → Nat → Nat} {Th : Nat → Prop} {S ad i : Nat} (h : ¬ ReA f g PP Th S ad i) (h2 : ¬ (Th i ∧ S.testBit (PP i 0) = true ∧ LiesIn (nI ad) 8 (f i) (g i))) : ¬ ReA f g PP Th S ad (i + 1) := fun q => (ReA_succ.mp q).elim h h2
theorem ReA_y {f g : Nat → Int32} {PP : Nat → Nat → Nat} {Th : Nat → Prop} {S ad i : Nat} (h1 : Th i) (h2 : S.testBit (PP i 0) = true) (h3 : LiesIn (nI ad) 8 (f i) (g i)) : ReA f g PP Th S ad (i + 1) := ReA_succ.mpr (Or.inr ⟨h1, h2, h3⟩)
def Flt1r (P : Prop) (E : String) : Prop := E = eIO ∧ ¬ P
theorem net_at {v : Int32} (h : Btw v 0 9) : ∃ a, a < 10 ∧ v = nI a := Btw_of (n := 9) (by decide) h
