theorem ma_22 {M : Mem} {p q : Nat} {f g f' g' : Nat → Int32} (h : p ≠ q) : ma (ma (ma (ma M p f) q g) p f') q g' = ma (ma M p f') q g' := by
  rw [ma_comm h f g, ma_ma, ma_comm (fun e => h e.symm) g f', ma_ma]
theorem bI.one {P : Prop} {r : Int32} (h : bI P r) (q : P) : r = 1 := by
  rcases h with h | h
  · exact h.1
  · exact absurd q h.2
/-- what vouchers say by the first i objects: whether a net has one, and the union of what they tell -/
def hvS (O : Ob) (V : Nat → Int32) : Nat → Nat → Int32
  | 0, _ => 0
  | i + 1, a => if kd O i = 2 ∧ V i = 0 ∧ whm O i = nI a then 1 else hvS O V i a
def pvS (O : Ob) (V : Nat → Int32) : Nat → Nat → Int32
  | 0, _ => 0
  | i + 1, a => if kd O i = 2 ∧ V i = 0 ∧ whm O i = nI a then pvS O V i a ||| ext O i else pvS O V i a
def VoR (O : Ob) (V : Nat → Int32) (i : Nat) (hv pv : Nat → Int32) : Prop := ∀ a, a < 10 → hv a = hvS O V i a ∧ pv a = pvS O V i a
theorem VoR_skip {O : Ob} {V : Nat → Int32} {i : Nat} {hv pv : Nat → Int32} (h : VoR O V i hv pv) (hn : ¬ (kd O i = 2 ∧ V i = 0)) : VoR O V (i + 1) hv pv := by
  intro a ha
  have e : ¬ (kd O i = 2 ∧ V i = 0 ∧ whm O i = nI a) := fun q => hn ⟨q.1, q.2.1⟩
  unfold hvS pvS
  rw [if_neg e, if_neg e]
  exact h a ha
theorem VoR_add {O : Ob} {V : Nat → Int32} {i b b' : Nat} {hv pv : Nat → Int32} (h : VoR O V i hv pv) (h1 : kd O i = 2) (h2 : V i = 0) (h3 : whm O i = nI b) (h3' : whm O i = nI b') (hb : b < 10) (hb' : b' < 10) : VoR O V (i + 1) (upd hv b' 1) (upd pv b (pv b ||| ext O i)) := by
  have eb : b' = b := (nI_eq (by omega) (by omega)).mp (h3'.symm.trans h3)
  subst eb
  intro a ha
  unfold hvS pvS
  by_cases q : a = b'
  · subst q
    rw [if_pos ⟨h1, h2, h3⟩, if_pos ⟨h1, h2, h3⟩, upd_eq, upd_eq, (h a ha).2]
    exact ⟨rfl, rfl⟩
  · have e : ¬ (kd O i = 2 ∧ V i = 0 ∧ whm O i = nI a) := fun z => q ((nI_eq (by omega) (by omega)).mp (z.2.2.symm.trans h3))
    rw [if_neg e, if_neg e, upd_ne q, upd_ne q]
    exact h a ha
theorem VoR_inv {O : Ob} {V : Nat → Int32} {h n i : Nat} {hv pv : Nat → Int32} (hO : OInv O h n) (hi : i ≤ n) (hr : VoR O V i hv pv) : PVInv pv := by
  have key : ∀ j, j ≤ n → ∀ a, a < 10 → ∃ s, s < 1024 ∧ pvS O V j a = nI s := by
    intro j
    induction j with
    | zero => intro _ a _; exact ⟨0, by decide, rfl⟩
    | succ j ih =>
      intro hj a ha
      obtain ⟨s, h1, h2⟩ := ih (by omega) a ha
      unfold pvS
      by_cases q : kd O j = 2 ∧ V j = 0 ∧ whm O j = nI a
      · obtain ⟨t, h3, h4⟩ := (hO.2 j (by omega)).2.2.2.2.2.2.2.2.2.2 q.1
        rw [if_pos q, h2, h4, nI_or]
        exact ⟨_, or_lt h1 h3, rfl⟩
      · rw [if_neg q]
        exact ⟨s, h1, h2⟩
  intro a ha
  rw [(hr a ha).2]
  exact key i hi a ha
theorem VoR_one {O : Ob} {V V' : Nat → Int32} {n : Nat} {hv pv hv' pv' : Nat → Int32} (e : ∀ o, o < n → V o = V' o) (h : VoR O V n hv pv) (h' : VoR O V' n hv' pv') : ∀ a, a < 10 → hv a = hv' a ∧ pv a = pv' a := by
  have key : ∀ j, j ≤ n → ∀ a, hvS O V j a = hvS O V' j a ∧ pvS O V j a = pvS O V' j a := by
    intro j
    induction j with
    | zero => intro _ a; exact ⟨rfl, rfl⟩
    | succ j ih =>
      intro hj a
      unfold hvS pvS
      rw [e j (by omega), (ih (by omega) a).1, (ih (by omega) a).2]
      exact ⟨rfl, rfl⟩
  intro a ha
  rw [(h a ha).1, (h a ha).2, (h' a ha).1, (h' a ha).2]
  exact key n (Nat.le_refl _) a
theorem PAt_i {X : Mem} {p f z k i : Nat} {P : Nat → Nat} (h : PAt X p f P z) (hi : i < z) (e : k = f + i) : X p k = nI (P i) ∧ P i < 10 := by
  subst e
  exact h i hi
theorem Go_sure {hv pv : Nat → Int32} {a b : Nat} : Go hv pv 1 a b ↔ (ix (pv a)).testBit b = true := by
  unfold Go
  constructor
  · rintro (h | ⟨h, -⟩)
    · exact h
    · exact absurd h (by decide)
  · exact Or.inl
theorem Go_deny {hv pv : Nat → Int32} {a b : Nat} : Go hv pv 0 a b ↔ ¬ (¬ hv a = 0 ∧ ¬ (ix (pv a)).testBit b = true) := by
  unfold Go
  by_cases h1 : hv a = 0 <;> by_cases h2 : (ix (pv a)).testBit b = true <;> simp [h1, h2]
theorem VoR_to {O : Ob} {V : Nat → Int32} {i n : Nat} {hv pv : Nat → Int32} (h : VoR O V i hv pv) (e : i = n) : VoR O V n hv pv := e ▸ h
theorem PAt_k {X : Mem} {p f z k : Nat} {P : Nat → Nat} (h : PAt X p f P z) (h1 : f ≤ k) (h2 : k < f + z) : X p k = nI (P (k - f)) ∧ P (k - f) < 10 := PAt_i h (i := k - f) (by omega) (by omega)
theorem cm1 {g g' : Int32} {z r fu : Nat} (h : (if g = 0 then 0 else 1) + (z - r) < fu + 1) (hg : ¬ g = 0) (hr : r < z) : (if g' = 0 then 0 else 1) + (z - (r + 1)) < fu := by
  rw [if_neg hg] at h
  split <;> omega
theorem cm2 {g g' : Int32} {z r fu : Nat} (h : (if g = 0 then 0 else 1) + (z - r) < fu + 1) (hg : ¬ g = 0) (h0 : g' = 0) : (if g' = 0 then 0 else 1) + (z - r) < fu := by
  rw [if_neg hg] at h
  rw [if_pos h0]
  omega
