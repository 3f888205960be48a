def BestIs (rk : Nat → Nat) (P : Nat → Nat) (z t : Nat) : Prop := t < z ∧ (∀ j, j < z → rk (P j) ≤ rk (P t)) ∧ ∀ j, j < t → rk (P j) < rk (P t)
def Top (C : Nat) (rk : Nat → Nat) (P : Nat → Nat) (z t : Nat) : Prop := (t < z ∧ C.testBit (P t) = true ∧ ∀ j, j < t → ¬ C.testBit (P j) = true) ∨ ((∀ j, j < z → ¬ C.testBit (P j) = true) ∧ BestIs rk P z t)
theorem Top_one {C : Nat} {rk : Nat → Nat} {P : Nat → Nat} {z t t' : Nat} (h : Top C rk P z t) (h' : Top C rk P z t') : t = t' := by
  rcases h with ⟨a1, a2, a3⟩ | ⟨a0, a1, a2, a3⟩ <;> rcases h' with ⟨b1, b2, b3⟩ | ⟨b0, b1, b2, b3⟩
  · rcases Nat.lt_trichotomy t t' with q | q | q
    · exact absurd a2 (b3 t q)
    · exact q
    · exact absurd b2 (a3 t' q)
  · exact absurd a2 (b0 t a1)
  · exact absurd b2 (a0 t' b1)
  · rcases Nat.lt_trichotomy t t' with q | q | q
    · have := b3 t q; have := a2 t' b1; omega
    · exact q
    · have := a3 t' q; have := b2 t a1; omega
def BestTo (rk : Nat → Nat) (P : Nat → Nat) (i t : Nat) : Prop := (i = 0 → t = 0) ∧ (0 < i → BestIs rk P i t)
theorem BestTo_0 {rk : Nat → Nat} {P : Nat → Nat} : BestTo rk P 0 0 := ⟨fun _ => rfl, fun h => absurd h (Nat.lt_irrefl _)⟩
theorem Best_new {rk : Nat → Nat} {P : Nat → Nat} {i t : Nat} (h : BestTo rk P i t) (hg : rk (P t) < rk (P i)) : BestTo rk P (i + 1) i := by
  refine ⟨fun q => absurd q (by omega), fun _ => ?_⟩
  rcases Nat.eq_zero_or_pos i with z | z
  · rw [h.1 z, z] at hg
    exact absurd hg (Nat.lt_irrefl _)
  · obtain ⟨h1, h2, h3⟩ := h.2 z
    refine ⟨by omega, fun j hj => ?_, fun j hj => ?_⟩
    · rcases lt_succ_or.mp hj with q | rfl
      · have := h2 j q; omega
      · exact Nat.le_refl _
    · have := h2 j hj; omega
theorem Best_old {rk : Nat → Nat} {P : Nat → Nat} {i t : Nat} (h : BestTo rk P i t) (hg : rk (P i) ≤ rk (P t)) : BestTo rk P (i + 1) t := by
  refine ⟨fun q => absurd q (by omega), fun _ => ?_⟩
  rcases Nat.eq_zero_or_pos i with z | z
  · have := h.1 z
    subst z; subst this
    exact ⟨by omega, fun j hj => by rw [show j = 0 by omega]; exact Nat.le_refl _, fun j hj => absurd hj (by omega)⟩
  · obtain ⟨h1, h2, h3⟩ := h.2 z
    refine ⟨by omega, fun j hj => ?_, h3⟩
    rcases lt_succ_or.mp hj with q | rfl
    · exact h2 j q
    · exact hg
theorem Top_ex (C : Nat) (rk : Nat → Nat) (P : Nat → Nat) {z : Nat} (hz : 1 ≤ z) : ∃ t, Top C rk P z t := by
  by_cases h : ∃ k, k < z ∧ C.testBit (P k) = true
  · have key : ∀ n, (∃ k, k < n ∧ C.testBit (P k) = true) → ∃ t, t < n ∧ C.testBit (P t) = true ∧ ∀ j, j < t → ¬ C.testBit (P j) = true := by
      intro n
      induction n with
      | zero => rintro ⟨k, h1, _⟩; omega
      | succ n ih =>
        rintro ⟨k, h1, h2⟩
        by_cases q : ∃ k, k < n ∧ C.testBit (P k) = true
        · obtain ⟨t, g1, g2⟩ := ih q; exact ⟨t, by omega, g2⟩
        · have : k = n := Classical.byContradiction fun x => q ⟨k, by omega, h2⟩
          subst this
          exact ⟨k, by omega, h2, fun j hj g => q ⟨j, hj, g⟩⟩
    obtain ⟨t, h1, h2, h3⟩ := key z h
    exact ⟨t, Or.inl ⟨h1, h2, h3⟩⟩
  · have key : ∀ n, ∃ t, BestTo rk P n t := by
      intro n
      induction n with
      | zero => exact ⟨0, BestTo_0⟩
      | succ n ih =>
        obtain ⟨t, ht⟩ := ih
        rcases Nat.lt_or_ge (rk (P t)) (rk (P n)) with q | q
        · exact ⟨n, Best_new ht q⟩
        · exact ⟨t, Best_old ht q⟩
    obtain ⟨t, ht⟩ := key z
    exact ⟨t, Or.inr ⟨fun j hj g => h ⟨j, hj, g⟩, ht.2 hz⟩⟩
noncomputable def tpF (C : Nat) (rk : Nat → Nat) (P : Nat → Nat) (z : Nat) : Nat := Classical.epsilon (fun t => Top C rk P z t)
theorem tpF_is {C : Nat} {rk : Nat → Nat} {P : Nat → Nat} {z t : Nat} (h : Top C rk P z t) : tpF C rk P z = t := Top_one (Classical.epsilon_spec (p := fun t => Top C rk P z t) ⟨t, h⟩) h
theorem Top_lt {C : Nat} {rk : Nat → Nat} {P : Nat → Nat} {z t : Nat} (h : Top C rk P z t) : t < z := by
  rcases h with ⟨h, -⟩ | ⟨-, h, -⟩ <;> exact h
/-- the pair k of a path votes for b as the provider of a -/
def Pr (P : Nat → Nat) (top k a b : Nat) : Prop := (k < top ∧ P k = a ∧ P (k + 1) = b) ∨ (¬ k < top ∧ P (k + 1) = a ∧ P k = b)
def Bo (C a b : Nat) : Prop := C.testBit a = true ∧ C.testBit b = true
noncomputable def crC (C : Nat) (P : Nat → Nat) (top z a b : Nat) : Nat := sumN (fun k => oneIf (Pr P top k a b ∧ ¬ Bo C (P k) (P (k + 1)))) (z - 1)
noncomputable def crM (P : Nat → Nat) (top z a b : Nat) : Nat := sumN (fun k => oneIf (Pr P top k a b)) (z - 1)
noncomputable def vC (C : Nat) (rk : Nat → Nat) (PP : Nat → Nat → Nat) (Z : Nat → Nat) (Th : Nat → Prop) (R a b : Nat) : Nat := sumN (fun r => oneIf (Us PP Z Th r) * crC C (PP r) (tpF C rk (PP r) (Z r)) (Z r) a b) R
noncomputable def vM (C : Nat) (rk : Nat → Nat) (PP : Nat → Nat → Nat) (Z : Nat → Nat) (Th : Nat → Prop) (R a b : Nat) : Nat := sumN (fun r => oneIf (Us PP Z Th r) * crM (PP r) (tpF C rk (PP r) (Z r)) (Z r) a b) R
theorem oneIf_le (p : Prop) : oneIf p ≤ 1 := by
  by_cases h : p
  · rw [oneIf_t h]; exact Nat.le_refl _
  · rw [oneIf_f h]; exact Nat.zero_le _
theorem sumN_le {f : Nat → Nat} {c : Nat} (h : ∀ a, f a ≤ c) : ∀ n, sumN f n ≤ n * c
  | 0 => by rw [Nat.zero_mul]; exact Nat.le_refl _
  | n + 1 => by
    show sumN f n + f n ≤ (n + 1) * c
    have := sumN_le h n
    have := h n
    rw [Nat.succ_mul]
    omega
theorem crC_le {C : Nat} {P : Nat → Nat} {top z a b : Nat} : crC C P top z a b ≤ z - 1 := by
  have := sumN_le (f := fun k => oneIf (Pr P top k a b ∧ ¬ Bo C (P k) (P (k + 1)))) (c := 1) (fun k => oneIf_le _) (z - 1)
  rw [Nat.mul_one] at this
  exact this
theorem crM_le {P : Nat → Nat} {top z a b : Nat} : crM P top z a b ≤ z - 1 := by
  have := sumN_le (f := fun k => oneIf (Pr P top k a b)) (c := 1) (fun k => oneIf_le _) (z - 1)
  rw [Nat.mul_one] at this
  exact this
theorem Pr_pair {P : Nat → Nat} {top k a b : Nat} (h : Pr P top k a b) : (P k = a ∧ P (k + 1) = b) ∨ (P (k + 1) = a ∧ P k = b) := by
  rcases h with ⟨-, h⟩ | ⟨-, h⟩
  · exact Or.inl h
  · exact Or.inr h
theorem crC_M {C : Nat} {P : Nat → Nat} {top z a b : Nat} (h : ¬ Bo C a b) : crC C P top z a b = crM P top z a b := by
  refine sumN_congr (fun k _ => oneIf_c ⟨fun q => q.1, fun q => ⟨q, fun x => h ?_⟩⟩)
  rcases Pr_pair q with ⟨rfl, rfl⟩ | ⟨rfl, rfl⟩
  · exact x
  · exact ⟨x.2, x.1⟩
theorem crC_0 {C : Nat} {P : Nat → Nat} {top z a b : Nat} (h : Bo C a b) : crC C P top z a b = 0 := by
  have : crC C P top z a b = sumN (fun _ => 0) (z - 1) := by
    refine sumN_congr (fun k _ => oneIf_f (fun q => q.2 ?_))
    rcases Pr_pair q.1 with ⟨rfl, rfl⟩ | ⟨rfl, rfl⟩
    · exact h
    · exact ⟨h.2, h.1⟩
  rw [this, sumN_zero]
theorem crC_s {C : Nat} {P : Nat → Nat} {top i a b : Nat} (hi : 1 ≤ i) : crC C P top (i + 1) a b = crC C P top i a b + oneIf (Pr P top (i - 1) a b ∧ ¬ Bo C (P (i - 1)) (P i)) := by
  obtain ⟨j, rfl⟩ : ∃ j, i = j + 1 := ⟨i - 1, by omega⟩
  rfl
theorem crM_s {P : Nat → Nat} {top i a b : Nat} (hi : 1 ≤ i) : crM P top (i + 1) a b = crM P top i a b + oneIf (Pr P top (i - 1) a b) := by
  obtain ⟨j, rfl⟩ : ∃ j, i = j + 1 := ⟨i - 1, by omega⟩
  rfl
/-- rows of votes, a row a net -/
def VRc (Y : Mem) (v : Nat → Nat → Nat) : Prop := ∀ a b, a < 10 → b < 10 → Y (71 + a) b = nI (v a b)
def OutV (X Y : Mem) : Prop := ∀ p, p < 71 ∨ 80 < p → Y p = X p
theorem VRc_congr {Y : Mem} {v v' : Nat → Nat → Nat} (h : VRc Y v) (e : ∀ a b, a < 10 → b < 10 → v a b = v' a b) : VRc Y v' := fun a b ha hb => by rw [← e a b ha hb]; exact h a b ha hb
theorem VRc_add {Y : Mem} {v : Nat → Nat → Nat} {x y : Nat} (hx : x < 10) (hy : y < 10) (h : VRc Y v) : VRc (ma Y (71 + x) (upd (Y (71 + x)) y (nI (v x y + 1)))) (fun a b => v a b + oneIf (a = x ∧ b = y)) := by
  intro a b ha hb
  show _ = nI (v a b + oneIf (a = x ∧ b = y))
  by_cases q : a = x
  · subst q
    rw [ma_eq]
    by_cases q2 : b = y
    · subst q2
      rw [upd_eq, oneIf_t (p := a = a ∧ b = b) ⟨rfl, rfl⟩]
    · rw [upd_ne q2, oneIf_f (p := a = a ∧ b = y) (fun z => q2 z.2), Nat.add_zero]
      exact h a b ha hb
  · rw [ma_ne (by omega), oneIf_f (p := a = x ∧ b = y) (fun z => q z.1), Nat.add_zero]
    exact h a b ha hb
theorem OutV_put {X Y : Mem} {x : Nat} {f : Nat → Int32} (hx : x < 10) (h : OutV X Y) : OutV X (ma Y (71 + x) f) := fun p hp => by
  rw [ma_ne (by omega)]
  exact h p hp
theorem Pr_up {P : Nat → Nat} {top i a b : Nat} (hi : 1 ≤ i) (h : i ≤ top) : Pr P top (i - 1) a b ↔ (a = P (i - 1) ∧ b = P i) := by
  have e : i - 1 + 1 = i := by omega
  unfold Pr
  rw [e]
  constructor
  · rintro (⟨-, h1, h2⟩ | ⟨h1, -⟩)
    · exact ⟨h1.symm, h2.symm⟩
    · omega
  · rintro ⟨h1, h2⟩; exact Or.inl ⟨by omega, h1.symm, h2.symm⟩
theorem Pr_dn {P : Nat → Nat} {top i a b : Nat} (hi : 1 ≤ i) (h : top < i) : Pr P top (i - 1) a b ↔ (a = P i ∧ b = P (i - 1)) := by
  have e : i - 1 + 1 = i := by omega
  unfold Pr
  rw [e]
  constructor
  · rintro (⟨h1, -⟩ | ⟨-, h1, h2⟩)
    · omega
    · exact ⟨h1.symm, h2.symm⟩
  · rintro ⟨h1, h2⟩; exact Or.inr ⟨by omega, h1.symm, h2.symm⟩
noncomputable def rkc (X : Mem) (rd a : Nat) : Nat := if rd = 0 then cntB (ix (X 69 a)) else cntB (ix (X (82 + (rd - 1)) a))
theorem rkc_le {X : Mem} {rd a : Nat} : rkc X rd a ≤ 10 := by
  unfold rkc
  split <;> exact cntB_le _
