/-! what the reference is asked -/
theorem RBm_85 {X : Mem} {R : Nat} {PP : Nat → Nat → Nat} {Z : Nat → Nat} {Th : Nat → Prop} {k : Nat} {c : Int32} (hk : k ≠ 25) (h : RBm X R PP Z Th) : RBm (ma X 85 (upd (X 85) k c)) R PP Z Th := by
  refine ⟨h.1, by rw [ma_eq, upd_ne (fun q => hk q.symm)]; exact h.2.1, fun r hr => ?_⟩
  obtain ⟨h1, h2, h3, h4, h5⟩ := h.2.2 r hr
  refine ⟨h1, h2, by rw [ma_ne (by decide)]; exact h3, fun k hk => ?_, by rw [ma_ne (by decide)]; exact h5⟩
  rw [ma_ne (by decide)]
  exact h4 k hk
theorem pw_le {k m : Nat} (h : k ≤ m) : 10 ^ k ≤ 10 ^ m := Nat.pow_le_pow_right (by decide) h
theorem pw_3 {k : Nat} (h : k ≤ 3) : 10 ^ k ≤ 1000 := pw_le (m := 3) h
theorem pw_5 {k : Nat} (h : k ≤ 5) : 10 ^ k ≤ 100000 := pw_le (m := 5) h
theorem cd_lt {a b m i : Nat} (ha : a < 10) (hb : b < 10) (hi : i ≤ 3) (hm : m < 10 ^ (2 + i - 2)) : a + 10 * m + 10 ^ (2 + i - 1) * b < 100000 := by
  have h : i = 0 ∨ i = 1 ∨ i = 2 ∨ i = 3 := by omega
  rcases h with rfl | rfl | rfl | rfl <;> simp at hm ⊢ <;> omega
theorem acc_y {p : Nat → Prop} {S c o : Nat} (h : c = S + sumN (fun x => oneIf (p x)) o) (hp : p o) : c + 1 = S + sumN (fun x => oneIf (p x)) (o + 1) := by
  rw [sum_y hp, h, Nat.add_assoc]
theorem acc_n {p : Nat → Prop} {S c o : Nat} (h : c = S + sumN (fun x => oneIf (p x)) o) (hp : ¬ p o) : c = S + sumN (fun x => oneIf (p x)) (o + 1) := by
  rw [sum_n hp]
  exact h
/-- from the place j on some nets lead, each a customer of the next, to a net -/
def GoN (W : Nat → Nat → Prop) (P : Nat → Nat) (z net j : Nat) : Prop := ∃ i, j ≤ i ∧ i < z ∧ P i = net ∧ ∀ q, j ≤ q → q < i → W (P (q + 1)) (P q)
theorem GoN_z {W : Nat → Nat → Prop} {P : Nat → Nat} {z net : Nat} : ¬ GoN W P z net z := fun ⟨_, h1, h2, _⟩ => absurd h1 (by omega)
theorem GoN_lt {W : Nat → Nat → Prop} {P : Nat → Nat} {z net j : Nat} (h : GoN W P z net j) : j < z := by
  obtain ⟨i, h1, h2, _⟩ := h
  omega
theorem GoN_s {W : Nat → Nat → Prop} {P : Nat → Nat} {z net k : Nat} (hk : k < z) : GoN W P z net k ↔ P k = net ∨ (GoN W P z net (k + 1) ∧ W (P (k + 1)) (P k)) := by
  constructor
  · rintro ⟨i, h1, h2, h3, h4⟩
    rcases Nat.lt_or_ge k i with q | q
    · exact Or.inr ⟨⟨i, by omega, h2, h3, fun q g1 g2 => h4 q (by omega) g2⟩, h4 k (Nat.le_refl _) q⟩
    · have : i = k := by omega
      subst this
      exact Or.inl h3
  · rintro (h | ⟨⟨i, h1, h2, h3, h4⟩, h5⟩)
    · exact ⟨k, Nat.le_refl _, hk, h, fun q g1 g2 => absurd g1 (by omega)⟩
    · refine ⟨i, by omega, h2, h3, fun q g1 g2 => ?_⟩
      by_cases e : q = k
      · subst e; exact h5
      · exact h4 q (by omega) g2
theorem GoN_1 {W : Nat → Nat → Prop} {P : Nat → Nat} {z net k : Nat} (hk : k < z) (h : P k = net) : GoN W P z net k := (GoN_s hk).mpr (Or.inl h)
theorem GoN_2 {W : Nat → Nat → Prop} {P : Nat → Nat} {z net k : Nat} (hk : k < z) (h : GoN W P z net (k + 1)) (h2 : W (P (k + 1)) (P k)) : GoN W P z net k := (GoN_s hk).mpr (Or.inr ⟨h, h2⟩)
theorem GoN_3 {W : Nat → Nat → Prop} {P : Nat → Nat} {z net k : Nat} (hk : k < z) (h : ¬ P k = net) (h2 : ¬ GoN W P z net (k + 1)) : ¬ GoN W P z net k := fun q => ((GoN_s hk).mp q).elim h (fun g => h2 g.1)
theorem GoN_4 {W : Nat → Nat → Prop} {P : Nat → Nat} {z net k : Nat} (hk : k < z) (h : ¬ P k = net) (h2 : ¬ W (P (k + 1)) (P k)) : ¬ GoN W P z net k := fun q => ((GoN_s hk).mp q).elim h (fun g => h2 g.2)
/-- the set so far: what was there, and the nets from the place j on that lead to the net -/
def PcS (W : Nat → Nat → Prop) (PP : Nat → Nat → Nat) (Z : Nat → Nat) (Th : Nat → Prop) (r net M j : Nat) : Prop := M < 1024 ∧ ∀ b, M.testBit b = true ↔ PCone W PP Z Th r net b ∨ (Us PP Z Th r ∧ ∃ k, j ≤ k ∧ k < Z r ∧ PP r k = b ∧ GoN W (PP r) (Z r) net k)
theorem PcS_0 {W : Nat → Nat → Prop} {PP : Nat → Nat → Nat} {Z : Nat → Nat} {Th : Nat → Prop} {r net M : Nat} (h1 : M < 1024) (h2 : ∀ b, M.testBit b = true ↔ PCone W PP Z Th r net b) : PcS W PP Z Th r net M (Z r) := ⟨h1, fun b => (h2 b).trans ⟨Or.inl, fun q => q.elim id (fun ⟨_, k, g1, g2, _⟩ => absurd g1 (by omega))⟩⟩
theorem PcS_y {W : Nat → Nat → Prop} {PP : Nat → Nat → Nat} {Z : Nat → Nat} {Th : Nat → Prop} {r net M k : Nat} (h : PcS W PP Z Th r net M (k + 1)) (hu : Us PP Z Th r) (hk : k < Z r) (hp : PP r k < 10) (hg : GoN W (PP r) (Z r) net k) : PcS W PP Z Th r net (M ||| 2 ^ PP r k) k := by
  refine ⟨or_lt h.1 (pw_lt hp), fun b => ?_⟩
  rw [tb_add, h.2 b]
  constructor
  · rintro ((q | ⟨q1, i, q2, q3⟩) | q)
    · exact Or.inl q
    · exact Or.inr ⟨q1, i, by omega, q3⟩
    · exact Or.inr ⟨hu, k, Nat.le_refl _, hk, q.symm, hg⟩
  · rintro (q | ⟨q1, i, q2, q3, q4, q5⟩)
    · exact Or.inl (Or.inl q)
    · by_cases e : i = k
      · subst e; exact Or.inr q4.symm
      · exact Or.inl (Or.inr ⟨q1, i, by omega, q3, q4, q5⟩)
theorem PcS_n {W : Nat → Nat → Prop} {PP : Nat → Nat → Nat} {Z : Nat → Nat} {Th : Nat → Prop} {r net M k : Nat} (h : PcS W PP Z Th r net M (k + 1)) (hg : ¬ GoN W (PP r) (Z r) net k) : PcS W PP Z Th r net M k := by
  refine ⟨h.1, fun b => (h.2 b).trans ?_⟩
  constructor
  · rintro (q | ⟨q1, i, q2, q3⟩)
    · exact Or.inl q
    · exact Or.inr ⟨q1, i, by omega, q3⟩
  · rintro (q | ⟨q1, i, q2, q3, q4, q5⟩)
    · exact Or.inl q
    · by_cases e : i = k
      · subst e; exact absurd q5 hg
      · exact Or.inr ⟨q1, i, by omega, q3, q4, q5⟩
theorem PcS_end {W : Nat → Nat → Prop} {PP : Nat → Nat → Nat} {Z : Nat → Nat} {Th : Nat → Prop} {r net M : Nat} (h : PcS W PP Z Th r net M 0) : M < 1024 ∧ ∀ b, M.testBit b = true ↔ PCone W PP Z Th (r + 1) net b := by
  refine ⟨h.1, fun b => (h.2 b).trans ?_⟩
  unfold PCone
  rw [ex_succ]
  constructor
  · rintro ((q | q) | ⟨q1, k, q2, q3, q4, i, g1, g2, g3, g4⟩)
    · exact Or.inl q
    · exact Or.inr (Or.inl q)
    · rcases Nat.lt_or_ge k i with q | q
      · exact Or.inr (Or.inr ⟨q1, i, g2, g3, k, q, q4, g4⟩)
      · have : i = k := by omega
        subst this
        exact Or.inl (q4.symm.trans g3)
  · rintro (q | q | ⟨q1, i, g2, g3, k, q, q4, g4⟩)
    · exact Or.inl (Or.inl q)
    · exact Or.inl (Or.inr q)
    · exact Or.inr ⟨q1, k, Nat.zero_le _, by omega, q4, i, by omega, g2, g3, g4⟩
theorem PcS_no {W : Nat → Nat → Prop} {PP : Nat → Nat → Nat} {Z : Nat → Nat} {Th : Nat → Prop} {r net M j : Nat} (h : PcS W PP Z Th r net M j) (hu : ¬ Us PP Z Th r) : M < 1024 ∧ ∀ b, M.testBit b = true ↔ PCone W PP Z Th (r + 1) net b := by
  refine ⟨h.1, fun b => (h.2 b).trans ?_⟩
  unfold PCone
  rw [ex_succ]
  constructor
  · rintro ((q | q) | q)
    · exact Or.inl q
    · exact Or.inr (Or.inl q)
    · exact absurd q.1 hu
  · rintro (q | q | q)
    · exact Or.inl (Or.inl q)
    · exact Or.inl (Or.inr q)
    · exact absurd q.1 hu
theorem PC_0 {W : Nat → Nat → Prop} {PP : Nat → Nat → Nat} {Z : Nat → Nat} {Th : Nat → Prop} {net : Nat} (h : net < 10) : 2 ^ net < 1024 ∧ ∀ b, (2 ^ net).testBit b = true ↔ PCone W PP Z Th 0 net b := ⟨pw_lt h, fun b => by rw [tb_pow]; exact ⟨Or.inl, fun g => g.elim id (fun ⟨_, h, _⟩ => absurd h (Nat.not_lt_zero _))⟩⟩
theorem kv_0 {j : Nat} (hj : j ≤ 6) (h : nI j - 1 < 0) : j = 0 := by
  refine Classical.byContradiction fun q => ?_
  have e : nI j - 1 = nI (j - 1) := pk_sub (a := j) (b := 1) (by omega)
  rw [e] at h
  exact nz_lt (by omega) h
theorem kv_1 {j : Nat} (h : ¬ nI j - 1 < 0) : ∃ k, j = k + 1 ∧ nI j - 1 = nI k := by
  rcases Nat.eq_zero_or_pos j with q | q
  · subst q
    exact absurd (by decide) h
  · exact ⟨j - 1, by omega, pk_sub (a := j) (b := 1) (by omega)⟩
theorem kv_s {k : Nat} : nI k + -1 = nI k - 1 := (Int32.sub_eq_add_neg _ _).symm
/-- a block's addresses -/
theorem blk_le {a b : Nat} (ha : a < 256) (hb : b < 9) (h : a % 2 ^ (8 - b) = 0) : a + 2 ^ (8 - b) ≤ 256 := (by decide +kernel : ∀ b, b < 9 → ∀ a, a < 256 → a % 2 ^ (8 - b) = 0 → a + 2 ^ (8 - b) ≤ 256) b hb a ha h
theorem shr_k {a b : Nat} (ha : a < 256) (hb : b < 9) : nI a >>> ((8 - nI b) &&& 31) = nI (a / 2 ^ (8 - b)) := by
  have e : (8 : Int32) - nI b = nI (8 - b) := pk_sub (a := 8) (b := b) (by omega)
  rw [e]
  exact pk_shrN (by omega) _ (8 - b) (s_l31 _ (by omega))
theorem lies_iff {x a b : Nat} (hx : x < 256) (ha : a < 256) (hb : b < 9) (h : a % 2 ^ (8 - b) = 0) : LiesIn (nI x) 8 (nI a) (nI b) ↔ a ≤ x ∧ x < a + 2 ^ (8 - b) := by
  have hp : 0 < 2 ^ (8 - b) := Nat.two_pow_pos _
  have e8 : nI b ≤ 8 := (nI_leI (a := b) (b := 8) (by omega) (by decide)).mpr (by omega)
  have d1 : x / 2 ^ (8 - b) ≤ x := Nat.div_le_self _ _
  have d2 : a / 2 ^ (8 - b) ≤ a := Nat.div_le_self _ _
  unfold LiesIn
  rw [shr_k hx hb, shr_k ha hb, nI_eq (by omega) (by omega)]
  have m1 := Nat.div_add_mod x (2 ^ (8 - b))
  have m2 := Nat.div_add_mod a (2 ^ (8 - b))
  have m3 := Nat.mod_lt x hp
  rw [h, Nat.add_zero] at m2
  constructor
  · rintro ⟨-, q⟩
    rw [q, m2] at m1
    omega
  · rintro ⟨q1, q2⟩
    refine ⟨e8, ?_⟩
    apply Nat.div_eq_of_lt_le
    · rw [Nat.mul_comm, m2]; exact q1
    · rw [Nat.succ_mul, Nat.mul_comm, m2]; exact q2
/-- the values and lengths of routes' blocks -/
def VLI (f g : Nat → Int32) (R : Nat) : Prop := ∀ r, r < R → ∃ a b, a < 256 ∧ b < 9 ∧ f r = nI a ∧ g r = nI b ∧ a % 2 ^ (8 - b) = 0
theorem AdL {f g : Nat → Int32} {PP : Nat → Nat → Nat} {Th : Nat → Prop} {S x r va vb k : Nat} (hx : x < 256) (h1 : va < 256) (h2 : vb < 9) (h3 : va % 2 ^ (8 - vb) = 0) (e1 : f r = nI va) (e2 : g r = nI vb) (ht : Th r) (hs : S.testBit (PP r 0) = true) (hk : k = va + 2 ^ (8 - vb)) : ReA f g PP Th S x r ∨ (va ≤ x ∧ x < k) ↔ ReA f g PP Th S x (r + 1) := by
  subst hk
  rw [ReA_succ, e1, e2, lies_iff hx h1 h2 h3]
  exact ⟨fun q => q.elim Or.inl (fun q => Or.inr ⟨ht, hs, q⟩), fun q => q.elim Or.inl (fun q => Or.inr q.2.2)⟩
theorem AdN {f g : Nat → Int32} {PP : Nat → Nat → Nat} {Th : Nat → Prop} {S x r : Nat} (h : ¬ (Th r ∧ S.testBit (PP r 0) = true)) : ReA f g PP Th S x r ↔ ReA f g PP Th S x (r + 1) := by
  rw [ReA_succ]
  exact ⟨Or.inl, fun q => q.elim id (fun q => absurd ⟨q.1, q.2.1⟩ h)⟩
theorem put_at {f : Nat → Int32} {Q : Nat → Prop} {va k : Nat} (hv : va ≤ k) (h : ∀ x, x < 256 → bI (Q x ∨ (va ≤ x ∧ x < k)) (f x)) : ∀ x, x < 256 → bI (Q x ∨ (va ≤ x ∧ x < k + 1)) (upd f k 1 x) := by
  intro x hx
  by_cases e : x = k
  · subst e
    rw [upd_eq]
    exact bI.t (Or.inr ⟨hv, by omega⟩)
  · rw [upd_ne e]
    refine (h x hx).congr ⟨fun q => q.elim Or.inl (fun q => Or.inr ⟨q.1, by omega⟩), fun q => q.elim Or.inl (fun q => Or.inr ⟨q.1, by omega⟩)⟩
theorem KpM_put {X Y : Mem} {p : Nat} {f : Nat → Int32} (hp : 106 < p) (h : KpM X Y) : KpM X (ma Y p f) := ⟨fun q hq => by rw [ma_ne (by omega)]; exact h.1 q hq, fun k h1 h2 => by rw [ma_ne (by omega)]; exact h.2 k h1 h2⟩
