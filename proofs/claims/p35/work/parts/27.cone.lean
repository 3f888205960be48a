/-! cones -/
def pthN (W : Nat → Nat → Prop) : Nat → Nat → Nat → Prop
  | 0, x, y => x = y
  | n + 1, x, y => ∃ c, pthN W n x c ∧ W c y
def Rch (W : Nat → Nat → Prop) (x y : Nat) : Prop := ∃ n, pthN W n x y
theorem Rch_rf {W : Nat → Nat → Prop} {x : Nat} : Rch W x x := ⟨0, rfl⟩
theorem Rch_st {W : Nat → Nat → Prop} {x c y : Nat} (h : Rch W x c) (h2 : W c y) : Rch W x y := by
  obtain ⟨n, h⟩ := h
  exact ⟨n + 1, c, h, h2⟩
def Clo (W : Nat → Nat → Prop) (M : Nat) : Prop := ∀ j b, j < 10 → M.testBit j = true → W j b → M.testBit b = true
theorem Rch_in {W : Nat → Nat → Prop} {M x : Nat} (hM : M < 1024) (hx : M.testBit x = true) (hc : Clo W M) : ∀ y, Rch W x y → M.testBit y = true := by
  have hlt : ∀ y, M.testBit y = true → y < 10 := fun y hy => Classical.byContradiction fun q => by
    have hp : 1024 ≤ 2 ^ y := Nat.pow_le_pow_right (n := 2) (by decide) (by omega : 10 ≤ y)
    rw [Nat.testBit_lt_two_pow (by omega)] at hy
    cases hy
  rintro y ⟨n, hn⟩
  induction n generalizing y with
  | zero => exact hn ▸ hx
  | succ n ih =>
    obtain ⟨c, h1, h2⟩ := hn
    have := ih c h1
    exact hc c y (hlt c this) this h2
theorem tb_lt {M y : Nat} (hM : M < 1024) (hy : M.testBit y = true) : y < 10 := Classical.byContradiction fun q => by
  have hp : 1024 ≤ 2 ^ y := Nat.pow_le_pow_right (n := 2) (by decide) (by omega : 10 ≤ y)
  rw [Nat.testBit_lt_two_pow (by omega)] at hy
  cases hy
def bitV (M k : Nat) : Nat := M / 2 ^ k % 2
theorem bitV_1 {M k : Nat} : bitV M k = 1 ↔ M.testBit k = true := tb_iff.symm
theorem bitV_le {M k : Nat} : bitV M k ≤ 1 := Nat.le_of_lt_succ (Nat.mod_lt _ (by decide))
theorem sumN_mono {f g : Nat → Nat} : ∀ {n : Nat}, (∀ a, a < n → f a ≤ g a) → sumN f n ≤ sumN g n
  | 0, _ => Nat.le_refl _
  | n + 1, h => by
    show sumN f n + f n ≤ sumN g n + g n
    have := sumN_mono (f := f) (g := g) (n := n) (fun a ha => h a (by omega))
    have := h n (by omega)
    omega
theorem sumN_slt {f g : Nat → Nat} : ∀ {n : Nat}, (∀ a, a < n → f a ≤ g a) → (∃ a, a < n ∧ f a < g a) → sumN f n < sumN g n
  | 0, _, ⟨a, h, _⟩ => absurd h (Nat.not_lt_zero _)
  | n + 1, h, ⟨a, h1, h2⟩ => by
    show sumN f n + f n < sumN g n + g n
    have h3 := h n (by omega)
    have h4 := sumN_mono (f := f) (g := g) (n := n) (fun a ha => h a (by omega))
    rcases lt_succ_or.mp h1 with q | rfl
    · have := sumN_slt (f := f) (g := g) (n := n) (fun a ha => h a (by omega)) ⟨a, q, h2⟩
      omega
    · omega
theorem cnt_lt {M M' : Nat} (hM' : M' < 1024) (hM : M < 1024) (hs : ∀ b, M.testBit b = true → M'.testBit b = true) (hne : M ≠ M') : cntB M < cntB M' := by
  have hle : ∀ a, a < 10 → M / 2 ^ a % 2 ≤ M' / 2 ^ a % 2 := by
    intro a _
    by_cases q : M.testBit a = true
    · rw [tb_iff.mp q, tb_iff.mp (hs a q)]; exact Nat.le_refl _
    · have : M / 2 ^ a % 2 ≠ 1 := fun z => q (tb_iff.mpr z)
      have := Nat.mod_lt (M / 2 ^ a) (by decide : 0 < 2)
      omega
  refine sumN_slt hle ?_
  refine Classical.byContradiction fun q => hne (set_ext hM hM' (fun a ha => ⟨hs a, fun h => ?_⟩))
  refine Classical.byContradiction fun z => q ⟨a, ha, ?_⟩
  have h1 := tb_iff.mp h
  have h2 : M / 2 ^ a % 2 ≠ 1 := fun y => z (tb_iff.mpr y)
  have := Nat.mod_lt (M / 2 ^ a) (by decide : 0 < 2)
  show M / 2 ^ a % 2 < M' / 2 ^ a % 2
  omega
theorem tb_pow {a b : Nat} : (2 ^ a).testBit b = true ↔ b = a := by
  rw [Nat.testBit_two_pow, decide_eq_true_iff]
  exact ⟨fun h => h.symm, fun h => h.symm⟩
theorem cnt_pow {a : Nat} (ha : a < 10) : 0 < cntB (2 ^ a) := by
  have e : cntB 0 = 0 := by decide
  have := cnt_lt (M := 0) (M' := 2 ^ a) (pw_lt ha) (by decide) (fun b h => by simp at h) (Nat.ne_of_lt (Nat.two_pow_pos a))
  omega
theorem tb_or {S T b : Nat} : (S ||| T).testBit b = true ↔ S.testBit b = true ∨ T.testBit b = true := by
  rw [Nat.testBit_or, Bool.or_eq_true]
/-- one sweep over the members below m, from M: M2 -/
def Swp (W : Nat → Nat → Prop) (net M m M2 : Nat) : Prop := M2 < 1024 ∧ (∀ b, M.testBit b = true → M2.testBit b = true) ∧ (∀ b, M2.testBit b = true → Rch W net b) ∧ (∀ j b, j < m → M.testBit j = true → W j b → M2.testBit b = true) ∧ (Clo W M → M2 = M)
theorem Swp_0 {W : Nat → Nat → Prop} {net M : Nat} (h1 : M < 1024) (h2 : ∀ b, M.testBit b = true → Rch W net b) : Swp W net M 0 M := ⟨h1, fun _ h => h, h2, fun j b h => absurd h (Nat.not_lt_zero _), fun _ => rfl⟩
theorem Swp_no {W : Nat → Nat → Prop} {net M m M2 : Nat} (h : Swp W net M m M2) (hm : ¬ M2.testBit m = true) : Swp W net M (m + 1) M2 := by
  obtain ⟨a1, a2, a3, a4, a5⟩ := h
  refine ⟨a1, a2, a3, fun j b h1 h2 h3 => ?_, a5⟩
  rcases lt_succ_or.mp h1 with q | rfl
  · exact a4 j b q h2 h3
  · exact absurd (a2 j h2) hm
theorem Swp_yes {W : Nat → Nat → Prop} {net M m M2 t : Nat} (hm10 : m < 10) (h : Swp W net M m M2) (hm : M2.testBit m = true) (ht : t < 1024) (hw : ∀ b, t.testBit b = true ↔ W m b) : Swp W net M (m + 1) (M2 ||| t) := by
  obtain ⟨a1, a2, a3, a4, a5⟩ := h
  refine ⟨or_lt a1 ht, fun b h => tb_or.mpr (Or.inl (a2 b h)), fun b h => ?_, fun j b h1 h2 h3 => ?_, fun hc => ?_⟩
  · rcases tb_or.mp h with q | q
    · exact a3 b q
    · exact Rch_st (a3 m hm) ((hw b).mp q)
  · rcases lt_succ_or.mp h1 with q | rfl
    · exact tb_or.mpr (Or.inl (a4 j b q h2 h3))
    · exact tb_or.mpr (Or.inr ((hw b).mpr h3))
  · have e := a5 hc
    subst e
    refine set_ext (or_lt a1 ht) a1 (fun b _ => ⟨fun h => ?_, fun h => tb_or.mpr (Or.inl h)⟩)
    rcases tb_or.mp h with q | q
    · exact q
    · exact hc m b hm10 hm ((hw b).mp q)
def ConeI (W : Nat → Nat → Prop) (net s M : Nat) : Prop := M < 1024 ∧ M.testBit net = true ∧ (∀ b, M.testBit b = true → Rch W net b) ∧ (Clo W M ∨ s < cntB M)
theorem ConeI_0 {W : Nat → Nat → Prop} {net : Nat} (h : net < 10) : ConeI W net 0 (2 ^ net) := ⟨pw_lt h, tb_pow.mpr rfl, fun b hb => tb_pow.mp hb ▸ Rch_rf, Or.inr (cnt_pow h)⟩
theorem ConeI_s {W : Nat → Nat → Prop} {net s M M2 : Nat} (h : ConeI W net s M) (h2 : Swp W net M 10 M2) : ConeI W net (s + 1) M2 := by
  obtain ⟨a1, a2, a3, a4⟩ := h
  obtain ⟨b1, b2, b3, b4, b5⟩ := h2
  refine ⟨b1, b2 net a2, b3, ?_⟩
  by_cases e : M = M2
  · subst e
    exact Or.inl (fun j b hj h3 h4 => b4 j b hj h3 h4)
  · rcases a4 with q | q
    · exact absurd (b5 q).symm e
    · right
      have := cnt_lt b1 a1 b2 e
      omega
theorem ConeI_end {W : Nat → Nat → Prop} {net M : Nat} (h : ConeI W net 10 M) : SetIs (nI M) (Rch W net) := by
  obtain ⟨a1, a2, a3, a4⟩ := h
  have hc : Clo W M := by
    rcases a4 with q | q
    · exact q
    · have := cntB_le M; omega
  exact ⟨M, ⟨a1, fun b => ⟨a3 b, Rch_in a1 a2 hc b⟩⟩, rfl⟩
/-- nets ahead of a net in a path from which on each is a customer of the next; W a b: b is a customer of a -/
def ChN (W : Nat → Nat → Prop) (P : Nat → Nat) (i b : Nat) : Prop := ∃ j, j < i ∧ P j = b ∧ ∀ k, j ≤ k → k + 1 < i → W (P (k + 1)) (P k)
def Ahd (W : Nat → Nat → Prop) (P : Nat → Nat) (z net b : Nat) : Prop := ∃ i, i < z ∧ P i = net ∧ ∃ j, j < i ∧ P j = b ∧ ∀ k, j ≤ k → k < i → W (P (k + 1)) (P k)
def ChE (W : Nat → Nat → Prop) (P : Nat → Nat) (i b : Nat) : Prop := ∃ j, j < i ∧ P j = b ∧ ∀ k, j ≤ k → k < i → W (P (k + 1)) (P k)
theorem ChE_y {W : Nat → Nat → Prop} {P : Nat → Nat} {i b : Nat} (hi : 1 ≤ i) (h : W (P i) (P (i - 1))) : ChN W P i b ↔ ChE W P i b := by
  constructor
  · rintro ⟨j, h1, h2, h3⟩
    refine ⟨j, h1, h2, fun k g1 g2 => ?_⟩
    by_cases q : k + 1 < i
    · exact h3 k g1 q
    · have e : k = i - 1 := by omega
      subst e
      rw [show i - 1 + 1 = i by omega]
      exact h
  · rintro ⟨j, h1, h2, h3⟩
    exact ⟨j, h1, h2, fun k g1 g2 => h3 k g1 (by omega)⟩
theorem ChE_n {W : Nat → Nat → Prop} {P : Nat → Nat} {i b : Nat} (hi : 1 ≤ i) (h : ¬ W (P i) (P (i - 1))) : ¬ ChE W P i b := by
  rintro ⟨j, h1, h2, h3⟩
  have := h3 (i - 1) (by omega) (by omega)
  rw [show i - 1 + 1 = i by omega] at this
  exact h this
theorem ChE_0 {W : Nat → Nat → Prop} {P : Nat → Nat} {b : Nat} : ¬ ChE W P 0 b := fun ⟨_, h, _⟩ => absurd h (Nat.not_lt_zero _)
theorem ChN_s {W : Nat → Nat → Prop} {P : Nat → Nat} {i b : Nat} : ChN W P (i + 1) b ↔ ChE W P i b ∨ b = P i := by
  constructor
  · rintro ⟨j, h1, h2, h3⟩
    rcases lt_succ_or.mp h1 with q | rfl
    · exact Or.inl ⟨j, q, h2, fun k g1 g2 => h3 k g1 (by omega)⟩
    · exact Or.inr h2.symm
  · rintro (⟨j, h1, h2, h3⟩ | rfl)
    · exact ⟨j, by omega, h2, fun k g1 g2 => h3 k g1 (by omega)⟩
    · exact ⟨i, by omega, rfl, fun k g1 g2 => absurd g2 (by omega)⟩
theorem Ahd_at {W : Nat → Nat → Prop} {P : Nat → Nat} {z i net b : Nat} (hr : ¬ Rnd P z) (hi : i < z) (h : P i = net) : Ahd W P z net b ↔ ChE W P i b := by
  constructor
  · rintro ⟨i', g1, g2, g3⟩
    have : i' = i := by
      rcases Nat.lt_trichotomy i' i with q | q | q
      · exact absurd ⟨i', i, q, hi, g2.trans h.symm⟩ hr
      · exact q
      · exact absurd ⟨i, i', q, g1, h.trans g2.symm⟩ hr
    subst this
    exact g3
  · intro g
    exact ⟨i, hi, h, g⟩
theorem SetIs_add {p : Nat → Prop} {s y : Nat} (h : SetIs (nI s) p) (hs : s < 1024) (hy : y < 10) : SetIs (nI (s ||| 2 ^ y)) (fun b => p b ∨ b = y) ∧ s ||| 2 ^ y < 1024 := by
  obtain ⟨t, ⟨h1, h2⟩, h3⟩ := h
  have e : s = t := (nI_eq (by omega) (by omega)).mp h3
  subst e
  exact ⟨⟨s ||| 2 ^ y, ⟨or_lt h1 (pw_lt hy), fun b => by rw [tb_add, h2 b]⟩, rfl⟩, or_lt h1 (pw_lt hy)⟩
/-- the cone by paths -/
def PCone (W : Nat → Nat → Prop) (PP : Nat → Nat → Nat) (Z : Nat → Nat) (Th : Nat → Prop) (i net b : Nat) : Prop := b = net ∨ ∃ r, r < i ∧ Us PP Z Th r ∧ Ahd W (PP r) (Z r) net b
theorem SetIs_or {v w : Int32} {p q : Nat → Prop} (h : SetIs v p) (h2 : SetIs w q) : SetIs (v ||| w) (fun b => p b ∨ q b) := by
  obtain ⟨s, ⟨h1, h3⟩, rfl⟩ := h
  obtain ⟨t, ⟨g1, g3⟩, rfl⟩ := h2
  rw [nI_or]
  exact ⟨s ||| t, ⟨or_lt h1 g1, fun b => by rw [tb_or, h3 b, g3 b]⟩, rfl⟩
theorem PCone_s1 {v w : Int32} {W : Nat → Nat → Prop} {PP : Nat → Nat → Nat} {Z : Nat → Nat} {Th : Nat → Prop} {i net : Nat} (h : SetIs v (PCone W PP Z Th i net)) (hu : Us PP Z Th i) (h2 : SetIs w (Ahd W (PP i) (Z i) net)) : SetIs (v ||| w) (PCone W PP Z Th (i + 1) net) := by
  refine SetIs_congr (SetIs_or h h2) (fun b => ?_)
  unfold PCone
  rw [ex_succ]
  constructor
  · rintro ((g | g) | g)
    · exact Or.inl g
    · exact Or.inr (Or.inl g)
    · exact Or.inr (Or.inr ⟨hu, g⟩)
  · rintro (g | g | g)
    · exact Or.inl (Or.inl g)
    · exact Or.inl (Or.inr g)
    · exact Or.inr g.2
theorem PCone_s0 {v : Int32} {W : Nat → Nat → Prop} {PP : Nat → Nat → Nat} {Z : Nat → Nat} {Th : Nat → Prop} {i net : Nat} (h : SetIs v (PCone W PP Z Th i net)) (hu : ¬ Us PP Z Th i) : SetIs v (PCone W PP Z Th (i + 1) net) := by
  refine SetIs_congr h (fun b => ?_)
  unfold PCone
  rw [ex_succ]
  constructor
  · rintro (g | g)
    · exact Or.inl g
    · exact Or.inr (Or.inl g)
  · rintro (g | g | g)
    · exact Or.inl g
    · exact Or.inr g
    · exact absurd g.1 hu
theorem PCone_0 {W : Nat → Nat → Prop} {PP : Nat → Nat → Nat} {Z : Nat → Nat} {Th : Nat → Prop} {net : Nat} (h : net < 10) : SetIs (nI (2 ^ net)) (PCone W PP Z Th 0 net) := ⟨2 ^ net, ⟨pw_lt h, fun b => by rw [tb_pow]; exact ⟨Or.inl, fun g => g.elim id (fun ⟨_, h, _⟩ => absurd h (Nat.not_lt_zero _))⟩⟩, rfl⟩
theorem or_zero (x : Int32) : x ||| 0 = x := by
  apply i32_inj
  rw [Int32.toBitVec_or]
  exact BitVec.or_zero
theorem Nb_skip2 {nb : Nat → Int32} {i j : Nat} {PP : Nat → Nat → Nat} {Z : Nat → Nat} {Th : Nat → Prop} (h : SetRow nb (fun a b => Nb i PP Z Th a b ∨ (Us PP Z Th i ∧ Adj (PP i) j a b))) (hu : ¬ Us PP Z Th i) : SetRow nb (Nb (i + 1) PP Z Th) := Nb_skip (SetRow_congr h (fun a b _ => ⟨fun q => q.elim id (fun q => absurd q.1 hu), Or.inl⟩)) hu
theorem Nb_add2 {nb : Nat → Int32} {i j : Nat} {PP : Nat → Nat → Nat} {Z : Nat → Nat} {Th : Nat → Prop} (hu : Us PP Z Th i) (hj : j = Z i) (h : SetRow nb (fun a b => Nb i PP Z Th a b ∨ (Us PP Z Th i ∧ Adj (PP i) j a b))) : SetRow nb (Nb (i + 1) PP Z Th) := by
  subst hj
  exact Nb_add hu (SetRow_congr h (fun a b _ => ⟨fun q => q.elim Or.inl (fun q => Or.inr q.2), fun q => q.elim Or.inl (fun q => Or.inr ⟨hu, q⟩)⟩))
theorem Nb_pair {nb : Nat → Int32} {Q : Nat → Nat → Prop} {U : Prop} {P : Nat → Nat} {j : Nat} (hu : U) (h : SetRow nb (fun a b => ((Q a b ∨ (U ∧ Adj P (j + 1) a b)) ∨ (a = P j ∧ b = P (j + 1))) ∨ (a = P (j + 1) ∧ b = P j))) : SetRow nb (fun a b => Q a b ∨ (U ∧ Adj P (j + 1 + 1) a b)) := by
  refine SetRow_congr h (fun a b _ => ?_)
  rw [Adj_succ (i := j + 1) (by omega), Nat.add_sub_cancel]
  constructor
  · rintro (((h | h) | h) | h)
    · exact Or.inl h
    · exact Or.inr ⟨hu, Or.inl h.2⟩
    · exact Or.inr ⟨hu, Or.inr (Or.inl h)⟩
    · exact Or.inr ⟨hu, Or.inr (Or.inr h)⟩
  · rintro (h | ⟨h1, h | h | h⟩)
    · exact Or.inl (Or.inl (Or.inl h))
    · exact Or.inl (Or.inl (Or.inr ⟨h1, h⟩))
    · exact Or.inl (Or.inr h)
    · exact Or.inr h
