/-! relations -/
def cntB (s : Nat) : Nat := sumN (fun k => s / 2 ^ k % 2) 10
theorem cntB_le (s : Nat) : cntB s ≤ 10 := by
  have h : ∀ n, sumN (fun k => s / 2 ^ k % 2) n ≤ n := by
    intro n
    induction n with
    | zero => exact Nat.le_refl _
    | succ n ih =>
      show sumN (fun k => s / 2 ^ k % 2) n + s / 2 ^ n % 2 ≤ n + 1
      have := Nat.mod_lt (s / 2 ^ n) (by decide : 0 < 2)
      omega
  exact h 10
def bcE (i0 : Int32) : Int32 :=
  let u := fun (x : Int32) (n : Int32) => (x.toUInt32 >>> (n.toUInt32 &&& Int32.toUInt32 31)).toInt32
  let i1 := i0 - (u i0 1 &&& 1431655765)
  let i2 := (i1 &&& 858993459) + (u i1 2 &&& 858993459)
  let i3 := (i2 + u i2 4) &&& 252645135
  let i4 := i3 + u i3 8
  let i5 := i4 + u i4 16
  i5 &&& 63
theorem bcE_eq : ∀ s, s < 1024 → bcE (nI s) = nI (cntB s) := by decide +kernel
def SetIs (v : Int32) (p : Nat → Prop) : Prop := ∃ s, (s < 1024 ∧ ∀ b, s.testBit b = true ↔ p b) ∧ v = nI s
def SetRow (nb : Nat → Int32) (Q : Nat → Nat → Prop) : Prop := ∀ a, a < 10 → SetIs (nb a) (Q a)
theorem SetIs_congr {v : Int32} {p q : Nat → Prop} (h : SetIs v p) (e : ∀ b, p b ↔ q b) : SetIs v q := by
  obtain ⟨s, ⟨h1, h2⟩, h3⟩ := h
  exact ⟨s, ⟨h1, fun b => (h2 b).trans (e b)⟩, h3⟩
theorem SetIs_one {v v' : Int32} {p : Nat → Prop} (h : SetIs v p) (h' : SetIs v' p) : v = v' := by
  obtain ⟨s, ⟨h1, h2⟩, rfl⟩ := h
  obtain ⟨t, ⟨g1, g2⟩, rfl⟩ := h'
  rw [set_ext h1 g1 (fun b _ => (h2 b).trans (g2 b).symm)]
theorem SetIs_0 : SetIs 0 (fun _ => False) := ⟨0, ⟨by decide, fun b => ⟨fun h => by simp at h, fun h => h.elim⟩⟩, rfl⟩
theorem SetRow_congr {nb : Nat → Int32} {Q Q' : Nat → Nat → Prop} (h : SetRow nb Q) (e : ∀ a b, a < 10 → (Q a b ↔ Q' a b)) : SetRow nb Q' := fun a ha => SetIs_congr (h a ha) (fun b => e a b ha)
theorem SetRow_add {nb : Nat → Int32} {Q : Nat → Nat → Prop} {x y s : Nat} (h : SetRow nb Q) (hx : x < 10) (hy : y < 10) (e : nb x = nI s) : SetRow (upd nb x (nI (s ||| 2 ^ y))) (fun a b => Q a b ∨ (a = x ∧ b = y)) := by
  intro a ha
  by_cases q : a = x
  · subst q
    rw [upd_eq]
    obtain ⟨t, ⟨h1, h2⟩, h3⟩ := h a ha
    have hs : s % 2 ^ 32 = t := by
      have h4 : nI s = nI t := e.symm.trans h3
      have h5 := congrArg (fun z => z.toBitVec.toNat) h4
      have e1 : (nI s).toBitVec.toNat = s % 2 ^ 32 := by rw [nI_bv, BitVec.toNat_ofNat]
      have e2 : (nI t).toBitVec.toNat = t := pk_tn (by omega)
      rw [← e1, ← e2]; exact h5
    refine ⟨t ||| 2 ^ y, ⟨or_lt h1 (pw_lt hy), fun b => ?_⟩, ?_⟩
    · rw [tb_add, h2 b]
      constructor
      · rintro (g | g)
        · exact Or.inl g
        · exact Or.inr ⟨rfl, g⟩
      · rintro (g | ⟨-, g⟩)
        · exact Or.inl g
        · exact Or.inr g
    · rw [← nI_or, ← nI_or, e.symm.trans h3]
  · rw [upd_ne q]
    exact SetIs_congr (h a ha) (fun b => ⟨Or.inl, fun g => g.elim id (fun g => absurd g.1 q)⟩)
/-- nets that follow one another among the first z of a path -/
def Adj (P : Nat → Nat) (z a b : Nat) : Prop := ∃ k, k + 1 < z ∧ ((P k = a ∧ P (k + 1) = b) ∨ (P k = b ∧ P (k + 1) = a))
theorem Adj_succ {P : Nat → Nat} {i a b : Nat} (hi : 1 ≤ i) : Adj P (i + 1) a b ↔ Adj P i a b ∨ (a = P (i - 1) ∧ b = P i) ∨ (a = P i ∧ b = P (i - 1)) := by
  have e : i - 1 + 1 = i := by omega
  constructor
  · rintro ⟨k, h1, h2⟩
    by_cases q : k = i - 1
    · subst q
      rw [e] at h2
      rcases h2 with ⟨g1, g2⟩ | ⟨g1, g2⟩
      · exact Or.inr (Or.inl ⟨g1.symm, g2.symm⟩)
      · exact Or.inr (Or.inr ⟨g2.symm, g1.symm⟩)
    · exact Or.inl ⟨k, by omega, h2⟩
  · rintro (⟨k, h1, h2⟩ | ⟨rfl, rfl⟩ | ⟨rfl, rfl⟩)
    · exact ⟨k, by omega, h2⟩
    · exact ⟨i - 1, by omega, Or.inl ⟨rfl, by rw [e]⟩⟩
    · exact ⟨i - 1, by omega, Or.inr ⟨rfl, by rw [e]⟩⟩
theorem SetRow_pair {nb : Nat → Int32} {Q : Nat → Nat → Prop} {P : Nat → Nat} {i : Nat} (hi : 1 ≤ i) (h : SetRow nb (fun a b => (Q a b ∨ Adj P i a b ∨ (a = P (i - 1) ∧ b = P i)) ∨ (a = P i ∧ b = P (i - 1)))) : SetRow nb (fun a b => Q a b ∨ Adj P (i + 1) a b) := by
  refine SetRow_congr h (fun a b _ => ?_)
  rw [Adj_succ hi]
  constructor
  · rintro ((h | h | h) | h)
    · exact Or.inl h
    · exact Or.inr (Or.inl h)
    · exact Or.inr (Or.inr (Or.inl h))
    · exact Or.inr (Or.inr (Or.inr h))
  · rintro (h | h | h | h)
    · exact Or.inl (Or.inl h)
    · exact Or.inl (Or.inr (Or.inl h))
    · exact Or.inl (Or.inr (Or.inr h))
    · exact Or.inr h
theorem Adj_1 {P : Nat → Nat} {z a b : Nat} (hz : z ≤ 1) : ¬ Adj P z a b := fun ⟨k, h, _⟩ => absurd h (by omega)
/-- routes: R of them; PP r the path of r, Z r its size, Th r whether it is there -/
def RBc (X : Mem) (R : Nat) (PP : Nat → Nat → Nat) (Z : Nat → Nat) (Th : Nat → Prop) : Prop := R ≤ 24 ∧ X 20 0 = nI R ∧ ∀ r, r < R → 1 ≤ Z r ∧ Z r ≤ 6 ∧ X 47 r = nI (Z r) ∧ PA X (23 + r) (PP r) (Z r) ∧ (X 50 r = 0 ↔ Th r)
def RBm (X : Mem) (R : Nat) (PP : Nat → Nat → Nat) (Z : Nat → Nat) (Th : Nat → Prop) : Prop := R ≤ 24 ∧ X 85 25 = nI R ∧ ∀ r, r < R → 1 ≤ Z r ∧ Z r ≤ 6 ∧ X 102 r = nI (Z r) ∧ PAt X 101 (6 * r) (PP r) (Z r) ∧ (¬ X 105 r = 0 ↔ Th r)
def Us (PP : Nat → Nat → Nat) (Z : Nat → Nat) (Th : Nat → Prop) (r : Nat) : Prop := Th r ∧ ¬ Rnd (PP r) (Z r)
theorem RBc_ma {X : Mem} {R : Nat} {PP : Nat → Nat → Nat} {Z : Nat → Nat} {Th : Nat → Prop} {p : Nat} {f : Nat → Int32} (hp : p < 20 ∨ 50 < p) (h : RBc X R PP Z Th) : RBc (ma X p f) R PP Z Th := by
  refine ⟨h.1, by rw [ma_ne (by omega)]; exact h.2.1, fun r hr => ?_⟩
  have h24 := h.1
  obtain ⟨h1, h2, h3, h4, h5⟩ := h.2.2 r hr
  refine ⟨h1, h2, by rw [ma_ne (by omega)]; exact h3, fun k hk => ?_, by rw [ma_ne (by omega)]; exact h5⟩
  rw [ma_ne (by omega)]
  exact h4 k hk
theorem RBm_ma {X : Mem} {R : Nat} {PP : Nat → Nat → Nat} {Z : Nat → Nat} {Th : Nat → Prop} {p : Nat} {f : Nat → Int32} (hp : p < 85 ∨ 105 < p) (h : RBm X R PP Z Th) : RBm (ma X p f) R PP Z Th := by
  refine ⟨h.1, by rw [ma_ne (by omega)]; exact h.2.1, fun r hr => ?_⟩
  obtain ⟨h1, h2, h3, h4, h5⟩ := h.2.2 r hr
  refine ⟨h1, h2, by rw [ma_ne (by omega)]; exact h3, fun k hk => ?_, by rw [ma_ne (by omega)]; exact h5⟩
  rw [ma_ne (by omega)]
  exact h4 k hk
/-- neighbours by the first R routes -/
def Nb (R : Nat) (PP : Nat → Nat → Nat) (Z : Nat → Nat) (Th : Nat → Prop) (a b : Nat) : Prop := ∃ r, r < R ∧ Us PP Z Th r ∧ Adj (PP r) (Z r) a b
theorem Nb_skip {nb : Nat → Int32} {i : Nat} {PP : Nat → Nat → Nat} {Z : Nat → Nat} {Th : Nat → Prop} (h : SetRow nb (Nb i PP Z Th)) (hu : ¬ Us PP Z Th i) : SetRow nb (Nb (i + 1) PP Z Th) := by
  refine SetRow_congr h (fun a b _ => ?_)
  unfold Nb
  rw [ex_succ]
  exact ⟨Or.inl, fun g => g.elim id (fun g => absurd g.1 hu)⟩
theorem Nb_add {nb : Nat → Int32} {i : Nat} {PP : Nat → Nat → Nat} {Z : Nat → Nat} {Th : Nat → Prop} (hu : Us PP Z Th i) (h : SetRow nb (fun a b => Nb i PP Z Th a b ∨ Adj (PP i) (Z i) a b)) : SetRow nb (Nb (i + 1) PP Z Th) := by
  refine SetRow_congr h (fun a b _ => ?_)
  unfold Nb
  rw [ex_succ]
  exact ⟨fun g => g.elim Or.inl (fun g => Or.inr ⟨hu, g⟩), fun g => g.elim Or.inl (fun g => Or.inr g.2)⟩
/-- the clique, by falling numbers of neighbours -/
def coreI (near : Nat → Int32) (d : Nat) (C : Int32) : Nat → Int32
  | 0 => C
  | n + 1 => if cntB (ix (near n)) = d ∧ coreI near d C n &&& (near n ^^^ (-1)) = 0 then coreI near d C n ||| nI (2 ^ n) else coreI near d C n
def coreO (near : Nat → Int32) : Nat → Int32 → Int32
  | 0, C => C
  | d + 1, C => coreO near d (coreI near (d + 1) C 10)
def CoreIs (v : Int32) : Prop := ∃ s, s < 1024 ∧ v = nI s
theorem coreI_is {near : Nat → Int32} {d : Nat} {C : Int32} (hC : CoreIs C) : ∀ n, n ≤ 10 → CoreIs (coreI near d C n)
  | 0, _ => hC
  | n + 1, hn => by
    have ih := coreI_is (near := near) (d := d) hC n (by omega)
    unfold coreI
    by_cases q : cntB (ix (near n)) = d ∧ coreI near d C n &&& (near n ^^^ (-1)) = 0
    · rw [if_pos q]
      obtain ⟨s, h1, h2⟩ := ih
      rw [h2, nI_or]
      exact ⟨_, or_lt h1 (pw_lt (by omega)), rfl⟩
    · rw [if_neg q]
      exact ih
theorem coreO_is {near : Nat → Int32} : ∀ (d : Nat) (C : Int32), CoreIs C → CoreIs (coreO near d C)
  | 0, _, h => h
  | d + 1, C, h => coreO_is d _ (coreI_is h 10 (Nat.le_refl _))
theorem coreI_t {near : Nat → Int32} {d n s : Nat} {C : Int32} (e : near n = nI s) (hs : s < 1024) (h1 : cntB s = d) (h2 : coreI near d C n &&& (nI s ^^^ (-1)) = 0) : coreI near d C (n + 1) = coreI near d C n ||| nI (2 ^ n) := by
  show (if _ then _ else _) = _
  rw [if_pos]
  rw [e, ix_nI (by omega)]
  exact ⟨h1, h2⟩
theorem coreI_f {near : Nat → Int32} {d n s : Nat} {C : Int32} (e : near n = nI s) (hs : s < 1024) (h : ¬ (cntB s = d ∧ coreI near d C n &&& (nI s ^^^ (-1)) = 0)) : coreI near d C (n + 1) = coreI near d C n := by
  show (if _ then _ else _) = _
  rw [if_neg]
  rw [e, ix_nI (by omega)]
  exact h
theorem core_fin {near : Nat → Int32} {d : Nat} {co K : Int32} (h : coreO near d co = K) (e : d = 0) : co = K := by subst e; exact h
