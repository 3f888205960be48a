/-! what is told of relations and cones -/
theorem set_x9 (p : Nat → Prop) : ∀ n, n ≤ 10 → ∃ s, s < 1024 ∧ ∀ b, s.testBit b = true ↔ b < n ∧ p b := by
  intro n
  induction n with
  | zero => exact fun _ => ⟨0, by decide, fun b => ⟨fun h => by simp at h, fun h => absurd h.1 (Nat.not_lt_zero _)⟩⟩
  | succ n ih =>
    intro hn
    obtain ⟨s, h1, h2⟩ := ih (by omega)
    by_cases q : p n
    · refine ⟨s ||| 2 ^ n, or_lt h1 (pw_lt (by omega)), fun b => ?_⟩
      rw [tb_add, h2 b]
      constructor
      · rintro (g | rfl)
        · exact ⟨by omega, g.2⟩
        · exact ⟨by omega, q⟩
      · rintro ⟨g1, g2⟩
        rcases lt_succ_or.mp g1 with g | g
        · exact Or.inl ⟨g, g2⟩
        · exact Or.inr g
    · refine ⟨s, h1, fun b => ?_⟩
      rw [h2 b]
      constructor
      · exact fun g => ⟨by omega, g.2⟩
      · rintro ⟨g1, g2⟩
        rcases lt_succ_or.mp g1 with g | rfl
        · exact ⟨g, g2⟩
        · exact absurd g2 q
theorem mask_sub {s t : Nat} (h : nI s &&& (nI t ^^^ (-1)) = 0) (hs : s < 1024) : ∀ b, s.testBit b = true → t.testBit b = true := by
  intro b hb
  have hb10 : b < 10 := tb_lt hs hb
  have h1 := congrArg (fun x : Int32 => x.toBitVec.getLsbD b) h
  have e1 : (-1 : Int32).toBitVec = BitVec.allOnes 32 := by decide
  have e2 : (0 : Int32).toBitVec = 0#32 := by decide
  simp only [Int32.toBitVec_and, Int32.toBitVec_xor, nI_bv, e1, e2, BitVec.getLsbD_and, BitVec.getLsbD_xor, BitVec.getLsbD_ofNat, BitVec.getLsbD_allOnes, BitVec.getLsbD_zero] at h1
  have h32 : b < 32 := by omega
  simp [h32, hb] at h1
  exact h1
section CN
variable {R : Nat} {PP : Nat → Nat → Nat} {Z : Nat → Nat} {Th : Nat → Prop}
def CoN (R : Nat) (PP : Nat → Nat → Nat) (Z : Nat → Nat) (Th : Nat → Prop) (C : Int32) : Prop := ∃ s, s < 1024 ∧ C = nI s ∧ ∀ a b, s.testBit a = true → s.testBit b = true → a ≠ b → Nb R PP Z Th a b
theorem Nb_bits (hP : ∀ r, r < R → ∀ k, k < Z r → PP r k < 10) (a : Nat) : setN (Nb R PP Z Th a) < 1024 ∧ ∀ b, (setN (Nb R PP Z Th a)).testBit b = true ↔ Nb R PP Z Th a b := by
  obtain ⟨s, h1, h2⟩ := set_x9 (Nb R PP Z Th a) 10 (Nat.le_refl _)
  have hb : ∀ b, Nb R PP Z Th a b → b < 10 := by
    rintro b ⟨r, g1, g2, k, g3, g4⟩
    rcases g4 with ⟨-, g4⟩ | ⟨g4, -⟩
    · rw [← g4]; exact hP r g1 _ g3
    · rw [← g4]; exact hP r g1 _ (by omega)
  exact (setN_is (v := nI s) ⟨s, ⟨h1, fun b => (h2 b).trans ⟨fun g => g.2, fun g => ⟨hb b g, g⟩⟩⟩, rfl⟩).2
theorem coreI_N (hP : ∀ r, r < R → ∀ k, k < Z r → PP r k < 10) {d : Nat} {C : Int32} (hC : CoN R PP Z Th C) : ∀ n, n ≤ 10 → CoN R PP Z Th (coreI (nbI R PP Z Th) d C n)
  | 0, _ => hC
  | n + 1, hn => by
    have ih := coreI_N hP (d := d) hC n (by omega)
    unfold coreI
    by_cases q : cntB (ix (nbI R PP Z Th n)) = d ∧ coreI (nbI R PP Z Th) d C n &&& (nbI R PP Z Th n ^^^ (-1)) = 0
    · rw [if_pos q]
      obtain ⟨s, h1, h2, h3⟩ := ih
      have q2 := q.2
      rw [h2] at q2
      have hsub := mask_sub (t := setN (Nb R PP Z Th n)) q2 h1
      obtain ⟨-, hbits⟩ := Nb_bits (Th := Th) hP n
      rw [h2, nI_or]
      refine ⟨_, or_lt h1 (pw_lt (by omega)), rfl, fun a b ha hb hab => ?_⟩
      rcases tb_add.mp ha with g1 | g1 <;> rcases tb_add.mp hb with g2 | g2
      · exact h3 a b g1 g2 hab
      · rw [g2]
        exact Nb_sym ((hbits a).mp (hsub a g1))
      · rw [g1]
        exact (hbits b).mp (hsub b g2)
      · exact absurd (g1.trans g2.symm) hab
    · rw [if_neg q]
      exact ih
theorem coreO_N (hP : ∀ r, r < R → ∀ k, k < Z r → PP r k < 10) : ∀ (d : Nat) (C : Int32), CoN R PP Z Th C → CoN R PP Z Th (coreO (nbI R PP Z Th) d C)
  | 0, _, h => h
  | d + 1, C, h => coreO_N hP d _ (coreI_N hP h 10 (Nat.le_refl _))
/-- two of the clique are neighbours -/
theorem KF_N (hP : ∀ r, r < R → ∀ k, k < Z r → PP r k < 10) {a b : Nat} (ha : (KF R PP Z Th).testBit a = true) (hb : (KF R PP Z Th).testBit b = true) (hab : a ≠ b) : Nb R PP Z Th a b := by
  obtain ⟨s, h1, h2, h3⟩ := coreO_N hP 9 0 ⟨0, by decide, rfl, fun a b h => by simp at h⟩
  obtain ⟨g1, g2⟩ := KF_is R PP Z Th
  have e : s = KF R PP Z Th := nIu (m := 1024) (by decide) h1 g2 (h2.symm.trans g1)
  subst e
  exact h3 a b ha hb hab
theorem vC_bo {C : Nat} {rk : Nat → Nat} {a b : Nat} (h : Bo C a b) : ∀ R, vC C rk PP Z Th R a b = 0
  | 0 => rfl
  | R + 1 => by
    show vC C rk PP Z Th R a b + oneIf (Us PP Z Th R) * crC C (PP R) (tpF C rk (PP R) (Z R)) (Z R) a b = 0
    rw [vC_bo h R, crC_0 h, Nat.mul_zero]
theorem Cu_as {c a b : Nat} (h : CuF R PP Z Th c a b) (h2 : CuF R PP Z Th c b a) : False := by
  have h1 := h.2
  have h2 := h2.2
  omega
theorem Nb_ir {a : Nat} (h : Nb R PP Z Th a a) : False := by
  obtain ⟨r, -, ⟨-, h2⟩, k, h3, h4⟩ := h
  refine h2 ⟨k, k + 1, by omega, h3, ?_⟩
  rcases h4 with ⟨g1, g2⟩ | ⟨g1, g2⟩ <;> rw [g1, g2]
theorem bet_n {Q W : Nat → Nat → Prop} {a b : Nat} {r : Int32} (h : BetR Q W a b r) : ∃ c, c < 4 ∧ r = nI c := by
  rcases h with ⟨-, h⟩ | ⟨-, -, h⟩ | ⟨-, -, -, h⟩ | ⟨-, -, -, h⟩
  · exact ⟨0, by decide, h⟩
  · exact ⟨1, by decide, h⟩
  · exact ⟨2, by decide, h⟩
  · exact ⟨3, by decide, h⟩
theorem bet_c {Q W : Nat → Nat → Prop} {a b c : Nat} (hc : c < 4) (h : BetR Q W a b (nI c)) : (c = 0 → ¬ Q a b) ∧ (c = 1 → Q a b ∧ W b a) ∧ (c = 2 → Q a b ∧ ¬ W b a ∧ W a b) ∧ (c = 3 → Q a b ∧ ¬ W b a ∧ ¬ W a b) := by
  have n4 : ∀ d, d < 4 → nI c = nI d → c = d := fun d hd e => nIu (m := 4) (by decide) hc hd e
  rcases h with ⟨h1, h⟩ | ⟨h1, h2, h⟩ | ⟨h1, h2, h3, h⟩ | ⟨h1, h2, h3, h⟩
  · have := n4 0 (by decide) h
    exact ⟨fun _ => h1, fun _ => by omega, fun _ => by omega, fun _ => by omega⟩
  · have := n4 1 (by decide) h
    exact ⟨fun _ => by omega, fun _ => ⟨h1, h2⟩, fun _ => by omega, fun _ => by omega⟩
  · have := n4 2 (by decide) h
    exact ⟨fun _ => by omega, fun _ => by omega, fun _ => ⟨h1, h2, h3⟩, fun _ => by omega⟩
  · have := n4 3 (by decide) h
    exact ⟨fun _ => by omega, fun _ => by omega, fun _ => by omega, fun _ => ⟨h1, h2, h3⟩⟩
/-- the other side -/
theorem bet_m {rd a b c c' : Nat} (hc : c < 4) (hc' : c' < 4) (h : BetR (Nb R PP Z Th) (CuF R PP Z Th rd) a b (nI c)) (h' : BetR (Nb R PP Z Th) (CuF R PP Z Th rd) b a (nI c')) : (c = 1 → c' = 2) ∧ (c = 2 → c' = 1) ∧ (c ≠ 1 → c ≠ 2 → c' = c) := by
  obtain ⟨h0, h1, h2, h3⟩ := bet_c hc h
  obtain ⟨g0, g1, g2, g3⟩ := bet_c hc' h'
  rcases (show c = 0 ∨ c = 1 ∨ c = 2 ∨ c = 3 by omega) with q | q | q | q <;> rcases (show c' = 0 ∨ c' = 1 ∨ c' = 2 ∨ c' = 3 by omega) with z | z | z | z <;> first
    | (refine ⟨fun _ => ?_, fun _ => ?_, fun _ _ => ?_⟩ <;> omega)
    | exact absurd (Nb_sym (g1 z).1) (h0 q)
    | exact absurd (Nb_sym (g2 z).1) (h0 q)
    | exact absurd (Nb_sym (g3 z).1) (h0 q)
    | exact absurd (Nb_sym (h1 q).1) (g0 z)
    | exact absurd (Nb_sym (h2 q).1) (g0 z)
    | exact absurd (Nb_sym (h3 q).1) (g0 z)
    | exact (Cu_as (h1 q).2 (g1 z).2).elim
    | exact absurd (h1 q).2 (g3 z).2.2
    | exact absurd (h2 q).2.2 (g2 z).2.1
    | exact absurd (h2 q).2.2 (g3 z).2.1
    | exact absurd (g1 z).2 (h3 q).2.2
    | exact absurd (g2 z).2.2 (h3 q).2.1
theorem bet_0 {rd a c : Nat} (hc : c < 4) (h : BetR (Nb R PP Z Th) (CuF R PP Z Th rd) a a (nI c)) : c = 0 := by
  obtain ⟨-, h1, h2, h3⟩ := bet_c hc h
  rcases (show c = 0 ∨ c = 1 ∨ c = 2 ∨ c = 3 by omega) with q | q | q | q
  · exact q
  · exact (Nb_ir (h1 q).1).elim
  · exact (Nb_ir (h2 q).1).elim
  · exact (Nb_ir (h3 q).1).elim
/-- two of the clique are peers -/
theorem bet_3 (hP : ∀ r, r < R → ∀ k, k < Z r → PP r k < 10) {rd a b c : Nat} (hc : c < 4) (hab : a ≠ b) (ha : (KF R PP Z Th).testBit a = true) (hb : (KF R PP Z Th).testBit b = true) (h : BetR (Nb R PP Z Th) (CuF R PP Z Th rd) a b (nI c)) : c = 3 := by
  obtain ⟨h0, h1, h2, h3⟩ := bet_c hc h
  have hN := KF_N (Th := Th) hP ha hb hab
  have v1 : VF R PP Z Th rd a b = 0 := vC_bo ⟨ha, hb⟩ R
  have v2 : VF R PP Z Th rd b a = 0 := vC_bo ⟨hb, ha⟩ R
  rcases (show c = 0 ∨ c = 1 ∨ c = 2 ∨ c = 3 by omega) with q | q | q | q
  · exact absurd hN (h0 q)
  · have g := (h1 q).2.2
    rw [v1, v2] at g
    omega
  · have g := (h2 q).2.2.2
    rw [v1, v2] at g
    omega
  · exact q
theorem Rch_tr {W : Nat → Nat → Prop} {x y : Nat} (h : Rch W x y) : ∀ {z : Nat}, Rch W y z → Rch W x z := by
  intro z hz
  obtain ⟨n, hn⟩ := hz
  induction n generalizing z with
  | zero => exact hn ▸ h
  | succ n ih =>
    obtain ⟨c, h1, h2⟩ := hn
    exact Rch_st (ih h1) h2
theorem Ahd_Rch {W : Nat → Nat → Prop} {P : Nat → Nat} {z net b : Nat} (h : Ahd W P z net b) : Rch W net b := by
  obtain ⟨i, -, rfl, j, h1, rfl, h2⟩ := h
  obtain ⟨d, rfl⟩ : ∃ d, i = j + d := ⟨i - j, by omega⟩
  clear h1
  induction d with
  | zero => exact Rch_rf
  | succ d ih => exact Rch_tr (Rch_st Rch_rf (h2 (j + d) (by omega) (by omega))) (ih (fun k g1 g2 => h2 k g1 (by omega)))
theorem PCone_Rch {W : Nat → Nat → Prop} {i net b : Nat} (h : PCone W PP Z Th i net b) : Rch W net b := by
  rcases h with rfl | ⟨r, -, -, h⟩
  · exact Rch_rf
  · exact Ahd_Rch h
end CN
theorem bit_1 {S a : Nat} (h : S.testBit a = true) : S / 2 ^ a % 2 = 1 := tb_iff.mp h
theorem or_sub {S T : Nat} (hS : S < 1024) (hT : T < 1024) (h : ∀ b, T.testBit b = true → S.testBit b = true) : S ||| T = S := set_ext (or_lt hS hT) hS (fun b _ => ⟨fun g => (tb_or.mp g).elim id (h b), fun g => tb_or.mpr (Or.inl g)⟩)
theorem set_one {S T : Nat} {p : Nat → Prop} (hS : S < 1024) (hT : T < 1024) (h1 : ∀ b, S.testBit b = true ↔ p b) (h2 : ∀ b, T.testBit b = true ↔ p b) : S = T := set_ext hS hT (fun b _ => (h1 b).trans (h2 b).symm)
theorem sum256 (p : Nat → Prop) : sumN (fun a => oneIf (p a)) 256 ≤ 256 := by
  have := sumN_le (f := fun a => oneIf (p a)) (c := 1) (fun a => oneIf_le _) 256
  omega
theorem ReA_sub {f g : Nat → Int32} {PP : Nat → Nat → Nat} {Th : Nat → Prop} {S T i : Nat} (h : ∀ b, S.testBit b = true → T.testBit b = true) : sumN (fun a => oneIf (ReA f g PP Th S a i)) 256 ≤ sumN (fun a => oneIf (ReA f g PP Th T a i)) 256 := by
  refine sumN_mono (fun a _ => ?_)
  by_cases q : ReA f g PP Th S a i
  · obtain ⟨r, h1, h2, h3, h4⟩ := q
    rw [oneIf_t ⟨r, h1, h2, h3, h4⟩, oneIf_t ⟨r, h1, h2, h _ h3, h4⟩]
    exact Nat.le_refl _
  · rw [oneIf_f q]
    exact Nat.zero_le _
