/-! votes and relations of the reference -/
def VRm (f : Nat → Int32) (v : Nat → Nat → Nat) : Prop := ∀ a b, a < 10 → b < 10 → f (10 * a + b) = nI (v a b)
theorem VRm_congr {f : Nat → Int32} {v v' : Nat → Nat → Nat} (h : VRm f v) (e : ∀ a b, a < 10 → b < 10 → v a b = v' a b) : VRm f v' := fun a b ha hb => by rw [← e a b ha hb]; exact h a b ha hb
theorem VRm_add {f : Nat → Int32} {v : Nat → Nat → Nat} {x y : Nat} (hx : x < 10) (hy : y < 10) (h : VRm f v) : VRm (upd f (10 * x + y) (nI (v x y + 1))) (fun a b => v a b + oneIf (a = x ∧ b = y)) := by
  intro a b ha hb
  show _ = nI (v a b + oneIf (a = x ∧ b = y))
  by_cases q : a = x ∧ b = y
  · obtain ⟨rfl, rfl⟩ := q
    rw [upd_eq, oneIf_t (p := a = a ∧ b = b) ⟨rfl, rfl⟩]
  · rw [upd_ne (by omega), oneIf_f q, Nat.add_zero]
    exact h a b ha hb
theorem crM_up {P : Nat → Nat} {top k a b : Nat} (h : k < top) : crM P top (k + 1 + 1) a b = crM P top (k + 1) a b + oneIf (a = P k ∧ b = P (k + 1)) := by
  rw [crM_s (i := k + 1) (by omega)]
  congr 1
  exact oneIf_c (Pr_up (i := k + 1) (by omega) (by omega))
theorem crM_dn {P : Nat → Nat} {top k a b : Nat} (h : top ≤ k) : crM P top (k + 1 + 1) a b = crM P top (k + 1) a b + oneIf (a = P (k + 1) ∧ b = P k) := by
  rw [crM_s (i := k + 1) (by omega)]
  congr 1
  exact oneIf_c (Pr_dn (i := k + 1) (by omega) (by omega))
theorem vM_s1 {C : Nat} {rk : Nat → Nat} {PP : Nat → Nat → Nat} {Z : Nat → Nat} {Th : Nat → Prop} {r a b t : Nat} (hu : Us PP Z Th r) (ht : Top C rk (PP r) (Z r) t) : vM C rk PP Z Th (r + 1) a b = vM C rk PP Z Th r a b + crM (PP r) t (Z r) a b := by
  show vM C rk PP Z Th r a b + oneIf (Us PP Z Th r) * _ = _
  rw [oneIf_t hu, Nat.one_mul, tpF_is ht]
theorem vM_s0 {C : Nat} {rk : Nat → Nat} {PP : Nat → Nat → Nat} {Z : Nat → Nat} {Th : Nat → Prop} {r a b : Nat} (hu : ¬ Us PP Z Th r) : vM C rk PP Z Th (r + 1) a b = vM C rk PP Z Th r a b := by
  show vM C rk PP Z Th r a b + oneIf (Us PP Z Th r) * _ = _
  rw [oneIf_f hu, Nat.zero_mul, Nat.add_zero]
theorem vM_le {C : Nat} {rk : Nat → Nat} {PP : Nat → Nat → Nat} {Z : Nat → Nat} {Th : Nat → Prop} {a b : Nat} : ∀ {R : Nat}, (∀ r, r < R → Z r ≤ 6) → vM C rk PP Z Th R a b ≤ R * 5
  | 0, _ => by rw [Nat.zero_mul]; exact Nat.le_refl _
  | R + 1, h => by
    have ih := vM_le (C := C) (rk := rk) (PP := PP) (Z := Z) (Th := Th) (a := a) (b := b) (R := R) (fun r hr => h r (by omega))
    have h2 : crM (PP R) (tpF C rk (PP R) (Z R)) (Z R) a b ≤ 5 := Nat.le_trans crM_le (by have := h R (by omega); omega)
    show vM C rk PP Z Th R a b + oneIf (Us PP Z Th R) * crM (PP R) (tpF C rk (PP R) (Z R)) (Z R) a b ≤ _
    rw [Nat.succ_mul]
    by_cases q : Us PP Z Th R
    · rw [oneIf_t q, Nat.one_mul]; omega
    · rw [oneIf_f q, Nat.zero_mul]; omega
/-- votes of the class and of the reference differ in the clique alone -/
def VV2 (K : Nat) (v V : Nat → Nat → Nat) : Prop := ∀ a b, (Bo K a b → V a b = 0) ∧ (¬ Bo K a b → V a b = v a b)
theorem vC_vM (K : Nat) (rk : Nat → Nat) (PP : Nat → Nat → Nat) (Z : Nat → Nat) (Th : Nat → Prop) (R : Nat) : VV2 K (vM K rk PP Z Th R) (vC K rk PP Z Th R) := by
  intro a b
  constructor
  · intro h
    have : vC K rk PP Z Th R a b = sumN (fun _ => 0) R := sumN_congr (fun r _ => by rw [crC_0 h, Nat.mul_zero])
    rw [this, sumN_zero]
  · intro h
    exact sumN_congr (fun r _ => by rw [crC_M h])
theorem Bo_sym {K a b : Nat} (h : Bo K a b) : Bo K b a := ⟨h.2, h.1⟩
theorem bt0 {s b : Nat} (h : s / 2 ^ b % 2 = 0) : ¬ s.testBit b = true := fun q => by have := tb_iff.mp q; omega
theorem bt1 {s b : Nat} (h : ¬ s / 2 ^ b % 2 = 0) : s.testBit b = true := tb_iff.mpr (by have := Nat.mod_lt (s / 2 ^ b) (by decide : 0 < 2); omega)
theorem bt2 {s b : Nat} (h : ¬ s / 2 ^ b % 2 = 1) : ¬ s.testBit b = true := fun q => h (tb_iff.mp q)
theorem rel_no {Q W : Nat → Nat → Prop} {a b s : Nat} (hs : s < 1024 ∧ ∀ b, s.testBit b = true ↔ Q a b) (h : s / 2 ^ b % 2 = 0) : BetR Q W a b 0 := Or.inl ⟨fun q => bt0 h ((hs.2 b).mpr q), rfl⟩
theorem rel_bo {Q : Nat → Nat → Prop} {K a b s : Nat} {v V : Nat → Nat → Nat} (hV : VV2 K v V) (hs : s < 1024 ∧ ∀ b, s.testBit b = true ↔ Q a b) (h : ¬ s / 2 ^ b % 2 = 0) (hb : Bo K a b) : BetR Q (CuV V) a b 3 := by
  have e1 := (hV a b).1 hb
  have e2 := (hV b a).1 (Bo_sym hb)
  exact Or.inr (Or.inr (Or.inr ⟨(hs.2 b).mp (bt1 h), fun q => by have := q.2; omega, fun q => by have := q.2; omega, rfl⟩))
theorem rel_1 {Q : Nat → Nat → Prop} {K a b s : Nat} {v V : Nat → Nat → Nat} (hV : VV2 K v V) (hs : s < 1024 ∧ ∀ b, s.testBit b = true ↔ Q a b) (h : ¬ s / 2 ^ b % 2 = 0) (hb : ¬ Bo K a b) (ha : a < 10) (c : 2 * v b a < v a b) : BetR Q (CuV V) a b 1 := by
  have e1 := (hV a b).2 hb
  have e2 := (hV b a).2 (fun q => hb (Bo_sym q))
  exact Or.inr (Or.inl ⟨(hs.2 b).mp (bt1 h), ⟨ha, by omega⟩, rfl⟩)
theorem rel_2 {Q : Nat → Nat → Prop} {K a b s : Nat} {v V : Nat → Nat → Nat} (hV : VV2 K v V) (hs : s < 1024 ∧ ∀ b, s.testBit b = true ↔ Q a b) (h : ¬ s / 2 ^ b % 2 = 0) (hb : ¬ Bo K a b) (hb' : b < 10) (c : v a b ≤ 2 * v b a) (c2 : 2 * v a b < v b a) : BetR Q (CuV V) a b 2 := by
  have e1 := (hV a b).2 hb
  have e2 := (hV b a).2 (fun q => hb (Bo_sym q))
  exact Or.inr (Or.inr (Or.inl ⟨(hs.2 b).mp (bt1 h), fun q => by have := q.2; omega, ⟨hb', by omega⟩, rfl⟩))
theorem rel_3 {Q : Nat → Nat → Prop} {K a b s : Nat} {v V : Nat → Nat → Nat} (hV : VV2 K v V) (hs : s < 1024 ∧ ∀ b, s.testBit b = true ↔ Q a b) (h : ¬ s / 2 ^ b % 2 = 0) (hb : ¬ Bo K a b) (c : v a b ≤ 2 * v b a) (c2 : v b a ≤ 2 * v a b) : BetR Q (CuV V) a b 3 := by
  have e1 := (hV a b).2 hb
  have e2 := (hV b a).2 (fun q => hb (Bo_sym q))
  exact Or.inr (Or.inr (Or.inr ⟨(hs.2 b).mp (bt1 h), fun q => by have := q.2; omega, fun q => by have := q.2; omega, rfl⟩))
def RelTo (Q W : Nat → Nat → Prop) (f : Nat → Int32) (i : Nat) : Prop := ∀ a b, a < 10 → b < 10 → 10 * a + b < i → BetR Q W a b (f (10 * a + b))
theorem RelTo_0 {Q W : Nat → Nat → Prop} {f : Nat → Int32} : RelTo Q W f 0 := fun _ _ _ _ h => absurd h (Nat.not_lt_zero _)
theorem RelTo_s {Q W : Nat → Nat → Prop} {f : Nat → Int32} {x y : Nat} {r : Int32} (h : RelTo Q W f (10 * x + y)) (hy : y < 10) (hr : BetR Q W x y r) : RelTo Q W (upd f (10 * x + y) r) (10 * x + (y + 1)) := by
  intro a b ha hb hi
  by_cases q : 10 * a + b = 10 * x + y
  · have : a = x := by omega
    have : b = y := by omega
    subst a b
    rw [upd_eq]
    exact hr
  · rw [upd_ne q]
    exact h a b ha hb (by omega)
/-- all relations -/
def Rel (Q W : Nat → Nat → Prop) (f : Nat → Int32) : Prop := ∀ a b, a < 10 → b < 10 → BetR Q W a b (f (10 * a + b))
theorem sumN_pos {f : Nat → Nat} : ∀ {n : Nat}, 0 < sumN f n → ∃ k, k < n ∧ 0 < f k
  | 0, h => absurd h (Nat.lt_irrefl _)
  | n + 1, h => by
    rcases Nat.eq_zero_or_pos (f n) with q | q
    · have h2 : 0 < sumN f n + f n := h
      obtain ⟨k, h1, h3⟩ := sumN_pos (f := f) (n := n) (by omega)
      exact ⟨k, by omega, h3⟩
    · exact ⟨n, by omega, q⟩
theorem oneIf_pos {p : Prop} (h : 0 < oneIf p) : p := Classical.byContradiction fun q => by rw [oneIf_f q] at h; exact absurd h (Nat.lt_irrefl _)
theorem vC_Nb {K : Nat} {rk : Nat → Nat} {PP : Nat → Nat → Nat} {Z : Nat → Nat} {Th : Nat → Prop} {R a b : Nat} (h : 0 < vC K rk PP Z Th R a b) : Nb R PP Z Th a b := by
  obtain ⟨r, hr, h1⟩ := sumN_pos h
  have hu : Us PP Z Th r := Classical.byContradiction fun q => by rw [oneIf_f q, Nat.zero_mul] at h1; exact absurd h1 (Nat.lt_irrefl _)
  rw [oneIf_t hu, Nat.one_mul] at h1
  obtain ⟨k, hk, h2⟩ := sumN_pos h1
  have h3 := (oneIf_pos h2).1
  refine ⟨r, hr, hu, k, by omega, ?_⟩
  rcases Pr_pair h3 with q | q
  · exact Or.inl q
  · exact Or.inr ⟨q.2, q.1⟩
theorem Nb_sym {PP : Nat → Nat → Nat} {Z : Nat → Nat} {Th : Nat → Prop} {R a b : Nat} (h : Nb R PP Z Th a b) : Nb R PP Z Th b a := by
  obtain ⟨r, hr, hu, k, hk, h⟩ := h
  exact ⟨r, hr, hu, k, hk, h.elim Or.inr Or.inl⟩
theorem Nb_ne {PP : Nat → Nat → Nat} {Z : Nat → Nat} {Th : Nat → Prop} {R a : Nat} : ¬ Nb R PP Z Th a a := by
  rintro ⟨r, hr, hu, k, hk, h⟩
  refine hu.2 ⟨k, k + 1, by omega, hk, ?_⟩
  rcases h with q | q
  · exact q.1.trans q.2.symm
  · exact q.1.trans q.2.symm
theorem CuF_Nb {R : Nat} {PP : Nat → Nat → Nat} {Z : Nat → Nat} {Th : Nat → Prop} {rd a b : Nat} (h : CuF R PP Z Th rd a b) : Nb R PP Z Th b a := vC_Nb (K := KF R PP Z Th) (rk := rkF R PP Z Th rd) (by have h2 := h.2; unfold VF at h2; exact Nat.lt_of_le_of_lt (Nat.zero_le _) h2)
theorem BetR_1 {Q W : Nat → Nat → Prop} {a b : Nat} {r : Int32} (hWQ : ∀ a b, W a b → Q b a) (h : BetR Q W a b r) : r = 1 ↔ W b a := by
  rcases h with ⟨h1, rfl⟩ | ⟨-, h1, rfl⟩ | ⟨-, h1, -, rfl⟩ | ⟨-, h1, -, rfl⟩
  · exact ⟨fun q => absurd q (by decide), fun q => absurd (hWQ _ _ q) h1⟩
  · exact ⟨fun _ => h1, fun _ => rfl⟩
  · exact ⟨fun q => absurd q (by decide), fun q => absurd q h1⟩
  · exact ⟨fun q => absurd q (by decide), fun q => absurd q h1⟩
theorem BetR_one {Q W : Nat → Nat → Prop} {a b : Nat} {r r' : Int32} (h : BetR Q W a b r) (h' : BetR Q W a b r') : r = r' := by
  rcases h with ⟨h1, rfl⟩ | ⟨h0, h1, rfl⟩ | ⟨h0, h1, h2, rfl⟩ | ⟨h0, h1, h2, rfl⟩ <;> rcases h' with ⟨g1, rfl⟩ | ⟨g0, g1, rfl⟩ | ⟨g0, g1, g2, rfl⟩ | ⟨g0, g1, g2, rfl⟩ <;> first | rfl | exact absurd ‹Q a b› ‹¬ Q a b› | exact absurd ‹W b a› ‹¬ W b a› | exact absurd ‹W a b› ‹¬ W a b›
theorem cntB_set {p : Nat → Prop} (h : ∃ v, SetIs v p) : cntB (setN p) = sumN (fun a => oneIf (p a)) 10 := by
  obtain ⟨v, hv⟩ := h
  obtain ⟨-, -, h3⟩ := setN_is hv
  refine sumN_congr (fun a _ => ?_)
  show setN p / 2 ^ a % 2 = oneIf (p a)
  by_cases q : p a
  · rw [oneIf_t q]; exact tb_iff.mp ((h3 a).mpr q)
  · rw [oneIf_f q]
    have h4 : ¬ setN p / 2 ^ a % 2 = 1 := fun z => q ((h3 a).mp (tb_iff.mpr z))
    have := Nat.mod_lt (setN p / 2 ^ a) (by decide : 0 < 2)
    omega
theorem set_ex {p : Nat → Prop} (h : ∀ b, p b → b < 10) : ∃ v, SetIs v p := by
  have key : ∀ n, n ≤ 10 → ∃ s, s < 1024 ∧ ∀ b, s.testBit b = true ↔ (b < n ∧ p b) := by
    intro n
    induction n with
    | zero => intro _; exact ⟨0, by decide, fun b => ⟨fun q => by simp at q, fun q => absurd q.1 (Nat.not_lt_zero _)⟩⟩
    | succ n ih =>
      intro hn
      obtain ⟨s, h1, h2⟩ := ih (by omega)
      by_cases q : p n
      · refine ⟨s ||| 2 ^ n, or_lt h1 (pw_lt (by omega)), fun b => ?_⟩
        rw [tb_add, h2 b]
        constructor
        · rintro (g | rfl)
          · exact ⟨by omega, g.2⟩
          · exact ⟨by omega, q⟩
        · rintro ⟨g1, g2⟩
          rcases lt_succ_or.mp g1 with z | z
          · exact Or.inl ⟨z, g2⟩
          · exact Or.inr z
      · refine ⟨s, h1, fun b => ?_⟩
        rw [h2 b]
        exact ⟨fun g => ⟨by omega, g.2⟩, fun g => ⟨(lt_succ_or.mp g.1).elim id (fun z => by subst z; exact absurd g.2 q), g.2⟩⟩
  obtain ⟨s, h1, h2⟩ := key 10 (Nat.le_refl _)
  exact ⟨nI s, s, ⟨h1, fun b => (h2 b).trans ⟨fun g => g.2, fun g => ⟨h b g, g⟩⟩⟩, rfl⟩
theorem CuF_lt {R : Nat} {PP : Nat → Nat → Nat} {Z : Nat → Nat} {Th : Nat → Prop} {rd a b : Nat} (h : CuF R PP Z Th rd a b) : b < 10 := h.1
theorem rkF_s {R : Nat} {PP : Nat → Nat → Nat} {Z : Nat → Nat} {Th : Nat → Prop} {k n : Nat} (hk : ¬ k = 0) : rkF R PP Z Th k n = sumN (fun a => oneIf (CuF R PP Z Th (k - 1) n a)) 10 := by
  obtain ⟨j, rfl⟩ : ∃ j, k = j + 1 := ⟨k - 1, by omega⟩
  show cntB (setN (CuF R PP Z Th j n)) = _
  rw [cntB_set (set_ex (fun b h => CuF_lt h)), Nat.add_sub_cancel]
theorem rkF_le {R : Nat} {PP : Nat → Nat → Nat} {Z : Nat → Nat} {Th : Nat → Prop} {k n : Nat} : rkF R PP Z Th k n ≤ 10 := by
  cases k <;> exact cntB_le _
theorem cntB_10 {s n : Nat} (hs : s < 1024) (hn : n < 10) (h : ¬ s.testBit n = true) : cntB s < 10 := by
  have e : cntB 1023 = 10 := by decide
  have := cnt_lt (M := s) (M' := 1023) (by decide) hs (fun b hb => by
    have hb10 := tb_lt hs hb
    exact (by decide : ∀ b, b < 10 → (1023 : Nat).testBit b = true) b hb10) (fun q => h (by subst q; exact (by decide : ∀ b, b < 10 → (1023 : Nat).testBit b = true) n hn))
  omega
theorem core_top {nb : Nat → Int32} {R : Nat} {PP : Nat → Nat → Nat} {Z : Nat → Nat} {Th : Nat → Prop} (h : SetRow nb (Nb R PP Z Th)) : coreO nb 10 0 = nI (KF R PP Z Th) := by
  have hi : ∀ n, n ≤ 10 → coreI nb 10 0 n = 0 := by
    intro n
    induction n with
    | zero => intro _; rfl
    | succ n ih =>
      intro hn
      obtain ⟨s, ⟨h1, h2⟩, h3⟩ := h n (by omega)
      rw [coreI_f h3 h1 (fun q => by
        have := cntB_10 (n := n) h1 (by omega) (fun g => Nb_ne ((h2 n).mp g))
        omega)]
      exact ih (by omega)
  show coreO nb 9 (coreI nb 10 0 10) = _
  rw [hi 10 (Nat.le_refl _)]
  exact core_row h
