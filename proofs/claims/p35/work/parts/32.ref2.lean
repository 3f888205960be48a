/-! the reference finds relations -/
def OutM (X Y : Mem) : Prop := (∀ p, p < 85 ∨ (85 < p ∧ p < 111) ∨ 114 < p → Y p = X p) ∧ ∀ k, k ≠ 35 → Y 85 k = X 85 k
theorem OutM_rf (X : Mem) : OutM X X := ⟨fun _ _ => rfl, fun _ _ => rfl⟩
theorem RBm_out {X Y : Mem} {R : Nat} {PP : Nat → Nat → Nat} {Z : Nat → Nat} {Th : Nat → Prop} (h : OutM X Y) (hB : RBm X R PP Z Th) : RBm Y R PP Z Th := by
  refine ⟨hB.1, by rw [h.2 25 (by decide)]; exact hB.2.1, fun r hr => ?_⟩
  obtain ⟨h1, h2, h3, h4, h5⟩ := hB.2.2 r hr
  refine ⟨h1, h2, by rw [h.1 102 (by omega)]; exact h3, fun k hk => ?_, by rw [h.1 105 (by omega)]; exact h5⟩
  rw [h.1 101 (by omega)]
  exact h4 k hk
theorem nears_to {X X1 : Mem} {R : Nat} {PP : Nat → Nat → Nat} {Z : Nat → Nat} {Th : Nat → Prop} (h : ∃ nb, X1 = ma (ma X 111 nb) 85 (upd (X 85) 35 (coreO nb 10 0)) ∧ SetRow nb (Nb R PP Z Th)) : OutM X X1 ∧ SetRow (X1 111) (Nb R PP Z Th) ∧ X1 85 35 = nI (KF R PP Z Th) := by
  obtain ⟨nb, rfl, h2⟩ := h
  refine ⟨⟨fun p hp => by rw [ma_ne (by omega), ma_ne (by omega)], fun k hk => by rw [ma_eq, upd_ne hk]⟩, ?_, ?_⟩
  · rw [ma_ne (by decide), ma_eq]; exact h2
  · rw [ma_eq, upd_eq]; exact core_top h2
theorem OutM_put3 {X Y : Mem} {f g k : Nat → Int32} (h : OutM X Y) : OutM X (ma (ma (ma Y 114 f) 113 g) 112 k) := ⟨fun p hp => by rw [ma_ne (by omega), ma_ne (by omega), ma_ne (by omega)]; exact h.1 p hp, fun j hj => by rw [ma_ne (by decide), ma_ne (by decide), ma_ne (by decide)]; exact h.2 j hj⟩
theorem cu_1 {Q W : Nat → Nat → Prop} {f : Nat → Int32} {a n : Nat} (hWQ : ∀ a b, W a b → Q b a) (hR : Rel Q W f) (ha : a < 10) (hn : n < 10) (h : f (10 * a + n) = 1) : sumN (fun a => oneIf (W n a)) (a + 1) = sumN (fun a => oneIf (W n a)) a + 1 := by
  show sumN _ a + oneIf (W n a) = _
  rw [oneIf_t ((BetR_1 hWQ (hR a n ha hn)).mp h)]
theorem cu_0 {Q W : Nat → Nat → Prop} {f : Nat → Int32} {a n : Nat} (hWQ : ∀ a b, W a b → Q b a) (hR : Rel Q W f) (ha : a < 10) (hn : n < 10) (h : ¬ f (10 * a + n) = 1) : sumN (fun a => oneIf (W n a)) (a + 1) = sumN (fun a => oneIf (W n a)) a := by
  show sumN _ a + oneIf (W n a) = _
  rw [oneIf_f (fun q => h ((BetR_1 hWQ (hR a n ha hn)).mpr q)), Nat.add_zero]
theorem rk_0 {R : Nat} {PP : Nat → Nat → Nat} {Z : Nat → Nat} {Th : Nat → Prop} {k n s : Nat} (hs : s < 1024 ∧ ∀ b, s.testBit b = true ↔ Nb R PP Z Th n b) (hk : k = 0) : cntB s = rkF R PP Z Th k n := by
  subst hk
  show _ = cntB (setN (Nb R PP Z Th n))
  rw [← setN_ix ⟨s, hs, rfl⟩, ix_nI (by omega)]
theorem VM_le {X : Mem} {R : Nat} {PP : Nat → Nat → Nat} {Z : Nat → Nat} {Th : Nat → Prop} {K : Nat} {rk : Nat → Nat} (hB : RBm X R PP Z Th) : ∀ a b, vM K rk PP Z Th R a b ≤ 1000 := fun a b => by
  have h1 : vM K rk PP Z Th R a b ≤ R * 5 := vM_le (fun r hr => (hB.2.2 r hr).2.1)
  have h2 := hB.1
  omega
/-- the cone by sweeps over pairs -/
def Sw2 (W : Nat → Nat → Prop) (net M i M2 : Nat) : Prop := M2 < 1024 ∧ (∀ b, M.testBit b = true → M2.testBit b = true) ∧ (∀ b, M2.testBit b = true → Rch W net b) ∧ ∀ x y, x < 10 → y < 10 → 10 * x + y < i → M.testBit y = true → W y x → M2.testBit x = true
theorem Sw2_0 {W : Nat → Nat → Prop} {net M : Nat} (h1 : M < 1024) (h2 : ∀ b, M.testBit b = true → Rch W net b) : Sw2 W net M 0 M := ⟨h1, fun _ h => h, h2, fun _ _ _ _ h => absurd h (Nat.not_lt_zero _)⟩
theorem Sw2_no {W : Nat → Nat → Prop} {net M M2 x y : Nat} (h : Sw2 W net M (10 * x + y) M2) (hy : y < 10) (hn : ¬ (M2.testBit y = true ∧ W y x)) : Sw2 W net M (10 * x + (y + 1)) M2 := by
  obtain ⟨h1, h2, h3, h4⟩ := h
  refine ⟨h1, h2, h3, fun a b ha hb hi hM hW => ?_⟩
  by_cases q : 10 * a + b = 10 * x + y
  · have : a = x := by omega
    have : b = y := by omega
    subst a b
    exact absurd ⟨h2 _ hM, hW⟩ hn
  · exact h4 a b ha hb (by omega) hM hW
theorem Sw2_yes {W : Nat → Nat → Prop} {net M M2 x y : Nat} (h : Sw2 W net M (10 * x + y) M2) (hx : x < 10) (hy : y < 10) (hn : M2.testBit y = true) (hw : W y x) : Sw2 W net M (10 * x + (y + 1)) (M2 ||| 2 ^ x) := by
  obtain ⟨h1, h2, h3, h4⟩ := h
  refine ⟨or_lt h1 (pw_lt hx), fun b hb => tb_add.mpr (Or.inl (h2 b hb)), fun b hb => ?_, fun a b ha hb hi hM hW => ?_⟩
  · rcases tb_add.mp hb with q | rfl
    · exact h3 b q
    · exact Rch_st (h3 y hn) hw
  · by_cases q : 10 * a + b = 10 * x + y
    · have : a = x := by omega
      subst a
      exact tb_add.mpr (Or.inr rfl)
    · exact tb_add.mpr (Or.inl (h4 a b ha hb (by omega) hM hW))
/-- the set now and the set a sweep before -/
def CoM (W : Nat → Nat → Prop) (net H M : Nat) : Prop := M < 1024 ∧ M.testBit net = true ∧ (∀ b, M.testBit b = true → Rch W net b) ∧ H < 1024 ∧ (∀ b, H.testBit b = true → M.testBit b = true) ∧ ∀ j b, j < 10 → b < 10 → H.testBit j = true → W j b → M.testBit b = true
theorem CoM_0 {W : Nat → Nat → Prop} {net : Nat} (h : net < 10) : CoM W net 0 (2 ^ net) := ⟨pw_lt h, tb_pow.mpr rfl, fun b hb => tb_pow.mp hb ▸ Rch_rf, by decide, fun b hb => by simp at hb, fun j b _ _ hb => by simp at hb⟩
theorem CoM_s {W : Nat → Nat → Prop} {net H M M2 : Nat} (h : CoM W net H M) (h2 : Sw2 W net M 100 M2) : CoM W net M M2 := by
  obtain ⟨a1, a2, a3, a4, a5, a6⟩ := h
  obtain ⟨b1, b2, b3, b4⟩ := h2
  exact ⟨b1, b2 _ a2, b3, a1, b2, fun j b hj hb hM hW => b4 b j hb hj (by omega) hM hW⟩
theorem CoM_lt {W : Nat → Nat → Prop} {net H M : Nat} (h : CoM W net H M) (hne : ¬ M = H) : cntB H < cntB M := by
  obtain ⟨a1, a2, a3, a4, a5, a6⟩ := h
  exact cnt_lt a1 a4 a5 (fun q => hne q.symm)
theorem CoM_end {W : Nat → Nat → Prop} {net H M : Nat} (hW10 : ∀ a b, W a b → b < 10) (h : CoM W net H M) (he : M = H) : SetIs (nI M) (Rch W net) := by
  obtain ⟨a1, a2, a3, a4, a5, a6⟩ := h
  subst he
  exact ⟨M, ⟨a1, fun b => ⟨a3 b, Rch_in a1 a2 (fun j b hj hM hW => a6 j b hj (hW10 j b hW) hM hW) b⟩⟩, rfl⟩
theorem Btw_n {v : Int32} {n : Nat} (hn : n + 1 < 2 ^ 31) (hd : ¬ nI (n + 1) ≤ nI n) (h : Btw v 0 (nI n)) : ∃ a, a < n + 1 ∧ v = nI a := by
  rcases pk_ix v (n := n + 1) hn with q | q | q
  · exact absurd q (Int32.not_lt.mpr h.1)
  · exact absurd (Int32.le_trans q h.2) hd
  · exact q
/-- an asking leaves all that is kept -/
def KpM (X Y : Mem) : Prop := (∀ p, p < 85 ∨ (85 < p ∧ p < 107) → Y p = X p) ∧ ∀ k, k ≠ 0 → k ≠ 35 → Y 85 k = X 85 k
theorem KpM_t {X : Mem} {t : Int32} : KpM X (ma X 85 (upd (X 85) 0 t)) := ⟨fun p hp => ma_ne (by omega), fun k h1 _ => by rw [ma_eq, upd_ne h1]⟩
theorem KpM_out {X Y : Mem} {t : Int32} (h : OutM (ma X 85 (upd (X 85) 0 t)) Y) : KpM X Y ∧ Y 85 0 = t := ⟨⟨fun p hp => (h.1 p (by omega)).trans (ma_ne (by omega)), fun k h1 h2 => (h.2 k h2).trans (by rw [ma_eq, upd_ne h1])⟩, (h.2 0 (by decide)).trans (by rw [ma_eq, upd_eq])⟩
