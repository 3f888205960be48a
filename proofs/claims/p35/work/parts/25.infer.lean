noncomputable def setN (p : Nat → Prop) : Nat := Classical.epsilon (fun s => s < 1024 ∧ ∀ b, s.testBit b = true ↔ p b)
theorem setN_is {v : Int32} {p : Nat → Prop} (h : SetIs v p) : v = nI (setN p) ∧ setN p < 1024 ∧ ∀ b, (setN p).testBit b = true ↔ p b := by
  obtain ⟨s, ⟨h1, h2⟩, h3⟩ := h
  have e := Classical.epsilon_spec (p := fun s => s < 1024 ∧ ∀ b, s.testBit b = true ↔ p b) ⟨s, h1, h2⟩
  have : s = setN p := set_ext h1 e.1 (fun b _ => (h2 b).trans (e.2 b).symm)
  exact ⟨by rw [← this]; exact h3, e.1, e.2⟩
theorem setN_ix {v : Int32} {p : Nat → Prop} (h : SetIs v p) : ix v = setN p := by
  obtain ⟨h1, h2, -⟩ := setN_is h
  rw [h1, ix_nI (by omega)]
theorem setN_congr {p q : Nat → Prop} (h : ∀ b, p b ↔ q b) : setN p = setN q := by
  have : p = q := funext fun b => propext (h b)
  rw [this]
theorem SetIs_core {v : Int32} {p : Nat → Prop} (h : SetIs v p) : CoreIs v := by
  obtain ⟨s, ⟨h1, -⟩, h3⟩ := h
  exact ⟨s, h1, h3⟩
theorem coreI_congr {near near' : Nat → Int32} (e : ∀ a, a < 10 → near a = near' a) (d : Nat) (C : Int32) : ∀ n, n ≤ 10 → coreI near d C n = coreI near' d C n
  | 0, _ => rfl
  | n + 1, h => by
    unfold coreI
    rw [e n (by omega), coreI_congr e d C n (by omega)]
theorem coreO_congr {near near' : Nat → Int32} (e : ∀ a, a < 10 → near a = near' a) : ∀ (d : Nat) (C : Int32), coreO near d C = coreO near' d C
  | 0, _ => rfl
  | d + 1, C => by
    show coreO near d (coreI near (d + 1) C 10) = coreO near' d (coreI near' (d + 1) C 10)
    rw [coreI_congr e _ _ 10 (Nat.le_refl _), coreO_congr e]
/-- what is inferred of the routes, as closed words -/
noncomputable def nbI (R : Nat) (PP : Nat → Nat → Nat) (Z : Nat → Nat) (Th : Nat → Prop) : Nat → Int32 := fun a => nI (setN (Nb R PP Z Th a))
noncomputable def KF (R : Nat) (PP : Nat → Nat → Nat) (Z : Nat → Nat) (Th : Nat → Prop) : Nat := ix (coreO (nbI R PP Z Th) 9 0)
noncomputable def rkF (R : Nat) (PP : Nat → Nat → Nat) (Z : Nat → Nat) (Th : Nat → Prop) : Nat → Nat → Nat
  | 0, a => cntB (setN (Nb R PP Z Th a))
  | rd + 1, a => cntB (setN (CuV (vC (KF R PP Z Th) (rkF R PP Z Th rd) PP Z Th R) a))
noncomputable def VF (R : Nat) (PP : Nat → Nat → Nat) (Z : Nat → Nat) (Th : Nat → Prop) (rd : Nat) : Nat → Nat → Nat := vC (KF R PP Z Th) (rkF R PP Z Th rd) PP Z Th R
noncomputable def CuF (R : Nat) (PP : Nat → Nat → Nat) (Z : Nat → Nat) (Th : Nat → Prop) (rd : Nat) : Nat → Nat → Prop := CuV (VF R PP Z Th rd)
theorem KF_is (R : Nat) (PP : Nat → Nat → Nat) (Z : Nat → Nat) (Th : Nat → Prop) : coreO (nbI R PP Z Th) 9 0 = nI (KF R PP Z Th) ∧ KF R PP Z Th < 1024 := by
  obtain ⟨s, h1, h2⟩ := coreO_is (near := nbI R PP Z Th) 9 0 ⟨0, by decide, rfl⟩
  unfold KF
  rw [h2, ix_nI (by omega)]
  exact ⟨rfl, h1⟩
theorem core_row {nb : Nat → Int32} {R : Nat} {PP : Nat → Nat → Nat} {Z : Nat → Nat} {Th : Nat → Prop} (h : SetRow nb (Nb R PP Z Th)) : coreO nb 9 0 = nI (KF R PP Z Th) := by
  rw [coreO_congr (near' := nbI R PP Z Th) (fun a ha => (setN_is (h a ha)).1)]
  exact (KF_is R PP Z Th).1
theorem Best_congr {rk rk' : Nat → Nat} {P : Nat → Nat} {z t : Nat} (e : ∀ j, j < z → rk (P j) = rk' (P j)) (h : BestIs rk P z t) : BestIs rk' P z t := by
  obtain ⟨h1, h2, h3⟩ := h
  exact ⟨h1, fun j hj => by rw [← e j hj, ← e t h1]; exact h2 j hj, fun j hj => by rw [← e j (by omega), ← e t h1]; exact h3 j hj⟩
theorem tpF_congr {C : Nat} {rk rk' : Nat → Nat} {P : Nat → Nat} {z : Nat} (e : ∀ j, j < z → rk (P j) = rk' (P j)) (hz : 1 ≤ z) : tpF C rk P z = tpF C rk' P z := by
  obtain ⟨t, ht⟩ := Top_ex C rk P hz
  rw [tpF_is ht]
  refine (tpF_is ?_).symm
  rcases ht with h | ⟨h1, h2⟩
  · exact Or.inl h
  · exact Or.inr ⟨h1, Best_congr e h2⟩
theorem vC_congr {C : Nat} {rk rk' : Nat → Nat} {PP : Nat → Nat → Nat} {Z : Nat → Nat} {Th : Nat → Prop} {a b : Nat} (e : ∀ a, a < 10 → rk a = rk' a) : ∀ {R : Nat}, (∀ r, r < R → 1 ≤ Z r ∧ ∀ k, k < Z r → PP r k < 10) → vC C rk PP Z Th R a b = vC C rk' PP Z Th R a b
  | 0, _ => rfl
  | R + 1, h => by
    have ih := vC_congr (C := C) (PP := PP) (Z := Z) (Th := Th) (a := a) (b := b) e (R := R) (fun r hr => h r (by omega))
    obtain ⟨h1, h2⟩ := h R (by omega)
    have et : tpF C rk (PP R) (Z R) = tpF C rk' (PP R) (Z R) := tpF_congr (fun j hj => e _ (h2 j hj)) h1
    by_cases q : Us PP Z Th R
    · rw [vC_s1 q, vC_s1 q, ih, et]
    · rw [vC_s0 q, vC_s0 q, ih]
def OutI (X Y : Mem) : Prop := ∀ p, p < 68 ∨ 84 < p → Y p = X p
theorem RBc_outI {X Y : Mem} {R : Nat} {PP : Nat → Nat → Nat} {Z : Nat → Nat} {Th : Nat → Prop} (h : OutI X Y) (hB : RBc X R PP Z Th) : RBc Y R PP Z Th := by
  have h24 := hB.1
  refine ⟨hB.1, by rw [h 20 (by omega)]; exact hB.2.1, fun r hr => ?_⟩
  obtain ⟨h1, h2, h3, h4, h5⟩ := hB.2.2 r hr
  refine ⟨h1, h2, by rw [h 47 (by omega)]; exact h3, fun k hk => ?_, by rw [h 50 (by omega)]; exact h5⟩
  rw [h (23 + r) (by omega)]
  exact h4 k hk
/-- what the class has found: up to a round -/
def InfC (Y : Mem) (R : Nat) (PP : Nat → Nat → Nat) (Z : Nat → Nat) (Th : Nat → Prop) (n : Nat) : Prop := SetRow (Y 69) (Nb R PP Z Th) ∧ Y 68 1 = nI (KF R PP Z Th) ∧ ∀ rd, rd < n → SetRow (Y (82 + rd)) (CuF R PP Z Th rd)
theorem rkc_F {Y : Mem} {R : Nat} {PP : Nat → Nat → Nat} {Z : Nat → Nat} {Th : Nat → Prop} {rd : Nat} (h : InfC Y R PP Z Th rd) : ∀ a, a < 10 → rkc Y rd a = rkF R PP Z Th rd a := by
  intro a ha
  unfold rkc
  cases rd with
  | zero =>
    rw [if_pos rfl, setN_ix (h.1 a ha)]
    rfl
  | succ rd =>
    rw [if_neg (by omega), Nat.add_sub_cancel, setN_ix (h.2.2 rd (by omega) a ha)]
    rfl
theorem RBc_paths {X : Mem} {R : Nat} {PP : Nat → Nat → Nat} {Z : Nat → Nat} {Th : Nat → Prop} (hB : RBc X R PP Z Th) : ∀ r, r < R → 1 ≤ Z r ∧ ∀ k, k < Z r → PP r k < 10 := fun r hr => ⟨(hB.2.2 r hr).1, fun k hk => ((hB.2.2 r hr).2.2.2.1 k hk).2⟩
theorem VF_row {X Y : Mem} {R : Nat} {PP : Nat → Nat → Nat} {Z : Nat → Nat} {Th : Nat → Prop} {rd : Nat} {Y' : Mem} (hB : RBc X R PP Z Th) (h : InfC Y R PP Z Th rd) (hv : VRc Y' (vC (KF R PP Z Th) (rkc Y rd) PP Z Th R)) : VRc Y' (VF R PP Z Th rd) := VRc_congr hv (fun _ _ _ _ => vC_congr (rkc_F h) (RBc_paths hB))
theorem VF_le {X : Mem} {R : Nat} {PP : Nat → Nat → Nat} {Z : Nat → Nat} {Th : Nat → Prop} {rd : Nat} (hB : RBc X R PP Z Th) : ∀ a b, VF R PP Z Th rd a b ≤ 1000 := fun a b => by
  have h1 : VF R PP Z Th rd a b ≤ R * 5 := vC_le (fun r hr => (hB.2.2 r hr).2.1)
  have h2 := hB.1
  omega
theorem InfC_step {Y Y' : Mem} {R : Nat} {PP : Nat → Nat → Nat} {Z : Nat → Nat} {Th : Nat → Prop} {rd : Nat} {cu : Nat → Int32} (hrd : rd < 3) (h : InfC Y R PP Z Th rd) (ho : OutV Y Y') (hc : SetRow cu (CuV (VF R PP Z Th rd))) : InfC (ma Y' (82 + rd) cu) R PP Z Th (rd + 1) := by
  refine ⟨by rw [ma_ne (by omega), ho 69 (by omega)]; exact h.1, by rw [ma_ne (by omega), ho 68 (by omega)]; exact h.2.1, fun q hq => ?_⟩
  rcases lt_succ_or.mp hq with g | rfl
  · rw [ma_ne (by omega), ho (82 + q) (by omega)]
    exact h.2.2 q g
  · rw [ma_eq]
    exact hc
/-- what one net is to another one -/
def BetR (Q W : Nat → Nat → Prop) (a b : Nat) (r : Int32) : Prop := (¬ Q a b ∧ r = 0) ∨ (Q a b ∧ W b a ∧ r = 1) ∨ (Q a b ∧ ¬ W b a ∧ W a b ∧ r = 2) ∨ (Q a b ∧ ¬ W b a ∧ ¬ W a b ∧ r = 3)
