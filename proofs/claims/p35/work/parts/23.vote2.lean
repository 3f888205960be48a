theorem vote_bo {K : Nat} {P : Nat → Nat} {top i a b : Nat} (h1 : 1 ≤ i) (h : Bo K (P (i - 1)) (P i)) : crC K P top (i + 1) a b = crC K P top i a b := by
  rw [crC_s h1, oneIf_f (fun q => q.2 h), Nat.add_zero]
theorem vote_up {K : Nat} {P : Nat → Nat} {top i a b : Nat} (h1 : 1 ≤ i) (hle : i ≤ top) (h : ¬ Bo K (P (i - 1)) (P i)) : crC K P top (i + 1) a b = crC K P top i a b + oneIf (a = P (i - 1) ∧ b = P i) := by
  rw [crC_s h1]
  congr 1
  exact oneIf_c ⟨fun q => (Pr_up h1 hle).mp q.1, fun q => ⟨(Pr_up h1 hle).mpr q, h⟩⟩
theorem vote_dn {K : Nat} {P : Nat → Nat} {top i a b : Nat} (h1 : 1 ≤ i) (hle : top < i) (h : ¬ Bo K (P (i - 1)) (P i)) : crC K P top (i + 1) a b = crC K P top i a b + oneIf (a = P i ∧ b = P (i - 1)) := by
  rw [crC_s h1]
  congr 1
  exact oneIf_c ⟨fun q => (Pr_dn h1 hle).mp q.1, fun q => ⟨(Pr_dn h1 hle).mpr q, h⟩⟩
theorem OutV_rf (X : Mem) : OutV X X := fun _ _ => rfl
theorem OutV_tr {X Y Y' : Mem} (h : OutV X Y) (h2 : OutV Y Y') : OutV X Y' := fun p hp => (h2 p hp).trans (h p hp)
theorem RBc_out {X Y : Mem} {R : Nat} {PP : Nat → Nat → Nat} {Z : Nat → Nat} {Th : Nat → Prop} (h : OutV X Y) (hB : RBc X R PP Z Th) : RBc Y R PP Z Th := by
  have h24 := hB.1
  refine ⟨hB.1, by rw [h 20 (by omega)]; exact hB.2.1, fun r hr => ?_⟩
  obtain ⟨h1, h2, h3, h4, h5⟩ := hB.2.2 r hr
  refine ⟨h1, h2, by rw [h 47 (by omega)]; exact h3, fun k hk => ?_, by rw [h 50 (by omega)]; exact h5⟩
  rw [h (23 + r) (by omega)]
  exact h4 k hk
theorem rkc_out {X Y : Mem} {rd : Nat} (h : OutV X Y) : rkc Y rd = rkc X rd := by
  funext a
  unfold rkc
  rw [h 69 (by omega), h (82 + (rd - 1)) (by omega)]
theorem vC_s1 {C : Nat} {rk : Nat → Nat} {PP : Nat → Nat → Nat} {Z : Nat → Nat} {Th : Nat → Prop} {r a b : Nat} (hu : Us PP Z Th r) : vC C rk PP Z Th (r + 1) a b = vC C rk PP Z Th r a b + crC C (PP r) (tpF C rk (PP r) (Z r)) (Z r) a b := by
  show vC C rk PP Z Th r a b + oneIf (Us PP Z Th r) * _ = _
  rw [oneIf_t hu, Nat.one_mul]
theorem vC_s0 {C : Nat} {rk : Nat → Nat} {PP : Nat → Nat → Nat} {Z : Nat → Nat} {Th : Nat → Prop} {r a b : Nat} (hu : ¬ Us PP Z Th r) : vC C rk PP Z Th (r + 1) a b = vC C rk PP Z Th r a b := by
  show vC C rk PP Z Th r a b + oneIf (Us PP Z Th r) * _ = _
  rw [oneIf_f hu, Nat.zero_mul, Nat.add_zero]
theorem vC_le {C : Nat} {rk : Nat → Nat} {PP : Nat → Nat → Nat} {Z : Nat → Nat} {Th : Nat → Prop} {a b : Nat} : ∀ {R : Nat}, (∀ r, r < R → Z r ≤ 6) → vC C rk PP Z Th R a b ≤ R * 5
  | 0, _ => by rw [Nat.zero_mul]; exact Nat.le_refl _
  | R + 1, h => by
    have ih := vC_le (C := C) (rk := rk) (PP := PP) (Z := Z) (Th := Th) (a := a) (b := b) (R := R) (fun r hr => h r (by omega))
    have h2 : crC C (PP R) (tpF C rk (PP R) (Z R)) (Z R) a b ≤ 5 := Nat.le_trans crC_le (by have := h R (by omega); omega)
    rw [Nat.succ_mul]
    by_cases q : Us PP Z Th R
    · rw [vC_s1 q]; omega
    · rw [vC_s0 q]; omega
/-- customers by votes -/
def CuV (v : Nat → Nat → Nat) (a b : Nat) : Prop := b < 10 ∧ 2 * v a b < v b a
theorem Cu_put {cu : Nat → Int32} {p : Nat → Prop} {x y s : Nat} (h : SetIs (cu x) p) (hy : y < 10) (e : cu x = nI s) : SetIs (upd cu x (nI (s ||| 2 ^ y)) x) (fun b => p b ∨ b = y) := by
  have := SetRow_add (nb := fun _ => cu x) (Q := fun _ => p) (x := 0) (y := y) (s := s) (fun _ _ => h) (by decide) hy e
  have := this 0 (by decide)
  rw [upd_eq] at this ⊢
  exact SetIs_congr this (fun b => ⟨fun g => g.elim Or.inl (fun g => Or.inr g.2), fun g => g.elim Or.inl (fun g => Or.inr ⟨rfl, g⟩)⟩)
