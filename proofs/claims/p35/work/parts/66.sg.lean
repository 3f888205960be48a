/-! signatures, revocations -/
theorem rem_n {x : Nat} (h : x < 2 ^ 31) : remS (nI x) = nI (x % 65521) := pk_rem (d := 65521) h (by decide) (by decide)
theorem mix_n {d v : Nat} (hd : d < 65521) (hv : v < 20000) : ∃ m, m < 65521 ∧ mixS (nI d) (nI v) = nI m := by
  refine ⟨(263 * d + v + 1) % 65521, Nat.mod_lt _ (by decide), ?_⟩
  show remS (nI 263 * nI d + nI v + nI 1) = _
  rw [pk_mul, nI_add, nI_add, rem_n (by omega)]
section SG
variable {X X1 Y : Mem} {h D n Dd R : Nat} {dr : Nat → Nat} {PP : Nat → Nat → Nat} {Z : Nat → Nat} {Th : Nat → Prop} {r : Int32}
theorem dig_n {o : Nat} (hJ : JP X h D n Dd R dr PP Z Th) (hL : LA X h n R PP Z Th) (ho : o < n) : ∃ m, m < 65521 ∧ digS (oC X) o = nI m := by
  have h8 := hJ.1.2.2.2.2.1
  obtain ⟨⟨a1, g1, e1⟩, ⟨a2, g2, e2⟩, w1, w2, ⟨a4, g4, e4⟩, ⟨a5, g5, e5⟩, -⟩ := hJ.2.1.2.1.2 o ho
  obtain ⟨-, -, -, -, -, -, ⟨a6, g6, e6⟩, ⟨a7, g7, e7⟩⟩ := hL.1 o ho
  obtain ⟨a3, g3, e3⟩ : ∃ a, a < 10 ∧ whm (oC X) o = nI a := by
    by_cases q : kd (oC X) o = 0
    · obtain ⟨a, p1, p2⟩ := w1 q
      exact ⟨a, by omega, p2⟩
    · exact w2 q
  have e6 : ext (oC X) o = nI a6 := e6
  have e7 : lst (oC X) o = nI a7 := e7
  unfold digS
  rw [e1, e2, e3, e4, e5, e6, e7]
  obtain ⟨m1, k1, f1⟩ := mix_n (d := 0) (v := a2) (by decide) (by omega)
  have f1 : mixS 0 (nI a2) = nI m1 := f1
  rw [f1]
  obtain ⟨m2, k2, f2⟩ := mix_n (d := m1) (v := a1) k1 (by omega)
  rw [f2]
  obtain ⟨m3, k3, f3⟩ := mix_n (d := m2) (v := a3) k2 (by omega)
  rw [f3]
  obtain ⟨m4, k4, f4⟩ := mix_n (d := m3) (v := a5) k3 (by omega)
  rw [f4]
  obtain ⟨m5, k5, f5⟩ := mix_n (d := m4) (v := a4) k4 (by omega)
  rw [f5]
  obtain ⟨m6, k6, f6⟩ := mix_n (d := m5) (v := a6) k5 (by omega)
  rw [f6]
  exact mix_n k6 g7
/-- m is the signature that the object's issuer writes now -/
def SgV (X : Mem) (o m : Nat) : Prop := sigS (oC X) o (kyy (gC X) (ix (isr (oC X) o))) = nI m
theorem sig_n {o : Nat} (hJ : JP X h D n Dd R dr PP Z Th) (hL : LA X h n R PP Z Th) (ho : o < n) : ∃ m, m < 65521 ∧ SgV X o m := by
  have h8 := hJ.1.2.2.2.2.1
  obtain ⟨d, hd, ed⟩ := dig_n hJ hL ho
  obtain ⟨⟨a1, g1, e1⟩, -⟩ := hJ.2.1.2.1.2 o ho
  obtain ⟨k, hk, ek⟩ := hJ.1.2.2.2.2.2.2.2.1 a1 (by omega)
  unfold SgV
  rw [e1, ix_nI (by omega), ek]
  unfold sigS
  rw [ed, e1]
  refine ⟨(31 * d + 7919 * (101 * a1 + 17 * k)) % 65521, Nat.mod_lt _ (by decide), ?_⟩
  show remS (nI 31 * nI d + nI 7919 * (nI 101 * nI a1 + nI 17 * nI k)) = _
  rw [pk_mul, pk_mul, pk_mul, nI_add, pk_mul, nI_add, rem_n (by omega)]
theorem SgV_one {o m m' : Nat} (hm : m < 65521) (hm' : m' < 65521) (h1 : SgV X o m) (h2 : SgV X o m') : m = m' := nIu (m := 65521) (by decide) hm hm' (h1.symm.trans h2)
theorem U_sign2 {o : Nat} (hJ : JP X h D n Dd R dr PP Z Th) (hL : LA X h n R PP Z Th) (ho : o < n) (q : q_X9_sign (nI o) X h n r X1) : (∃ m, m < 65521 ∧ r = nI m ∧ SgV X o m ∧ SgV X1 o m ∧ X1 14 o = nI m) ∧ JP X1 h D n Dd R dr PP Z Th ∧ KL X X1 := by
  obtain ⟨⟨a, ha, ea, er, e14⟩, hJ1, hkl, k⟩ := U_sign hJ ho q
  have h8 := hJ.1.2.2.2.2.1
  obtain ⟨m, hm, em⟩ := sig_n hJ hL ho
  have e0 : sigS (oC X) o (X 3 a) = nI m := by
    have := em
    unfold SgV at this
    rw [show isr (oC X) o = nI a from ea, ix_nI (by omega)] at this
    exact this
  refine ⟨⟨m, hm, er.trans e0, em, ?_, by rw [e14, upd_eq, e0]⟩, hJ1, hkl⟩
  unfold SgV
  have i1 : isr (oC X1) o = nI a := by
    show X1 8 o = nI a
    rw [k 8 (by decide)]
    exact ea
  rw [i1, ix_nI (by omega)]
  show sigS (X1 7, X1 8, X1 9, X1 10, X1 11, X1 12, X1 13, X1 14, X1 15, X1 16) o (X1 3 a) = nI m
  rw [k 7 (by decide), k 8 (by decide), k 9 (by decide), k 10 (by decide), k 11 (by decide), k 12 (by decide), k 13 (by decide), k 3 (by decide)]
  exact e0
theorem not_4 {o m : Nat} (ho : o < n) (h1 : SgV X o m) (h2 : X 14 o = nI m) (hj : JgX X n o (nI 4)) : False := by
  obtain ⟨V, hV, e⟩ := hj
  have hs : sgn (oC X) o = sigS (oC X) o (kyy (gC X) (ix (isr (oC X) o))) := h2.trans h1.symm
  rcases hV o ho with ⟨-, g⟩ | ⟨-, -, g⟩ | ⟨-, -, g⟩
  · rw [← e] at g
    unfold faultS at g
    rw [if_pos hs] at g
    split at g
    · exact absurd g (by decide)
    · split at g
      · exact absurd g (by decide)
      · split at g <;> exact absurd g (by decide)
  · rw [← e] at g
    exact absurd g (by decide)
  · rw [← e] at g
    exact absurd g (by decide)
/-- what is revoked alone changes no verdict -/
theorem JgX_rvk {o : Nat} (k : ∀ p, p ≠ 15 → X1 p = X p) (hj : JgX X1 n o r) : JgX X n o r := by
  obtain ⟨V, hV, e⟩ := hj
  refine ⟨V, ?_, e⟩
  have h1 : IsV (oC X1) (gC X1) n (X1 1 0) V := hV
  unfold oC gC at h1
  rw [k 7 (by decide), k 8 (by decide), k 9 (by decide), k 10 (by decide), k 11 (by decide), k 12 (by decide), k 13 (by decide), k 14 (by decide), k 16 (by decide), k 1 (by decide), k 2 (by decide), k 3 (by decide), k 4 (by decide), k 5 (by decide)] at h1
  exact h1
theorem jg_2 {o : Nat} (hJ : JP X h D n Dd R dr PP Z Th) (ho : o < n) (hj : JgX X n o (nI 2)) : X 15 o = 1 := by
  obtain ⟨V, hV, e⟩ := hj
  rcases hV o ho with ⟨-, g⟩ | ⟨-, -, g⟩ | ⟨-, -, g⟩
  · rw [← e] at g
    obtain ⟨-, -, -, -, -, -, -, h7, h8, -⟩ := hJ.2.1.2.1.2 o ho
    refine h8 (h7.resolve_left fun q => ?_)
    have q2 : ¬ lsd (oC X) o ≠ 0 := fun z => z q
    unfold faultS at g
    rw [if_neg q2] at g
    split at g
    · exact absurd g (by decide)
    · split at g
      · exact absurd g (by decide)
      · split at g <;> exact absurd g (by decide)
  · rw [← e] at g
    exact absurd g (by decide)
  · rw [← e] at g
    exact absurd g (by decide)
theorem btw_1n {a m : Nat} (h1 : 1 ≤ a) (h : a ≤ m) (hm : m < 2 ^ 31) : Btw (nI a) 1 (nI m) := ⟨(nI_leI (a := 1) (by decide) (Nat.lt_of_le_of_lt h hm)).mpr h1, (nI_leI (Nat.lt_of_le_of_lt h hm) hm).mpr h⟩
end SG
