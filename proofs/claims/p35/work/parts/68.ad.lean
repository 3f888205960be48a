/-! a new object -/
section AD
variable {X X1 Y : Mem} {h D n Dd R : Nat} {dr : Nat → Nat} {PP : Nat → Nat → Nat} {Z : Nat → Nat} {Th : Nat → Prop} {r : Int32}
theorem blk_x {v l : Int32} (hb : Blk v l) : (∃ a, a < 256 ∧ v = nI a) ∧ ∃ c, c ≤ 8 ∧ l = nI c := by
  obtain ⟨h1, h2, -⟩ := hb
  obtain ⟨a, ha, ea⟩ := Btw_of (n := 255) (by decide) h1
  obtain ⟨c, hc, ec⟩ := Btw_of (n := 8) (by decide) h2
  exact ⟨⟨a, ha, ea⟩, c, by omega, ec⟩
/-- what a call that makes an object leaves; k: kind, iss: issuer, wm: whom, .. -/
def Made (X X1 : Mem) (n : Nat) (k wm vl ln ex : Int32) (h D : Nat) (R : Nat) (PP : Nat → Nat → Nat) (Z : Nat → Nat) (Th : Nat → Prop) (dr : Nat → Nat) : Prop :=
  JP X1 h D (n + 1) 0 R dr PP Z Th ∧ (∀ p, 14 < p → X1 p = X p) ∧ (X1 7 = upd (X 7) n k ∧ X1 9 = upd (X 9) n wm ∧ X1 10 = upd (X 10) n vl ∧ X1 11 = upd (X 11) n ln ∧ X1 12 = upd (X 12) n ex ∧ ∃ e, e < 20000 ∧ X1 13 = upd (X 13) n (nI e)) ∧ ∀ c, c < 6 → JgX X1 (n + 1) n (nI c) → c = 0 ∨ c = 3 ∨ c = 5
theorem U_made {a kk lb vb dn : Nat} {k wm vl ln ex : Int32} (hJ : JP X h D n 0 R dr PP Z Th) (hD9 : D ≤ 9000) (hn : n < 50) (ha : a < h) (hk : kk < 3) (ek : k = nI kk) (hw0 : k = 0 → ∃ c, c < h ∧ wm = nI c) (hw1 : k ≠ 0 → ∃ c, c < 10 ∧ wm = nI c) (hl : lb ≤ 8) (el : ln = nI lb) (hv : vb < 256) (ev : vl = nI vb) (he1 : k = 1 → ∃ c, c ≤ 8 ∧ ex = nI c) (he2 : k = 2 → ∃ c, c < 1024 ∧ ex = nI c) (hdn : dn < 1001)
    (eY : X1 = ma (mkC X n a k wm vl ln ex (nI dn)) 14 (upd (mkC X n a k wm vl ln ex (nI dn) 14) n (sigS (oC (mkC X n a k wm vl ln ex (nI dn))) n (mkC X n a k wm vl ln ex (nI dn) 3 a)))) : Made X X1 n k wm vl ln ex h D R PP Z Th dr := by
  obtain ⟨⟨a1, a2, a3, a4⟩, ⟨b1, b2, b3⟩, c, d, t⟩ := hJ
  have h8 := a4.2.1
  have e13 : X 1 0 + nI dn = nI (D + dn) := by rw [a1, nI_add]
  rw [mkC_ne (by decide : (3 : Nat) < 6 ∨ 13 < 3), mkC_ne (by decide : (14 : Nat) < 6 ∨ 13 < 14)] at eY
  have w1 : ∀ p, p ≠ 14 → X1 p = mkC X n a k wm vl ln ex (nI dn) p := fun p h1 => by rw [eY, ma_ne h1]
  have kk0 : ∀ p, p < 6 ∨ 14 < p → X1 p = X p := fun p h1 => by rw [w1 p (by omega), mkC_ne (by omega)]
  have r14 : X1 14 = upd (X 14) n (sigS (oC (mkC X n a k wm vl ln ex (nI dn))) n (X 3 a)) := by rw [eY, ma_eq]
  have r7 : X1 7 = upd (X 7) n k := by rw [w1 7 (by decide)]; rfl
  have r8 : X1 8 = upd (X 8) n (nI a) := by rw [w1 8 (by decide)]; rfl
  have r9 : X1 9 = upd (X 9) n wm := by rw [w1 9 (by decide)]; rfl
  have r10 : X1 10 = upd (X 10) n vl := by rw [w1 10 (by decide)]; rfl
  have r11 : X1 11 = upd (X 11) n ln := by rw [w1 11 (by decide)]; rfl
  have r12 : X1 12 = upd (X 12) n ex := by rw [w1 12 (by decide)]; rfl
  have r13 : X1 13 = upd (X 13) n (nI (D + dn)) := by rw [w1 13 (by decide), ← e13]; rfl
  have r6 : X1 6 = upd (X 6) 0 (nI (n + 1)) := by rw [w1 6 (by decide)]; rfl
  have hO1 : OInv (oC X1) h (n + 1) := by
    show OInv (X1 7, X1 8, X1 9, X1 10, X1 11, X1 12, X1 13, X1 14, X1 15, X1 16) h (n + 1)
    rw [r7, r8, r9, r10, r11, r12, r13, kk0 15 (by omega), kk0 16 (by omega)]
    exact OInv_add b2 hn ha hk ek hw0 hw1 hl el hv ev (b3 n (Nat.le_refl _)).1 (b3 n (Nat.le_refl _)).2 he1 he2
  refine ⟨⟨jG_k (fun p g1 g2 => kk0 p (by omega)) ⟨a1, a2, a3, a4⟩, ⟨by rw [r6, upd_eq], hO1, fun o ho => ?_⟩, jD_k (by rw [kk0 20 (by omega)]) (kk0 21 (by omega)) c, jR_k (fun j _ => by rw [kk0 20 (by omega)]) (fun p g1 g2 => kk0 p (by omega)) d, jT_k (fun p g1 g2 => kk0 p (by omega)) t⟩, fun p hp => kk0 p (by omega), ⟨r7, r9, r10, r11, r12, _, by omega, r13⟩, fun c0 hc0 hj => ?_⟩
  · rw [kk0 15 (by omega), kk0 16 (by omega)]
    exact b3 o (by omega)
  · obtain ⟨V, hV, e⟩ := hj
    have f1 : ¬ lst (oC X1) n < X1 1 0 := by
      show ¬ X1 13 n < X1 1 0
      rw [r13, upd_eq, kk0 1 (by omega), a1]
      exact Int32.not_lt.mpr ((nI_leI (by omega) (by omega)).mpr (by omega))
    have f2 : ¬ lsd (oC X1) n ≠ 0 := fun z => z (by
      show X1 16 n = 0
      rw [kk0 16 (by omega)]
      exact (b3 n (Nat.le_refl _)).2)
    have f4 : sgn (oC X1) n = sigS (oC X1) n (kyy (gC X1) (ix (isr (oC X1) n))) := by
      have i1 : isr (oC X1) n = nI a := by
        show X1 8 n = nI a
        rw [r8, upd_eq]
      rw [i1, ix_nI (by omega)]
      show X1 14 n = sigS (X1 7, X1 8, X1 9, X1 10, X1 11, X1 12, X1 13, X1 14, X1 15, X1 16) n (X1 3 a)
      rw [r14, upd_eq, r7, r8, r9, r10, r11, r12, w1 13 (by decide), kk0 3 (by omega)]
      rfl
    have n6 : ∀ d, d < 6 → nI c0 = nI d → c0 = d := fun d hd z => nIu (m := 6) (by decide) hc0 hd z
    rcases hV n (by omega) with ⟨g1, g⟩ | ⟨-, -, g⟩ | ⟨-, -, g⟩
    · rw [← e] at g
      unfold faultS at g g1
      rw [if_neg f1, if_neg f2] at g g1
      split at g
      · exact Or.inr (Or.inl (n6 3 (by decide) g))
      · exact Or.inl (n6 0 (by decide) g)
    · exact Or.inr (Or.inr (n6 5 (by decide) (e.trans g)))
    · exact Or.inl (n6 0 (by decide) (e.trans g))
theorem U_grant {iss to vb lb dn : Nat} (hJ : JP X h D n 0 R dr PP Z Th) (hD9 : D ≤ 9000) (ht : to < h) (hdn : dn < 1001) (q : q_X9_grant (nI iss) (nI to) (nI vb) (nI lb) (nI dn) X h n r X1) : r = nI n ∧ Made X X1 n 0 (nI to) (nI vb) (nI lb) 0 h D R PP Z Th dr := by
  obtain ⟨er, ⟨⟨hi, hw⟩, hB, hn⟩, a, ha, ea, eY⟩ := q
  obtain ⟨⟨v', hv, ev⟩, l', hl, el⟩ := blk_x hB.1
  exact ⟨er, U_made (kk := 0) (k := 0) (ex := 0) hJ hD9 hn ha (by decide) rfl (fun _ => ⟨to, ht, rfl⟩) (fun q => absurd rfl q) hl el hv ev (fun q => absurd q (by decide)) (fun q => absurd q (by decide)) hdn eY⟩
theorem U_origin {iss to vb lb mo dn : Nat} (hJ : JP X h D n 0 R dr PP Z Th) (hD9 : D ≤ 9000) (ht : to < 10) (hm : mo ≤ 8) (hdn : dn < 1001) (q : q_X9_origin (nI iss) (nI to) (nI vb) (nI lb) (nI mo) (nI dn) X h n r X1) : r = nI n ∧ Made X X1 n 1 (nI to) (nI vb) (nI lb) (nI mo) h D R PP Z Th dr := by
  obtain ⟨er, ⟨⟨hi, hw⟩, hB, hn⟩, a, ha, ea, eY⟩ := q
  obtain ⟨⟨v', hv, ev⟩, l', hl, el⟩ := blk_x hB.1
  exact ⟨er, U_made (kk := 1) (k := 1) (ex := nI mo) hJ hD9 hn ha (by decide) rfl (fun q => absurd q (by decide)) (fun _ => ⟨to, ht, rfl⟩) hl el hv ev (fun _ => ⟨mo, hm, rfl⟩) (fun q => absurd q (by decide)) hdn eY⟩
theorem U_vouch {iss to mo dn : Nat} (hJ : JP X h D n 0 R dr PP Z Th) (hD9 : D ≤ 9000) (ht : to < 10) (hm : mo < 1024) (hdn : dn < 1001) (q : q_X9_vouch (nI iss) (nI to) (nI mo) (nI dn) X h n r X1) : r = nI n ∧ Made X X1 n 2 (nI to) 0 0 (nI mo) h D R PP Z Th dr := by
  obtain ⟨er, ⟨⟨hi, hw⟩, hB, hn⟩, a, ha, ea, eY⟩ := q
  exact ⟨er, U_made (kk := 2) (k := 2) (vl := 0) (ln := 0) (ex := nI mo) hJ hD9 hn ha (by decide) rfl (fun q => absurd q (by decide)) (fun _ => ⟨to, ht, rfl⟩) (Nat.zero_le 8) rfl (by decide : 0 < 256) rfl (fun q => absurd q (by decide)) (fun _ => ⟨mo, hm, rfl⟩) hdn eY⟩
theorem LA_made {k wm vl ln ex : Int32} (hL : LA X h n R PP Z Th) (q : Made X X1 n k wm vl ln ex h D R PP Z Th dr) (hb : Blk vl ln) (hex : ∃ e, e < 1024 ∧ ex = nI e) :
    LA (ma (ma (ma (ma (ma X1 85 (upd (X1 85) n k)) 86 (upd (X1 86) n wm)) 87 (upd (X1 87) n vl)) 88 (upd (X1 88) n ln)) 89 (upd (X1 89) n ex)) h (n + 1) R PP Z Th := by
  obtain ⟨-, e, ⟨r7, r9, r10, r11, r12, e13, he13, r13⟩, -⟩ := q
  obtain ⟨q1, q2, q3, q4⟩ := hL
  unfold LA
  simp (disch := decide) only [ma_eq, ma_ne]
  rw [r7, r9, r10, r11, r12, r13, e 85 (by decide), e 86 (by decide), e 87 (by decide), e 88 (by decide), e 89 (by decide), e 90 (by decide), e 91 (by decide)]
  refine ⟨fun j hj => ?_, q2, q3, q4⟩
  by_cases z : j = n
  · subst z
    simp only [upd_eq]
    exact ⟨trivial, trivial, trivial, trivial, trivial, hb, hex, e13, he13, rfl⟩
  · simp only [upd_ne z]
    exact q1 j (by omega)
theorem JgX_j {o : Nat} (e : ∀ p, p < 85 → Y p = X p) (h : JgX Y n o r) : JgX X n o r := by
  have e1 : oC Y = oC X := by unfold oC; rw [e 7 (by decide), e 8 (by decide), e 9 (by decide), e 10 (by decide), e 11 (by decide), e 12 (by decide), e 13 (by decide), e 14 (by decide), e 15 (by decide), e 16 (by decide)]
  have e2 : gC Y = gC X := by unfold gC; rw [e 2 (by decide), e 3 (by decide), e 4 (by decide), e 5 (by decide)]
  unfold JgX at h ⊢
  rw [e1, e2, e 1 (by decide)] at h
  exact h
theorem new_j {c1 c2 c3 : Nat} (hJ : JP Y h D (n + 1) Dd R dr PP Z Th) (hv : ∀ c, c < 6 → JgX Y (n + 1) n (nI c) → c = 0 ∨ c = 3 ∨ c = 5) (k1 : c1 < 6) (k2 : c2 < 6) (k3 : c3 < 6) (h1 : JgX Y (n + 1) n (nI c1)) (h2 : JgX Y (n + 1) n (nI c2)) (h3 : JgX Y (n + 1) n (nI c3)) (n1 : ¬ c1 = 0) (n2 : ¬ c2 = 3) (n3 : ¬ c3 = 5) : False := by
  have e1 := nIu (m := 6) (by decide) k1 k2 (JgX_one hJ.1.2.2.2 hJ.2.1.2.1 (by omega) h1 h2)
  have e2 := nIu (m := 6) (by decide) k2 k3 (JgX_one hJ.1.2.2.2 hJ.2.1.2.1 (by omega) h2 h3)
  have := hv c1 k1 h1
  omega
end AD
theorem shl_n : ∀ a, a < 256 → ∀ k, k < 9 → nI a <<< (nI k &&& 31) = nI (a * 2 ^ k) := by decide +kernel
theorem blk_v : ∀ v, v < 256 → ∀ k, k < 9 → v / 2 ^ (8 - k) * 2 ^ (8 - k) < 256 ∧ v / 2 ^ (8 - k) < 256 ∧ v / 2 ^ (8 - k) * 2 ^ (8 - k) % 2 ^ (8 - k) = 0 := by
  intro v hv k hk
  have h1 := Nat.div_mul_le_self v (2 ^ (8 - k))
  have h2 := Nat.div_le_self v (2 ^ (8 - k))
  exact ⟨by omega, by omega, Nat.mul_mod_left _ _⟩
