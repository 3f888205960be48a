/-! altering -/
section AL
variable {X X1 Y : Mem} {h D n Dd R : Nat} {dr : Nat → Nat} {PP : Nat → Nat → Nat} {Z : Nat → Nat} {Th : Nat → Prop} {r : Int32}
theorem al_e {A B C : Prop} {E : String} (h : Flt3a A B C E) (q : A → B → C) : E = eIO ∨ E = eIS := by
  rcases h with ⟨e, -⟩ | ⟨e, -⟩ | ⟨-, a, b, c⟩
  · exact Or.inl e
  · exact Or.inr e
  · exact absurd (q a b) c
theorem al_C {o e kq : Nat} (ho : o < n) (n50 : n ≤ 50) (hk : X 7 o = nI kq) (hk3 : kq < 3) (h1 : kq = 1 → e ≤ 8) (h2 : e < 1024) : ∀ x, x < n → nI o = nI x → Btw (nI e) 0 (if X 7 x = 1 then 8 else 1023) := by
  intro x hx ex
  have := nIu (m := 50) (by decide) (by omega) (by omega) ex
  subst this
  rw [hk]
  by_cases q : kq = 1
  · rw [if_pos (by rw [q]; rfl)]
    exact btw_n (m := 8) (h1 q) (by decide)
  · rw [if_neg (show ¬ nI kq = (1 : Int32) from fun z => q (nIu (m := 3) (by decide) hk3 (by decide) (z : nI kq = nI 1)))]
    exact btw_n (m := 1023) (by omega) (by decide)
theorem U_on0n {o e kq : Nat} (hJ : JP X h D n Dd R dr PP Z Th) (ho : o < n) (hk : X 7 o = nI kq) (hk3 : kq = 1 ∨ kq = 2) (h1 : kq = 1 → e ≤ 8) (h2 : e < 1024) (q : q_L_on_0 (nI o) (nI e) X h n r X1) : r = X 12 o ∧ JP X1 h D n Dd R dr PP Z Th ∧ X1 = ma X 12 (upd (X 12) o (nI e)) := by
  have n50 := hJ.2.1.2.1.1
  have hk0 : ¬ X 7 o = 0 := by
    rw [hk]
    exact nI_ne0 (by omega) (by omega)
  rcases q with ⟨-, o', ho', eo, -, er, eY⟩ | ⟨E, ⟨-, e2⟩, -⟩
  · have := nIu (m := 50) (by decide) (by omega) (by omega) eo
    subst this
    obtain ⟨a, ⟨b1, b2, b3⟩, c, d, t⟩ := hJ
    have k : ∀ p, p ≠ 12 → X1 p = X p := fun p h1 => by rw [eY, ma_ne h1]
    refine ⟨er, ⟨jG_k (fun p g1 g2 => k p (by omega)) a, ⟨by rw [k 6 (by decide)]; exact b1, ?_, by rw [k 15 (by decide), k 16 (by decide)]; exact b3⟩, jD_k (by rw [k 20 (by decide)]) (k 21 (by decide)) c, jR_k (fun j _ => by rw [k 20 (by decide)]) (fun p g1 g2 => k p (by omega)) d, jT_k (fun p g1 g2 => k p (by omega)) t⟩, eY⟩
    show OInv (X1 7, X1 8, X1 9, X1 10, X1 11, X1 12, X1 13, X1 14, X1 15, X1 16) h n
    rw [k 7 (by decide), k 8 (by decide), k 9 (by decide), k 10 (by decide), k 11 (by decide), k 13 (by decide), k 14 (by decide), k 15 (by decide), k 16 (by decide), eY, ma_eq]
    refine OInv_ext b2 (fun q => ⟨e, h1 ?_, rfl⟩) (fun _ => ⟨e, h2, rfl⟩)
    rw [hk] at q
    exact nIu (m := 3) (by decide) (by omega) (by decide) (q : nI kq = nI 1)
  · exfalso
    rcases e2 with ⟨-, g⟩ | ⟨-, -, g⟩ | ⟨-, -, -, g⟩
    · exact g (obj_b ho n50)
    · refine g (fun x hx ex => ?_)
      have := nIu (m := 50) (by decide) (by omega) (by omega) ex
      subst this
      exact hk0
    · exact g (al_C ho n50 hk (by omega) h1 h2)
theorem U_on0g {o e : Nat} (hJ : JP X h D n Dd R dr PP Z Th) (ho : o < n) (hk : X 7 o = 0) (q : q_L_on_0 (nI o) (nI e) X h n r X1) : r = -13 ∧ X1 = X := by
  have n50 := hJ.2.1.2.1.1
  rcases q with ⟨-, o', ho', eo, ⟨g, -⟩, -⟩ | ⟨E, ⟨e1, e2⟩, e3⟩
  · have := nIu (m := 50) (by decide) (by omega) (by omega) eo
    subst this
    exact absurd hk g
  · refine ⟨?_, e1⟩
    rcases e2 with ⟨-, g⟩ | ⟨g0, -⟩ | ⟨-, -, g, -⟩
    · exact absurd (obj_b ho n50) g
    · exact e3.elim (fun q => absurd (g0.symm.trans q.1) (by decide)) (fun q => q.2)
    · exact absurd hk (g o ho rfl)
theorem LA_ext {o e : Nat} (hL : LA X h n R PP Z Th) (e12 : ∀ k, k < n → X1 12 k = if k = o then nI e else X 12 k) (k0 : ∀ p, (p = 7 ∨ (8 < p ∧ p < 12) ∨ p = 13 ∨ 84 < p) → X1 p = X p) (he : e < 1024) : LA (ma X1 89 (upd (X1 89) o (nI e))) h n R PP Z Th := by
  obtain ⟨q1, q2, q3, q4⟩ := hL
  unfold LA
  simp (disch := decide) only [ma_eq, ma_ne]
  rw [k0 7 (by decide), k0 9 (by decide), k0 10 (by decide), k0 11 (by decide), k0 13 (by decide), k0 85 (by decide), k0 86 (by decide), k0 87 (by decide), k0 88 (by decide), k0 89 (by decide), k0 90 (by decide), k0 91 (by decide)]
  refine ⟨fun j hj => ?_, q2, q3, q4⟩
  obtain ⟨g1, g2, g3, g4, g5, g6, g7, g8⟩ := q1 j hj
  rw [e12 j hj]
  by_cases z : j = o
  · subst z
    rw [if_pos rfl, upd_eq]
    exact ⟨g1, g2, g3, g4, rfl, g6, ⟨e, he, rfl⟩, g8⟩
  · rw [if_neg z, upd_ne z]
    exact ⟨g1, g2, g3, g4, g5, g6, g7, g8⟩
theorem upd_back {f : Nat → Int32} {k e : Nat} {a : Int32} (he : f k = nI e) : upd (upd f k a) k (nI e) = f := by
  funext j
  by_cases z : j = k
  · subst z
    rw [upd_eq, he]
  · rw [upd_ne z, upd_ne z]
end AL
theorem upd_self (f : Nat → Int32) (k : Nat) : upd f k (f k) = f := by
  funext j
  by_cases z : j = k
  · subst z; rw [upd_eq]
  · rw [upd_ne z]
theorem JgX_r {X Y : Mem} {n o : Nat} {r : Int32} (e : ∀ p, p < 18 → Y p = X p) (h : JgX Y n o r) : JgX X n o r := by
  have e1 : oC Y = oC X := by unfold oC; rw [e 7 (by decide), e 8 (by decide), e 9 (by decide), e 10 (by decide), e 11 (by decide), e 12 (by decide), e 13 (by decide), e 14 (by decide), e 15 (by decide), e 16 (by decide)]
  have e2 : gC Y = gC X := by unfold gC; rw [e 2 (by decide), e 3 (by decide), e 4 (by decide), e 5 (by decide)]
  unfold JgX at h ⊢
  rw [e1, e2, e 1 (by decide)] at h
  exact h
