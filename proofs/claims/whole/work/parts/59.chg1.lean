/-! what changes in both -/
theorem gMC {X : Mem} (e : gM X = gC X) : X 86 = X 2 ∧ X 87 = X 3 ∧ X 88 = X 4 ∧ X 89 = X 5 := by
  unfold gM gC at e
  simp only [Prod.mk.injEq] at e
  exact e
theorem oMC {X : Mem} (e : oM X = oC X) : X 90 = X 7 ∧ X 91 = X 8 ∧ X 92 = X 9 ∧ X 93 = X 10 ∧ X 94 = X 11 ∧ X 95 = X 12 ∧ X 96 = X 13 ∧ X 97 = X 14 ∧ X 98 = X 15 ∧ X 99 = X 16 := by
  unfold oM oC at e
  simp only [Prod.mk.injEq] at e
  exact e
theorem GInv_add {P K F F' O : Nat → Int32} {h c : Nat} (hG : GInv (P, K, F, O) h) (h8 : h < 8) (hc : c < h) : GInv (upd P h (nI c), K, F', O) (h + 1) := by
  obtain ⟨a1, a2, a3, a4, a5, a6⟩ := hG
  refine ⟨by omega, by omega, ?_, fun b h1 h2 => ?_, a5, fun b hb => ?_⟩
  · show upd P h (nI c) 0 = -1
    rw [upd_ne (by omega)]
    exact a3
  · show ∃ a, a < b ∧ upd P h (nI c) b = nI a
    by_cases q : b = h
    · subst q; exact ⟨c, hc, upd_eq _ _ _⟩
    · rw [upd_ne q]; exact a4 b h1 (by omega)
  · obtain ⟨a, h1, h2⟩ := a6 b hb
    exact ⟨a, by omega, h2⟩
theorem GInv_own {P K F O : Nat → Int32} {h c a : Nat} (hG : GInv (P, K, F, O) h) (hc : c < h) : GInv (P, K, F, upd O a (nI c)) h := by
  obtain ⟨a1, a2, a3, a4, a5, a6⟩ := hG
  refine ⟨a1, a2, a3, a4, a5, fun b hb => ?_⟩
  show ∃ x, x < h ∧ upd O a (nI c) b = nI x
  by_cases q : b = a
  · subst q; exact ⟨c, hc, upd_eq _ _ _⟩
  · rw [upd_ne q]; exact a6 b hb
theorem GInv_key {P K F O : Nat → Int32} {h k a : Nat} (hG : GInv (P, K, F, O) h) (hk : k ≤ 100) : GInv (P, upd K a (nI k), F, O) h := by
  obtain ⟨a1, a2, a3, a4, a5, a6⟩ := hG
  refine ⟨a1, a2, a3, a4, fun b hb => ?_, a6⟩
  show ∃ x, x ≤ 100 ∧ upd K a (nI k) b = nI x
  by_cases q : b = a
  · subst q; exact ⟨k, hk, upd_eq _ _ _⟩
  · rw [upd_ne q]; exact a5 b hb
theorem GInv_frs {P K F F' O : Nat → Int32} {h : Nat} (hG : GInv (P, K, F, O) h) : GInv (P, K, F', O) h := hG
theorem OInv_h {O : Ob} {h h' n : Nat} (hh : h ≤ h') (q : OInv O h n) : OInv O h' n := by
  refine ⟨q.1, fun o ho => ?_⟩
  obtain ⟨⟨a, h1, h2⟩, h3, h4, h5⟩ := q.2 o ho
  exact ⟨⟨a, by omega, h2⟩, h3, fun g => by obtain ⟨x, g1, g2⟩ := h4 g; exact ⟨x, by omega, g2⟩, h5⟩
theorem OInv_add {f7 f8 f9 f10 f11 f12 f13 f14 f15 f16 f14' : Nat → Int32} {h n a kk lb vb : Nat} {k wm vl ln ex dy : Int32} (q : OInv (f7, f8, f9, f10, f11, f12, f13, f14, f15, f16) h n) (hn : n < 50) (ha : a < h) (hk : kk < 3) (ek : k = nI kk) (hw0 : k = 0 → ∃ c, c < h ∧ wm = nI c) (hw1 : k ≠ 0 → ∃ c, c < 10 ∧ wm = nI c) (hl : lb ≤ 8) (el : ln = nI lb) (hv : vb < 256) (ev : vl = nI vb) (h15 : f15 n = 0) (h16 : f16 n = 0) (he1 : k = 1 → ∃ c, c ≤ 8 ∧ ex = nI c) (he2 : k = 2 → ∃ c, c < 1024 ∧ ex = nI c) : OInv (upd f7 n k, upd f8 n (nI a), upd f9 n wm, upd f10 n vl, upd f11 n ln, upd f12 n ex, upd f13 n dy, f14', f15, f16) h (n + 1) := by
  refine ⟨by omega, fun o ho => ?_⟩
  show (∃ x, x < h ∧ upd f8 n (nI a) o = nI x) ∧ (∃ x, x < 3 ∧ upd f7 n k o = nI x) ∧ (upd f7 n k o = 0 → ∃ x, x < h ∧ upd f9 n wm o = nI x) ∧ (upd f7 n k o ≠ 0 → ∃ x, x < 10 ∧ upd f9 n wm o = nI x) ∧ (∃ x, x ≤ 8 ∧ upd f11 n ln o = nI x) ∧ (∃ x, x < 256 ∧ upd f10 n vl o = nI x) ∧ (f15 o = 0 ∨ f15 o = 1) ∧ (f16 o = 0 ∨ f16 o = 1) ∧ (f16 o = 1 → f15 o = 1) ∧ (upd f7 n k o = 1 → ∃ x, x ≤ 8 ∧ upd f12 n ex o = nI x) ∧ (upd f7 n k o = 2 → ∃ x, x < 1024 ∧ upd f12 n ex o = nI x)
  by_cases e : o = n
  · subst e
    simp only [upd_eq]
    exact ⟨⟨a, ha, rfl⟩, ⟨kk, hk, ek⟩, hw0, hw1, ⟨lb, hl, el⟩, ⟨vb, hv, ev⟩, Or.inl h15, Or.inl h16, fun g => absurd (h16.symm.trans g) (by decide), he1, he2⟩
  · simp only [upd_ne e]
    exact q.2 o (by omega)
theorem OInv_lsd {f7 f8 f9 f10 f11 f12 f13 f14 f15 f16 L : Nat → Int32} {h n : Nat} (q : OInv (f7, f8, f9, f10, f11, f12, f13, f14, f15, f16) h n) (hL : ∀ o, o < n → (L o = 0 ∨ L o = 1) ∧ (L o = 1 → f15 o = 1)) : OInv (f7, f8, f9, f10, f11, f12, f13, f14, f15, L) h n := by
  refine ⟨q.1, fun o ho => ?_⟩
  obtain ⟨h1, h2, h3, h4, h5, h6, h7, h8, h9, h10⟩ := q.2 o ho
  exact ⟨h1, h2, h3, h4, h5, h6, h7, (hL o ho).1, (hL o ho).2, h10⟩
theorem OInv_rvk {f7 f8 f9 f10 f11 f12 f13 f14 f15 f16 : Nat → Int32} {h n x : Nat} (q : OInv (f7, f8, f9, f10, f11, f12, f13, f14, f15, f16) h n) : OInv (f7, f8, f9, f10, f11, f12, f13, f14, upd f15 x 1, f16) h n := by
  refine ⟨q.1, fun o ho => ?_⟩
  obtain ⟨h1, h2, h3, h4, h5, h6, h7, h8, h9, h10⟩ := q.2 o ho
  refine ⟨h1, h2, h3, h4, h5, h6, ?_, h8, fun g => ?_, h10⟩
  · show upd f15 x 1 o = 0 ∨ upd f15 x 1 o = 1
    by_cases e : o = x
    · subst e; exact Or.inr (upd_eq _ _ _)
    · rw [upd_ne e]; exact h7
  · show upd f15 x 1 o = 1
    by_cases e : o = x
    · subst e; exact upd_eq _ _ _
    · rw [upd_ne e]; exact h9 g
theorem OInv_ext {f7 f8 f9 f10 f11 f12 f13 f14 f15 f16 : Nat → Int32} {h n x : Nat} {ex : Int32} (q : OInv (f7, f8, f9, f10, f11, f12, f13, f14, f15, f16) h n) (h1 : f7 x = 1 → ∃ c, c ≤ 8 ∧ ex = nI c) (h2 : f7 x = 2 → ∃ c, c < 1024 ∧ ex = nI c) : OInv (f7, f8, f9, f10, f11, upd f12 x ex, f13, f14, f15, f16) h n := by
  refine ⟨q.1, fun o ho => ?_⟩
  obtain ⟨g1, g2, g3, g4, g5, g6, g7, g8, g9, g10, g11⟩ := q.2 o ho
  refine ⟨g1, g2, g3, g4, g5, g6, g7, g8, g9, fun k => ?_, fun k => ?_⟩
  · show ∃ a, a ≤ 8 ∧ upd f12 x ex o = nI a
    by_cases e : o = x
    · subst e; rw [upd_eq]; exact h1 k
    · rw [upd_ne e]; exact g10 k
  · show ∃ a, a < 1024 ∧ upd f12 x ex o = nI a
    by_cases e : o = x
    · subst e; rw [upd_eq]; exact h2 k
    · rw [upd_ne e]; exact g11 k
theorem OInv_sgn {f7 f8 f9 f10 f11 f12 f13 f14 f14' f15 f16 : Nat → Int32} {h n : Nat} (q : OInv (f7, f8, f9, f10, f11, f12, f13, f14, f15, f16) h n) : OInv (f7, f8, f9, f10, f11, f12, f13, f14', f15, f16) h n := q
section PB
variable {X X1 X2 : Mem} {h D n Dd R : Nat} {dr : Nat → Nat} {PP : Nat → Nat → Nat} {Z : Nat → Nat} {Th : Nat → Prop} {r b : Int32}
theorem pr_holder {v : Int32} (hJ : JA X h D n Dd R dr PP Z Th) (q1 : q_L_holder v X h r X1) (q2 : q_X10_holder v X1 h b X2) : X2 85 0 = r ∧ (r = 0 → X2 116 0 = b) ∧ JJ X2 := by
  refine pairC2 ne_OS Iff.rfl (fun _ => Iff.rfl) hJ q1 q2 (fun ⟨rv, Y, ⟨_, hA, _⟩, _⟩ => hA) (fun ⟨hA, _⟩ => hA) ?_
  rintro ⟨rv, Y, ⟨hr, ⟨hv, h8⟩, eY⟩, e1⟩ ⟨-, hb, e2⟩
  obtain ⟨⟨a1, a2, a3, a4, a5, a6, a7⟩, j2, j3, j4, j5⟩ := hJ
  obtain ⟨c1, c2, c3, c4⟩ := gMC a7
  obtain ⟨c, hc, ec⟩ := Btw_hd a4.1 (by omega) hv
  have k1 : ∀ p, p ≠ 1 → p ≠ 2 → p ≠ 4 → p ≠ 116 → X1 p = X p := fun p h1 h2 h3 h4 => by rw [e1, eY, ma_ne h4, ma_ne h1, ma_ne h3, ma_ne h2]
  have k2 : ∀ p, p ≠ 85 → p ≠ 86 → p ≠ 88 → X2 p = X1 p := fun p h1 h2 h3 => by rw [e2, ma_ne h3, ma_ne h2, ma_ne h1]
  have f2 : ∀ k, k ≠ 0 → k ≠ 5 → X2 85 k = X 85 k := fun k h1 h2 => by rw [e2, ma_ne (by decide), ma_ne (by decide), ma_eq, upd_ne h2, upd_ne h1, k1 85 (by decide) (by decide) (by decide) (by decide)]
  have kk : ∀ p, (p ≠ 1 ∧ p ≠ 2 ∧ p ≠ 4 ∧ p ≠ 116) ∧ p ≠ 85 ∧ p ≠ 86 ∧ p ≠ 88 → X2 p = X p := fun p q => (k2 p q.2.1 q.2.2.1 q.2.2.2).trans (k1 p q.1.1 q.1.2.1 q.1.2.2.1 q.1.2.2.2)
  have r1 : X2 1 = upd (X 1) 1 (nI (h + 1)) := by rw [k2 1 (by decide) (by decide) (by decide), e1, ma_ne (by decide), eY, ma_eq]
  have r2 : X2 2 = upd (X 2) h v := by rw [k2 2 (by decide) (by decide) (by decide), e1, ma_ne (by decide), eY, ma_ne (by decide), ma_ne (by decide), ma_eq]
  have r4 : X2 4 = upd (X 4) h (X 1 0 + 30) := by rw [k2 4 (by decide) (by decide) (by decide), e1, ma_ne (by decide), eY, ma_ne (by decide), ma_eq]
  have r86 : X2 86 = upd (X 2) h v := by rw [e2, ma_ne (by decide), ma_eq, k1 86 (by decide) (by decide) (by decide) (by decide), c1]
  have r88 : X2 88 = upd (X 4) h (X 1 0 + 30) := by rw [e2, ma_eq, k1 88 (by decide) (by decide) (by decide) (by decide), k1 85 (by decide) (by decide) (by decide) (by decide), c3, a5, a1]
  refine ⟨by rw [e2, ma_ne (by decide), ma_ne (by decide), ma_eq, upd_ne (by decide), upd_eq], by rw [k2 116 (by decide) (by decide) (by decide), e1, ma_eq, upd_eq, hr, hb], JA.jj (h := h + 1) (n := n) ⟨⟨by rw [r1, upd_ne (by decide)]; exact a1, a2, by rw [r1, upd_eq], ?_, by rw [f2 1 (by decide) (by decide)]; exact a5, by rw [e2, ma_ne (by decide), ma_ne (by decide), ma_eq, upd_eq], ?_⟩, ?_, J3_k (by rw [kk 20 (by omega)]) (kk 21 (by omega)) (kk 100 (by omega)) (f2 19 (by decide) (by decide)) j3, J4_k (fun k _ => by rw [kk 20 (by omega)]) (fun p hp => kk p (by omega)) (f2 25 (by decide) (by decide)) j4, J5_k (fun p hp => kk p (by omega)) j5⟩⟩
  · show GInv (X2 2, X2 3, X2 4, X2 5) (h + 1)
    rw [r2, kk 3 (by omega), r4, kk 5 (by omega), ec]
    exact GInv_add a4 h8 hc
  · show (X2 86, X2 87, X2 88, X2 89) = (X2 2, X2 3, X2 4, X2 5)
    rw [r86, r88, r2, r4, kk 87 (by omega), kk 89 (by omega), kk 3 (by omega), kk 5 (by omega), c2, c4]
  · have := J2_k (Y := X2) (fun p hp => kk p (by omega)) (f2 17 (by decide) (by decide)) j2
    exact ⟨this.1, OInv_h (Nat.le_succ h) this.2.1, this.2.2⟩
theorem pr_belong {nt v : Int32} (hJ : JA X h D n Dd R dr PP Z Th) (q1 : q_L_belong nt v X h r X1) (q2 : q_X10_belong nt v X1 h b X2) : X2 85 0 = r ∧ (r = 0 → X2 116 0 = b) ∧ JJ X2 := by
  refine pairC1 Iff.rfl hJ q1 q2 (fun ⟨rv, Y, ⟨hA, _⟩, _⟩ => hA) (fun ⟨hA, _⟩ => hA) ?_
  rintro ⟨rv, Y, ⟨⟨-, hv⟩, a, ha, ea, hr, eY⟩, e1⟩ ⟨-, a', ha', ea', hb, e2⟩
  obtain ⟨⟨a1, a2, a3, a4, a5, a6, a7⟩, j2, j3, j4, j5⟩ := hJ
  obtain ⟨c1, c2, c3, c4⟩ := gMC a7
  obtain ⟨c, hc, ec⟩ := Btw_hd a4.1 (by have := a4.2.1; omega) hv
  have := nIu (m := 50) (by decide) (by omega) (by omega) (ea.symm.trans ea')
  subst this
  have k1 : ∀ p, p ≠ 5 → p ≠ 116 → X1 p = X p := fun p h1 h4 => by rw [e1, eY, ma_ne h4, ma_ne h1]
  have k2 : ∀ p, p ≠ 85 → p ≠ 89 → X2 p = X1 p := fun p h1 h2 => by rw [e2, ma_ne h2, ma_ne h1]
  have f2 : ∀ k, k ≠ 0 → X2 85 k = X 85 k := fun k h1 => by rw [e2, ma_ne (by decide), ma_eq, upd_ne h1, k1 85 (by decide) (by decide)]
  have kk : ∀ p, (p ≠ 5 ∧ p ≠ 116) ∧ p ≠ 85 ∧ p ≠ 89 → X2 p = X p := fun p q => (k2 p q.2.1 q.2.2).trans (k1 p q.1.1 q.1.2)
  have r5 : X2 5 = upd (X 5) a v := by rw [k2 5 (by decide) (by decide), e1, ma_ne (by decide), eY, ma_eq]
  have r89 : X2 89 = upd (X 5) a v := by rw [e2, ma_eq, k1 89 (by decide) (by decide), c4]
  refine ⟨by rw [e2, ma_ne (by decide), ma_eq, upd_eq], by rw [k2 116 (by decide) (by decide), e1, ma_eq, upd_eq, hr, hb, k1 89 (by decide) (by decide), c4], JA.jj ⟨⟨by rw [kk 1 (by omega)]; exact a1, a2, by rw [kk 1 (by omega)]; exact a3, ?_, by rw [f2 1 (by decide)]; exact a5, by rw [f2 5 (by decide)]; exact a6, ?_⟩, J2_k (fun p hp => kk p (by omega)) (f2 17 (by decide)) j2, J3_k (by rw [kk 20 (by omega)]) (kk 21 (by omega)) (kk 100 (by omega)) (f2 19 (by decide)) j3, J4_k (fun k _ => by rw [kk 20 (by omega)]) (fun p hp => kk p (by omega)) (f2 25 (by decide)) j4, J5_k (fun p hp => kk p (by omega)) j5⟩⟩
  · show GInv (X2 2, X2 3, X2 4, X2 5) h
    rw [kk 2 (by omega), kk 3 (by omega), kk 4 (by omega), r5, ec]
    exact GInv_own a4 hc
  · show (X2 86, X2 87, X2 88, X2 89) = (X2 2, X2 3, X2 4, X2 5)
    rw [r89, r5, kk 86 (by omega), kk 87 (by omega), kk 88 (by omega), kk 2 (by omega), kk 3 (by omega), kk 4 (by omega), c1, c2, c3]
theorem pr_roll {v : Int32} (hJ : JA X h D n Dd R dr PP Z Th) (q1 : q_L_roll v X h r X1) (q2 : q_X10_roll v X1 h b X2) (kM : KM X X1) : X2 85 0 = r ∧ (r = 0 → X2 116 0 = b) ∧ JJ X2 := by
  have c2 : X1 87 = X 3 := (kM 87 (by omega) (by omega)).trans (gMC hJ.1.2.2.2.2.2.2).2.1
  refine pairC2 ne_OS Iff.rfl (fun _ => by rw [c2]) hJ q1 q2 (fun ⟨rv, Y, ⟨hA, a, k, h1, h2, h3, h4, _⟩, _⟩ => ⟨hA, fun a' k' g1 g2 g3 g4 => ?_⟩) (fun ⟨hA, _⟩ => hA) ?_
  · have h8 := hJ.1.2.2.2.1.2.1
    have := nIu (m := 50) (by decide) (by omega) (by omega) (h2.symm.trans g2)
    subst this
    have := nIu (m := 150) (by decide) (by omega) (by omega) (h3.symm.trans g3)
    omega
  rintro ⟨rv, Y, ⟨hv, a, k, ha, ea, ek, hk, hr, eY⟩, e1⟩ ⟨⟨-, hB⟩, a', k', ha', ea', ek', hb, e2⟩
  obtain ⟨⟨a1, a2, a3, a4, a5, a6, a7⟩, j2, j3, j4, j5⟩ := hJ
  obtain ⟨c1, -, c3, c4⟩ := gMC a7
  have h8 := a4.2.1
  have := nIu (m := 50) (by decide) (by omega) (by omega) (ea.symm.trans ea')
  subst this
  obtain ⟨k3, hk3, ek3⟩ := a4.2.2.2.2.1 a (by omega)
  have ek3 : X 3 a = nI k3 := ek3
  have q1' : X 3 a = nI k' := by rw [← c2]; exact ek'
  have ekk : nI k' = nI k := q1'.symm.trans ek
  have k1 : ∀ p, p ≠ 3 → p ≠ 116 → X1 p = X p := fun p h1 h4 => by rw [e1, eY, ma_ne h4, ma_ne h1]
  have k2 : ∀ p, p ≠ 85 → p ≠ 87 → X2 p = X1 p := fun p h1 h2 => by rw [e2, ma_ne h2, ma_ne h1]
  have f2 : ∀ k, k ≠ 0 → X2 85 k = X 85 k := fun k h1 => by rw [e2, ma_ne (by decide), ma_eq, upd_ne h1, k1 85 (by decide) (by decide)]
  have kk : ∀ p, (p ≠ 3 ∧ p ≠ 116) ∧ p ≠ 85 ∧ p ≠ 87 → X2 p = X p := fun p q => (k2 p q.2.1 q.2.2).trans (k1 p q.1.1 q.1.2)
  have ek1 : nI (k' + 1) = nI (k + 1) := by rw [nI_succ, nI_succ, ekk]
  have r3 : X2 3 = upd (X 3) a (nI (k + 1)) := by rw [k2 3 (by decide) (by decide), e1, ma_ne (by decide), eY, ma_eq]
  have r87 : X2 87 = upd (X 3) a (nI (k + 1)) := by rw [e2, ma_eq, c2, ek1]
  refine ⟨by rw [e2, ma_ne (by decide), ma_eq, upd_eq], by rw [k2 116 (by decide) (by decide), e1, ma_eq, upd_eq, hr, hb, ek1], JA.jj ⟨⟨by rw [kk 1 (by omega)]; exact a1, a2, by rw [kk 1 (by omega)]; exact a3, ?_, by rw [f2 1 (by decide)]; exact a5, by rw [f2 5 (by decide)]; exact a6, ?_⟩, J2_k (fun p hp => kk p (by omega)) (f2 17 (by decide)) j2, J3_k (by rw [kk 20 (by omega)]) (kk 21 (by omega)) (kk 100 (by omega)) (f2 19 (by decide)) j3, J4_k (fun k _ => by rw [kk 20 (by omega)]) (fun p hp => kk p (by omega)) (f2 25 (by decide)) j4, J5_k (fun p hp => kk p (by omega)) j5⟩⟩
  · show GInv (X2 2, X2 3, X2 4, X2 5) h
    rw [kk 2 (by omega), r3, kk 4 (by omega), kk 5 (by omega)]
    exact GInv_key a4 (by omega)
  · show (X2 86, X2 87, X2 88, X2 89) = (X2 2, X2 3, X2 4, X2 5)
    rw [r87, r3, kk 86 (by omega), kk 89 (by omega), kk 88 (by omega), kk 2 (by omega), kk 5 (by omega), kk 4 (by omega), c1, c4, c3]
theorem pr_publish {v dy : Int32} (hJ : JA X h D n Dd R dr PP Z Th) (q1 : q_L_publish v dy X h n r X1) (q2 : q_X10_publish v dy X1 h n b X2) : X2 85 0 = r ∧ (r = 0 → X2 116 0 = b) ∧ JJ X2 := by
  refine pairC2 ne_OA Iff.rfl (fun _ => Iff.rfl) hJ q1 q2 (fun ⟨rv, Y, ⟨hA, _⟩, _⟩ => hA) (fun ⟨hA, _⟩ => hA) ?_
  rintro ⟨rv, Y, ⟨⟨hv, -⟩, hr, a, ha, ea, eY⟩, e1⟩ ⟨-, a', ha', ea', hb, e2⟩
  obtain ⟨⟨a1, a2, a3, a4, a5, a6, a7⟩, ⟨b1, b2, b3, b4, b5⟩, j3, j4, j5⟩ := hJ
  obtain ⟨c1, c2, c3, c4⟩ := gMC a7
  obtain ⟨d0, d1, d2, d3, d4, d5, d6, d7, d8, d9⟩ := oMC b4
  have h8 := a4.2.1
  have := nIu (m := 50) (by decide) (by omega) (by omega) (ea.symm.trans ea')
  subst this
  have k1 : ∀ p, p ≠ 4 → p ≠ 16 → p ≠ 116 → X1 p = X p := fun p h1 h3 h4 => by rw [e1, eY, ma_ne h4, ma_ne h3, ma_ne h1]
  have k2 : ∀ p, p ≠ 85 → p ≠ 99 → p ≠ 88 → X2 p = X1 p := fun p h1 h2 h3 => by rw [e2, ma_ne h3, ma_ne h2, ma_ne h1]
  have f2 : ∀ k, k ≠ 0 → X2 85 k = X 85 k := fun k h1 => by rw [e2, ma_ne (by decide), ma_ne (by decide), ma_eq, upd_ne h1, k1 85 (by decide) (by decide) (by decide)]
  have kk : ∀ p, (p ≠ 4 ∧ p ≠ 16 ∧ p ≠ 116) ∧ p ≠ 85 ∧ p ≠ 99 ∧ p ≠ 88 → X2 p = X p := fun p q => (k2 p q.2.1 q.2.2.1 q.2.2.2).trans (k1 p q.1.1 q.1.2.1 q.1.2.2)
  have r4 : X2 4 = upd (X 4) a (X 1 0 + dy) := by rw [k2 4 (by decide) (by decide) (by decide), e1, ma_ne (by decide), eY, ma_ne (by decide), ma_eq]
  have r16 : X2 16 = LsR (X 8) (X 15) (X 16) v n := by rw [k2 16 (by decide) (by decide) (by decide), e1, ma_ne (by decide), eY, ma_eq]
  have r88 : X2 88 = upd (X 4) a (X 1 0 + dy) := by rw [e2, ma_eq, k1 88 (by decide) (by decide) (by decide), k1 85 (by decide) (by decide) (by decide), c3, a5, a1]
  have r99 : X2 99 = LsR (X 8) (X 15) (X 16) v n := by rw [e2, ma_ne (by decide), ma_eq, k1 91 (by decide) (by decide) (by decide), k1 98 (by decide) (by decide) (by decide), k1 99 (by decide) (by decide) (by decide), d1, d8, d9]
  refine ⟨by rw [e2, ma_ne (by decide), ma_ne (by decide), ma_eq, upd_eq], by rw [k2 116 (by decide) (by decide) (by decide), e1, ma_eq, upd_eq, hr, hb, k1 91 (by decide) (by decide) (by decide), k1 98 (by decide) (by decide) (by decide), d1, d8], JA.jj ⟨⟨by rw [kk 1 (by omega)]; exact a1, a2, by rw [kk 1 (by omega)]; exact a3, ?_, by rw [f2 1 (by decide)]; exact a5, by rw [f2 5 (by decide)]; exact a6, ?_⟩, ⟨by rw [kk 6 (by omega)]; exact b1, ?_, by rw [f2 17 (by decide)]; exact b3, ?_, fun o ho => ?_⟩, J3_k (by rw [kk 20 (by omega)]) (kk 21 (by omega)) (kk 100 (by omega)) (f2 19 (by decide)) j3, J4_k (fun k _ => by rw [kk 20 (by omega)]) (fun p hp => kk p (by omega)) (f2 25 (by decide)) j4, J5_k (fun p hp => kk p (by omega)) j5⟩⟩
  · show GInv (X2 2, X2 3, X2 4, X2 5) h
    rw [kk 2 (by omega), kk 3 (by omega), r4, kk 5 (by omega)]
    exact GInv_frs a4
  · show (X2 86, X2 87, X2 88, X2 89) = (X2 2, X2 3, X2 4, X2 5)
    rw [r88, r4, kk 86 (by omega), kk 87 (by omega), kk 89 (by omega), kk 2 (by omega), kk 3 (by omega), kk 5 (by omega), c1, c2, c4]
  · show OInv (X2 7, X2 8, X2 9, X2 10, X2 11, X2 12, X2 13, X2 14, X2 15, X2 16) h n
    rw [kk 7 (by omega), kk 8 (by omega), kk 9 (by omega), kk 10 (by omega), kk 11 (by omega), kk 12 (by omega), kk 13 (by omega), kk 14 (by omega), kk 15 (by omega), r16]
    refine OInv_lsd b2 (fun o ho => ?_)
    obtain ⟨-, -, -, -, -, -, g7, g8, g9, -⟩ := b2.2 o ho
    by_cases q : o < n ∧ X 8 o = v ∧ ¬ X 15 o = 0
    · rw [LsR_y q]
      exact ⟨Or.inr rfl, fun _ => g7.resolve_left q.2.2⟩
    · rw [LsR_n q]
      exact ⟨g8, g9⟩
  · show (X2 90, X2 91, X2 92, X2 93, X2 94, X2 95, X2 96, X2 97, X2 98, X2 99) = (X2 7, X2 8, X2 9, X2 10, X2 11, X2 12, X2 13, X2 14, X2 15, X2 16)
    rw [r99, r16, kk 7 (by omega), kk 8 (by omega), kk 9 (by omega), kk 10 (by omega), kk 11 (by omega), kk 12 (by omega), kk 13 (by omega), kk 14 (by omega), kk 15 (by omega), kk 90 (by omega), kk 91 (by omega), kk 92 (by omega), kk 93 (by omega), kk 94 (by omega), kk 95 (by omega), kk 96 (by omega), kk 97 (by omega), kk 98 (by omega), d0, d1, d2, d3, d4, d5, d6, d7, d8]
  · rw [kk 15 (by omega), r16, LsR_n (fun q => by omega)]
    exact b5 o ho
theorem pr_pass {v : Int32} (hJ : JA X h D n Dd R dr PP Z Th) (q1 : q_L_pass v X D r X1) (q2 : q_X10_pass v X1 D b X2) : X2 85 0 = r ∧ (r = 0 → X2 116 0 = b) ∧ JJ X2 := by
  refine pairC2 ne_AS Iff.rfl (fun _ => Iff.rfl) hJ q1 q2 (fun ⟨rv, Y, ⟨hA, d, h1, h2, h3, _⟩, _⟩ => ⟨hA, fun d' g1 g2 => ?_⟩) (fun ⟨hA, _⟩ => hA) ?_
  · have := nIu (m := 150) (by decide) (by omega) (by omega) (h2.symm.trans g2)
    omega
  rintro ⟨rv, Y, ⟨-, d, hd, ed, hd2, hr, eY⟩, e1⟩ ⟨-, d', hd', ed', hb, e2⟩
  obtain ⟨⟨a1, a2, a3, a4, a5, a6, a7⟩, j2, j3, j4, j5⟩ := hJ
  have := nIu (m := 150) (by decide) (by omega) (by omega) (ed.symm.trans ed')
  subst this
  have k1 : ∀ p, p ≠ 1 → p ≠ 116 → X1 p = X p := fun p h1 h4 => by rw [e1, eY, ma_ne h4, ma_ne h1]
  have k2 : ∀ p, p ≠ 85 → X2 p = X1 p := fun p h1 => by rw [e2, ma_ne h1]
  have f2 : ∀ k, k ≠ 0 → k ≠ 1 → X2 85 k = X 85 k := fun k h1 h2 => by rw [e2, ma_eq, upd_ne h2, upd_ne h1, k1 85 (by decide) (by decide)]
  have kk : ∀ p, (p ≠ 1 ∧ p ≠ 116) ∧ p ≠ 85 → X2 p = X p := fun p q => (k2 p q.2).trans (k1 p q.1.1 q.1.2)
  have r1 : X2 1 = upd (X 1) 0 (nI (D + d)) := by rw [k2 1 (by decide), e1, ma_ne (by decide), eY, ma_eq]
  refine ⟨by rw [e2, ma_eq, upd_ne (by decide), upd_eq], by rw [k2 116 (by decide), e1, ma_eq, upd_eq, hr, hb], JA.jj (D := D + d) ⟨⟨by rw [r1, upd_eq], by omega, by rw [r1, upd_ne (by decide)]; exact a3, ?_, by rw [e2, ma_eq, upd_eq], by rw [f2 5 (by decide) (by decide)]; exact a6, ?_⟩, J2_k (fun p hp => kk p (by omega)) (f2 17 (by decide) (by decide)) j2, J3_k (by rw [kk 20 (by omega)]) (kk 21 (by omega)) (kk 100 (by omega)) (f2 19 (by decide) (by decide)) j3, J4_k (fun k _ => by rw [kk 20 (by omega)]) (fun p hp => kk p (by omega)) (f2 25 (by decide) (by decide)) j4, J5_k (fun p hp => kk p (by omega)) j5⟩⟩
  · show GInv (X2 2, X2 3, X2 4, X2 5) h
    rw [kk 2 (by omega), kk 3 (by omega), kk 4 (by omega), kk 5 (by omega)]
    exact a4
  · show (X2 86, X2 87, X2 88, X2 89) = (X2 2, X2 3, X2 4, X2 5)
    rw [kk 86 (by omega), kk 87 (by omega), kk 88 (by omega), kk 89 (by omega), kk 2 (by omega), kk 3 (by omega), kk 4 (by omega), kk 5 (by omega)]
    exact a7
end PB
