/-! routes and ties change in both -/
section PR
variable {X X1 X2 : Mem} {h D n Dd R : Nat} {dr : Nat → Nat} {PP : Nat → Nat → Nat} {Z : Nat → Nat} {Th : Nat → Prop} {r b : Int32}
theorem PA_hop {f : Nat → Int32} {X Y : Mem} {p z a : Nat} {P : Nat → Nat} (h : PA X p P z) (ha : a < 10) (e : Y p = upd (X p) z (nI a)) : PA Y p (ext1 P z a) (z + 1) := by
  have _ := f
  intro k hk
  rw [e]
  exact PAr_ext h ha k hk
theorem pr_hop {v : Int32} (hJ : JA X h D n Dd R dr PP Z Th) (q1 : q_L_hop v X Dd r X1) (q2 : q_X10_hop v X1 Dd b X2) : X2 85 0 = r ∧ (r = 0 → X2 116 0 = b) ∧ JJ X2 := by
  refine pairC2 ne_OS Iff.rfl (fun _ => Iff.rfl) hJ q1 q2 (fun ⟨rv, Y, ⟨hA, _⟩, _⟩ => hA) (fun ⟨hA, _⟩ => hA) ?_
  rintro ⟨rv, Y, ⟨⟨-, h6⟩, a, ha, ea, hr, eY⟩, e1⟩ ⟨-, hb, e2⟩
  obtain ⟨j1, j2, ⟨c1, c2, c3, c4, c5⟩, j4, j5⟩ := hJ
  have k1 : ∀ p, p ≠ 20 → p ≠ 21 → p ≠ 116 → X1 p = X p := fun p h1 h2 h4 => by rw [e1, eY, ma_ne h4, ma_ne h1, ma_ne h2]
  have k2 : ∀ p, p ≠ 85 → p ≠ 100 → X2 p = X1 p := fun p h1 h2 => by rw [e2, ma_ne h2, ma_ne h1]
  have f2 : ∀ k, k ≠ 0 → k ≠ 19 → X2 85 k = X 85 k := fun k h1 h2 => by rw [e2, ma_ne (by decide), ma_eq, upd_ne h2, upd_ne h1, k1 85 (by decide) (by decide) (by decide)]
  have kk : ∀ p, (p ≠ 20 ∧ p ≠ 21 ∧ p ≠ 116) ∧ p ≠ 85 ∧ p ≠ 100 → X2 p = X p := fun p q => (k2 p q.2.1 q.2.2).trans (k1 p q.1.1 q.1.2.1 q.1.2.2)
  have r20 : X2 20 = upd (X 20) 2 (nI (Dd + 1)) := by rw [k2 20 (by decide) (by decide), e1, ma_ne (by decide), eY, ma_eq]
  have r21 : X2 21 = upd (X 21) Dd (nI a) := by rw [k2 21 (by decide) (by decide), e1, ma_ne (by decide), eY, ma_ne (by decide), ma_eq, ea]
  have r100 : X2 100 = upd (X 100) Dd (nI a) := by rw [e2, ma_eq, k1 100 (by decide) (by decide) (by decide), ea]
  refine ⟨by rw [e2, ma_ne (by decide), ma_eq, upd_ne (by decide), upd_eq], by rw [k2 116 (by decide) (by decide), e1, ma_eq, upd_eq, hr, hb], JA.jj (Dd := Dd + 1) (dr := ext1 dr Dd a) ⟨J1_k (fun p hp => kk p (by omega)) (fun k hk => f2 k (by omega) (by omega)) j1, J2_k (fun p hp => kk p (by omega)) (f2 17 (by decide) (by decide)) j2, ⟨by rw [r20, upd_eq], by omega, PA_hop (f := X 0) c3 ha r21, by rw [e2, ma_ne (by decide), ma_eq, upd_eq], PA_hop (f := X 0) c5 ha r100⟩, J4_k (fun k hk => by rw [r20, upd_ne (by omega)]) (fun p hp => kk p (by omega)) (f2 25 (by decide) (by decide)) j4, J5_k (fun p hp => kk p (by omega)) j5⟩⟩
theorem sqp_lt {dr : Nat → Nat} {B : Nat} : ∀ (j x : Nat), (∀ k, k < j → dr k < B) → x < sqn dr j → sqp dr j x < B
  | 0, x, _, hx => absurd hx (Nat.not_lt_zero _)
  | j + 1, x, h, hx => by
    by_cases q : SqK dr j
    · rw [sqn_y q] at hx
      by_cases e : x = sqn dr j
      · subst e
        rw [sqp_new q]
        exact h j (by omega)
      · rw [sqp_old (fun z => e z.2)]
        exact sqp_lt j x (fun k hk => h k (by omega)) (by omega)
    · rw [sqn_n q] at hx
      rw [sqp_old (fun z => q z.1)]
      exact sqp_lt j x (fun k hk => h k (by omega)) hx
theorem cntT_c {Th Th' : Nat → Prop} {R : Nat} (e : ∀ r, r < R → (Th r ↔ Th' r)) : cntT Th R = cntT Th' R := sumN_congr (fun r hr => oneIf_c (e r hr))
/-- one route more -/
def exR {α : Type} (f : Nat → α) (R : Nat) (x : α) : Nat → α := fun r => if r = R then x else f r
theorem exR_eq {α : Type} {f : Nat → α} {R : Nat} {x : α} : exR f R x R = x := if_pos rfl
theorem exR_ne {α : Type} {f : Nat → α} {R r : Nat} {x : α} (h : r ≠ R) : exR f R x r = f r := if_neg h
theorem pr_hear {v ln : Int32} (hJ : JA X h D n Dd R dr PP Z Th) (q1 : q_L_hear v ln X R (cntT Th R) Dd dr r X1) (q2 : q_X10_hear v ln X1 R Dd dr b X2) : X2 85 0 = r ∧ (r = 0 → X2 116 0 = b) ∧ JJ X2 := by
  refine pairC2 ne_AS Iff.rfl (fun _ => Iff.rfl) hJ q1 q2 (fun ⟨rv, Y, ⟨hA, _⟩, _⟩ => hA) (fun ⟨hA, _⟩ => hA) ?_
  rintro ⟨rv, Y, ⟨⟨hbk, h1D, hR⟩, hr, f, hf, eY⟩, e1⟩ ⟨-, hb, g, ⟨hg, hg2⟩, e2⟩
  obtain ⟨j1, j2, ⟨c1, c2, c3, c4, c5⟩, ⟨d1, d2, d3, d4, d5, d6⟩, j5⟩ := hJ
  have hz1 := sqn_pos (dr := dr) Dd h1D
  have hz6 := sqn_le (dr := dr) Dd
  have hP : ∀ x, x < sqn dr Dd → sqp dr Dd x < 10 := fun x hx => sqp_lt Dd x (fun k hk => (c3 k hk).2) hx
  have k1 : ∀ p, p ≠ 23 + R → p ≠ 47 → p ≠ 48 → p ≠ 49 → p ≠ 20 → p ≠ 116 → X1 p = X p := fun p h1 h2 h3 h4 h5 h6 => by rw [e1, eY, ma_ne h6, ma_ne h5, ma_ne h4, ma_ne h3, ma_ne h2, ma_ne h1]
  have k2 : ∀ p, p ≠ 85 → p ≠ 101 → p ≠ 102 → p ≠ 103 → p ≠ 104 → p ≠ 105 → X2 p = X1 p := fun p h1 h2 h3 h4 h5 h6 => by rw [e2, ma_ne h6, ma_ne h5, ma_ne h4, ma_ne h3, ma_ne h2, ma_ne h1]
  have m1 : ∀ p, 50 < p → p ≠ 116 → X1 p = X p := fun p h1 h2 => k1 p (by omega) (by omega) (by omega) (by omega) (by omega) h2
  have f2 : ∀ k, k ≠ 0 → k ≠ 25 → k ≠ 19 → X2 85 k = X 85 k := fun k h1 h2 h3 => by rw [e2, ma_ne (by decide), ma_ne (by decide), ma_ne (by decide), ma_ne (by decide), ma_ne (by decide), ma_eq, upd_ne h3, upd_ne h2, upd_ne h1, m1 85 (by decide) (by decide)]
  have kk : ∀ p, (p ≠ 23 + R ∧ p ≠ 47 ∧ p ≠ 48 ∧ p ≠ 49 ∧ p ≠ 20 ∧ p ≠ 116) ∧ p ≠ 85 ∧ p ≠ 101 ∧ p ≠ 102 ∧ p ≠ 103 ∧ p ≠ 104 ∧ p ≠ 105 → X2 p = X p := fun p q => (k2 p q.2.1 q.2.2.1 q.2.2.2.1 q.2.2.2.2.1 q.2.2.2.2.2.1 q.2.2.2.2.2.2).trans (k1 p q.1.1 q.1.2.1 q.1.2.2.1 q.1.2.2.2.1 q.1.2.2.2.2.1 q.1.2.2.2.2.2)
  have y1 : ∀ p, p < 85 → X2 p = Y p := fun p hp => by rw [k2 p (by omega) (by omega) (by omega) (by omega) (by omega) (by omega), e1, ma_ne (by omega)]
  have rN : X2 (23 + R) = f := by rw [y1 _ (by omega), eY, ma_ne (by omega), ma_ne (by omega), ma_ne (by omega), ma_ne (by omega), ma_eq]
  have r47 : X2 47 = upd (X 47) R (nI (sqn dr Dd)) := by rw [y1 47 (by decide), eY, ma_ne (by decide), ma_ne (by decide), ma_ne (by decide), ma_eq]
  have r48 : X2 48 = upd (X 48) R v := by rw [y1 48 (by decide), eY, ma_ne (by decide), ma_ne (by decide), ma_eq]
  have r49 : X2 49 = upd (X 49) R ln := by rw [y1 49 (by decide), eY, ma_ne (by decide), ma_eq]
  have r20 : X2 20 = upd (upd (upd (X 20) 2 0) 0 (nI (R + 1))) 1 (nI (cntT Th R + 1)) := by rw [y1 20 (by decide), eY, ma_eq]
  have r101 : X2 101 = g := by rw [e2, ma_ne (by decide), ma_ne (by decide), ma_ne (by decide), ma_ne (by decide), ma_eq]
  have r102 : X2 102 = upd (X 102) R (nI (sqn dr Dd)) := by rw [e2, ma_ne (by decide), ma_ne (by decide), ma_ne (by decide), ma_eq, m1 102 (by decide) (by decide)]
  have r103 : X2 103 = upd (X 103) R v := by rw [e2, ma_ne (by decide), ma_ne (by decide), ma_eq, m1 103 (by decide) (by decide)]
  have r104 : X2 104 = upd (X 104) R ln := by rw [e2, ma_ne (by decide), ma_eq, m1 104 (by decide) (by decide)]
  have r105 : X2 105 = upd (X 105) R 1 := by rw [e2, ma_eq, m1 105 (by decide) (by decide)]
  have r85 : X2 85 = upd (upd (upd (X 85) 0 0) 25 (nI (R + 1))) 19 0 := by rw [e2, ma_ne (by decide), ma_ne (by decide), ma_ne (by decide), ma_ne (by decide), ma_ne (by decide), ma_eq, m1 85 (by decide) (by decide)]
  rw [m1 101 (by decide) (by decide)] at hg2
  refine ⟨by rw [r85, upd_ne (by decide), upd_ne (by decide), upd_eq], by rw [k2 116 (by decide) (by decide) (by decide) (by decide) (by decide) (by decide), e1, ma_eq, upd_eq, hr, hb], JA.jj (Dd := 0) (dr := dr) (R := R + 1) (PP := exR PP R (sqp dr Dd)) (Z := exR Z R (sqn dr Dd)) (Th := exR Th R True) ⟨J1_k (fun p hp => kk p (by omega)) (fun k hk => f2 k (by omega) (by omega) (by omega)) j1, J2_k (fun p hp => kk p (by omega)) (f2 17 (by decide) (by decide) (by decide)) j2, ⟨by rw [r20, upd_ne (by decide), upd_ne (by decide), upd_eq]; rfl, by omega, fun k hk => absurd hk (Nat.not_lt_zero _), by rw [r85, upd_eq]; rfl, fun k hk => absurd hk (Nat.not_lt_zero _)⟩, ⟨?_, ?_, ?_, ?_, ?_, ?_⟩, J5_k (fun p hp => kk p (by omega)) j5⟩⟩
  · refine ⟨by omega, by rw [r20, upd_ne (by decide), upd_eq], fun r hr => ?_⟩
    by_cases e : r = R
    · subst e
      rw [exR_eq, exR_eq, exR_eq, r47, upd_eq, kk 50 (by omega), d6 r (Nat.le_refl _)]
      refine ⟨hz1, by omega, rfl, fun k hk => ?_, ⟨fun _ => trivial, fun _ => rfl⟩⟩
      rw [rN]
      refine ⟨?_, hP k hk⟩
      have := hf k hk
      rwa [Nat.zero_add] at this
    · rw [exR_ne e, exR_ne e, exR_ne e, r47, upd_ne e, kk 50 (by omega)]
      obtain ⟨g1, g2, g3, g4, g5⟩ := d1.2.2 r (by omega)
      exact ⟨g1, g2, g3, PA_k (kk (23 + r) (by omega)) g4, g5⟩
  · refine ⟨by omega, by rw [r85, upd_ne (by decide), upd_eq], fun r hr => ?_⟩
    by_cases e : r = R
    · subst e
      rw [exR_eq, exR_eq, exR_eq, r102, upd_eq, r105, upd_eq]
      refine ⟨hz1, by omega, rfl, fun k hk => ?_, ⟨fun _ => trivial, fun _ => by decide⟩⟩
      rw [r101]
      exact ⟨hg k hk, hP k hk⟩
    · rw [exR_ne e, exR_ne e, exR_ne e, r102, upd_ne e, r105, upd_ne e]
      obtain ⟨g1, g2, g3, g4, g5⟩ := d2.2.2 r (by omega)
      refine ⟨g1, g2, g3, fun k hk => ?_, g5⟩
      rw [r101, hg2 _ (by omega)]
      exact g4 k hk
  · rw [r20, upd_eq]
    have e3 : cntT (exR Th R True) (R + 1) = cntT Th R + 1 := by
      show sumN (fun r => oneIf (exR Th R True r)) R + oneIf (exR Th R True R) = _
      rw [exR_eq, oneIf_t trivial]
      have : cntT (exR Th R True) R = cntT Th R := cntT_c (fun r hr => by rw [exR_ne (by omega)])
      exact congrArg (· + 1) this
    rw [e3]
  · intro r hr
    rw [r103, r104, r48, r49]
    by_cases e : r = R
    · subst e
      rw [upd_eq, upd_eq, upd_eq, upd_eq]
      exact ⟨rfl, rfl⟩
    · rw [upd_ne e, upd_ne e, upd_ne e, upd_ne e]
      exact d4 r (by omega)
  · intro r hr
    rw [r103, r104]
    by_cases e : r = R
    · subst e
      rw [upd_eq, upd_eq]
      obtain ⟨⟨a, ha, ea⟩, c, hc, ec⟩ := blk_n hbk
      exact ⟨a, c, ha, by omega, ea, ec, hbk.2.2 a c ha (by omega) ea ec⟩
    · rw [upd_ne e, upd_ne e]
      exact d5 r (by omega)
  · intro r hr
    rw [kk 50 (by omega)]
    exact d6 r (by omega)
theorem pr_withdraw {v : Int32} (hJ : JA X h D n Dd R dr PP Z Th) (q1 : q_L_withdraw v X R (cntT Th R) r X1) (q2 : q_X10_withdraw v X1 R b X2) (kM : KM X X1) : X2 85 0 = r ∧ (r = 0 → X2 116 0 = b) ∧ JJ X2 := by
  have c0 : X1 105 = X 105 := kM 105 (by omega) (by omega)
  have R24 := hJ.2.2.2.1.1.1
  have hTc : ∀ a, a < R → (X 50 a = 0 ↔ Th a) := fun a ha => (hJ.2.2.2.1.1.2.2 a ha).2.2.2.2
  have hTm : ∀ a, a < R → (¬ X 105 a = 0 ↔ Th a) := fun a ha => (hJ.2.2.2.1.2.1.2.2 a ha).2.2.2.2
  refine pairC2 ne_OS Iff.rfl (fun _ => ?_) hJ q1 q2 (fun ⟨rv, Y, ⟨hA, a, h1, h2, h3, _⟩, _⟩ => ⟨hA, fun a' g1 g2 => ?_⟩) (fun ⟨hA, _⟩ => hA) ?_
  · rw [c0]
    exact ⟨fun q a ha ea => (hTc a ha).mpr ((hTm a ha).mp (q a ha ea)), fun q a ha ea => (hTm a ha).mpr ((hTc a ha).mp (q a ha ea))⟩
  · have := nIu (m := 50) (by decide) (by omega) (by omega) (h2.symm.trans g2)
    subst this
    exact h3
  rintro ⟨rv, Y, ⟨-, a, ha, ea, h50, hr, eY⟩, e1⟩ ⟨-, a', ha', ea', hb, e2⟩
  have := nIu (m := 50) (by decide) (by omega) (by omega) (ea.symm.trans ea')
  subst this
  have hta := (hTc a ha).mp h50
  obtain ⟨j1, j2, j3, ⟨d1, d2, d3, d4, d5, d6⟩, j5⟩ := hJ
  have k1 : ∀ p, p ≠ 50 → p ≠ 20 → p ≠ 116 → X1 p = X p := fun p h1 h2 h4 => by rw [e1, eY, ma_ne h4, ma_ne h2, ma_ne h1]
  have k2 : ∀ p, p ≠ 85 → p ≠ 105 → X2 p = X1 p := fun p h1 h2 => by rw [e2, ma_ne h2, ma_ne h1]
  have f2 : ∀ k, k ≠ 0 → X2 85 k = X 85 k := fun k h1 => by rw [e2, ma_ne (by decide), ma_eq, upd_ne h1, k1 85 (by decide) (by decide) (by decide)]
  have kk : ∀ p, (p ≠ 50 ∧ p ≠ 20 ∧ p ≠ 116) ∧ p ≠ 85 ∧ p ≠ 105 → X2 p = X p := fun p q => (k2 p q.2.1 q.2.2).trans (k1 p q.1.1 q.1.2.1 q.1.2.2)
  have r50 : X2 50 = upd (X 50) a 1 := by rw [k2 50 (by decide) (by decide), e1, ma_ne (by decide), eY, ma_ne (by decide), ma_eq]
  have r20 : X2 20 = upd (X 20) 1 (nI (cntT Th R) - 1) := by rw [k2 20 (by decide) (by decide), e1, ma_ne (by decide), eY, ma_eq]
  have r105 : X2 105 = upd (X 105) a 0 := by rw [e2, ma_eq, c0]
  have hC : cntT Th R = cntT (exR Th a False) R + 1 := by
    have gen : ∀ m, a < m → cntT Th m = cntT (exR Th a False) m + 1 := by
      intro m
      induction m with
      | zero => intro q; omega
      | succ m ih =>
        intro q
        show cntT Th m + oneIf (Th m) = cntT (exR Th a False) m + oneIf (exR Th a False m) + 1
        by_cases e : m = a
        · subst e
          have : cntT (exR Th m False) m = cntT Th m := cntT_c (fun r hr => by rw [exR_ne (by omega)])
          rw [exR_eq, oneIf_f (fun q => q), oneIf_t hta, this]
        · rw [ih (by omega), exR_ne e]
          omega
    exact gen R ha
  have hsub : nI (cntT Th R) - 1 = nI (cntT (exR Th a False) R) := by
    rw [hC]
    exact pk_sub (a := cntT (exR Th a False) R + 1) (b := 1) (by omega)
  have hbm : b = nI (cntT (exR Th a False) R) := by
    rw [hb, c0]
    refine congrArg nI (sumN_congr (fun x hx => oneIf_c ?_))
    by_cases e : x = a
    · subst e
      rw [upd_eq, exR_eq]
      exact ⟨fun q => q rfl, False.elim⟩
    · rw [upd_ne e, exR_ne e]
      exact hTm x hx
  refine ⟨by rw [e2, ma_ne (by decide), ma_eq, upd_eq], by rw [k2 116 (by decide) (by decide), e1, ma_eq, upd_eq, hr, hsub, hbm], JA.jj (R := R) (PP := PP) (Z := Z) (Th := exR Th a False) ⟨J1_k (fun p hp => kk p (by omega)) (fun k hk => f2 k (by omega)) j1, J2_k (fun p hp => kk p (by omega)) (f2 17 (by decide)) j2, J3_k (by rw [r20, upd_ne (by decide)]) (kk 21 (by omega)) (kk 100 (by omega)) (f2 19 (by decide)) j3, ⟨?_, ?_, by rw [r20, upd_eq, hsub], ?_, ?_, ?_⟩, J5_k (fun p hp => kk p (by omega)) j5⟩⟩
  · refine ⟨d1.1, by rw [r20, upd_ne (by decide)]; exact d1.2.1, fun r hr => ?_⟩
    obtain ⟨g1, g2, g3, g4, g5⟩ := d1.2.2 r hr
    refine ⟨g1, g2, by rw [kk 47 (by omega)]; exact g3, PA_k (kk (23 + r) (by omega)) g4, ?_⟩
    rw [r50]
    by_cases e : r = a
    · subst e
      rw [upd_eq, exR_eq]
      exact ⟨fun q => absurd q (by decide), False.elim⟩
    · rw [upd_ne e, exR_ne e]
      exact g5
  · refine ⟨d2.1, by rw [f2 25 (by decide)]; exact d2.2.1, fun r hr => ?_⟩
    obtain ⟨g1, g2, g3, g4, g5⟩ := d2.2.2 r hr
    refine ⟨g1, g2, by rw [kk 102 (by omega)]; exact g3, PAt_kk (kk 101 (by omega)) g4, ?_⟩
    rw [r105]
    by_cases e : r = a
    · subst e
      rw [upd_eq, exR_eq]
      exact ⟨fun q => q rfl, False.elim⟩
    · rw [upd_ne e, exR_ne e]
      exact g5
  · rw [kk 103 (by omega), kk 104 (by omega), kk 48 (by omega), kk 49 (by omega)]
    exact d4
  · rw [kk 103 (by omega), kk 104 (by omega)]
    exact d5
  · intro r hr
    rw [r50, upd_ne (by omega)]
    exact d6 r hr
theorem pr_tie {v u wt : Int32} (hJ : JA X h D n Dd R dr PP Z Th) (q1 : q_L_tie v u wt X r X1) (q2 : q_X10_tie v u wt X1 b X2) (kM : KM X X1) : X2 85 0 = r ∧ (r = 0 → X2 116 0 = b) ∧ JJ X2 := by
  have c0 : X1 106 = X 106 := kM 106 (by omega) (by omega)
  refine pairC2 ne_OA Iff.rfl (fun _ => Iff.rfl) hJ q1 q2 (fun ⟨rv, Y, ⟨a, d, ha, hd, ea, ed, hne, hw, _⟩, _⟩ => ⟨⟨by rw [ea]; exact net_btw ha, by rw [ed]; exact net_btw hd⟩, fun q => hne (nIu (m := 50) (by decide) (by omega) (by omega) (by rw [← ea, ← ed, q])), hw⟩) (fun ⟨hA, _⟩ => hA) ?_
  rintro ⟨rv, Y, ⟨a, d, ha, hd, ea, ed, hne, hw, hr, eY⟩, e1⟩ ⟨-, a', d', ha', hd', ea', ed', hb, e2⟩
  have := nIu (m := 50) (by decide) (by omega) (by omega) (ea.symm.trans ea')
  subst this
  have := nIu (m := 50) (by decide) (by omega) (by omega) (ed.symm.trans ed')
  subst this
  obtain ⟨j1, j2, j3, j4, j5⟩ := hJ
  have k1 : ∀ p, p ≠ 53 + a → p ≠ 53 + d → p ≠ 116 → X1 p = X p := fun p h1 h2 h4 => by rw [e1, eY, ma_ne h4, ma_ne h2, ma_ne h1]
  have k2 : ∀ p, p ≠ 85 → p ≠ 106 → X2 p = X1 p := fun p h1 h2 => by rw [e2, ma_ne h2, ma_ne h1]
  have f2 : ∀ k, k ≠ 0 → X2 85 k = X 85 k := fun k h1 => by rw [e2, ma_ne (by decide), ma_eq, upd_ne h1, k1 85 (by omega) (by omega) (by decide)]
  have kk : ∀ p, (p ≠ 53 + a ∧ p ≠ 53 + d ∧ p ≠ 116) ∧ p ≠ 85 ∧ p ≠ 106 → X2 p = X p := fun p q => (k2 p q.2.1 q.2.2).trans (k1 p q.1.1 q.1.2.1 q.1.2.2)
  have r106 : X2 106 = upd (upd (X 106) (10 * a + d) wt) (10 * d + a) (turnS wt) := by rw [e2, ma_eq, c0]
  have ra : X2 (53 + a) = upd (X (53 + a)) d wt := by rw [k2 _ (by omega) (by omega), e1, ma_ne (by omega), eY, ma_ne (by omega), ma_eq]
  have rd : X2 (53 + d) = upd (X (53 + d)) a (turnS wt) := by rw [k2 _ (by omega) (by omega), e1, ma_ne (by omega), eY, ma_eq]
  refine ⟨by rw [e2, ma_ne (by decide), ma_eq, upd_eq], ?_, JA.jj ⟨J1_k (fun p hp => kk p (by omega)) (fun k hk => f2 k (by omega)) j1, J2_k (fun p hp => kk p (by omega)) (f2 17 (by decide)) j2, J3_k (by rw [kk 20 (by omega)]) (kk 21 (by omega)) (kk 100 (by omega)) (f2 19 (by decide)) j3, J4_k (fun k _ => by rw [kk 20 (by omega)]) (fun p hp => kk p (by omega)) (f2 25 (by decide)) j4, ?_⟩⟩
  · rw [k2 116 (by decide) (by decide), e1, ma_eq, upd_eq, hr, hb, c0]
    exact (j5 a d ha hd).symm
  · intro x y hx hy
    have g := j5 x y hx hy
    rw [tC_at hx] at g ⊢
    show X2 106 (10 * x + y) = _
    rw [r106]
    by_cases e : x = d
    · subst e
      rw [rd]
      by_cases e' : y = a
      · subst e'
        rw [upd_eq, upd_eq]
      · rw [upd_ne e', upd_ne (by omega), upd_ne (by omega)]
        exact g
    · by_cases e' : x = a
      · subst e'
        rw [ra]
        by_cases e3 : y = d
        · subst e3
          rw [upd_eq, upd_ne (by omega), upd_eq]
        · rw [upd_ne e3, upd_ne (by omega), upd_ne (by omega)]
          exact g
      · rw [kk (53 + x) (by omega), upd_ne (by omega), upd_ne (by omega)]
        exact g
end PR
