/-! routes and ties -/
section RT
variable {X X1 Y : Mem} {h D n Dd R : Nat} {dr : Nat → Nat} {PP : Nat → Nat → Nat} {Z : Nat → Nat} {Th : Nat → Prop} {r : Int32}
theorem U_hop {a : Nat} (hJ : JP X h D n Dd R dr PP Z Th) (ha : a < 10) (q : q_X9_hop (nI a) X Dd r X1) : r = nI (Dd + 1) ∧ JP X1 h D n (Dd + 1) R (ext1 dr Dd a) PP Z Th ∧ (∀ p, p ≠ 20 → p ≠ 21 → X1 p = X p) := by
  obtain ⟨⟨-, h6⟩, a', ha', ea, er, eY⟩ := q
  obtain ⟨a0, b, ⟨c1, c2, c3⟩, d, t⟩ := hJ
  have k : ∀ p, p ≠ 20 → p ≠ 21 → X1 p = X p := fun p h1 h2 => by rw [eY, ma_ne h1, ma_ne h2]
  have r20 : X1 20 = upd (X 20) 2 (nI (Dd + 1)) := by rw [eY, ma_eq]
  have r21 : X1 21 = upd (X 21) Dd (nI a) := by rw [eY, ma_ne (by decide), ma_eq]
  exact ⟨er, ⟨jG_k (fun p g1 g2 => k p (by omega) (by omega)) a0, jO_k (fun p g1 g2 => k p (by omega) (by omega)) b, ⟨by rw [r20, upd_eq], by omega, PA_hop (f := X 0) c3 ha r21⟩, jR_k (fun j hj => by rw [r20, upd_ne (by omega)]) (fun p g1 g2 => k p (by omega) (by omega)) d, jT_k (fun p g1 g2 => k p (by omega) (by omega)) t⟩, k⟩
theorem U_hear {v l : Nat} (hJ : JP X h D n Dd R dr PP Z Th) (q : q_X9_hear (nI v) (nI l) X R (cntT Th R) Dd dr r X1) : r = nI R ∧ JP X1 h D n 0 (R + 1) dr (exR PP R (sqp dr Dd)) (exR Z R (sqn dr Dd)) (exR Th R True) ∧ (∀ p, (p < 20 ∨ 50 < p) → X1 p = X p) ∧ X1 48 R = nI v ∧ X1 49 R = nI l ∧ 1 ≤ Dd := by
  obtain ⟨⟨hbk, h1D, hR⟩, er, f, hf, eY⟩ := q
  obtain ⟨a0, b, ⟨c1, c2, c3⟩, ⟨d1, d3, d6⟩, t⟩ := hJ
  have hz1 := sqn_pos (dr := dr) Dd h1D
  have hz6 := sqn_le (dr := dr) Dd
  have hP : ∀ x, x < sqn dr Dd → sqp dr Dd x < 10 := fun x hx => sqp_lt Dd x (fun k hk => (c3 k hk).2) hx
  have kk : ∀ p, p ≠ 23 + R → p ≠ 47 → p ≠ 48 → p ≠ 49 → p ≠ 20 → X1 p = X p := fun p h1 h2 h3 h4 h5 => by rw [eY, ma_ne h5, ma_ne h4, ma_ne h3, ma_ne h2, ma_ne h1]
  have k2 : ∀ p, (p < 20 ∨ 50 < p) → X1 p = X p := fun p hp => kk p (by omega) (by omega) (by omega) (by omega) (by omega)
  have rN : X1 (23 + R) = f := by rw [eY, ma_ne (by omega), ma_ne (by omega), ma_ne (by omega), ma_ne (by omega), ma_eq]
  have r47 : X1 47 = upd (X 47) R (nI (sqn dr Dd)) := by rw [eY, ma_ne (by decide), ma_ne (by decide), ma_ne (by decide), ma_eq]
  have r48 : X1 48 = upd (X 48) R (nI v) := by rw [eY, ma_ne (by decide), ma_ne (by decide), ma_eq]
  have r49 : X1 49 = upd (X 49) R (nI l) := by rw [eY, ma_ne (by decide), ma_eq]
  have r20 : X1 20 = upd (upd (upd (X 20) 2 0) 0 (nI (R + 1))) 1 (nI (cntT Th R + 1)) := by rw [eY, ma_eq]
  refine ⟨er, ⟨jG_k (fun p g1 g2 => k2 p (by omega)) a0, jO_k (fun p g1 g2 => k2 p (by omega)) b, ⟨by rw [r20, upd_ne (by decide), upd_ne (by decide), upd_eq]; rfl, by omega, fun k hk => absurd hk (Nat.not_lt_zero _)⟩, ⟨⟨by omega, by rw [r20, upd_ne (by decide), upd_eq], fun r hr => ?_⟩, ?_, fun r hr => ?_⟩, jT_k (fun p g1 g2 => k2 p (by omega)) t⟩, k2, by rw [r48, upd_eq], by rw [r49, upd_eq], h1D⟩
  · by_cases e : r = R
    · subst e
      rw [exR_eq, exR_eq, exR_eq, r47, upd_eq, kk 50 (by omega) (by decide) (by decide) (by decide) (by decide), d6 r (Nat.le_refl _)]
      refine ⟨hz1, by omega, rfl, fun k hk => ?_, ⟨fun _ => trivial, fun _ => rfl⟩⟩
      rw [rN]
      refine ⟨?_, hP k hk⟩
      have := hf k hk
      rwa [Nat.zero_add] at this
    · rw [exR_ne e, exR_ne e, exR_ne e, r47, upd_ne e, kk 50 (by omega) (by decide) (by decide) (by decide) (by decide)]
      obtain ⟨g1, g2, g3, g4, g5⟩ := d1.2.2 r (by omega)
      exact ⟨g1, g2, g3, PA_k (kk (23 + r) (by omega) (by omega) (by omega) (by omega) (by omega)) g4, g5⟩
  · rw [r20, upd_eq]
    have e3 : cntT (exR Th R True) (R + 1) = cntT Th R + 1 := by
      show sumN (fun r => oneIf (exR Th R True r)) R + oneIf (exR Th R True R) = _
      rw [exR_eq, oneIf_t trivial]
      have : cntT (exR Th R True) R = cntT Th R := cntT_c (fun r hr => by rw [exR_ne (by omega)])
      exact congrArg (· + 1) this
    rw [e3]
  · rw [kk 50 (by omega) (by decide) (by decide) (by decide) (by decide)]
    exact d6 r (by omega)
theorem cntT_le {m : Nat} : cntT Th m ≤ m := by
  have := sumN_le (f := fun r => oneIf (Th r)) (c := 1) (fun a => oneIf_le _) m
  show sumN _ m ≤ m
  omega
theorem U_withdraw {a : Nat} (hJ : JP X h D n Dd R dr PP Z Th) (ha : a < R) (q : q_L_on_1 (nI a) X R (cntT Th R) r X1) : (Th a ∧ (∃ c, c < R ∧ r = nI c) ∧ JP X1 h D n Dd R dr PP Z (exR Th a False) ∧ (∀ p, p ≠ 20 → p ≠ 50 → X1 p = X p)) ∨ (¬ Th a ∧ r = -13 ∧ X1 = X) := by
  have R24 := hJ.2.2.2.1.1.1
  have hTc : ∀ a, a < R → (X 50 a = 0 ↔ Th a) := fun a ha => (hJ.2.2.2.1.1.2.2 a ha).2.2.2.2
  rcases q with ⟨hb, a', ha', ea, h50, er, eY⟩ | ⟨E, ⟨e1, e2⟩, e3⟩
  · have := nIu (m := 50) (by decide) (by omega) (by omega) ea
    subst this
    have hta := (hTc a ha).mp h50
    obtain ⟨j1, j2, ⟨c1, c2, c3⟩, ⟨d1, d3, d6⟩, t⟩ := hJ
    have kk : ∀ p, p ≠ 20 → p ≠ 50 → X1 p = X p := fun p h1 h2 => by rw [eY, ma_ne h1, ma_ne h2]
    have r50 : X1 50 = upd (X 50) a 1 := by rw [eY, ma_ne (by decide), ma_eq]
    have r20 : X1 20 = upd (X 20) 1 (nI (cntT Th R) - 1) := by rw [eY, ma_eq]
    have hC : cntT Th R = cntT (exR Th a False) R + 1 := by
      have gen : ∀ m, a < m → cntT Th m = cntT (exR Th a False) m + 1 := by
        intro m
        induction m with
        | zero => intro q; omega
        | succ m ih =>
          intro q
          show cntT Th m + oneIf (Th m) = cntT (exR Th a False) m + oneIf (exR Th a False m) + 1
          by_cases e : m = a
          · subst e
            have : cntT (exR Th m False) m = cntT Th m := cntT_c (fun r hr => by rw [exR_ne (by omega)])
            rw [exR_eq, oneIf_f (fun q => q), oneIf_t hta, this]
          · rw [ih (by omega), exR_ne e]
            omega
      exact gen R ha
    have hsub : nI (cntT Th R) - 1 = nI (cntT (exR Th a False) R) := by
      rw [hC]
      exact pk_sub (a := cntT (exR Th a False) R + 1) (b := 1) (by omega)
    have hle := cntT_le (Th := Th) (m := R)
    refine Or.inl ⟨hta, ⟨_, by omega, er.trans hsub⟩, ⟨jG_k (fun p g1 g2 => kk p (by omega) (by omega)) j1, jO_k (fun p g1 g2 => kk p (by omega) (by omega)) j2, jD_k (by rw [r20, upd_ne (by decide)]) (kk 21 (by decide) (by decide)) ⟨c1, c2, c3⟩, ⟨⟨d1.1, by rw [r20, upd_ne (by decide)]; exact d1.2.1, fun r hr => ?_⟩, by rw [r20, upd_eq, hsub], fun r hr => ?_⟩, jT_k (fun p g1 g2 => kk p (by omega) (by omega)) t⟩, kk⟩
    · obtain ⟨g1, g2, g3, g4, g5⟩ := d1.2.2 r hr
      refine ⟨g1, g2, by rw [kk 47 (by decide) (by decide)]; exact g3, PA_k (kk (23 + r) (by omega) (by omega)) g4, ?_⟩
      rw [r50]
      by_cases e : r = a
      · subst e
        rw [upd_eq, exR_eq]
        exact ⟨fun q => absurd q (by decide), False.elim⟩
      · rw [upd_ne e, exR_ne e]
        exact g5
    · rw [r50, upd_ne (by omega)]
      exact d6 r hr
  · rcases e2 with ⟨-, g⟩ | ⟨g0, -, g⟩
    · exact absurd (obj_b ha (by omega)) g
    · refine Or.inr ⟨fun q => g (fun x hx ex => ?_), e3.elim (fun q => absurd (g0.symm.trans q.1) (by decide)) (fun q => q.2), e1⟩
      have := nIu (m := 50) (by decide) (by omega) (by omega) ex
      subst this
      exact (hTc a ha).mpr q
theorem turn_n : ∀ c, c < 4 → turnS (nI c) = nI (if c = 1 then 2 else if c = 2 then 1 else c) := by decide
theorem turn_t : ∀ c, c < 4 → turnS (turnS (nI c)) = nI c := by decide
theorem U_tie {a b w : Nat} (hJ : JP X h D n Dd R dr PP Z Th) (ha : a < 10) (hb : b < 10) (hw : w < 4) (q : q_X9_tie (nI a) (nI b) (nI w) X r X1) : (∃ c, c < 4 ∧ r = nI c ∧ tC X a b = nI c) ∧ JP X1 h D n Dd R dr PP Z Th ∧ (∀ p, (p < 53 ∨ 62 < p) → X1 p = X p) ∧ tC X1 a b = nI w ∧ tC X1 b a = turnS (nI w) := by
  obtain ⟨a', b', ha', hb', ea, eb, hne, -, er, eY⟩ := q
  have := nIu (m := 10) (by decide) ha ha' ea
  subst this
  have := nIu (m := 10) (by decide) hb hb' eb
  subst this
  obtain ⟨a0, b0, c, d, t⟩ := hJ
  have k : ∀ p, p ≠ 53 + a → p ≠ 53 + b → X1 p = X p := fun p h1 h2 => by rw [eY, ma_ne h2, ma_ne h1]
  have k2 : ∀ p, (p < 53 ∨ 62 < p) → X1 p = X p := fun p hp => k p (by omega) (by omega)
  have ra : X1 (53 + a) = upd (X (53 + a)) b (nI w) := by rw [eY, ma_ne (by omega), ma_eq]
  have rb : X1 (53 + b) = upd (X (53 + b)) a (turnS (nI w)) := by rw [eY, ma_eq]
  have t1 : ∀ x y, x < 10 → tC X1 x y = if x = a ∧ y = b then nI w else if x = b ∧ y = a then turnS (nI w) else tC X x y := by
    intro x y hx
    rw [tC_at hx, tC_at hx]
    by_cases e : x = a
    · subst e
      rw [ra, if_neg (fun q : x = b ∧ y = x => hne q.1)]
      by_cases z : y = b
      · subst z
        rw [upd_eq, if_pos ⟨rfl, rfl⟩]
      · rw [upd_ne z, if_neg (fun q => z q.2)]
    · rw [if_neg (fun q => e q.1)]
      by_cases e2 : x = b
      · subst e2
        rw [rb]
        by_cases z : y = a
        · subst z
          rw [upd_eq, if_pos ⟨rfl, rfl⟩]
        · rw [upd_ne z, if_neg (fun q => z q.2)]
      · rw [if_neg (fun q => e2 q.1), k _ (by omega) (by omega)]
  obtain ⟨⟨c0, hc0, ec0⟩, -⟩ := t a b ha hb
  refine ⟨⟨c0, hc0, er.trans ec0, ec0⟩, ⟨jG_k (fun p g1 g2 => k2 p (by omega)) a0, jO_k (fun p g1 g2 => k2 p (by omega)) b0, jD_k (by rw [k2 20 (by decide)]) (k2 21 (by decide)) c, jR_k (fun j _ => by rw [k2 20 (by decide)]) (fun p g1 g2 => k2 p (by omega)) d, fun x y hx hy => ?_⟩, k2, ?_, ?_⟩
  · obtain ⟨⟨c1, hc1, ec1⟩, e1⟩ := t x y hx hy
    rw [t1 x y hx, t1 y x hy]
    by_cases g1 : x = a ∧ y = b
    · rw [if_pos g1, if_neg (fun q => hne (by rw [← q.1, g1.2])), if_pos ⟨g1.2, g1.1⟩]
      exact ⟨⟨w, hw, rfl⟩, rfl⟩
    · rw [if_neg g1]
      by_cases g2 : x = b ∧ y = a
      · rw [if_pos g2, if_pos ⟨g2.2, g2.1⟩, turn_n w hw, ← turn_n w hw, turn_t w hw]
        refine ⟨⟨_, ?_, turn_n w hw⟩, rfl⟩
        split
        · decide
        · split
          · decide
          · exact hw
      · rw [if_neg g2, if_neg (fun q => g2 ⟨q.2, q.1⟩), if_neg (fun q => g1 ⟨q.2, q.1⟩)]
        exact ⟨⟨c1, hc1, ec1⟩, e1⟩
  · rw [t1 a b ha, if_pos ⟨rfl, rfl⟩]
  · rw [t1 b a hb, if_neg (fun q => hne q.1.symm), if_pos ⟨rfl, rfl⟩]
/-! the law's path while nets are hopped -/
def LAh (X : Mem) (h n R : Nat) (PP : Nat → Nat → Nat) (Z : Nat → Nat) (Th : Nat → Prop) : Prop :=
  (∀ k, k < n → X 85 k = X 7 k ∧ X 86 k = X 9 k ∧ X 87 k = X 10 k ∧ X 88 k = X 11 k ∧ X 89 k = X 12 k ∧ Blk (X 10 k) (X 11 k) ∧ (∃ e, e < 1024 ∧ X 12 k = nI e) ∧ ∃ e, e < 20000 ∧ X 13 k = nI e) ∧ (∀ i, i < 8 → ∃ a, a < h ∧ X 90 i = nI a) ∧ (∀ r, r < R → (Th r → X 91 (7 * r) = nI (Z r) ∧ ∀ k, k < Z r → X 91 (7 * r + (k + 1)) = nI (PP r k)) ∧ (¬ Th r → X 91 (7 * r) = 0)) ∧ ∀ r, R < r → r < 8 → X 91 (7 * r) = 0
def HopR (f : Nat → Int32) (at0 : Nat) (dr : Nat → Nat) (e : Nat) : Prop := f at0 = nI (sqn dr e) ∧ ∀ j, j < sqn dr e → f (at0 + (j + 1)) = nI (sqp dr e j)
theorem sqn_c {dr dr' : Nat → Nat} : ∀ j, (∀ k, k < j → dr k = dr' k) → sqn dr j = sqn dr' j
  | 0, _ => rfl
  | j + 1, e => by
    have ih := sqn_c j (fun k hk => e k (by omega))
    have eK : SqK dr j ↔ SqK dr' j := by
      unfold SqK
      rw [e j (by omega)]
      by_cases z : j = 0
      · simp [z]
      · rw [e (j - 1) (by omega)]
    by_cases q : SqK dr j
    · rw [sqn_y q, sqn_y (eK.mp q), ih]
    · rw [sqn_n q, sqn_n (fun z => q (eK.mpr z)), ih]
theorem sqp_c {dr dr' : Nat → Nat} : ∀ j x, (∀ k, k < j → dr k = dr' k) → sqp dr j x = sqp dr' j x
  | 0, _, _ => rfl
  | j + 1, x, e => by
    have ih := sqp_c j x (fun k hk => e k (by omega))
    have en := sqn_c j (fun k hk => e k (by omega))
    have eK : SqK dr j ↔ SqK dr' j := by
      unfold SqK
      rw [e j (by omega)]
      by_cases z : j = 0
      · simp [z]
      · rw [e (j - 1) (by omega)]
    by_cases q : SqK dr j ∧ x = sqn dr j
    · obtain ⟨q1, q2⟩ := q
      subst q2
      rw [sqp_new q1, en, sqp_new (eK.mp q1), e j (by omega)]
    · rw [sqp_old q, sqp_old (fun z => q ⟨eK.mpr z.1, by rw [en]; exact z.2⟩), ih]
theorem HopR_new {f : Nat → Int32} {at0 e its : Nat} (hk : SqK (ext1 dr e its) e) (q : HopR f at0 dr e) : HopR (upd (upd f at0 (nI (sqn dr e + 1))) (at0 + (sqn dr e + 1)) (nI its)) at0 (ext1 dr e its) (e + 1) := by
  have c1 : sqn (ext1 dr e its) e = sqn dr e := sqn_c e (fun k hk => ext1_lt hk)
  refine ⟨by rw [upd_ne (by omega), upd_eq, sqn_y hk, c1], fun j hj => ?_⟩
  rw [sqn_y hk, c1] at hj
  by_cases z : j = sqn dr e
  · subst z
    rw [upd_eq]
    have := sqp_new hk
    rw [c1, ext1_eq] at this
    rw [this]
  · rw [upd_ne (by omega), upd_ne (by omega), q.2 j (by omega), sqp_old (fun g => z (by rw [← c1]; exact g.2)), sqp_c e j (fun k hk => ext1_lt hk)]
theorem HopR_old {f : Nat → Int32} {at0 e its : Nat} (he : e ≠ 0) (hi : its = dr (e - 1)) (hk : ¬ SqK (ext1 dr e its) e) (q : HopR f at0 dr e) : HopR (upd (upd f at0 (nI (sqn dr e))) (at0 + sqn dr e) (nI its)) at0 (ext1 dr e its) (e + 1) := by
  have c1 : sqn (ext1 dr e its) e = sqn dr e := sqn_c e (fun k hk => ext1_lt hk)
  have hp := sqn_pos (dr := dr) e (Nat.pos_of_ne_zero he)
  have hl := sqp_last (dr := dr) (e - 1)
  rw [show e - 1 + 1 = e by omega] at hl
  refine ⟨by rw [upd_ne (by omega), upd_eq, sqn_n hk, c1], fun j hj => ?_⟩
  rw [sqn_n hk, c1] at hj
  rw [sqp_old (fun g => hk g.1), sqp_c e j (fun k hk => ext1_lt hk)]
  by_cases z : j + 1 = sqn dr e
  · rw [← z, upd_eq, hi, show j = sqn dr e - 1 by omega, hl]
  · rw [upd_ne (by omega), upd_ne (by omega), q.2 j hj]
theorem SqK_x {e its : Nat} : ¬ SqK (ext1 dr e its) e ↔ e ≠ 0 ∧ its = dr (e - 1) := by
  unfold SqK
  rw [ext1_eq]
  by_cases z : e = 0
  · simp [z]
  · rw [ext1_lt (by omega)]
    simp [z]
theorem LAh_of (q : LA X h n R PP Z Th) : LAh X h n R PP Z Th := ⟨q.1, q.2.1, q.2.2.1, fun r h1 h2 => q.2.2.2 r (by omega) h2⟩
theorem LAh_k (k : ∀ p, p ≠ 20 → p ≠ 21 → Y p = X p) (q : LAh X h n R PP Z Th) : LAh Y h n R PP Z Th := by
  unfold LAh
  rw [k 85 (by decide) (by decide), k 86 (by decide) (by decide), k 87 (by decide) (by decide), k 88 (by decide) (by decide), k 89 (by decide) (by decide), k 90 (by decide) (by decide), k 91 (by decide) (by decide), k 7 (by decide) (by decide), k 9 (by decide) (by decide), k 10 (by decide) (by decide), k 11 (by decide) (by decide), k 12 (by decide) (by decide), k 13 (by decide) (by decide)]
  exact q
theorem LAh_p {f : Nat → Int32} (hR : R < 8) (e : ∀ j, (j < 7 * R ∨ 7 * R + 7 ≤ j) → f j = X 91 j) (hZ : ∀ r, r < R → Z r ≤ 6) (q : LAh X h n R PP Z Th) : LAh (ma X 91 f) h n R PP Z Th := by
  obtain ⟨q1, q2, q3, q4⟩ := q
  unfold LAh
  simp (disch := decide) only [ma_eq, ma_ne]
  refine ⟨q1, q2, fun r hr => ?_, fun r h1 h2 => by rw [e _ (by omega)]; exact q4 r h1 h2⟩
  rw [e _ (by omega)]
  refine ⟨fun g => ⟨((q3 r hr).1 g).1, fun k hk => ?_⟩, (q3 r hr).2⟩
  have := hZ r hr
  rw [e _ (by omega)]
  exact ((q3 r hr).1 g).2 k hk
theorem LA_heard {z : Nat} (hR : R < 8) (q : LAh X h n R PP Z Th) (hh : HopR (X 91) (7 * R) dr z) (k : ∀ p, (p < 20 ∨ 50 < p) → Y p = X p) : LA Y h n (R + 1) (exR PP R (sqp dr z)) (exR Z R (sqn dr z)) (exR Th R True) := by
  obtain ⟨q1, q2, q3, q4⟩ := q
  unfold LA
  rw [k 85 (by decide), k 86 (by decide), k 87 (by decide), k 88 (by decide), k 89 (by decide), k 90 (by decide), k 91 (by decide), k 7 (by decide), k 9 (by decide), k 10 (by decide), k 11 (by decide), k 12 (by decide), k 13 (by decide)]
  refine ⟨q1, q2, fun r hr => ?_, fun r h1 h2 => q4 r (by omega) h2⟩
  by_cases e : r = R
  · subst e
    rw [exR_eq, exR_eq, exR_eq]
    exact ⟨fun _ => hh, fun g => absurd trivial g⟩
  · rw [exR_ne e, exR_ne e, exR_ne e]
    exact q3 r (by omega)
theorem LA_gone {a : Nat} (q : LA X h n R PP Z Th) (ha : a < R) (hZ : ∀ r, r < R → Z r ≤ 6) (k : ∀ p, p ≠ 20 → p ≠ 50 → Y p = X p) : LA (ma Y 91 (upd (Y 91) (7 * a) 0)) h n R PP Z (exR Th a False) := by
  obtain ⟨q1, q2, q3, q4⟩ := q
  unfold LA
  simp (disch := decide) only [ma_eq, ma_ne]
  rw [k 85 (by decide) (by decide), k 86 (by decide) (by decide), k 87 (by decide) (by decide), k 88 (by decide) (by decide), k 89 (by decide) (by decide), k 90 (by decide) (by decide), k 91 (by decide) (by decide), k 7 (by decide) (by decide), k 9 (by decide) (by decide), k 10 (by decide) (by decide), k 11 (by decide) (by decide), k 12 (by decide) (by decide), k 13 (by decide) (by decide)]
  refine ⟨q1, q2, fun r hr => ?_, fun r h1 h2 => by rw [upd_ne (by omega)]; exact q4 r h1 h2⟩
  by_cases e : r = a
  · subst e
    rw [exR_eq, upd_eq]
    exact ⟨False.elim, fun _ => rfl⟩
  · rw [exR_ne e, upd_ne (by omega)]
    refine ⟨fun g => ⟨((q3 r hr).1 g).1, fun j hj => ?_⟩, (q3 r hr).2⟩
    rw [upd_ne (fun z => ?_)]
    · exact ((q3 r hr).1 g).2 j hj
    · have := hZ r hr
      omega
theorem cnt_ge {p : Nat → Prop} {v m : Nat} (h : v + m ≤ 256) (hp : ∀ j, j < m → p (v + j)) : m ≤ sumN (fun a => oneIf (p a)) 256 := by
  have key : ∀ m, (∀ j, j < m → p (v + j)) → m ≤ sumN (fun a => oneIf (p a)) (v + m) := by
    intro m
    induction m with
    | zero => intro _; exact Nat.zero_le _
    | succ m ih =>
      intro hp
      have := ih (fun j hj => hp j (by omega))
      show m + 1 ≤ sumN _ (v + m) + oneIf (p (v + m))
      rw [oneIf_t (hp m (by omega))]
      omega
  have k1 := key m hp
  obtain ⟨g, hg⟩ : ∃ g, 256 = v + m + g := ⟨256 - (v + m), by omega⟩
  rw [hg, sumN_app]
  omega
theorem lies_a {v l j : Nat} (hv : v < 256) (hl : l ≤ 8) (hd : v % 2 ^ (8 - l) = 0) (hj : j < 2 ^ (8 - l)) (h : v + j < 256) : LiesIn (nI (v + j)) 8 (nI v) (nI l) := by
  refine ⟨(nI_leI (b := 8) (by omega) (by decide)).mpr hl, ?_⟩
  have e8 : (8 : Int32) - nI l = nI (8 - l) := pk_sub (a := 8) hl
  rw [e8, pk_shrN (by omega) _ (8 - l) (s_l31 _ (by omega)), pk_shrN (by omega) _ (8 - l) (s_l31 _ (by omega))]
  congr 1
  obtain ⟨q, rfl⟩ : ∃ q, v = 2 ^ (8 - l) * q := ⟨v / 2 ^ (8 - l), by rw [Nat.mul_div_cancel' (Nat.dvd_of_mod_eq_zero hd)]⟩
  rw [Nat.mul_add_div (Nat.two_pow_pos _), Nat.div_eq_of_lt hj, Nat.add_zero, Nat.mul_div_cancel_left _ (Nat.two_pow_pos _)]
theorem HopR_last {f : Nat → Int32} {at0 e : Nat} (he : e ≠ 0) (q : HopR f at0 dr e) : f (at0 + sqn dr e) = nI (dr (e - 1)) := by
  have hp := sqn_pos (dr := dr) e (Nat.pos_of_ne_zero he)
  have hl := sqp_last (dr := dr) (e - 1)
  rw [show e - 1 + 1 = e by omega] at hl
  have := q.2 (sqn dr e - 1) (by omega)
  rw [show sqn dr e - 1 + 1 = sqn dr e by omega, hl] at this
  exact this
theorem blk_le : ∀ v, v < 256 → ∀ l, l < 9 → v % 2 ^ (8 - l) = 0 → v + 2 ^ (8 - l) ≤ 256 := by decide +kernel
theorem adr_ge {f g : Nat → Int32} {P : Nat → Nat → Nat} {T : Nat → Prop} {v l S : Nat} (h48 : f R = nI v) (h49 : g R = nI l) (hv : v < 256) (hl : l ≤ 8) (hd : v % 2 ^ (8 - l) = 0) (hS : S.testBit (P R 0) = true) (hT : T R) : 2 ^ (8 - l) ≤ sumN (fun ad => oneIf (ReA f g P T S ad (R + 1))) 256 := by
  have hle := blk_le v hv l (by omega) hd
  refine cnt_ge (v := v) hle (fun j hj => ⟨R, by omega, hT, hS, ?_⟩)
  rw [h48, h49]
  exact lies_a hv hl hd hj (by omega)
end RT
