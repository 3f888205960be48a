/-! what each change of the class leaves -/
def KL (X Y : Mem) : Prop := ∀ p, (p = 7 ∨ (8 < p ∧ p < 14) ∨ 84 < p) → Y p = X p
section UP
variable {X X1 Y : Mem} {h h' D n Dd R : Nat} {dr : Nat → Nat} {PP : Nat → Nat → Nat} {Z : Nat → Nat} {Th : Nat → Prop} {r : Int32}
theorem LA_kl (k : KL X Y) (hh : h ≤ h') (q : LA X h n R PP Z Th) : LA Y h' n R PP Z Th := by
  obtain ⟨q1, q2, q3, q4⟩ := q
  unfold LA
  rw [k 85 (by omega), k 86 (by omega), k 87 (by omega), k 88 (by omega), k 89 (by omega), k 90 (by omega), k 91 (by omega), k 7 (by omega), k 9 (by omega), k 10 (by omega), k 11 (by omega), k 12 (by omega), k 13 (by omega)]
  exact ⟨q1, fun i hi => (q2 i hi).elim fun a g => ⟨a, by omega, g.2⟩, q3, q4⟩
theorem jG_k (e : ∀ p, 0 < p → p < 6 → Y p = X p) (q : X 1 0 = nI D ∧ D ≤ 10000 ∧ X 1 1 = nI h ∧ GInv (gC X) h) : Y 1 0 = nI D ∧ D ≤ 10000 ∧ Y 1 1 = nI h ∧ GInv (gC Y) h := by
  have e1 : gC Y = gC X := by unfold gC; rw [e 2 (by omega) (by omega), e 3 (by omega) (by omega), e 4 (by omega) (by omega), e 5 (by omega) (by omega)]
  rw [e 1 (by omega) (by omega), e1]
  exact q
theorem jO_k (e : ∀ p, 5 < p → p < 17 → Y p = X p) (q : X 6 0 = nI n ∧ OInv (oC X) h n ∧ ∀ o, n ≤ o → X 15 o = 0 ∧ X 16 o = 0) : Y 6 0 = nI n ∧ OInv (oC Y) h n ∧ ∀ o, n ≤ o → Y 15 o = 0 ∧ Y 16 o = 0 := by
  have e1 : oC Y = oC X := by unfold oC; rw [e 7 (by omega) (by omega), e 8 (by omega) (by omega), e 9 (by omega) (by omega), e 10 (by omega) (by omega), e 11 (by omega) (by omega), e 12 (by omega) (by omega), e 13 (by omega) (by omega), e 14 (by omega) (by omega), e 15 (by omega) (by omega), e 16 (by omega) (by omega)]
  rw [e 6 (by omega) (by omega), e1, e 15 (by omega) (by omega), e 16 (by omega) (by omega)]
  exact q
theorem jD_k (e20 : Y 20 2 = X 20 2) (e : Y 21 = X 21) (q : X 20 2 = nI Dd ∧ Dd ≤ 6 ∧ PA X 21 dr Dd) : Y 20 2 = nI Dd ∧ Dd ≤ 6 ∧ PA Y 21 dr Dd := ⟨e20.trans q.1, q.2.1, PA_k e q.2.2⟩
theorem jR_k (e20 : ∀ k, k < 2 → Y 20 k = X 20 k) (e : ∀ p, 22 < p → p < 51 → Y p = X p) (q : RBc X R PP Z Th ∧ X 20 1 = nI (cntT Th R) ∧ ∀ r, R ≤ r → X 50 r = 0) : RBc Y R PP Z Th ∧ Y 20 1 = nI (cntT Th R) ∧ ∀ r, R ≤ r → Y 50 r = 0 :=
  ⟨RBc_k (e20 0 (by decide)) (fun p hp => e p hp.1 hp.2) q.1, (e20 1 (by decide)).trans q.2.1, by rw [e 50 (by omega) (by omega)]; exact q.2.2⟩
theorem jT_k (e : ∀ p, 52 < p → p < 63 → Y p = X p) (q : TS (tC X)) : TS (tC Y) := by
  have e1 : tC Y = tC X := by
    funext a b
    unfold tC
    by_cases z : a < 10
    · rw [if_pos z, if_pos z, e (53 + a) (by omega) (by omega)]
    · rw [if_neg z, if_neg z]
  rw [e1]
  exact q
theorem U_holder {w : Nat} (hJ : JP X h D n Dd R dr PP Z Th) (hw : w < h) (q : q_X9_holder (nI w) X h r X1) : r = nI h ∧ JP X1 (h + 1) D n Dd R dr PP Z Th ∧ KL X X1 ∧ oC X1 = oC X := by
  obtain ⟨er, ⟨-, h8⟩, eY⟩ := q
  obtain ⟨⟨a1, a2, a3, a4⟩, ⟨b1, b2, b3⟩, c, d, t⟩ := hJ
  have k : ∀ p, p ≠ 1 → p ≠ 2 → p ≠ 4 → X1 p = X p := fun p h1 h2 h4 => by rw [eY, ma_ne h1, ma_ne h4, ma_ne h2]
  have r1 : X1 1 = upd (X 1) 1 (nI (h + 1)) := by rw [eY, ma_eq]
  have r2 : X1 2 = upd (X 2) h (nI w) := by rw [eY, ma_ne (by decide), ma_ne (by decide), ma_eq]
  have jo := jO_k (Y := X1) (h := h) (fun p g1 g2 => k p (by omega) (by omega) (by omega)) ⟨b1, b2, b3⟩
  refine ⟨er, ⟨⟨by rw [r1, upd_ne (by decide)]; exact a1, a2, by rw [r1, upd_eq], ?_⟩, ⟨jo.1, OInv_h (Nat.le_succ h) jo.2.1, jo.2.2⟩, jD_k (by rw [k 20 (by decide) (by decide) (by decide)]) (k 21 (by decide) (by decide) (by decide)) c, jR_k (fun j _ => by rw [k 20 (by decide) (by decide) (by decide)]) (fun p g1 g2 => k p (by omega) (by omega) (by omega)) d, jT_k (fun p g1 g2 => k p (by omega) (by omega) (by omega)) t⟩, fun p g => k p (by omega) (by omega) (by omega), ?_⟩
  · show GInv (X1 2, X1 3, X1 4, X1 5) (h + 1)
    rw [r2, k 3 (by decide) (by decide) (by decide), k 5 (by decide) (by decide) (by decide)]
    exact GInv_add a4 h8 hw
  · unfold oC
    rw [k 7 (by decide) (by decide) (by decide), k 8 (by decide) (by decide) (by decide), k 9 (by decide) (by decide) (by decide), k 10 (by decide) (by decide) (by decide), k 11 (by decide) (by decide) (by decide), k 12 (by decide) (by decide) (by decide), k 13 (by decide) (by decide) (by decide), k 14 (by decide) (by decide) (by decide), k 15 (by decide) (by decide) (by decide), k 16 (by decide) (by decide) (by decide)]
/-- a new holder has nothing -/
theorem new_has {v b : Int32} (hJ : JP X h D n Dd R dr PP Z Th) (e : oC X1 = oC X) (q : HasX X1 n (nI h) v b) : False := by
  obtain ⟨⟨-, -, -, a4⟩, ⟨-, b2, -⟩, -⟩ := hJ
  obtain ⟨V, -, q | ⟨o, ho, ⟨⟨g1, g2⟩, -⟩, -⟩⟩ := q
  · exact nI_ne0 a4.1 (by have := a4.2.1; omega) q
  · rw [e] at g1 g2
    obtain ⟨a, h1, h2⟩ := (b2.2 o ho).2.2.1 g1
    have := nIu (m := 100) (by decide) (by have := a4.2.1; omega) (by have := a4.2.1; omega) (h2.symm.trans g2)
    omega
theorem U_belong {a w : Nat} (hJ : JP X h D n Dd R dr PP Z Th) (ha : a < 10) (hw : w < h) (q : q_X9_belong (nI a) (nI w) X h r X1) : (∃ c, c < h ∧ X 5 a = nI c ∧ r = nI c) ∧ JP X1 h D n Dd R dr PP Z Th ∧ KL X X1 ∧ X1 5 a = nI w := by
  obtain ⟨-, a', ha', ea, er, eY⟩ := q
  have := nIu (m := 10) (by decide) ha ha' ea
  subst this
  obtain ⟨⟨a1, a2, a3, a4⟩, b, c, d, t⟩ := hJ
  have k : ∀ p, p ≠ 5 → X1 p = X p := fun p h1 => by rw [eY, ma_ne h1]
  have r5 : X1 5 = upd (X 5) a (nI w) := by rw [eY, ma_eq]
  obtain ⟨c0, h1, h2⟩ := a4.2.2.2.2.2 a ha
  refine ⟨⟨c0, h1, h2, er.trans h2⟩, ⟨⟨by rw [k 1 (by decide)]; exact a1, a2, by rw [k 1 (by decide)]; exact a3, ?_⟩, jO_k (fun p g1 g2 => k p (by omega)) b, jD_k (by rw [k 20 (by decide)]) (k 21 (by decide)) c, jR_k (fun j _ => by rw [k 20 (by decide)]) (fun p g1 g2 => k p (by omega)) d, jT_k (fun p g1 g2 => k p (by omega)) t⟩, fun p g => k p (by omega), by rw [r5, upd_eq]⟩
  show GInv (X1 2, X1 3, X1 4, X1 5) h
  rw [k 2 (by decide), k 3 (by decide), k 4 (by decide), r5]
  exact GInv_own a4 hw
theorem U_pass {d : Nat} (hJ : JP X h D n Dd R dr PP Z Th) (hd : d < 101) (q : q_X9_pass (nI d) X D r X1) : r = nI (D + d) ∧ JP X1 h (D + d) n Dd R dr PP Z Th ∧ KL X X1 := by
  obtain ⟨-, d', hd', ed, hD, er, eY⟩ := q
  have := nIu (m := 101) (by decide) hd hd' ed
  subst this
  obtain ⟨⟨a1, a2, a3, a4⟩, b, c, dd, t⟩ := hJ
  have k : ∀ p, p ≠ 1 → X1 p = X p := fun p h1 => by rw [eY, ma_ne h1]
  have r1 : X1 1 = upd (X 1) 0 (nI (D + d)) := by rw [eY, ma_eq]
  refine ⟨er, ⟨⟨by rw [r1, upd_eq], hD, by rw [r1, upd_ne (by decide)]; exact a3, ?_⟩, jO_k (fun p g1 g2 => k p (by omega)) b, jD_k (by rw [k 20 (by decide)]) (k 21 (by decide)) c, jR_k (fun j _ => by rw [k 20 (by decide)]) (fun p g1 g2 => k p (by omega)) dd, jT_k (fun p g1 g2 => k p (by omega)) t⟩, fun p g => k p (by omega)⟩
  show GInv (X1 2, X1 3, X1 4, X1 5) h
  rw [k 2 (by decide), k 3 (by decide), k 4 (by decide), k 5 (by decide)]
  exact a4
theorem U_roll {w : Nat} (hJ : JP X h D n Dd R dr PP Z Th) (hw : w < h) (q : q_L_on_5 (nI w) X h r X1) : ¬ r = 0 ∧ JP X1 h D n Dd R dr PP Z Th ∧ KL X X1 ∧ X1 1 = X 1 := by
  have h8 := hJ.1.2.2.2.2.1
  rcases q with ⟨-, a, k0, ha, ea, ek, hk, er, eY⟩ | ⟨E, ⟨e1, e2⟩, hE⟩
  · obtain ⟨⟨a1, a2, a3, a4⟩, b, c, d, t⟩ := hJ
    have k : ∀ p, p ≠ 3 → X1 p = X p := fun p h1 => by rw [eY, ma_ne h1]
    have r3 : X1 3 = upd (X 3) a (nI (k0 + 1)) := by rw [eY, ma_eq]
    refine ⟨by rw [er]; exact nI_ne0 (by omega) (by omega), ⟨⟨by rw [k 1 (by decide)]; exact a1, a2, by rw [k 1 (by decide)]; exact a3, ?_⟩, jO_k (fun p g1 g2 => k p (by omega)) b, jD_k (by rw [k 20 (by decide)]) (k 21 (by decide)) c, jR_k (fun j _ => by rw [k 20 (by decide)]) (fun p g1 g2 => k p (by omega)) d, jT_k (fun p g1 g2 => k p (by omega)) t⟩, fun p g => k p (by omega), k 1 (by decide)⟩
    show GInv (X1 2, X1 3, X1 4, X1 5) h
    rw [k 2 (by decide), r3, k 4 (by decide), k 5 (by decide)]
    exact GInv_key a4 (by omega)
  · subst e1
    exact ⟨by rcases hE with ⟨-, g⟩ | ⟨-, g⟩ <;> rw [g] <;> decide, hJ, fun _ _ => rfl, rfl⟩
theorem U_publish {w y : Nat} (hJ : JP X h D n Dd R dr PP Z Th) (hw : w < h) (q : q_X9_publish (nI w) (nI y) X h n r X1) : (∃ c, c = sumN (fun x => oneIf (X 8 x = nI w ∧ ¬ X 15 x = 0)) n ∧ c ≤ n ∧ r = nI c) ∧ JP X1 h D n Dd R dr PP Z Th ∧ KL X X1 ∧ X1 8 = X 8 ∧ X1 15 = X 15 := by
  obtain ⟨-, er, a, ha, ea, eY⟩ := q
  obtain ⟨⟨a1, a2, a3, a4⟩, ⟨b1, b2, b3⟩, c, d, t⟩ := hJ
  have k : ∀ p, p ≠ 4 → p ≠ 16 → X1 p = X p := fun p h1 h2 => by rw [eY, ma_ne h2, ma_ne h1]
  have r16 : X1 16 = LsR (X 8) (X 15) (X 16) (nI w) n := by rw [eY, ma_eq]
  refine ⟨⟨_, rfl, ?_, er⟩, ⟨⟨by rw [k 1 (by decide) (by decide)]; exact a1, a2, by rw [k 1 (by decide) (by decide)]; exact a3, ?_⟩, ⟨by rw [k 6 (by decide) (by decide)]; exact b1, ?_, fun o ho => ?_⟩, jD_k (by rw [k 20 (by decide) (by decide)]) (k 21 (by decide) (by decide)) c, jR_k (fun j _ => by rw [k 20 (by decide) (by decide)]) (fun p g1 g2 => k p (by omega) (by omega)) d, jT_k (fun p g1 g2 => k p (by omega) (by omega)) t⟩, fun p g => k p (by omega) (by omega), k 8 (by decide) (by decide), k 15 (by decide) (by decide)⟩
  · have := sumN_le (f := fun x => oneIf (X 8 x = nI w ∧ ¬ X 15 x = 0)) (c := 1) (fun a => oneIf_le _) n
    omega
  · show GInv (X1 2, X1 3, X1 4, X1 5) h
    rw [k 2 (by decide) (by decide), k 3 (by decide) (by decide), k 5 (by decide) (by decide)]
    exact GInv_frs a4
  · show OInv (X1 7, X1 8, X1 9, X1 10, X1 11, X1 12, X1 13, X1 14, X1 15, X1 16) h n
    rw [k 7 (by decide) (by decide), k 8 (by decide) (by decide), k 9 (by decide) (by decide), k 10 (by decide) (by decide), k 11 (by decide) (by decide), k 12 (by decide) (by decide), k 13 (by decide) (by decide), k 14 (by decide) (by decide), k 15 (by decide) (by decide), r16]
    refine OInv_lsd b2 (fun o ho => ?_)
    obtain ⟨-, -, -, -, -, -, g7, g8, g9, -⟩ := b2.2 o ho
    by_cases q : o < n ∧ X 8 o = nI w ∧ ¬ X 15 o = 0
    · rw [LsR_y q]
      exact ⟨Or.inr rfl, fun _ => g7.resolve_left q.2.2⟩
    · rw [LsR_n q]
      exact ⟨g8, g9⟩
  · rw [k 15 (by decide) (by decide), r16, LsR_n (fun q => by omega)]
    exact b3 o ho
theorem U_revoke {o : Nat} (hJ : JP X h D n Dd R dr PP Z Th) (ho : o < n) (q : q_X9_revoke (nI o) X n r X1) : bI (X 15 o = 0) r ∧ JP X1 h D n Dd R dr PP Z Th ∧ KL X X1 ∧ X1 15 o = 1 ∧ (∀ p, p ≠ 15 → X1 p = X p) := by
  obtain ⟨-, o', ho', eo, hb, eY⟩ := q
  have n50 := hJ.2.1.2.1.1
  have := nIu (m := 50) (by decide) (by omega) (by omega) eo
  subst this
  obtain ⟨a, ⟨b1, b2, b3⟩, c, d, t⟩ := hJ
  have k : ∀ p, p ≠ 15 → X1 p = X p := fun p h1 => by rw [eY, ma_ne h1]
  have r15 : X1 15 = upd (X 15) o 1 := by rw [eY, ma_eq]
  refine ⟨hb, ⟨jG_k (fun p g1 g2 => k p (by omega)) a, ⟨by rw [k 6 (by decide)]; exact b1, ?_, fun x hx => ?_⟩, jD_k (by rw [k 20 (by decide)]) (k 21 (by decide)) c, jR_k (fun j _ => by rw [k 20 (by decide)]) (fun p g1 g2 => k p (by omega)) d, jT_k (fun p g1 g2 => k p (by omega)) t⟩, fun p g => k p (by omega), by rw [r15, upd_eq], k⟩
  · show OInv (X1 7, X1 8, X1 9, X1 10, X1 11, X1 12, X1 13, X1 14, X1 15, X1 16) h n
    rw [k 7 (by decide), k 8 (by decide), k 9 (by decide), k 10 (by decide), k 11 (by decide), k 12 (by decide), k 13 (by decide), k 14 (by decide), r15, k 16 (by decide)]
    exact OInv_rvk b2
  · rw [r15, k 16 (by decide), upd_ne (by omega)]
    exact b3 x hx
theorem U_sign {o : Nat} (hJ : JP X h D n Dd R dr PP Z Th) (ho : o < n) (q : q_X9_sign (nI o) X h n r X1) : (∃ a, a < h ∧ X 8 o = nI a ∧ r = sigS (oC X) o (X 3 a) ∧ X1 14 = upd (X 14) o (sigS (oC X) o (X 3 a))) ∧ JP X1 h D n Dd R dr PP Z Th ∧ KL X X1 ∧ (∀ p, p ≠ 14 → X1 p = X p) := by
  obtain ⟨-, o', a', ho', ha', eo, ea, er, eY⟩ := q
  have n50 := hJ.2.1.2.1.1
  have := nIu (m := 50) (by decide) (by omega) (by omega) eo
  subst this
  obtain ⟨a, ⟨b1, b2, b3⟩, c, d, t⟩ := hJ
  have k : ∀ p, p ≠ 14 → X1 p = X p := fun p h1 => by rw [eY, ma_ne h1]
  refine ⟨⟨a', ha', ea, er, by rw [eY, ma_eq]⟩, ⟨jG_k (fun p g1 g2 => k p (by omega)) a, ⟨by rw [k 6 (by decide)]; exact b1, ?_, by rw [k 15 (by decide), k 16 (by decide)]; exact b3⟩, jD_k (by rw [k 20 (by decide)]) (k 21 (by decide)) c, jR_k (fun j _ => by rw [k 20 (by decide)]) (fun p g1 g2 => k p (by omega)) d, jT_k (fun p g1 g2 => k p (by omega)) t⟩, fun p g => k p (by omega), k⟩
  show OInv (X1 7, X1 8, X1 9, X1 10, X1 11, X1 12, X1 13, X1 14, X1 15, X1 16) h n
  rw [k 7 (by decide), k 8 (by decide), k 9 (by decide), k 10 (by decide), k 11 (by decide), k 12 (by decide), k 13 (by decide), k 15 (by decide), k 16 (by decide)]
  exact OInv_sgn (f14 := X 14) b2
end UP
