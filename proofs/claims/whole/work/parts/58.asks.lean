/-! what is asked of both -/
section PA
variable {X X1 X2 : Mem} {h D n Dd R : Nat} {dr : Nat → Nat} {PP : Nat → Nat → Nat} {Z : Nat → Nat} {Th : Nat → Prop} {r b : Int32}
theorem JA.eqs (hJ : JA X h D n Dd R dr PP Z Th) (k : KM X X1) : oM X1 = oC X ∧ gM X1 = gC X ∧ X1 85 1 = X 1 0 ∧ (∀ a b, a < 10 → b < 10 → tC X a b = tM X1 a b) := by
  have e1 : gM X1 = gM X := by unfold gM; rw [k 86 (by omega) (by omega), k 87 (by omega) (by omega), k 88 (by omega) (by omega), k 89 (by omega) (by omega)]
  have e2 : oM X1 = oM X := by unfold oM; rw [k 90 (by omega) (by omega), k 91 (by omega) (by omega), k 92 (by omega) (by omega), k 93 (by omega) (by omega), k 94 (by omega) (by omega), k 95 (by omega) (by omega), k 96 (by omega) (by omega), k 97 (by omega) (by omega), k 98 (by omega) (by omega), k 99 (by omega) (by omega)]
  obtain ⟨⟨a1, -, -, -, a5, -, a7⟩, ⟨-, -, -, b4, -⟩, -, -, j5⟩ := hJ
  refine ⟨e2.trans b4, e1.trans a7, by rw [k 85 (by omega) (by omega), a5, a1], fun a b ha hb => ?_⟩
  rw [← j5 a b ha hb]
  unfold tM
  rw [k 106 (by omega) (by omega)]
theorem JA.on (hJ : JA X h D n Dd R dr PP Z Th) : OInv (oC X) h n ∧ GInv (gC X) h ∧ n ≤ 50 ∧ h ≤ 8 ∧ 1 ≤ h := ⟨hJ.2.1.2.1, hJ.1.2.2.2.1, hJ.2.1.2.1.1, hJ.1.2.2.2.1.2.1, hJ.1.2.2.2.1.1⟩
theorem nIu {a b m : Nat} (hm : m ≤ 2 ^ 31) (ha : a < m) (hb : b < m) (e : nI a = nI b) : a = b := (nI_eq (by omega) (by omega)).mp e
theorem net_btw {a : Nat} (h : a < 10) : Btw (nI a) 0 9 := (by decide : ∀ a, a < 10 → ((0 : Int32) ≤ nI a ∧ nI a ≤ 9)) a h
theorem rd_btw {a : Nat} (h : a < 3) : Btw (nI a) 0 2 := (by decide : ∀ a, a < 3 → ((0 : Int32) ≤ nI a ∧ nI a ≤ 2)) a h
theorem pr_judged {v : Int32} (hJ : JA X h D n Dd R dr PP Z Th) (q1 : q_L_judged v X h n r X1) (q2 : q_X10_judged v X1 h n b X2) : X2 85 0 = r ∧ (r = 0 → X2 116 0 = b) ∧ JJ X2 := by
  refine pairC1 Iff.rfl hJ q1 q2 (fun ⟨rv, Y, ⟨hA, _⟩, _⟩ => hA) (fun ⟨hA, _⟩ => hA) ?_
  rintro ⟨rv, Y, ⟨-, o, ho, eo, V, eY, hV, hr⟩, e1⟩ ⟨-, o', ho', eo', V', e2, hV', hb⟩
  have kM : KM X X1 := by rw [e1, eY]; exact (KM.rf.put (Or.inl (by decide))).put (Or.inr rfl)
  obtain ⟨eO, eG, eD, -⟩ := hJ.eqs kM
  obtain ⟨hO, hG, n50, -, -⟩ := hJ.on
  have := nIu (m := 50) (by decide) (by omega) (by omega) (eo.symm.trans eo')
  subst this
  rw [eO, eG, eD] at hV'
  refine ⟨by rw [e2, ma_ne (by decide), ma_eq, upd_eq], ?_, (JA_k ?_ hJ).jj⟩
  · rw [e2, ma_ne (by decide), ma_ne (by decide), e1, ma_eq, upd_eq, hr, hb]
    exact IsV_one hG hO hV hV' o ho
  · rw [e2, e1, eY]
    exact (((KP.rf.put (by omega)).put (by omega)).put85 (by omega)).put (by omega)
theorem pr_has {hd v c : Int32} (hJ : JA X h D n Dd R dr PP Z Th) (q1 : q_L_has hd v c X h n r X1) (q2 : q_X10_has hd v c X1 h n b X2) : X2 85 0 = r ∧ (r = 0 → X2 116 0 = if b = 0 then 0 else 1) ∧ JJ X2 := by
  refine pairC2 ne_OA Iff.rfl (fun _ => Iff.rfl) hJ q1 q2.2 (fun ⟨rv, Y, ⟨hA, _⟩, _⟩ => hA) (fun ⟨hA, _⟩ => hA) ?_
  rintro ⟨rv, Y, ⟨-, V, eY, hV, hr⟩, e1⟩ ⟨-, V', e2, hV', hb⟩
  have kM : KM X X1 := by rw [e1, eY]; exact (KM.rf.put (Or.inl (by decide))).put (Or.inr rfl)
  obtain ⟨eO, eG, eD, -⟩ := hJ.eqs kM
  obtain ⟨hO, hG, n50, -, -⟩ := hJ.on
  rw [eO, eG, eD] at hV'
  rw [eO] at hb
  refine ⟨by rw [e2, ma_ne (by decide), ma_eq, upd_eq], ?_, (JA_k ?_ hJ).jj⟩
  · have : rv = b := hr.same hb (HasB_congr (fun o ho _ => (IsV_one hG hO hV hV' o ho).symm))
    rw [e2, ma_ne (by decide), ma_ne (by decide), e1, ma_eq, upd_eq, this]
  · rw [e2, e1, eY]
    exact (((KP.rf.put (by omega)).put (by omega)).put85 (by omega)).put (by omega)
theorem pr_hasByChains {hd v c : Int32} (hJ : JA X h D n Dd R dr PP Z Th) (q1 : q_L_hasByChains hd v c X h n r X1) (q2 : q_X10_hasByChains hd v c X1 h n b X2) : X2 85 0 = r ∧ (r = 0 → X2 116 0 = if b = 0 then 0 else 1) ∧ JJ X2 := by
  refine pairC2 ne_OA Iff.rfl (fun _ => Iff.rfl) hJ q1 q2.2 (fun ⟨rv, Y, ⟨hA, _⟩, _⟩ => hA) (fun ⟨hA, _⟩ => hA) ?_
  rintro ⟨rv, Y, ⟨-, a, ha, ea, T, eY, hr⟩, e1⟩ ⟨-, V', e2, hV', hb⟩
  have kM : KM X X1 := by rw [e1, eY]; exact (KM.rf.put (Or.inl (by decide))).put (Or.inr rfl)
  obtain ⟨eO, eG, eD, -⟩ := hJ.eqs kM
  obtain ⟨hO, hG, n50, -, -⟩ := hJ.on
  rw [eO, eG, eD] at hV'
  rw [eO, ea] at hb
  refine ⟨by rw [e2, ma_ne (by decide), ma_eq, upd_eq], ?_, (JA_k ?_ hJ).jj⟩
  · have : rv = b := hr.same hb (HasB_Rx hG hO hV' a ha v c).symm
    rw [e2, ma_ne (by decide), ma_ne (by decide), e1, ma_eq, upd_eq, this]
  · rw [e2, e1, eY]
    exact (((KP.rf.put (by omega)).put (by omega)).put85 (by omega)).put (by omega)
theorem pr_state {nt v c : Int32} (hJ : JA X h D n Dd R dr PP Z Th) (q1 : q_L_state nt v c X h n r X1) (q2 : q_X10_state nt v c X1 h n b X2) : X2 85 0 = r ∧ (r = 0 → X2 116 0 = b) ∧ JJ X2 := by
  refine pairC2 ne_OA Iff.rfl (fun _ => Iff.rfl) hJ q1 q2 (fun ⟨rv, Y, ⟨hA, _⟩, _⟩ => hA) (fun ⟨hA, _⟩ => hA) ?_
  rintro ⟨rv, Y, ⟨-, V, eY, hV, hr⟩, e1⟩ ⟨-, V', e2, hV', hb⟩
  have kM : KM X X1 := by rw [e1, eY]; exact (KM.rf.put (Or.inl (by decide))).put (Or.inr rfl)
  obtain ⟨eO, eG, eD, -⟩ := hJ.eqs kM
  obtain ⟨hO, hG, n50, -, -⟩ := hJ.on
  rw [eO, eG, eD] at hV'
  rw [eO] at hb
  refine ⟨by rw [e2, ma_ne (by decide), ma_eq, upd_eq], ?_, (JA_k ?_ hJ).jj⟩
  · rw [e2, ma_ne (by decide), ma_ne (by decide), e1, ma_eq, upd_eq]
    exact StR_one (IsV_one hG hO hV hV') hr hb
  · rw [e2, e1, eY]
    exact (((KP.rf.put (by omega)).put (by omega)).put85 (by omega)).put (by omega)
theorem JA.rt (hJ : JA X h D n Dd R dr PP Z Th) {a : Nat} (ha : a < R) : R ≤ 24 ∧ 1 ≤ Z a ∧ Z a ≤ 6 ∧ (∀ k, k < Z a → PP a k < 10) ∧ X 103 a = X 48 a ∧ X 104 a = X 49 a := by
  obtain ⟨hB, -, -, e, -, -⟩ := hJ.2.2.2.1
  obtain ⟨h1, h2, -, h4, -⟩ := hB.2.2 a ha
  exact ⟨hB.1, h1, h2, fun k hk => (h4 k hk).2, (e a ha).1, (e a ha).2⟩
theorem pr_path1 {v up : Int32} (hu : ¬ up = 0) (hJ : JA X h D n Dd R dr PP Z Th) (q1 : q_L_path v up X h n R PP Z Th r X1) (q2 : q_X10_path_1 v X1 h n R PP Z Th b X2) : X2 85 0 = r ∧ (r = 0 → X2 116 0 = b) ∧ JJ X2 := by
  refine pairC1 Iff.rfl hJ q1 q2 (fun ⟨rv, Y, ⟨a, hA, _⟩, _⟩ => ⟨a, hA⟩) (fun ⟨a, hA, _⟩ => ⟨a, hA⟩) ?_
  rintro ⟨rv, Y, ⟨a, ⟨ha, ea, -⟩, V, hv, pv, nd, eY, ⟨hV, hVo⟩, hr⟩, e1⟩ ⟨a', ⟨ha', ea', -⟩, V', hv', pv', e2, ⟨hV', hVo'⟩, hb⟩
  have kM : KM X X1 := by rw [e1, eY]; exact (((KM.rf.put (Or.inl (by decide))).put (Or.inl (by decide))).put (Or.inl (by decide))).put (Or.inr rfl)
  obtain ⟨eO, eG, eD, -⟩ := hJ.eqs kM
  obtain ⟨hO, hG, n50, -, -⟩ := hJ.on
  obtain ⟨R24, -, -, hP, -, -⟩ := hJ.rt ha
  have := nIu (m := 50) (by decide) (by omega) (by omega) (ea.symm.trans ea')
  subst this
  rw [eO, eG, eD] at hV'
  rw [eO] at hVo'
  have hr2 := hr.resolve_right (fun q => hu q.1)
  refine ⟨by rw [e2, ma_ne (by decide), ma_ne (by decide), ma_ne (by decide), ma_eq, upd_eq], ?_, (JA_k ?_ hJ).jj⟩
  · rw [e2, ma_ne (by decide), ma_ne (by decide), ma_ne (by decide), ma_ne (by decide), e1, ma_eq, upd_eq]
    exact JU_one (JU_c (VoR_one (IsV_one hG hO hV hV') hVo hVo') hP hr2.2) hb
  · rw [e2, e1, eY]
    exact (((((((KP.rf.put (by omega)).put (by omega)).put (by omega)).put (by omega)).put85 (by omega)).put (by omega)).put (by omega)).put (by omega)
theorem pr_path0 {v up : Int32} (hu : up = 0) (hJ : JA X h D n Dd R dr PP Z Th) (q1 : q_L_path v up X h n R PP Z Th r X1) (q2 : q_X10_path_0 v X1 h n R PP Z Th b X2) : X2 85 0 = r ∧ (r = 0 → X2 116 0 = b) ∧ JJ X2 := by
  refine pairC1 Iff.rfl hJ q1 q2 (fun ⟨rv, Y, ⟨a, hA, _⟩, _⟩ => ⟨a, hA⟩) (fun ⟨a, hA, _⟩ => ⟨a, hA⟩) ?_
  rintro ⟨rv, Y, ⟨a, ⟨ha, ea, -⟩, V, hv, pv, nd, eY, ⟨hV, hVo⟩, hr⟩, e1⟩ ⟨a', ⟨ha', ea', -⟩, V', hv', pv', e2, ⟨hV', hVo'⟩, hb⟩
  have kM : KM X X1 := by rw [e1, eY]; exact (((KM.rf.put (Or.inl (by decide))).put (Or.inl (by decide))).put (Or.inl (by decide))).put (Or.inr rfl)
  obtain ⟨eO, eG, eD, -⟩ := hJ.eqs kM
  obtain ⟨hO, hG, n50, -, -⟩ := hJ.on
  obtain ⟨R24, -, -, hP, -, -⟩ := hJ.rt ha
  have := nIu (m := 50) (by decide) (by omega) (by omega) (ea.symm.trans ea')
  subst this
  rw [eO, eG, eD] at hV'
  rw [eO] at hVo'
  have hr2 := hr.resolve_left (fun q => q.1 hu)
  refine ⟨by rw [e2, ma_ne (by decide), ma_ne (by decide), ma_ne (by decide), ma_eq, upd_eq], ?_, (JA_k ?_ hJ).jj⟩
  · rw [e2, ma_ne (by decide), ma_ne (by decide), ma_ne (by decide), ma_ne (by decide), e1, ma_eq, upd_eq]
    exact JD_one (JD_c (VoR_one (IsV_one hG hO hV hV') hVo hVo') hP hr2.2) hb
  · rw [e2, e1, eY]
    exact (((((((KP.rf.put (by omega)).put (by omega)).put (by omega)).put (by omega)).put85 (by omega)).put (by omega)).put (by omega)).put (by omega)
theorem pr_leak {v : Int32} (hJ : JA X h D n Dd R dr PP Z Th) (q1 : q_L_leak v X R PP Z Th r X1) (q2 : q_X10_leak v X1 R PP Z Th b X2) : X2 85 0 = r ∧ (r = 0 → X2 116 0 = b) ∧ JJ X2 := by
  refine pairC1 Iff.rfl hJ q1 q2 (fun ⟨rv, Y, ⟨a, hA, _⟩, _⟩ => ⟨a, hA⟩) (fun ⟨a, hA, _⟩ => ⟨a, hA⟩) ?_
  rintro ⟨rv, Y, ⟨a, ⟨ha, ea, -⟩, hr, eY⟩, e1⟩ ⟨a', ⟨ha', ea', -⟩, hb, e2⟩
  have kM : KM X X1 := by rw [e1, eY]; exact KM.rf.put (Or.inr rfl)
  obtain ⟨-, -, -, eT⟩ := hJ.eqs kM
  obtain ⟨R24, -, -, hP, -, -⟩ := hJ.rt ha
  have := nIu (m := 50) (by decide) (by omega) (by omega) (ea.symm.trans ea')
  subst this
  refine ⟨by rw [e2, ma_eq, upd_eq], ?_, (JA_k ?_ hJ).jj⟩
  · rw [e2, ma_ne (by decide), e1, ma_eq, upd_eq]
    exact FirstR_one (fun k h1 h2 => LkAt_c eT (fun j hj => hP j (by omega))) hr hb
  · rw [e2, e1, eY]
    exact (KP.rf.put (by omega)).put85 (by omega)
theorem pr_stopped {v fl : Int32} (hJ : JA X h D n Dd R dr PP Z Th) (q1 : q_L_stopped v fl X h n R PP Z Th r X1) (q2 : q_X10_stopped v fl X1 h n R PP Z Th b X2) : X2 85 0 = r ∧ (r = 0 → X2 116 0 = b) ∧ JJ X2 := by
  refine pairC2 ne_OA Iff.rfl (fun _ => Iff.rfl) hJ q1 q2 (fun ⟨rv, Y, ⟨a, hA, hB, _⟩, _⟩ => ⟨⟨a, hA⟩, hB⟩) (fun ⟨hA, _⟩ => hA) ?_
  rintro ⟨rv, Y, ⟨a, ⟨ha, ea, -⟩, -, F, hF, eF, V, hv, pv, nd, eY, ⟨hV, hVo⟩, hr⟩, e1⟩ ⟨-, a', F', ⟨ha', ea', -⟩, hF', eF', V', hv', pv', e2, ⟨hV', hVo'⟩, hb⟩
  have kM : KM X X1 := by rw [e1, eY]; exact (((KM.rf.put (Or.inl (by decide))).put (Or.inl (by decide))).put (Or.inl (by decide))).put (Or.inr rfl)
  obtain ⟨eO, eG, eD, eT⟩ := hJ.eqs kM
  obtain ⟨hO, hG, n50, -, -⟩ := hJ.on
  obtain ⟨R24, -, -, hP, e3, e4⟩ := hJ.rt ha
  have := nIu (m := 50) (by decide) (by omega) (by omega) (ea.symm.trans ea')
  subst this
  have := nIu (m := 1024) (by decide) hF hF' (eF.symm.trans eF')
  subst this
  rw [eO, eG, eD] at hV'
  rw [eO] at hVo'
  rw [eO, kM 103 (by omega) (by omega), kM 104 (by omega) (by omega), e3, e4] at hb
  have eV := IsV_one hG hO hV hV'
  refine ⟨by rw [e2, ma_ne (by decide), ma_ne (by decide), ma_ne (by decide), ma_eq, upd_eq], ?_, (JA_k ?_ hJ).jj⟩
  · rw [e2, ma_ne (by decide), ma_ne (by decide), ma_ne (by decide), ma_ne (by decide), e1, ma_eq, upd_eq]
    refine FirstR_one (fun k h1 h2 => ?_) hr hb
    have eR := Rf_c eT (VoR_one eV hVo hVo') (P := PP a) (z := k) (fun j hj => hP j (by omega))
    have eS : StR (oC X) V n (nI (PP a 0)) (X 48 a) (X 49 a) 2 ↔ StR (oC X) V' n (nI (PP a 0)) (X 48 a) (X 49 a) 2 := ⟨StR_V eV, StR_V (fun o ho => (eV o ho).symm)⟩
    exact ⟨fun q => ⟨q.1, q.2.elim (fun g => Or.inl (eS.mp g)) (fun g => Or.inr (eR.mp g))⟩, fun q => ⟨q.1, q.2.elim (fun g => Or.inl (eS.mpr g)) (fun g => Or.inr (eR.mpr g))⟩⟩
  · rw [e2, e1, eY]
    exact (((((((KP.rf.put (by omega)).put (by omega)).put (by omega)).put (by omega)).put85 (by omega)).put (by omega)).put (by omega)).put (by omega)
theorem pr_allowed {u v : Int32} (hJ : JA X h D n Dd R dr PP Z Th) (q1 : q_L_allowed u v X r X1) (q2 : q_X10_allowed u v X1 b X2) : X2 85 0 = r ∧ (r = 0 → X2 116 0 = b) ∧ JJ X2 := by
  refine pairC1 Iff.rfl hJ q1 q2 (fun ⟨rv, Y, ⟨hA, _⟩, _⟩ => hA) (fun ⟨hA, _⟩ => hA) ?_
  rintro ⟨rv, Y, ⟨-, a, c, ⟨ha, hc, ea, ec⟩, T, eY, hr⟩, e1⟩ ⟨-, a', c', ⟨ha', hc', ea', ec'⟩, T', e2, hb⟩
  have kM : KM X X1 := by rw [e1, eY]; exact (KM.rf.put (Or.inl (by decide))).put (Or.inr rfl)
  obtain ⟨-, -, -, eT⟩ := hJ.eqs kM
  have := nIu (m := 50) (by decide) (by omega) (by omega) (ea.symm.trans ea')
  subst this
  have := nIu (m := 50) (by decide) (by omega) (by omega) (ec.symm.trans ec')
  subst this
  rw [allow_eq (tM X1) ha hc, ← allow_c ha eT] at hb
  refine ⟨by rw [e2, ma_ne (by decide), ma_eq, upd_eq], ?_, (JA_k ?_ hJ).jj⟩
  · rw [e2, ma_ne (by decide), ma_ne (by decide), e1, ma_eq, upd_eq, hb]
    rcases hr with ⟨q1, q2⟩ | ⟨q1, q2⟩
    · subst q1
      rw [allow_0, q2]
      rfl
    · exact q2
  · rw [e2, e1, eY]
    exact (((KP.rf.put (by omega)).put (by omega)).put85 (by omega)).put (by omega)
theorem pr_inferred {u v c : Int32} (hJ : JA X h D n Dd R dr PP Z Th) (q1 : q_L_inferred u v c X R PP Z Th r X1) (q2 : q_X10_inferred u v c X1 R PP Z Th b X2) : X2 85 0 = r ∧ (r = 0 → X2 116 0 = b) ∧ JJ X2 := by
  refine pairC1 Iff.rfl hJ q1 q2 (fun ⟨rv, Y, ⟨hA, _⟩, _⟩ => hA) (fun ⟨a, b', c', ⟨h1, h2, h3, e1, e2, e3⟩, _⟩ => by rw [e1, e2, e3]; exact ⟨net_btw h1, net_btw h2, rd_btw h3⟩) ?_
  rintro ⟨rv, Y, ⟨-, a, d, k, ⟨ha, hd, hk, ea, ed, ek⟩, oY, hr⟩, e1⟩ ⟨a', d', k', ⟨ha', hd', hk', ea', ed', ek'⟩, k2, e0, e6, hb⟩
  have := nIu (m := 50) (by decide) (by omega) (by omega) (ea.symm.trans ea')
  subst this
  have := nIu (m := 50) (by decide) (by omega) (by omega) (ed.symm.trans ed')
  subst this
  have := nIu (m := 50) (by decide) (by omega) (by omega) (ek.symm.trans ek')
  subst this
  have : KP X X1 := by rw [e1]; exact (KP.rf.outI oY).put (by omega)
  refine ⟨e0, ?_, (JA_k (this.kpM k2) hJ).jj⟩
  rw [e6, e1, ma_eq, upd_eq]
  exact BetR_one hr hb
theorem pr_cone {v : Int32} (hJ : JA X h D n Dd R dr PP Z Th) (q1 : q_L_cone v X R PP Z Th r X1) (q2 : q_X10_cone v X1 R PP Z Th b X2) : X2 85 0 = r ∧ (r = 0 → X2 116 0 = b) ∧ JJ X2 := by
  refine pairC1 Iff.rfl hJ q1 q2 (fun ⟨rv, Y, ⟨hA, _⟩, _⟩ => hA) (fun ⟨a, ⟨h1, e1⟩, _⟩ => by rw [e1]; exact net_btw h1) ?_
  rintro ⟨rv, Y, ⟨-, a, ⟨ha, ea⟩, oY, hr⟩, e1⟩ ⟨a', ⟨ha', ea'⟩, k2, e0, e6, hb⟩
  have := nIu (m := 50) (by decide) (by omega) (by omega) (ea.symm.trans ea')
  subst this
  have : KP X X1 := by rw [e1]; exact (KP.rf.outI oY).put (by omega)
  refine ⟨e0, ?_, (JA_k (this.kpM k2) hJ).jj⟩
  rw [e6, e1, ma_eq, upd_eq]
  exact SetIs_one hr hb
theorem pr_coneByPaths {v : Int32} (hJ : JA X h D n Dd R dr PP Z Th) (q1 : q_L_coneByPaths v X R PP Z Th r X1) (q2 : q_X10_coneByPaths v X1 R PP Z Th b X2) : X2 85 0 = r ∧ (r = 0 → X2 116 0 = b) ∧ JJ X2 := by
  refine pairC1 Iff.rfl hJ q1 q2 (fun ⟨rv, Y, ⟨hA, _⟩, _⟩ => hA) (fun ⟨a, ⟨h1, e1⟩, _⟩ => by rw [e1]; exact net_btw h1) ?_
  rintro ⟨rv, Y, ⟨-, a, ⟨ha, ea⟩, oY, hr⟩, e1⟩ ⟨a', ⟨ha', ea'⟩, k2, e0, e6, hb⟩
  have := nIu (m := 50) (by decide) (by omega) (by omega) (ea.symm.trans ea')
  subst this
  have : KP X X1 := by rw [e1]; exact (KP.rf.outI oY).put (by omega)
  refine ⟨e0, ?_, (JA_k (this.kpM k2) hJ).jj⟩
  rw [e6, e1, ma_eq, upd_eq]
  exact SetIs_one hr hb
theorem ReA_c {f g f' g' : Nat → Int32} {S ad i : Nat} (e : ∀ r, r < i → f r = f' r ∧ g r = g' r) : ReA f g PP Th S ad i ↔ ReA f' g' PP Th S ad i := by
  constructor
  · rintro ⟨r, h1, h2, h3, h4⟩
    exact ⟨r, h1, h2, h3, by rw [← (e r h1).1, ← (e r h1).2]; exact h4⟩
  · rintro ⟨r, h1, h2, h3, h4⟩
    exact ⟨r, h1, h2, h3, by rw [(e r h1).1, (e r h1).2]; exact h4⟩
theorem pr_addresses {v : Int32} (hJ : JA X h D n Dd R dr PP Z Th) (q1 : q_L_addresses v X R PP Z Th r X1) (q2 : q_X10_addresses v X1 R PP Z Th b X2) : X2 85 0 = r ∧ (r = 0 → X2 116 0 = b) ∧ JJ X2 := by
  refine pairC1 Iff.rfl hJ q1 q2 (fun ⟨rv, Y, ⟨hA, _⟩, _⟩ => hA) (fun ⟨a, S, ⟨h1, e1⟩, _⟩ => by rw [e1]; exact net_btw h1) ?_
  rintro ⟨rv, Y, ⟨-, a, S, ⟨ha, ea⟩, ⟨hS, hS2⟩, oY, hr⟩, e1⟩ ⟨a', S', ⟨ha', ea'⟩, ⟨hS', hS2'⟩, k2, e0, e6, hb⟩
  have := nIu (m := 50) (by decide) (by omega) (by omega) (ea.symm.trans ea')
  subst this
  have := set_ext hS hS' (fun x _ => (hS2 x).trans (hS2' x).symm)
  subst this
  have kM : KM X X1 := by rw [e1]; exact (KM.outI oY).put (Or.inr rfl)
  have : KP X X1 := by rw [e1]; exact (KP.rf.outI oY).put (by omega)
  refine ⟨e0, ?_, (JA_k (this.kpM k2) hJ).jj⟩
  rw [e6, e1, ma_eq, upd_eq, hr, hb, kM 103 (by omega) (by omega), kM 104 (by omega) (by omega)]
  exact congrArg nI (sumN_congr (fun ad _ => oneIf_c (ReA_c (fun r hr => ⟨(hJ.rt hr).2.2.2.2.1.symm, (hJ.rt hr).2.2.2.2.2.symm⟩))))
/-! asked without a helper: the class's answer a stands in the law's stack -/
theorem pr_today {a : Int32} (hJ : JA X h D n Dd R dr PP Z Th) (q1 : q_X9_today X a X1) (q2 : q_X10_today X1 b X2) : a = b ∧ JJ X2 := by
  obtain ⟨h1, e1⟩ := q1
  obtain ⟨h2, e2⟩ := q2
  subst e1
  refine ⟨by rw [h1, h2, hJ.1.1, hJ.1.2.2.2.2.1], (JA_k ?_ hJ).jj⟩
  rw [e2]
  exact KP.rf.put85 (by omega)
theorem pr_objects {a : Int32} (hJ : JA X h D n Dd R dr PP Z Th) (q1 : q_X9_objects X a X1) (q2 : q_X10_objects X1 b X2) : a = b ∧ JJ X2 := by
  obtain ⟨h1, e1⟩ := q1
  obtain ⟨h2, e2⟩ := q2
  subst e1
  refine ⟨by rw [h1, h2, hJ.2.1.1, hJ.2.1.2.2.1], (JA_k ?_ hJ).jj⟩
  rw [e2]
  exact KP.rf.put85 (by omega)
theorem pr_routes {a : Int32} (hJ : JA X h D n Dd R dr PP Z Th) (q1 : q_X9_routes X a X1) (q2 : q_X10_routes X1 b X2) : a = b ∧ JJ X2 := by
  obtain ⟨h1, e1⟩ := q1
  obtain ⟨h2, e2⟩ := q2
  subst e1
  refine ⟨by rw [h1, h2, hJ.2.2.2.1.1.2.1, hJ.2.2.2.1.2.1.2.1], (JA_k ?_ hJ).jj⟩
  rw [e2]
  exact KP.rf.put85 (by omega)
theorem pr_falseAlarms {a : Int32} (hJ : JA X h D n Dd R dr PP Z Th) (q1 : q_X9_falseAlarms X h n a X1) (q2 : q_X10_falseAlarms X1 h n b X2) : a = b ∧ JJ X2 := by
  obtain ⟨V, hv, pv, nd, T, e1, ⟨hV, hVo⟩, h1⟩ := q1
  obtain ⟨V', hv', pv', T', e2, ⟨hV', hVo'⟩, h2⟩ := q2
  have kM : KM X X1 := by rw [e1]; exact (((KM.rf.put (Or.inl (by decide))).put (Or.inl (by decide))).put (Or.inl (by decide))).put (Or.inl (by decide))
  obtain ⟨eO, eG, eD, eT⟩ := hJ.eqs kM
  obtain ⟨hO, hG, n50, -, -⟩ := hJ.on
  rw [eO, eG, eD] at hV'
  rw [eO] at hVo'
  refine ⟨?_, (JA_k ?_ hJ).jj⟩
  · rw [h1, h2, alarm_eq]
    exact congrArg nI (alarm_c eT (VoR_one (IsV_one hG hO hV hV') hVo hVo'))
  · rw [e2, e1]
    exact ((((((((KP.rf.put (by omega)).put (by omega)).put (by omega)).put (by omega)).put85 (by omega)).put (by omega)).put (by omega)).put (by omega)).put (by omega)
theorem pr_clique {a : Int32} (hJ : JA X h D n Dd R dr PP Z Th) (q1 : q_X9_clique X R PP Z Th a X1) (q2 : q_X10_clique X1 R PP Z Th b X2) : a = b ∧ JJ X2 := by
  obtain ⟨oY, h1⟩ := q1
  obtain ⟨k2, e0, e6, h2⟩ := q2
  exact ⟨h1.trans h2.symm, (JA_k ((KP.rf.outI oY).kpM k2) hJ).jj⟩
end PA
