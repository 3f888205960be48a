/-! objects change in both -/
def mkC (X : Mem) (n a : Nat) (k wm vl ln ex dd : Int32) : Mem := (ma (ma (ma (ma (ma (ma (ma (ma X 7 (upd (X 7) n k)) 8 (upd (X 8) n (nI a))) 9 (upd (X 9) n wm)) 10 (upd (X 10) n vl)) 11 (upd (X 11) n ln)) 12 (upd (X 12) n ex)) 13 (upd (X 13) n (X 1 0 + dd))) 6 (upd (X 6) 0 (nI (n + 1))))
def mkMo (X : Mem) (n a : Nat) (k wm vl ln ex dd : Int32) : Mem := (ma (ma (ma (ma (ma (ma (ma (ma X 85 (upd (X 85) 0 (0 : Int32))) 90 (upd ((ma X 85 (upd (X 85) 0 (0 : Int32))) 90) n k)) 91 (upd ((ma X 85 (upd (X 85) 0 (0 : Int32))) 91) n (nI a))) 92 (upd ((ma X 85 (upd (X 85) 0 (0 : Int32))) 92) n wm)) 93 (upd ((ma X 85 (upd (X 85) 0 (0 : Int32))) 93) n vl)) 94 (upd ((ma X 85 (upd (X 85) 0 (0 : Int32))) 94) n ln)) 95 (upd ((ma X 85 (upd (X 85) 0 (0 : Int32))) 95) n ex)) 96 (upd ((ma X 85 (upd (X 85) 0 (0 : Int32))) 96) n ((ma X 85 (upd (X 85) 0 (0 : Int32))) 85 1 + dd)))
theorem mkC_ne {X : Mem} {n a : Nat} {k wm vl ln ex dd : Int32} {p : Nat} (h : p < 6 ∨ 13 < p) : mkC X n a k wm vl ln ex dd p = X p := by
  unfold mkC
  rw [ma_ne (by omega), ma_ne (by omega), ma_ne (by omega), ma_ne (by omega), ma_ne (by omega), ma_ne (by omega), ma_ne (by omega), ma_ne (by omega)]
theorem mkMo_ne {X : Mem} {n a : Nat} {k wm vl ln ex dd : Int32} {p : Nat} (h : p < 85 ∨ (85 < p ∧ p < 90) ∨ 96 < p) : mkMo X n a k wm vl ln ex dd p = X p := by
  unfold mkMo
  rw [ma_ne (by omega), ma_ne (by omega), ma_ne (by omega), ma_ne (by omega), ma_ne (by omega), ma_ne (by omega), ma_ne (by omega), ma_ne (by omega)]
theorem mkMo_85 {X : Mem} {n a : Nat} {k wm vl ln ex dd : Int32} : mkMo X n a k wm vl ln ex dd 85 = upd (X 85) 0 0 := by
  unfold mkMo
  rw [ma_ne (by decide), ma_ne (by decide), ma_ne (by decide), ma_ne (by decide), ma_ne (by decide), ma_ne (by decide), ma_ne (by decide), ma_eq]
theorem mkC_o {X : Mem} {n a : Nat} {k wm vl ln ex dd : Int32} : oC (mkC X n a k wm vl ln ex dd) = (upd (X 7) n k, upd (X 8) n (nI a), upd (X 9) n wm, upd (X 10) n vl, upd (X 11) n ln, upd (X 12) n ex, upd (X 13) n (X 1 0 + dd), X 14, X 15, X 16) := rfl
theorem mkMo_o {X : Mem} {n a : Nat} {k wm vl ln ex dd : Int32} : oM (mkMo X n a k wm vl ln ex dd) = (upd (X 90) n k, upd (X 91) n (nI a), upd (X 92) n wm, upd (X 93) n vl, upd (X 94) n ln, upd (X 95) n ex, upd (X 96) n (X 85 1 + dd), X 97, X 98, X 99) := rfl
theorem mkC_6 {X : Mem} {n a : Nat} {k wm vl ln ex dd : Int32} : mkC X n a k wm vl ln ex dd 6 = upd (X 6) 0 (nI (n + 1)) := rfl
section PO
variable {X X1 X2 : Mem} {h D n Dd R : Nat} {dr : Nat → Nat} {PP : Nat → Nat → Nat} {Z : Nat → Nat} {Th : Nat → Prop} {r b : Int32}
theorem pr_made {Y : Mem} {a kk lb vb : Nat} {k wm vl ln ex dd rv : Int32} (hJ : JA X h D n Dd R dr PP Z Th) (hn : n < 50) (ha : a < h) (hk : kk < 3) (ek : k = nI kk) (hw0 : k = 0 → ∃ c, c < h ∧ wm = nI c) (hw1 : k ≠ 0 → ∃ c, c < 10 ∧ wm = nI c) (hl : lb ≤ 8) (el : ln = nI lb) (hv : vb < 256) (ev : vl = nI vb) (he1 : k = 1 → ∃ c, c ≤ 8 ∧ ex = nI c) (he2 : k = 2 → ∃ c, c < 1024 ∧ ex = nI c) (hr : rv = nI n) (hb : b = nI n)
    (eY : Y = ma (mkC X n a k wm vl ln ex dd) 14 (upd (mkC X n a k wm vl ln ex dd 14) n (sigS (oC (mkC X n a k wm vl ln ex dd)) n (mkC X n a k wm vl ln ex dd 3 a)))) (e1 : X1 = ma Y 116 (upd (Y 116) 0 rv))
    (e2 : X2 = ma (ma (mkMo X1 n a k wm vl ln ex dd) 97 (upd ((ma X1 85 (upd (X1 85) 0 (0 : Int32))) 97) n (sigS (oM (mkMo X1 n a k wm vl ln ex dd)) n (kyy (gM (mkMo X1 n a k wm vl ln ex dd)) (ix (isr (oM (mkMo X1 n a k wm vl ln ex dd)) n)))))) 85 (upd ((ma X1 85 (upd (X1 85) 0 (0 : Int32))) 85) 17 (nI (n + 1)))) : X2 85 0 = 0 ∧ X2 116 0 = b ∧ JJ X2 := by
  obtain ⟨⟨a1, a2, a3, a4, a5, a6, a7⟩, ⟨b1, b2, b3, b4, b5⟩, j3, j4, j5⟩ := hJ
  obtain ⟨c1, c2, c3, c4⟩ := gMC a7
  obtain ⟨d0, d1, d2, d3, d4, d5, d6, d7, d8, d9⟩ := oMC b4
  have h8 := a4.2.1
  have k0 : ∀ p, (p < 6 ∨ 14 < p) ∧ p ≠ 116 → X1 p = X p := fun p q => by rw [e1, ma_ne q.2, eY, ma_ne (by omega), mkC_ne (by omega)]
  have eOO : oM (mkMo X1 n a k wm vl ln ex dd) = oC (mkC X n a k wm vl ln ex dd) := by
    rw [mkMo_o, mkC_o, k0 90 (by omega), k0 91 (by omega), k0 92 (by omega), k0 93 (by omega), k0 94 (by omega), k0 95 (by omega), k0 96 (by omega), k0 97 (by omega), k0 98 (by omega), k0 99 (by omega), k0 85 (by omega), d0, d1, d2, d3, d4, d5, d6, d7, d8, d9, a5, a1]
  have eis : isr (oC (mkC X n a k wm vl ln ex dd)) n = nI a := by
    show upd (X 8) n (nI a) n = nI a
    exact upd_eq _ _ _
  have eky : kyy (gM (mkMo X1 n a k wm vl ln ex dd)) a = X 3 a := by
    show mkMo X1 n a k wm vl ln ex dd 87 a = X 3 a
    rw [mkMo_ne (by omega), k0 87 (by omega), c2]
  rw [eOO, eis, ix_nI (by omega), eky, ma_ne (by decide), ma_eq] at e2
  rw [mkC_ne (by decide : (3 : Nat) < 6 ∨ 13 < 3), mkC_ne (by decide : (14 : Nat) < 6 ∨ 13 < 14)] at eY
  generalize sigS (oC (mkC X n a k wm vl ln ex dd)) n (X 3 a) = sg at eY e2
  have kk : ∀ p, (p < 6 ∨ (14 < p ∧ p < 85) ∨ (85 < p ∧ p < 90) ∨ 97 < p) ∧ p ≠ 116 → X2 p = X p := fun p q => by rw [e2, ma_ne (by omega), ma_ne (by omega), mkMo_ne (by omega), k0 p (by omega)]
  have f2 : ∀ j, j ≠ 0 → j ≠ 17 → X2 85 j = X 85 j := fun j h1 h2 => by rw [e2, ma_eq, upd_ne h2, upd_ne h1, k0 85 (by decide)]
  have w1 : ∀ p, p < 15 → p ≠ 14 → X2 p = mkC X n a k wm vl ln ex dd p := fun p h1 h2 => by rw [e2, ma_ne (by omega), ma_ne (by omega), mkMo_ne (by omega), e1, ma_ne (by omega), eY, ma_ne h2]
  have r14 : X2 14 = upd (X 14) n sg := by rw [e2, ma_ne (by decide), ma_ne (by decide), mkMo_ne (by decide), e1, ma_ne (by decide), eY, ma_eq]
  have r97 : X2 97 = upd (X 14) n sg := by rw [e2, ma_ne (by decide), ma_eq, k0 97 (by decide), d7]
  have w2 : ∀ p, 89 < p → p < 97 → X2 p = mkMo X1 n a k wm vl ln ex dd p := fun p h1 h2 => by rw [e2, ma_ne (by omega), ma_ne (by omega)]
  have s7 : X2 7 = upd (X 7) n k := w1 7 (by decide) (by decide)
  have s8 : X2 8 = upd (X 8) n (nI a) := w1 8 (by decide) (by decide)
  have s9 : X2 9 = upd (X 9) n wm := w1 9 (by decide) (by decide)
  have s10 : X2 10 = upd (X 10) n vl := w1 10 (by decide) (by decide)
  have s11 : X2 11 = upd (X 11) n ln := w1 11 (by decide) (by decide)
  have s12 : X2 12 = upd (X 12) n ex := w1 12 (by decide) (by decide)
  have s13 : X2 13 = upd (X 13) n (X 1 0 + dd) := w1 13 (by decide) (by decide)
  have s6 : X2 6 = upd (X 6) 0 (nI (n + 1)) := w1 6 (by decide) (by decide)
  have eOO' := eOO
  unfold oM oC at eOO'
  simp only [Prod.mk.injEq] at eOO'
  obtain ⟨t0, t1, t2, t3, t4, t5, t6, -⟩ := eOO'
  refine ⟨by rw [e2, ma_eq, upd_ne (by decide), upd_eq], by rw [e2, ma_ne (by decide), ma_ne (by decide), mkMo_ne (by decide), e1, ma_eq, upd_eq, hr, hb], JA.jj (h := h) (n := n + 1) ⟨⟨by rw [kk 1 (by omega)]; exact a1, a2, by rw [kk 1 (by omega)]; exact a3, ?_, by rw [f2 1 (by decide) (by decide)]; exact a5, by rw [f2 5 (by decide) (by decide)]; exact a6, ?_⟩, ⟨by rw [s6, upd_eq], ?_, by rw [e2, ma_eq, upd_eq], ?_, fun o ho => ?_⟩, J3_k (by rw [kk 20 (by omega)]) (kk 21 (by omega)) (kk 100 (by omega)) (f2 19 (by decide) (by decide)) j3, J4_k (fun k _ => by rw [kk 20 (by omega)]) (fun p hp => kk p (by omega)) (f2 25 (by decide) (by decide)) j4, J5_k (fun p hp => kk p (by omega)) j5⟩⟩
  · show GInv (X2 2, X2 3, X2 4, X2 5) h
    rw [kk 2 (by omega), kk 3 (by omega), kk 4 (by omega), kk 5 (by omega)]
    exact a4
  · show (X2 86, X2 87, X2 88, X2 89) = (X2 2, X2 3, X2 4, X2 5)
    rw [kk 86 (by omega), kk 87 (by omega), kk 88 (by omega), kk 89 (by omega), kk 2 (by omega), kk 3 (by omega), kk 4 (by omega), kk 5 (by omega)]
    exact a7
  · show OInv (X2 7, X2 8, X2 9, X2 10, X2 11, X2 12, X2 13, X2 14, X2 15, X2 16) h (n + 1)
    rw [s7, s8, s9, s10, s11, s12, s13, r14, kk 15 (by omega), kk 16 (by omega)]
    exact OInv_add b2 hn ha hk ek hw0 hw1 hl el hv ev (b5 n (Nat.le_refl _)).1 (b5 n (Nat.le_refl _)).2 he1 he2
  · show (X2 90, X2 91, X2 92, X2 93, X2 94, X2 95, X2 96, X2 97, X2 98, X2 99) = (X2 7, X2 8, X2 9, X2 10, X2 11, X2 12, X2 13, X2 14, X2 15, X2 16)
    rw [w2 90 (by decide) (by decide), w2 91 (by decide) (by decide), w2 92 (by decide) (by decide), w2 93 (by decide) (by decide), w2 94 (by decide) (by decide), w2 95 (by decide) (by decide), w2 96 (by decide) (by decide), t0, t1, t2, t3, t4, t5, t6, w1 7 (by decide) (by decide), w1 8 (by decide) (by decide), w1 9 (by decide) (by decide), w1 10 (by decide) (by decide), w1 11 (by decide) (by decide), w1 12 (by decide) (by decide), w1 13 (by decide) (by decide), r97, r14, kk 98 (by omega), kk 99 (by omega), kk 15 (by omega), kk 16 (by omega), d8, d9]
  · rw [kk 15 (by omega), kk 16 (by omega)]
    exact b5 o (by omega)
theorem blk_n {v l : Int32} (hb : Blk v l) : (∃ a, a < 256 ∧ v = nI a) ∧ ∃ c, c ≤ 8 ∧ l = nI c := by
  obtain ⟨h1, h2, -⟩ := hb
  obtain ⟨a, ha, ea⟩ := Btw_of (n := 255) (by decide) h1
  obtain ⟨c, hc, ec⟩ := Btw_of (n := 8) (by decide) h2
  exact ⟨⟨a, ha, ea⟩, c, by omega, ec⟩
theorem pr_grant {is wm vl ln dd : Int32} (hJ : JA X h D n Dd R dr PP Z Th) (q1 : q_L_grant is wm vl ln dd X h n r X1) (q2 : q_X10_grant is wm vl ln dd X1 h n b X2) : X2 85 0 = r ∧ (r = 0 → X2 116 0 = b) ∧ JJ X2 := by
  refine pairC3 ne_OA ne_OS ne_AS Iff.rfl (fun _ => Iff.rfl) (fun _ => Iff.rfl) hJ q1 q2 (fun ⟨rv, Y, ⟨_, hA, _⟩, _⟩ => hA) (fun ⟨hA, _⟩ => hA) ?_
  rintro ⟨rv, Y, ⟨hr, ⟨⟨hi, hw⟩, hB, hn⟩, a, ha, ea, eY⟩, e1⟩ ⟨-, hb, a', ha', ea', e2⟩
  obtain ⟨-, -, -, h8, h1⟩ := hJ.on
  have := nIu (m := 50) (by decide) (by omega) (by omega) (ea.symm.trans ea')
  subst this
  obtain ⟨⟨vb, hv, ev⟩, lb, hl, el⟩ := blk_n hB.1
  obtain ⟨c, hc, ec⟩ := Btw_hd h1 (by omega) hw
  exact pr_made (kk := 0) (k := 0) (ex := 0) hJ hn ha (by decide) rfl (fun _ => ⟨c, hc, ec⟩) (fun q => absurd rfl q) hl el hv ev (fun q => absurd q (by decide)) (fun q => absurd q (by decide)) hr hb eY e1 e2
theorem pr_origin {is wm vl ln mo dd : Int32} (hJ : JA X h D n Dd R dr PP Z Th) (q1 : q_L_origin is wm vl ln mo dd X h n r X1) (q2 : q_X10_origin is wm vl ln mo dd X1 h n b X2) : X2 85 0 = r ∧ (r = 0 → X2 116 0 = b) ∧ JJ X2 := by
  refine pairC3 ne_OA ne_OS ne_AS Iff.rfl (fun _ => Iff.rfl) (fun _ => Iff.rfl) hJ q1 q2 (fun ⟨rv, Y, ⟨_, hA, _⟩, _⟩ => hA) (fun ⟨hA, _⟩ => hA) ?_
  rintro ⟨rv, Y, ⟨hr, ⟨⟨hi, hw⟩, hB, hn⟩, a, ha, ea, eY⟩, e1⟩ ⟨-, hb, a', ha', ea', e2⟩
  obtain ⟨-, -, -, h8, h1⟩ := hJ.on
  have := nIu (m := 50) (by decide) (by omega) (by omega) (ea.symm.trans ea')
  subst this
  obtain ⟨⟨vb, hv, ev⟩, lb, hl, el⟩ := blk_n hB.1
  obtain ⟨c, hc, ec⟩ := net_at hw
  obtain ⟨m, hm, em⟩ := Btw_of (n := 8) (by decide) hB.2.1
  exact pr_made (kk := 1) (k := 1) (ex := mo) hJ hn ha (by decide) rfl (fun q => absurd q (by decide)) (fun _ => ⟨c, hc, ec⟩) hl el hv ev (fun _ => ⟨m, by omega, em⟩) (fun q => absurd q (by decide)) hr hb eY e1 e2
theorem pr_vouch {is wm pv dd : Int32} (hJ : JA X h D n Dd R dr PP Z Th) (q1 : q_L_vouch is wm pv dd X h n r X1) (q2 : q_X10_vouch is wm pv dd X1 h n b X2) : X2 85 0 = r ∧ (r = 0 → X2 116 0 = b) ∧ JJ X2 := by
  refine pairC3 ne_OA ne_OS ne_AS Iff.rfl (fun _ => Iff.rfl) (fun _ => Iff.rfl) hJ q1 q2 (fun ⟨rv, Y, ⟨_, hA, _⟩, _⟩ => hA) (fun ⟨hA, _⟩ => hA) ?_
  rintro ⟨rv, Y, ⟨hr, ⟨⟨hi, hw⟩, hB, hn⟩, a, ha, ea, eY⟩, e1⟩ ⟨-, hb, a', ha', ea', e2⟩
  obtain ⟨-, -, -, h8, h1⟩ := hJ.on
  have := nIu (m := 50) (by decide) (by omega) (by omega) (ea.symm.trans ea')
  subst this
  obtain ⟨c, hc, ec⟩ := net_at hw
  obtain ⟨m, hm, em⟩ := Btw_of (n := 1023) (by decide) hB.1
  exact pr_made (kk := 2) (k := 2) (vl := 0) (ln := 0) (ex := pv) hJ hn ha (by decide) rfl (fun q => absurd q (by decide)) (fun _ => ⟨c, hc, ec⟩) (Nat.zero_le 8) rfl (by decide : 0 < 256) rfl (fun q => absurd q (by decide)) (fun _ => ⟨m, hm, em⟩) hr hb eY e1 e2
theorem pr_revoke {v : Int32} (hJ : JA X h D n Dd R dr PP Z Th) (q1 : q_L_revoke v X n r X1) (q2 : q_X10_revoke v X1 n b X2) : X2 85 0 = r ∧ (r = 0 → X2 116 0 = if b = 0 then 0 else 1) ∧ JJ X2 := by
  refine pairC1 Iff.rfl hJ q1 q2 (fun ⟨rv, Y, ⟨hA, _⟩, _⟩ => hA) (fun ⟨hA, _⟩ => hA) ?_
  rintro ⟨rv, Y, ⟨-, o, ho, eo, hr, eY⟩, e1⟩ ⟨-, o', ho', eo', hb, e2⟩
  obtain ⟨j1, ⟨b1, b2, b3, b4, b5⟩, j3, j4, j5⟩ := hJ
  obtain ⟨d0, d1, d2, d3, d4, d5, d6, d7, d8, d9⟩ := oMC b4
  have n50 := b2.1
  have := nIu (m := 50) (by decide) (by omega) (by omega) (eo.symm.trans eo')
  subst this
  have k1 : ∀ p, p ≠ 15 → p ≠ 116 → X1 p = X p := fun p h1 h4 => by rw [e1, eY, ma_ne h4, ma_ne h1]
  have k2 : ∀ p, p ≠ 85 → p ≠ 98 → X2 p = X1 p := fun p h1 h2 => by rw [e2, ma_ne h2, ma_ne h1]
  have f2 : ∀ k, k ≠ 0 → X2 85 k = X 85 k := fun k h1 => by rw [e2, ma_ne (by decide), ma_eq, upd_ne h1, k1 85 (by decide) (by decide)]
  have kk : ∀ p, (p ≠ 15 ∧ p ≠ 116) ∧ p ≠ 85 ∧ p ≠ 98 → X2 p = X p := fun p q => (k2 p q.2.1 q.2.2).trans (k1 p q.1.1 q.1.2)
  have r15 : X2 15 = upd (X 15) o 1 := by rw [k2 15 (by decide) (by decide), e1, ma_ne (by decide), eY, ma_eq]
  have r98 : X2 98 = upd (X 15) o 1 := by rw [e2, ma_eq, k1 98 (by decide) (by decide), d8]
  rw [k1 98 (by decide) (by decide), d8] at hb
  have erb : rv = b := hr.same hb Iff.rfl
  refine ⟨by rw [e2, ma_ne (by decide), ma_eq, upd_eq], by rw [k2 116 (by decide) (by decide), e1, ma_eq, upd_eq, erb], JA.jj (n := n) ⟨J1_k (fun p hp => kk p (by omega)) (fun k hk => f2 k (by omega)) j1, ⟨by rw [kk 6 (by omega)]; exact b1, ?_, by rw [f2 17 (by decide)]; exact b3, ?_, fun x hx => ?_⟩, J3_k (by rw [kk 20 (by omega)]) (kk 21 (by omega)) (kk 100 (by omega)) (f2 19 (by decide)) j3, J4_k (fun k _ => by rw [kk 20 (by omega)]) (fun p hp => kk p (by omega)) (f2 25 (by decide)) j4, J5_k (fun p hp => kk p (by omega)) j5⟩⟩
  · show OInv (X2 7, X2 8, X2 9, X2 10, X2 11, X2 12, X2 13, X2 14, X2 15, X2 16) h n
    rw [kk 7 (by omega), kk 8 (by omega), kk 9 (by omega), kk 10 (by omega), kk 11 (by omega), kk 12 (by omega), kk 13 (by omega), kk 14 (by omega), r15, kk 16 (by omega)]
    exact OInv_rvk b2
  · show (X2 90, X2 91, X2 92, X2 93, X2 94, X2 95, X2 96, X2 97, X2 98, X2 99) = (X2 7, X2 8, X2 9, X2 10, X2 11, X2 12, X2 13, X2 14, X2 15, X2 16)
    rw [r98, r15, kk 7 (by omega), kk 8 (by omega), kk 9 (by omega), kk 10 (by omega), kk 11 (by omega), kk 12 (by omega), kk 13 (by omega), kk 14 (by omega), kk 16 (by omega), kk 90 (by omega), kk 91 (by omega), kk 92 (by omega), kk 93 (by omega), kk 94 (by omega), kk 95 (by omega), kk 96 (by omega), kk 97 (by omega), kk 99 (by omega), d0, d1, d2, d3, d4, d5, d6, d7, d9]
  · rw [r15, kk 16 (by omega), upd_ne (by omega)]
    exact b5 x hx
theorem pr_alter {v ex : Int32} (hJ : JA X h D n Dd R dr PP Z Th) (q1 : q_L_alter v ex X h n r X1) (q2 : q_X10_alter v ex X1 n b X2) (kM : KM X X1) : X2 85 0 = r ∧ (r = 0 → X2 116 0 = b) ∧ JJ X2 := by
  have c0 : X1 90 = X 7 := (kM 90 (by omega) (by omega)).trans (oMC hJ.2.1.2.2.2.1).1
  have n50 := hJ.2.1.2.1.1
  refine pairC3 ne_OS ne_OA ne_SA Iff.rfl (fun _ => by rw [c0]) (fun _ => by rw [c0]) hJ q1 q2 (fun ⟨rv, Y, ⟨hA, o, h1, h2, h3, _⟩, _⟩ => ⟨hA, fun x g1 g2 => ?_, fun x g1 g2 => ?_⟩) (fun ⟨hA, _⟩ => hA) ?_
  · have := nIu (m := 50) (by decide) (by omega) (by omega) (h2.symm.trans g2)
    subst this
    exact h3.1
  · have := nIu (m := 50) (by decide) (by omega) (by omega) (h2.symm.trans g2)
    subst this
    exact h3.2
  rintro ⟨rv, Y, ⟨-, o, ho, eo, ⟨-, hbt⟩, hr, eY⟩, e1⟩ ⟨-, o', ho', eo', hb, e2⟩
  obtain ⟨j1, ⟨b1, b2, b3, b4, b5⟩, j3, j4, j5⟩ := hJ
  obtain ⟨d0, d1, d2, d3, d4, d5, d6, d7, d8, d9⟩ := oMC b4
  have := nIu (m := 50) (by decide) (by omega) (by omega) (eo.symm.trans eo')
  subst this
  have k1 : ∀ p, p ≠ 12 → p ≠ 116 → X1 p = X p := fun p h1 h4 => by rw [e1, eY, ma_ne h4, ma_ne h1]
  have k2 : ∀ p, p ≠ 85 → p ≠ 95 → X2 p = X1 p := fun p h1 h2 => by rw [e2, ma_ne h2, ma_ne h1]
  have f2 : ∀ k, k ≠ 0 → X2 85 k = X 85 k := fun k h1 => by rw [e2, ma_ne (by decide), ma_eq, upd_ne h1, k1 85 (by decide) (by decide)]
  have kk : ∀ p, (p ≠ 12 ∧ p ≠ 116) ∧ p ≠ 85 ∧ p ≠ 95 → X2 p = X p := fun p q => (k2 p q.2.1 q.2.2).trans (k1 p q.1.1 q.1.2)
  have r12 : X2 12 = upd (X 12) o ex := by rw [k2 12 (by decide) (by decide), e1, ma_ne (by decide), eY, ma_eq]
  have r95 : X2 95 = upd (X 12) o ex := by rw [e2, ma_eq, k1 95 (by decide) (by decide), d5]
  refine ⟨by rw [e2, ma_ne (by decide), ma_eq, upd_eq], by rw [k2 116 (by decide) (by decide), e1, ma_eq, upd_eq, hr, hb, k1 95 (by decide) (by decide), d5], JA.jj (n := n) ⟨J1_k (fun p hp => kk p (by omega)) (fun k hk => f2 k (by omega)) j1, ⟨by rw [kk 6 (by omega)]; exact b1, ?_, by rw [f2 17 (by decide)]; exact b3, ?_, fun x hx => ?_⟩, J3_k (by rw [kk 20 (by omega)]) (kk 21 (by omega)) (kk 100 (by omega)) (f2 19 (by decide)) j3, J4_k (fun k _ => by rw [kk 20 (by omega)]) (fun p hp => kk p (by omega)) (f2 25 (by decide)) j4, J5_k (fun p hp => kk p (by omega)) j5⟩⟩
  · show OInv (X2 7, X2 8, X2 9, X2 10, X2 11, X2 12, X2 13, X2 14, X2 15, X2 16) h n
    rw [kk 7 (by omega), kk 8 (by omega), kk 9 (by omega), kk 10 (by omega), kk 11 (by omega), r12, kk 13 (by omega), kk 14 (by omega), kk 15 (by omega), kk 16 (by omega)]
    refine OInv_ext b2 (fun q => ?_) (fun q => ?_)
    · rw [if_pos q] at hbt
      obtain ⟨c, h1, h2⟩ := Btw_of (n := 8) (by decide) hbt
      exact ⟨c, by omega, h2⟩
    · rw [if_neg (by rw [q]; decide)] at hbt
      exact Btw_of (n := 1023) (by decide) hbt
  · show (X2 90, X2 91, X2 92, X2 93, X2 94, X2 95, X2 96, X2 97, X2 98, X2 99) = (X2 7, X2 8, X2 9, X2 10, X2 11, X2 12, X2 13, X2 14, X2 15, X2 16)
    rw [r95, r12, kk 7 (by omega), kk 8 (by omega), kk 9 (by omega), kk 10 (by omega), kk 11 (by omega), kk 13 (by omega), kk 14 (by omega), kk 15 (by omega), kk 16 (by omega), kk 90 (by omega), kk 91 (by omega), kk 92 (by omega), kk 93 (by omega), kk 94 (by omega), kk 96 (by omega), kk 97 (by omega), kk 98 (by omega), kk 99 (by omega), d0, d1, d2, d3, d4, d6, d7, d8, d9]
  · rw [kk 15 (by omega), kk 16 (by omega)]
    exact b5 x hx
theorem pr_sign {v : Int32} (hJ : JA X h D n Dd R dr PP Z Th) (q1 : q_L_sign v X h n r X1) (q2 : q_X10_sign v X1 h n b X2) (kM : KM X X1) : X2 85 0 = r ∧ (r = 0 → X2 116 0 = b) ∧ JJ X2 := by
  refine pairC1 Iff.rfl hJ q1 q2 (fun ⟨rv, Y, ⟨hA, _⟩, _⟩ => hA) (fun ⟨hA, _⟩ => hA) ?_
  rintro ⟨rv, Y, ⟨-, o, a, ho, ha, eo, ea, hr, eY⟩, e1⟩ ⟨-, o', ho', eo', hb, e2⟩
  obtain ⟨eO, eG, -, -⟩ := hJ.eqs kM
  have n50 := hJ.2.1.2.1.1
  have h8 := hJ.1.2.2.2.1.2.1
  obtain ⟨j1, ⟨b1, b2, b3, b4, b5⟩, j3, j4, j5⟩ := hJ
  obtain ⟨d0, d1, d2, d3, d4, d5, d6, d7, d8, d9⟩ := oMC b4
  have := nIu (m := 50) (by decide) (by omega) (by omega) (eo.symm.trans eo')
  subst this
  have ea3 : isr (oC X) o = nI a := ea
  have es : sigS (oM (ma X1 85 (upd (X1 85) 0 (0 : Int32)))) o (kyy (gM (ma X1 85 (upd (X1 85) 0 (0 : Int32)))) (ix (isr (oM (ma X1 85 (upd (X1 85) 0 (0 : Int32)))) o))) = sigS (oC X) o (X 3 a) := by
    rw [oM_ma (by decide), gM_ma (by decide), eO, eG, ea3, ix_nI (by omega)]
    rfl
  rw [es] at hb e2
  generalize sigS (oC X) o (X 3 a) = sg at hr eY hb e2
  have k1 : ∀ p, p ≠ 14 → p ≠ 116 → X1 p = X p := fun p h1 h4 => by rw [e1, eY, ma_ne h4, ma_ne h1]
  have k2 : ∀ p, p ≠ 85 → p ≠ 97 → X2 p = X1 p := fun p h1 h2 => by rw [e2, ma_ne h2, ma_ne h1]
  have f2 : ∀ k, k ≠ 0 → X2 85 k = X 85 k := fun k h1 => by rw [e2, ma_ne (by decide), ma_eq, upd_ne h1, k1 85 (by decide) (by decide)]
  have kk : ∀ p, (p ≠ 14 ∧ p ≠ 116) ∧ p ≠ 85 ∧ p ≠ 97 → X2 p = X p := fun p q => (k2 p q.2.1 q.2.2).trans (k1 p q.1.1 q.1.2)
  have r14 : X2 14 = upd (X 14) o sg := by rw [k2 14 (by decide) (by decide), e1, ma_ne (by decide), eY, ma_eq]
  have r97 : X2 97 = upd (X 14) o sg := by rw [e2, ma_eq, k1 97 (by decide) (by decide), d7]
  refine ⟨by rw [e2, ma_ne (by decide), ma_eq, upd_eq], by rw [k2 116 (by decide) (by decide), e1, ma_eq, upd_eq, hr, hb], JA.jj (n := n) ⟨J1_k (fun p hp => kk p (by omega)) (fun k hk => f2 k (by omega)) j1, ⟨by rw [kk 6 (by omega)]; exact b1, ?_, by rw [f2 17 (by decide)]; exact b3, ?_, fun x hx => ?_⟩, J3_k (by rw [kk 20 (by omega)]) (kk 21 (by omega)) (kk 100 (by omega)) (f2 19 (by decide)) j3, J4_k (fun k _ => by rw [kk 20 (by omega)]) (fun p hp => kk p (by omega)) (f2 25 (by decide)) j4, J5_k (fun p hp => kk p (by omega)) j5⟩⟩
  · show OInv (X2 7, X2 8, X2 9, X2 10, X2 11, X2 12, X2 13, X2 14, X2 15, X2 16) h n
    rw [kk 7 (by omega), kk 8 (by omega), kk 9 (by omega), kk 10 (by omega), kk 11 (by omega), kk 12 (by omega), kk 13 (by omega), r14, kk 15 (by omega), kk 16 (by omega)]
    exact OInv_sgn b2
  · show (X2 90, X2 91, X2 92, X2 93, X2 94, X2 95, X2 96, X2 97, X2 98, X2 99) = (X2 7, X2 8, X2 9, X2 10, X2 11, X2 12, X2 13, X2 14, X2 15, X2 16)
    rw [r97, r14, kk 7 (by omega), kk 8 (by omega), kk 9 (by omega), kk 10 (by omega), kk 11 (by omega), kk 12 (by omega), kk 13 (by omega), kk 15 (by omega), kk 16 (by omega), kk 90 (by omega), kk 91 (by omega), kk 92 (by omega), kk 93 (by omega), kk 94 (by omega), kk 95 (by omega), kk 96 (by omega), kk 98 (by omega), kk 99 (by omega), d0, d1, d2, d3, d4, d5, d6, d8, d9]
  · rw [kk 15 (by omega), kk 16 (by omega)]
    exact b5 x hx
end PO
