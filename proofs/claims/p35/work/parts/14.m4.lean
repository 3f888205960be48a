def q_X9_isIn (S : Nat) (a : Nat) (X : Mem) : Int32 → Mem → Prop := fun r X' => bI (S.testBit a = true) r ∧ X' = X
set_option maxHeartbeats 4000000 in
set_option maxRecDepth 100000 in
theorem k_X9_isIn (w : Wt) (l : Launch) (S : Nat) (a : Nat) (X : Mem) (hS : S < 1024) (ha : a < 31) : CtI w l yX9_isIn cX9_isIn 2 (some .boolean) 1 20 [.int (nI S), .int (nI a)] X (q_X9_isIn S a X) := by
  refine CtI_of (by decide +kernel) (Nat.le_of_ble_eq_true rfl) (List.forall_mem_cons.mpr ⟨rfl, (List.forall_mem_cons.mpr ⟨rfl, (fun _ h => nomatch h)⟩)⟩) (ls := [some (.int (nI S)), some (.int (nI a))]) rfl (args := (#[.int (nI S), .int (nI a)] : Array Value)) rfl (own := RX9) rfl ?_
  intro p e s m below meth c C
  refine V_iload_n C dX9_isIn_0 rfl ?_
  refine V_iload_n C dX9_isIn_1 rfl ?_
  refine V_ishr C dX9_isIn_2 ?_
  refine V_iconst (v := (1 : Int32)) C dX9_isIn_3 (by decide) ?_
  refine V_iand C dX9_isIn_4 ?_
  refine V_iconst (v := (1 : Int32)) C dX9_isIn_5 (by decide) ?_
  refine V_icmp_ne (x := ((nI S) >>> ((nI a) &&& 31)) &&& (1 : Int32)) (y := (1 : Int32)) (tgt := 13) C dX9_isIn_6 (by decide) (fun h6_1 => ?_) (fun h6_1 => ?_)
  · refine V_iconst (v := (0 : Int32)) C dX9_isIn_13 (by decide) ?_
    exact V_zreturnI C dX9_isIn_14 (Or.inl rfl) ⟨bI.f (fun q => absurd ((bit_in (by omega) (by omega)).mpr q) (by assumption)), rfl⟩
  · refine V_iconst (v := (1 : Int32)) C dX9_isIn_9 (by decide) ?_
    refine V_goto (tgt := 14) C dX9_isIn_10 (by decide) ?_
    exact V_zreturnI C dX9_isIn_14 (Or.inr rfl) ⟨bI.t ((bit_in (by omega) (by omega)).mp (by assumption)), rfl⟩
def q_X6_runsRound (a : Nat) (z : Nat) (X : Mem) (N : Nat) (P : Nat → Nat) : Int32 → Mem → Prop := fun r X' => bI (Rnd P z) r ∧ X' = X
set_option maxHeartbeats 4000000 in
set_option maxRecDepth 100000 in
theorem k_X6_runsRound (w : Wt) (l : Launch) (a : Nat) (z : Nat) (X : Mem) (N : Nat) (P : Nat → Nat) (hsh : sh a = .inl (0, N)) (hN : N ≤ 256) (ha : a < 92) (hP : PA X a P z) (hzN : z ≤ N) : CtI w l yX6_runsRound cX6_runsRound 4 (some .boolean) 2 41 [.ref (w.2.1 a), .int (nI z)] X (q_X6_runsRound a z X N P) := by
  refine CtI_of (by decide +kernel) (Nat.le_of_ble_eq_true rfl) (List.forall_mem_cons.mpr ⟨rfl, (List.forall_mem_cons.mpr ⟨rfl, (fun _ h => nomatch h)⟩)⟩) (ls := [some (.ref (w.2.1 a)), some (.int (nI z)), none, none]) rfl (args := (#[.ref (w.2.1 a), .int (nI z)] : Array Value)) rfl (own := RX6) rfl ?_
  intro p e s m below meth c C
  refine V_iconst (v := (0 : Int32)) C dX6_runsRound_0 (by decide) ?_
  refine V_istore_n (ls1 := [some (.ref (w.2.1 a)), some (.int (nI z)), some (.int (0 : Int32)), none]) C dX6_runsRound_1 (by decide) rfl ?_
  refine V_iconst (v := (0 : Int32)) C dX6_runsRound_2 (by decide) ?_
  refine V_istore_n (ls1 := [some (.ref (w.2.1 a)), some (.int (nI z)), some (.int (0 : Int32)), some (.int (0 : Int32))]) C dX6_runsRound_3 (by decide) rfl ?_
  have L4 : ∀ (fu : Nat) (i : Nat) (S : Nat), z - i < fu → (i ≤ z) → (Seen P i S) → (¬ Rnd P i) → V p l e ({ frames := 2, cells := 0, slots := 0, locals := 41 } : Room) s m (#[.ref (w.2.1 a), .int (nI z)] : Array Value) below meth c w 4 0 0 (EI w below s (#[.ref (w.2.1 a), .int (nI z)] : Array Value) 0 0 (q_X6_runsRound a z X N P)) 4 [some (.ref (w.2.1 a)), some (.int (nI z)), some (.int (nI S)), some (.int (nI i))] [] X := by
    intro fu
    induction fu with
    | zero => intro i S hm; exact absurd hm (Nat.not_lt_zero _)
    | succ fu ih4 =>
      intro i S hm4 hi hS hr
      have hS1 := hS.1
      refine V_iload_n C dX6_runsRound_4 rfl ?_
      refine V_iload_n C dX6_runsRound_5 rfl ?_
      refine V_icmp_geN (a := i) (b := z) (tgt := 35) C dX6_runsRound_6 (by decide) (by omega) (by omega) (fun h6_1 => ?_) (fun h6_1 => ?_)
      · refine V_iconst (v := (0 : Int32)) C dX6_runsRound_35 (by decide) ?_
        exact V_zreturnI C dX6_runsRound_36 (Or.inl rfl) ⟨bI.f (fun q => hr (Rnd_mono (by omega) q)), rfl⟩
      · refine V_iload_n C dX6_runsRound_9 rfl ?_
        refine V_aload_n C dX6_runsRound_10 rfl ?_
        refine V_iload_n C dX6_runsRound_11 rfl ?_
        refine V_ialdN (p0 := a) (o := i) (v := X a i) C dX6_runsRound_12 hsh ha (by omega) hN rfl ?_
        have hq2 : P i < 10 := (hP i (by omega)).2
        refine V_eqi (y := nI (P i)) ((hP i (by omega)).1) ?_
        refine V_callSI C [.int (nI S), .int (nI (P i))] ms_X6_47 (k_X9_isIn w l S (P i) X (by omega) (by omega)) dX6_runsRound_13 rfl rfl (Nat.le_of_ble_eq_true rfl) (Nat.le_of_ble_eq_true rfl) (Nat.le_of_ble_eq_true rfl) ⟨Nat.le_refl _, Nat.le_refl _⟩ (fun v3 X3 q3 => ?_)
        obtain ⟨hb3, eX3⟩ := q3; subst X3
        refine V_if_eqB (tgt := 21) C hb3 dX6_runsRound_16 (by decide) (fun h16_4 => ?_) (fun h16_4 => ?_)
        · refine V_iload_n C dX6_runsRound_21 rfl ?_
          refine V_iconst (v := (1 : Int32)) C dX6_runsRound_22 (by decide) ?_
          refine V_aload_n C dX6_runsRound_23 rfl ?_
          refine V_iload_n C dX6_runsRound_24 rfl ?_
          refine V_ialdN (p0 := a) (o := i) (v := X a i) C dX6_runsRound_25 hsh ha (by omega) hN rfl ?_
          have hq5 : P i < 10 := (hP i (by omega)).2
          refine V_eqi (y := nI (P i)) ((hP i (by omega)).1) ?_
          refine V_ishl C dX6_runsRound_26 ?_
          refine V_eqi (y := nI (2 ^ (P i))) (shl1 (by omega)) ?_
          refine V_ior C dX6_runsRound_27 ?_
          refine V_eqi (y := nI (S ||| (2 ^ (P i)))) (nI_or _ _) ?_
          refine V_istore_n (ls1 := [some (.ref (w.2.1 a)), some (.int (nI z)), some (.int (nI (S ||| (2 ^ (P i))))), some (.int (nI i))]) C dX6_runsRound_28 (by decide) rfl ?_
          refine V_iincN (a := i) (ls1 := [some (.ref (w.2.1 a)), some (.int (nI z)), some (.int (nI (S ||| (2 ^ (P i))))), some (.int (nI (i + 1)))]) C dX6_runsRound_29 rfl (by decide) rfl ?_
          refine V_goto (tgt := 4) C dX6_runsRound_32 (by decide) ?_
          exact ih4 (i + 1) (S ||| (2 ^ (P i))) (by omega) (by omega) (Seen_succ hS (by assumption)) (fun q => (Rnd_succ.mp q).elim hr (fun q => absurd ((hS.2 _).mpr q) (by assumption)))
        · refine V_iconst (v := (1 : Int32)) C dX6_runsRound_19 (by decide) ?_
          exact V_zreturnI C dX6_runsRound_20 (Or.inr rfl) ⟨bI.t (Rnd_mono (by omega) (Rnd_succ.mpr (Or.inr ((hS.2 _).mp (by assumption))))), rfl⟩
  exact L4 _ 0 0 (Nat.lt_succ_self _) (by omega) Seen_0 (fun ⟨_, _, h1, h2, _⟩ => absurd h2 (Nat.not_lt_zero _))
def q_X3_netsUp (a : Nat) (z : Nat) (q : Nat) (X : Mem) (N : Nat) (P : Nat → Nat) : Int32 → Mem → Prop := fun v X' => (∃ r, v = nI r ∧ NU (Gs (X q)) P z r) ∧ X' = X
set_option maxHeartbeats 4000000 in
set_option maxRecDepth 100000 in
theorem k_X3_netsUp (w : Wt) (l : Launch) (a : Nat) (z : Nat) (q : Nat) (X : Mem) (N : Nat) (P : Nat → Nat) (hsh : sh a = .inl (0, N)) (hN : N ≤ 256) (ha : a < 92) (hP : PA X a P z) (hzN : z ≤ N) (hshq : sh q = .inl (0, 10)) (hq : q < 92) (hPV : PVInv (X q)) (hz : 1 ≤ z) : CtI w l yX3_netsUp cX3_netsUp 4 (some .int) 2 41 [.ref (w.2.1 a), .int (nI z), .ref (w.2.1 q)] X (q_X3_netsUp a z q X N P) := by
  refine CtI_of (by decide +kernel) (Nat.le_of_ble_eq_true rfl) (List.forall_mem_cons.mpr ⟨rfl, (List.forall_mem_cons.mpr ⟨rfl, (List.forall_mem_cons.mpr ⟨rfl, (fun _ h => nomatch h)⟩)⟩)⟩) (ls := [some (.ref (w.2.1 a)), some (.int (nI z)), some (.ref (w.2.1 q)), none]) rfl (args := (#[.ref (w.2.1 a), .int (nI z), .ref (w.2.1 q)] : Array Value)) rfl (own := RX3) rfl ?_
  intro p e s m below meth c C
  refine V_iconst (v := (1 : Int32)) C dX3_netsUp_0 (by decide) ?_
  refine V_istore_n (ls1 := [some (.ref (w.2.1 a)), some (.int (nI z)), some (.ref (w.2.1 q)), some (.int (1 : Int32))]) C dX3_netsUp_1 (by decide) rfl ?_
  have L2 : ∀ (fu : Nat) (r : Nat), z - r < fu → (1 ≤ r) → (r ≤ z) → (∀ k, 1 ≤ k → k < r → Gs (X q) (P (k - 1)) (P k)) → V p l e ({ frames := 2, cells := 0, slots := 0, locals := 41 } : Room) s m (#[.ref (w.2.1 a), .int (nI z), .ref (w.2.1 q)] : Array Value) below meth c w 4 0 0 (EI w below s (#[.ref (w.2.1 a), .int (nI z), .ref (w.2.1 q)] : Array Value) 0 0 (q_X3_netsUp a z q X N P)) 2 [some (.ref (w.2.1 a)), some (.int (nI z)), some (.ref (w.2.1 q)), some (.int (nI r))] [] X := by
    intro fu
    induction fu with
    | zero => intro r hm; exact absurd hm (Nat.not_lt_zero _)
    | succ fu ih2 =>
      intro r hm2 h1 h2 hg
      refine V_iload_n C dX3_netsUp_2 rfl ?_
      refine V_iload_n C dX3_netsUp_3 rfl ?_
      refine V_icmp_geN (a := r) (b := z) (tgt := 29) C dX3_netsUp_4 (by decide) (by omega) (by omega) (fun h4_1 => ?_) (fun h4_1 => ?_)
      · refine V_iload_n C dX3_netsUp_29 rfl ?_
        exact V_ireturnI C dX3_netsUp_30 (by first | exact ⟨⟨r, rfl, h1, h2, hg, fun h => absurd h (by omega)⟩, rfl⟩ | exact ⟨⟨r, rfl, h1, h2, hg, fun h => by exact fun q => absurd ((Gs_of eNone (by omega)).mp q) (by assumption)⟩, rfl⟩)
      · refine V_aload_n C dX3_netsUp_7 rfl ?_
        refine V_aload_n C dX3_netsUp_8 rfl ?_
        refine V_iload_n C dX3_netsUp_9 rfl ?_
        refine V_iconst (v := (1 : Int32)) C dX3_netsUp_10 (by decide) ?_
        refine V_isubN (a := r) (b := 1) C dX3_netsUp_11 (by omega) ?_
        refine V_ialdN (p0 := a) (o := r - 1) (v := X a (r - 1)) C dX3_netsUp_12 hsh ha (by omega) hN rfl ?_
        have hq2 : P (r - 1) < 10 := (hP (r - 1) (by omega)).2
        refine V_eqi (y := nI (P (r - 1))) ((hP (r - 1) (by omega)).1) ?_
        refine V_ialdN (p0 := q) (o := P (r - 1)) (v := X q (P (r - 1))) C dX3_netsUp_13 hshq hq (by omega) (by decide) rfl ?_
        obtain ⟨a3, ha3, ea3⟩ := hPV (P (r - 1)) (by omega)
        have ia3 : ix (nI a3) = a3 := ix_nI (by omega)
        refine V_eqi ea3 ?_
        refine V_aload_n C dX3_netsUp_14 rfl ?_
        refine V_iload_n C dX3_netsUp_15 rfl ?_
        refine V_ialdN (p0 := a) (o := r) (v := X a r) C dX3_netsUp_16 hsh ha (by omega) hN rfl ?_
        have hq4 : P r < 10 := (hP r (by omega)).2
        refine V_eqi (y := nI (P r)) ((hP r (by omega)).1) ?_
        refine V_callSI C [.int (nI a3), .int (nI (P r))] ms_X3_48 (k_X9_isIn w l a3 (P r) X (by omega) (by omega)) dX3_netsUp_17 rfl rfl (Nat.le_of_ble_eq_true rfl) (Nat.le_of_ble_eq_true rfl) (Nat.le_of_ble_eq_true rfl) ⟨Nat.le_refl _, Nat.le_refl _⟩ (fun v5 X5 q5 => ?_)
        obtain ⟨hb5, eX5⟩ := q5; subst X5
        refine V_if_eqB (tgt := 29) C hb5 dX3_netsUp_20 (by decide) (fun h20_6 => ?_) (fun h20_6 => ?_)
        · refine V_iload_n C dX3_netsUp_29 rfl ?_
          exact V_ireturnI C dX3_netsUp_30 (by first | exact ⟨⟨r, rfl, h1, h2, hg, fun h => absurd h (by omega)⟩, rfl⟩ | exact ⟨⟨r, rfl, h1, h2, hg, fun h => by exact fun q => absurd ((Gs_of ea3 (by omega)).mp q) (by assumption)⟩, rfl⟩)
        · refine V_iincN (a := r) (ls1 := [some (.ref (w.2.1 a)), some (.int (nI z)), some (.ref (w.2.1 q)), some (.int (nI (r + 1)))]) C dX3_netsUp_23 rfl (by decide) rfl ?_
          refine V_goto (tgt := 2) C dX3_netsUp_26 (by decide) ?_
          exact ih2 (r + 1) (by omega) (by omega) (by omega) (by intro k g1 g2; rcases lt_succ_or.mp g2 with g2 | rfl; exact hg k g1 g2; exact (Gs_of ea3 (by omega)).mpr (by assumption))
  exact L2 _ 1 (Nat.lt_succ_self _) (by omega) (by omega) (fun k h1 h2 => absurd h2 (by omega))
def q_X3_netsBack (a : Nat) (z : Nat) (q : Nat) (X : Mem) (N : Nat) (P : Nat → Nat) : Int32 → Mem → Prop := fun v X' => (∃ r, v = nI r ∧ NU (Gs (X q)) (rev P z) z r) ∧ X' = X
set_option maxHeartbeats 4000000 in
set_option maxRecDepth 100000 in
theorem k_X3_netsBack (w : Wt) (l : Launch) (a : Nat) (z : Nat) (q : Nat) (X : Mem) (N : Nat) (P : Nat → Nat) (hsh : sh a = .inl (0, N)) (hN : N ≤ 256) (ha : a < 92) (hP : PA X a P z) (hzN : z ≤ N) (hshq : sh q = .inl (0, 10)) (hq : q < 92) (hPV : PVInv (X q)) (hz : 1 ≤ z) : CtI w l yX3_netsBack cX3_netsBack 4 (some .int) 2 41 [.ref (w.2.1 a), .int (nI z), .ref (w.2.1 q)] X (q_X3_netsBack a z q X N P) := by
  refine CtI_of (by decide +kernel) (Nat.le_of_ble_eq_true rfl) (List.forall_mem_cons.mpr ⟨rfl, (List.forall_mem_cons.mpr ⟨rfl, (List.forall_mem_cons.mpr ⟨rfl, (fun _ h => nomatch h)⟩)⟩)⟩) (ls := [some (.ref (w.2.1 a)), some (.int (nI z)), some (.ref (w.2.1 q)), none]) rfl (args := (#[.ref (w.2.1 a), .int (nI z), .ref (w.2.1 q)] : Array Value)) rfl (own := RX3) rfl ?_
  intro p e s m below meth c C
  refine V_iconst (v := (1 : Int32)) C dX3_netsBack_0 (by decide) ?_
  refine V_istore_n (ls1 := [some (.ref (w.2.1 a)), some (.int (nI z)), some (.ref (w.2.1 q)), some (.int (1 : Int32))]) C dX3_netsBack_1 (by decide) rfl ?_
  have L2 : ∀ (fu : Nat) (r : Nat), z - r < fu → (1 ≤ r) → (r ≤ z) → (∀ k, 1 ≤ k → k < r → Gs (X q) (rev P z (k - 1)) (rev P z k)) → V p l e ({ frames := 2, cells := 0, slots := 0, locals := 41 } : Room) s m (#[.ref (w.2.1 a), .int (nI z), .ref (w.2.1 q)] : Array Value) below meth c w 4 0 0 (EI w below s (#[.ref (w.2.1 a), .int (nI z), .ref (w.2.1 q)] : Array Value) 0 0 (q_X3_netsBack a z q X N P)) 2 [some (.ref (w.2.1 a)), some (.int (nI z)), some (.ref (w.2.1 q)), some (.int (nI r))] [] X := by
    intro fu
    induction fu with
    | zero => intro r hm; exact absurd hm (Nat.not_lt_zero _)
    | succ fu ih2 =>
      intro r hm2 h1 h2 hg
      refine V_iload_n C dX3_netsBack_2 rfl ?_
      refine V_iload_n C dX3_netsBack_3 rfl ?_
      refine V_icmp_geN (a := r) (b := z) (tgt := 33) C dX3_netsBack_4 (by decide) (by omega) (by omega) (fun h4_1 => ?_) (fun h4_1 => ?_)
      · refine V_iload_n C dX3_netsBack_33 rfl ?_
        exact V_ireturnI C dX3_netsBack_34 (by first | exact ⟨⟨r, rfl, h1, h2, hg, fun h => absurd h (by omega)⟩, rfl⟩ | exact ⟨⟨r, rfl, h1, h2, hg, fun h => by rw [rev_a h1 (by omega), rev_b (by omega)]; exact fun q => absurd ((Gs_of eNone (by omega)).mp q) (by assumption)⟩, rfl⟩)
      · refine V_aload_n C dX3_netsBack_7 rfl ?_
        refine V_aload_n C dX3_netsBack_8 rfl ?_
        refine V_iload_n C dX3_netsBack_9 rfl ?_
        refine V_iload_n C dX3_netsBack_10 rfl ?_
        refine V_isubN (a := z) (b := r) C dX3_netsBack_11 (by omega) ?_
        refine V_ialdN (p0 := a) (o := z - r) (v := X a (z - r)) C dX3_netsBack_12 hsh ha (by omega) hN rfl ?_
        have hq2 : P (z - r) < 10 := (hP (z - r) (by omega)).2
        refine V_eqi (y := nI (P (z - r))) ((hP (z - r) (by omega)).1) ?_
        refine V_ialdN (p0 := q) (o := P (z - r)) (v := X q (P (z - r))) C dX3_netsBack_13 hshq hq (by omega) (by decide) rfl ?_
        obtain ⟨a3, ha3, ea3⟩ := hPV (P (z - r)) (by omega)
        have ia3 : ix (nI a3) = a3 := ix_nI (by omega)
        refine V_eqi ea3 ?_
        refine V_aload_n C dX3_netsBack_14 rfl ?_
        refine V_iload_n C dX3_netsBack_15 rfl ?_
        refine V_iload_n C dX3_netsBack_16 rfl ?_
        refine V_isubN (a := z) (b := r) C dX3_netsBack_17 (by omega) ?_
        refine V_iconst (v := (1 : Int32)) C dX3_netsBack_18 (by decide) ?_
        refine V_isubN (a := z - r) (b := 1) C dX3_netsBack_19 (by omega) ?_
        refine V_ialdN (p0 := a) (o := (z - r) - 1) (v := X a ((z - r) - 1)) C dX3_netsBack_20 hsh ha (by omega) hN rfl ?_
        have hq4 : P ((z - r) - 1) < 10 := (hP ((z - r) - 1) (by omega)).2
        refine V_eqi (y := nI (P ((z - r) - 1))) ((hP ((z - r) - 1) (by omega)).1) ?_
        refine V_callSI C [.int (nI a3), .int (nI (P ((z - r) - 1)))] ms_X3_48 (k_X9_isIn w l a3 (P ((z - r) - 1)) X (by omega) (by omega)) dX3_netsBack_21 rfl rfl (Nat.le_of_ble_eq_true rfl) (Nat.le_of_ble_eq_true rfl) (Nat.le_of_ble_eq_true rfl) ⟨Nat.le_refl _, Nat.le_refl _⟩ (fun v5 X5 q5 => ?_)
        obtain ⟨hb5, eX5⟩ := q5; subst X5
        refine V_if_eqB (tgt := 33) C hb5 dX3_netsBack_24 (by decide) (fun h24_6 => ?_) (fun h24_6 => ?_)
        · refine V_iload_n C dX3_netsBack_33 rfl ?_
          exact V_ireturnI C dX3_netsBack_34 (by first | exact ⟨⟨r, rfl, h1, h2, hg, fun h => absurd h (by omega)⟩, rfl⟩ | exact ⟨⟨r, rfl, h1, h2, hg, fun h => by rw [rev_a h1 (by omega), rev_b (by omega)]; exact fun q => absurd ((Gs_of ea3 (by omega)).mp q) (by assumption)⟩, rfl⟩)
        · refine V_iincN (a := r) (ls1 := [some (.ref (w.2.1 a)), some (.int (nI z)), some (.ref (w.2.1 q)), some (.int (nI (r + 1)))]) C dX3_netsBack_27 rfl (by decide) rfl ?_
          refine V_goto (tgt := 2) C dX3_netsBack_30 (by decide) ?_
          exact ih2 (r + 1) (by omega) (by omega) (by omega) (by intro k g1 g2; rcases lt_succ_or.mp g2 with g2 | rfl; exact hg k g1 g2; rw [rev_a h1 (by omega), rev_b (by omega)]; exact (Gs_of ea3 (by omega)).mpr (by assumption))
  exact L2 _ 1 (Nat.lt_succ_self _) (by omega) (by omega) (fun k h1 h2 => absurd h2 (by omega))
def q_X3_judgeUp (a : Nat) (z : Nat) (X : Mem) (N : Nat) (P : Nat → Nat) (hv : Nat → Int32) : Int32 → Mem → Prop := fun r X' => JU hv (X 64) P z r ∧ X' = X
set_option maxHeartbeats 4000000 in
set_option maxRecDepth 100000 in
theorem k_X3_judgeUp (w : Wt) (l : Launch) (a : Nat) (z : Nat) (X : Mem) (N : Nat) (P : Nat → Nat) (hv : Nat → Int32) (hsh : sh a = .inl (0, N)) (hN : N ≤ 256) (ha : a < 92) (hP : PA X a P z) (hzN : z ≤ N) (hPV : PVInv (X 64)) (hND : ND hv (X 64) (X 65)) (hz : 1 ≤ z) : CtI w l yX3_judgeUp cX3_judgeUp 3 (some .int) 3 64 [.ref (w.2.1 63), .ref (w.2.1 a), .int (nI z)] X (q_X3_judgeUp a z X N P hv) := by
  have hPVd := PV_nd hPV hND
  have hP9 : ∀ k, k < z → P k < 10 := fun k hk => (hP k hk).2
  refine CtI_of (by decide +kernel) (Nat.le_of_ble_eq_true rfl) (List.forall_mem_cons.mpr ⟨rfl, (List.forall_mem_cons.mpr ⟨rfl, (List.forall_mem_cons.mpr ⟨rfl, (fun _ h => nomatch h)⟩)⟩)⟩) (ls := [some (.ref (w.2.1 63)), some (.ref (w.2.1 a)), some (.int (nI z))]) rfl (args := (#[.ref (w.2.1 63), .ref (w.2.1 a), .int (nI z)] : Array Value)) rfl (own := RX3) rfl ?_
  intro p e s m below meth c C
  refine V_aload_n C dX3_judgeUp_0 rfl ?_
  refine V_iload_n C dX3_judgeUp_1 rfl ?_
  refine V_callSI C [.ref (w.2.1 a), .int (nI z)] ms_X3_22 (k_X6_runsRound w l a z X N P hsh hN ha hP hzN) dX3_judgeUp_2 rfl rfl (Nat.le_of_ble_eq_true rfl) (Nat.le_of_ble_eq_true rfl) (Nat.le_of_ble_eq_true rfl) ⟨Nat.le_refl _, Nat.le_refl _⟩ (fun v1 X1 q1 => ?_)
  obtain ⟨hb1, eX1⟩ := q1; subst X1
  refine V_if_neB (tgt := 21) C hb1 dX3_judgeUp_5 (by decide) (fun h5_2 => ?_) (fun h5_2 => ?_)
  · refine V_iconst (v := (2 : Int32)) C dX3_judgeUp_21 (by decide) ?_
    exact V_ireturnI C dX3_judgeUp_22 (by first | exact ⟨Or.inl ⟨by assumption, rfl⟩, rfl⟩ | exact ⟨JU_of hz (by assumption) (by assumption) (by omega), rfl⟩)
  · refine V_aload_n C dX3_judgeUp_8 rfl ?_
    refine V_iload_n C dX3_judgeUp_9 rfl ?_
    refine V_aload_n C dX3_judgeUp_10 rfl ?_
    refine V_getr C fl_X3_15 dX3_judgeUp_11 (by decide) sh_63 rfl ?_
    refine V_callSI C [.ref (w.2.1 a), .int (nI z), .ref (w.2.1 65)] ms_X3_28 (k_X3_netsUp w l a z 65 X N P hsh hN ha hP hzN sh_65 (by decide) hPVd hz) dX3_judgeUp_14 rfl rfl (Nat.le_of_ble_eq_true rfl) (Nat.le_of_ble_eq_true rfl) (Nat.le_of_ble_eq_true rfl) ⟨Nat.le_refl _, Nat.le_refl _⟩ (fun v3 X3 q3 => ?_)
    obtain ⟨⟨a3, ev3, ha3⟩, eX3⟩ := q3; subst v3; subst X3
    have hl3 := ha3.2.1
    have hm3 := ha3.1
    replace ha3 := NU_gs0 hND hP9 ha3
    refine V_iload_n C dX3_judgeUp_17 rfl ?_
    refine V_icmp_geN (a := a3) (b := z) (tgt := 23) C dX3_judgeUp_18 (by decide) (by omega) (by omega) (fun h18_4 => ?_) (fun h18_4 => ?_)
    · refine V_aload_n C dX3_judgeUp_23 rfl ?_
      refine V_iload_n C dX3_judgeUp_24 rfl ?_
      refine V_aload_n C dX3_judgeUp_25 rfl ?_
      refine V_getr C fl_X3_9 dX3_judgeUp_26 (by decide) sh_63 rfl ?_
      refine V_callSI C [.ref (w.2.1 a), .int (nI z), .ref (w.2.1 64)] ms_X3_28 (k_X3_netsUp w l a z 64 X N P hsh hN ha hP hzN sh_64 (by decide) hPV hz) dX3_judgeUp_29 rfl rfl (Nat.le_of_ble_eq_true rfl) (Nat.le_of_ble_eq_true rfl) (Nat.le_of_ble_eq_true rfl) ⟨Nat.le_refl _, Nat.le_refl _⟩ (fun v5 X5 q5 => ?_)
      obtain ⟨⟨a5, ev5, ha5⟩, eX5⟩ := q5; subst v5; subst X5
      have hl5 := ha5.2.1
      have hm5 := ha5.1
      replace ha5 := NU_gs1 (hv := hv) ha5
      refine V_iload_n C dX3_judgeUp_32 rfl ?_
      refine V_icmp_neN (a := a5) (b := z) (tgt := 40) C dX3_judgeUp_33 (by decide) (by omega) (by omega) (fun h33_6 => ?_) (fun h33_6 => ?_)
      · refine V_iconst (v := (0 : Int32)) C dX3_judgeUp_40 (by decide) ?_
        exact V_ireturnI C dX3_judgeUp_41 (by first | exact ⟨JU_of2 (by assumption) (by assumption) (by assumption) (by omega) (by omega), rfl⟩ | exact ⟨JU_of3 (by assumption) (by assumption) (by assumption) (by omega) (by omega), rfl⟩)
      · refine V_iconst (v := (1 : Int32)) C dX3_judgeUp_36 (by decide) ?_
        refine V_goto (tgt := 41) C dX3_judgeUp_37 (by decide) ?_
        exact V_ireturnI C dX3_judgeUp_41 (by first | exact ⟨JU_of2 (by assumption) (by assumption) (by assumption) (by omega) (by omega), rfl⟩ | exact ⟨JU_of3 (by assumption) (by assumption) (by assumption) (by omega) (by omega), rfl⟩)
    · refine V_iconst (v := (2 : Int32)) C dX3_judgeUp_21 (by decide) ?_
      exact V_ireturnI C dX3_judgeUp_22 (by first | exact ⟨Or.inl ⟨by assumption, rfl⟩, rfl⟩ | exact ⟨JU_of hz (by assumption) (by assumption) (by omega), rfl⟩)
def q_X3_judgeDown (a : Nat) (z : Nat) (X : Mem) (N : Nat) (P : Nat → Nat) (hv : Nat → Int32) : Int32 → Mem → Prop := fun r X' => JD hv (X 64) P z r ∧ X' = X
set_option maxHeartbeats 4000000 in
set_option maxRecDepth 100000 in
theorem k_X3_judgeDown (w : Wt) (l : Launch) (a : Nat) (z : Nat) (X : Mem) (N : Nat) (P : Nat → Nat) (hv : Nat → Int32) (hsh : sh a = .inl (0, N)) (hN : N ≤ 256) (ha : a < 92) (hP : PA X a P z) (hzN : z ≤ N) (hPV : PVInv (X 64)) (hND : ND hv (X 64) (X 65)) (hz : 1 ≤ z) : CtI w l yX3_judgeDown cX3_judgeDown 3 (some .int) 3 64 [.ref (w.2.1 63), .ref (w.2.1 a), .int (nI z)] X (q_X3_judgeDown a z X N P hv) := by
  have zz : z ≤ 256 := Nat.le_trans hzN hN
  have hPVd := PV_nd hPV hND
  have hP9 : ∀ k, k < z → P k < 10 := fun k hk => (hP k hk).2
  refine CtI_of (by decide +kernel) (Nat.le_of_ble_eq_true rfl) (List.forall_mem_cons.mpr ⟨rfl, (List.forall_mem_cons.mpr ⟨rfl, (List.forall_mem_cons.mpr ⟨rfl, (fun _ h => nomatch h)⟩)⟩)⟩) (ls := [some (.ref (w.2.1 63)), some (.ref (w.2.1 a)), some (.int (nI z))]) rfl (args := (#[.ref (w.2.1 63), .ref (w.2.1 a), .int (nI z)] : Array Value)) rfl (own := RX3) rfl ?_
  intro p e s m below meth c C
  refine V_aload_n C dX3_judgeDown_0 rfl ?_
  refine V_iload_n C dX3_judgeDown_1 rfl ?_
  refine V_callSI C [.ref (w.2.1 a), .int (nI z)] ms_X3_22 (k_X6_runsRound w l a z X N P hsh hN ha hP hzN) dX3_judgeDown_2 rfl rfl (Nat.le_of_ble_eq_true rfl) (Nat.le_of_ble_eq_true rfl) (Nat.le_of_ble_eq_true rfl) ⟨Nat.le_refl _, Nat.le_refl _⟩ (fun v1 X1 q1 => ?_)
  obtain ⟨hb1, eX1⟩ := q1; subst X1
  refine V_if_eqB (tgt := 10) C hb1 dX3_judgeDown_5 (by decide) (fun h5_2 => ?_) (fun h5_2 => ?_)
  · refine V_aload_n C dX3_judgeDown_10 rfl ?_
    refine V_iload_n C dX3_judgeDown_11 rfl ?_
    refine V_aload_n C dX3_judgeDown_12 rfl ?_
    refine V_getr C fl_X3_15 dX3_judgeDown_13 (by decide) sh_63 rfl ?_
    refine V_callSI C [.ref (w.2.1 a), .int (nI z), .ref (w.2.1 65)] ms_X3_28 (k_X3_netsUp w l a z 65 X N P hsh hN ha hP hzN sh_65 (by decide) hPVd hz) dX3_judgeDown_16 rfl rfl (Nat.le_of_ble_eq_true rfl) (Nat.le_of_ble_eq_true rfl) (Nat.le_of_ble_eq_true rfl) ⟨Nat.le_refl _, Nat.le_refl _⟩ (fun v3 X3 q3 => ?_)
    obtain ⟨⟨a3, ev3, ha3⟩, eX3⟩ := q3; subst v3; subst X3
    have hl3 := ha3.2.1
    have hm3 := ha3.1
    replace ha3 := NU_gs0 hND hP9 ha3
    refine V_aload_n C dX3_judgeDown_19 rfl ?_
    refine V_iload_n C dX3_judgeDown_20 rfl ?_
    refine V_aload_n C dX3_judgeDown_21 rfl ?_
    refine V_getr C fl_X3_15 dX3_judgeDown_22 (by decide) sh_63 rfl ?_
    refine V_callSI C [.ref (w.2.1 a), .int (nI z), .ref (w.2.1 65)] ms_X3_32 (k_X3_netsBack w l a z 65 X N P hsh hN ha hP hzN sh_65 (by decide) hPVd hz) dX3_judgeDown_25 rfl rfl (Nat.le_of_ble_eq_true rfl) (Nat.le_of_ble_eq_true rfl) (Nat.le_of_ble_eq_true rfl) ⟨Nat.le_refl _, Nat.le_refl _⟩ (fun v4 X4 q4 => ?_)
    obtain ⟨⟨a4, ev4, ha4⟩, eX4⟩ := q4; subst v4; subst X4
    have hl4 := ha4.2.1
    have hm4 := ha4.1
    replace ha4 := NU_gs0 hND (rev_lt hz hP9) ha4
    refine V_iaddN (a := a3) (b := a4) C dX3_judgeDown_28 ?_
    refine V_iload_n C dX3_judgeDown_29 rfl ?_
    refine V_icmp_geN (a := a3 + a4) (b := z) (tgt := 35) C dX3_judgeDown_30 (by decide) (by omega) (by omega) (fun h30_5 => ?_) (fun h30_5 => ?_)
    · refine V_aload_n C dX3_judgeDown_35 rfl ?_
      refine V_iload_n C dX3_judgeDown_36 rfl ?_
      refine V_aload_n C dX3_judgeDown_37 rfl ?_
      refine V_getr C fl_X3_9 dX3_judgeDown_38 (by decide) sh_63 rfl ?_
      refine V_callSI C [.ref (w.2.1 a), .int (nI z), .ref (w.2.1 64)] ms_X3_28 (k_X3_netsUp w l a z 64 X N P hsh hN ha hP hzN sh_64 (by decide) hPV hz) dX3_judgeDown_41 rfl rfl (Nat.le_of_ble_eq_true rfl) (Nat.le_of_ble_eq_true rfl) (Nat.le_of_ble_eq_true rfl) ⟨Nat.le_refl _, Nat.le_refl _⟩ (fun v6 X6 q6 => ?_)
      obtain ⟨⟨a6, ev6, ha6⟩, eX6⟩ := q6; subst v6; subst X6
      have hl6 := ha6.2.1
      have hm6 := ha6.1
      replace ha6 := NU_gs1 (hv := hv) ha6
      refine V_aload_n C dX3_judgeDown_44 rfl ?_
      refine V_iload_n C dX3_judgeDown_45 rfl ?_
      refine V_aload_n C dX3_judgeDown_46 rfl ?_
      refine V_getr C fl_X3_9 dX3_judgeDown_47 (by decide) sh_63 rfl ?_
      refine V_callSI C [.ref (w.2.1 a), .int (nI z), .ref (w.2.1 64)] ms_X3_32 (k_X3_netsBack w l a z 64 X N P hsh hN ha hP hzN sh_64 (by decide) hPV hz) dX3_judgeDown_50 rfl rfl (Nat.le_of_ble_eq_true rfl) (Nat.le_of_ble_eq_true rfl) (Nat.le_of_ble_eq_true rfl) ⟨Nat.le_refl _, Nat.le_refl _⟩ (fun v7 X7 q7 => ?_)
      obtain ⟨⟨a7, ev7, ha7⟩, eX7⟩ := q7; subst v7; subst X7
      have hl7 := ha7.2.1
      have hm7 := ha7.1
      replace ha7 := NU_gs1 (hv := hv) ha7
      refine V_iaddN (a := a6) (b := a7) C dX3_judgeDown_53 ?_
      refine V_iload_n C dX3_judgeDown_54 rfl ?_
      refine V_icmp_ltN (a := a6 + a7) (b := z) (tgt := 62) C dX3_judgeDown_55 (by decide) (by omega) (by omega) (fun h55_8 => ?_) (fun h55_8 => ?_)
      · refine V_iconst (v := (0 : Int32)) C dX3_judgeDown_62 (by decide) ?_
        exact V_ireturnI C dX3_judgeDown_63 (by first | exact ⟨JD_of2 (by assumption) (by assumption) (by assumption) (by assumption) (by assumption) (by omega) (by omega), rfl⟩ | exact ⟨JD_of3 (by assumption) (by assumption) (by assumption) (by assumption) (by assumption) (by omega) (by omega), rfl⟩)
      · refine V_iconst (v := (1 : Int32)) C dX3_judgeDown_58 (by decide) ?_
        refine V_goto (tgt := 63) C dX3_judgeDown_59 (by decide) ?_
        exact V_ireturnI C dX3_judgeDown_63 (by first | exact ⟨JD_of2 (by assumption) (by assumption) (by assumption) (by assumption) (by assumption) (by omega) (by omega), rfl⟩ | exact ⟨JD_of3 (by assumption) (by assumption) (by assumption) (by assumption) (by assumption) (by omega) (by omega), rfl⟩)
    · refine V_iconst (v := (2 : Int32)) C dX3_judgeDown_33 (by decide) ?_
      exact V_ireturnI C dX3_judgeDown_34 ⟨JD_of hz (by assumption) (by assumption) (by assumption) (by omega), rfl⟩
  · refine V_iconst (v := (2 : Int32)) C dX3_judgeDown_8 (by decide) ?_
    exact V_ireturnI C dX3_judgeDown_9 ⟨Or.inl ⟨by assumption, rfl⟩, rfl⟩
def q_X8_between (a : Nat) (b : Nat) (X : Mem) : Int32 → Mem → Prop := fun r X' => r = tC X a b ∧ X' = X
set_option maxHeartbeats 4000000 in
set_option maxRecDepth 100000 in
theorem k_X8_between (w : Wt) (l : Launch) (a : Nat) (b : Nat) (X : Mem) (ha : a < 10) (hb : b < 10) : CtI w l yX8_between cX8_between 3 (some .int) 1 20 [.ref (w.2.1 51), .int (nI a), .int (nI b)] X (q_X8_between a b X) := by
  refine CtI_of (by decide +kernel) (Nat.le_of_ble_eq_true rfl) (List.forall_mem_cons.mpr ⟨rfl, (List.forall_mem_cons.mpr ⟨rfl, (List.forall_mem_cons.mpr ⟨rfl, (fun _ h => nomatch h)⟩)⟩)⟩) (ls := [some (.ref (w.2.1 51)), some (.int (nI a)), some (.int (nI b))]) rfl (args := (#[.ref (w.2.1 51), .int (nI a), .int (nI b)] : Array Value)) rfl (own := RX8) rfl ?_
  intro p e s m below meth c C
  refine V_aload_n C dX8_between_0 rfl ?_
  refine V_getr C fl_X8_11 dX8_between_1 (by decide) sh_51 rfl ?_
  refine V_iload_n C dX8_between_4 rfl ?_
  refine V_aaldN (o := a) (q := 53 + a) C dX8_between_5 sh_52 (by decide) (by omega) (by decide) rfl ?_
  refine V_iload_n C dX8_between_6 rfl ?_
  refine V_ialdN (p0 := 53 + a) (o := b) (v := X (53 + a) b) C dX8_between_7 (sh_what (by omega)) (by omega) (by omega) (by decide) rfl ?_
  exact V_ireturnI C dX8_between_8 ⟨(tC_at ha).symm, rfl⟩
def q_X8_areTied (a : Nat) (b : Nat) (X : Mem) : Int32 → Mem → Prop := fun r X' => bI (¬ tC X a b = 0) r ∧ X' = X
set_option maxHeartbeats 4000000 in
set_option maxRecDepth 100000 in
theorem k_X8_areTied (w : Wt) (l : Launch) (a : Nat) (b : Nat) (X : Mem) (ha : a < 10) (hb : b < 10) : CtI w l yX8_areTied cX8_areTied 3 (some .boolean) 1 20 [.ref (w.2.1 51), .int (nI a), .int (nI b)] X (q_X8_areTied a b X) := by
  refine CtI_of (by decide +kernel) (Nat.le_of_ble_eq_true rfl) (List.forall_mem_cons.mpr ⟨rfl, (List.forall_mem_cons.mpr ⟨rfl, (List.forall_mem_cons.mpr ⟨rfl, (fun _ h => nomatch h)⟩)⟩)⟩) (ls := [some (.ref (w.2.1 51)), some (.int (nI a)), some (.int (nI b))]) rfl (args := (#[.ref (w.2.1 51), .int (nI a), .int (nI b)] : Array Value)) rfl (own := RX8) rfl ?_
  intro p e s m below meth c C
  refine V_aload_n C dX8_areTied_0 rfl ?_
  refine V_getr C fl_X8_11 dX8_areTied_1 (by decide) sh_51 rfl ?_
  refine V_iload_n C dX8_areTied_4 rfl ?_
  refine V_aaldN (o := a) (q := 53 + a) C dX8_areTied_5 sh_52 (by decide) (by omega) (by decide) rfl ?_
  refine V_iload_n C dX8_areTied_6 rfl ?_
  refine V_ialdN (p0 := 53 + a) (o := b) (v := X (53 + a) b) C dX8_areTied_7 (sh_what (by omega)) (by omega) (by omega) (by decide) rfl ?_
  refine V_if_eq (x := X (53 + a) b) (tgt := 15) C dX8_areTied_8 (by decide) (fun h8_1 => ?_) (fun h8_1 => ?_)
  · refine V_iconst (v := (0 : Int32)) C dX8_areTied_15 (by decide) ?_
    exact V_zreturnI C dX8_areTied_16 (Or.inl rfl) ⟨bI.f (by simp_all [tC, ← Int32.not_lt]), rfl⟩
  · refine V_iconst (v := (1 : Int32)) C dX8_areTied_11 (by decide) ?_
    refine V_goto (tgt := 16) C dX8_areTied_12 (by decide) ?_
    exact V_zreturnI C dX8_areTied_16 (Or.inr rfl) ⟨bI.t (by simp_all [tC, ← Int32.not_lt]), rfl⟩
def q_X8_hasCustomer (a : Nat) (b : Nat) (d : Nat) (X : Mem) : Int32 → Mem → Prop := fun r X' => bI (tC X b a = 1 ∨ tC X d a = 1) r ∧ X' = X
set_option maxHeartbeats 4000000 in
set_option maxRecDepth 100000 in
theorem k_X8_hasCustomer (w : Wt) (l : Launch) (a : Nat) (b : Nat) (d : Nat) (X : Mem) (ha : a < 10) (hb : b < 10) (hd : d < 10) : CtI w l yX8_hasCustomer cX8_hasCustomer 4 (some .boolean) 1 20 [.ref (w.2.1 51), .int (nI a), .int (nI b), .int (nI d)] X (q_X8_hasCustomer a b d X) := by
  refine CtI_of (by decide +kernel) (Nat.le_of_ble_eq_true rfl) (List.forall_mem_cons.mpr ⟨rfl, (List.forall_mem_cons.mpr ⟨rfl, (List.forall_mem_cons.mpr ⟨rfl, (List.forall_mem_cons.mpr ⟨rfl, (fun _ h => nomatch h)⟩)⟩)⟩)⟩) (ls := [some (.ref (w.2.1 51)), some (.int (nI a)), some (.int (nI b)), some (.int (nI d))]) rfl (args := (#[.ref (w.2.1 51), .int (nI a), .int (nI b), .int (nI d)] : Array Value)) rfl (own := RX8) rfl ?_
  intro p e s m below meth c C
  refine V_aload_n C dX8_hasCustomer_0 rfl ?_
  refine V_getr C fl_X8_11 dX8_hasCustomer_1 (by decide) sh_51 rfl ?_
  refine V_iload_n C dX8_hasCustomer_4 rfl ?_
  refine V_aaldN (o := b) (q := 53 + b) C dX8_hasCustomer_5 sh_52 (by decide) (by omega) (by decide) rfl ?_
  refine V_iload_n C dX8_hasCustomer_6 rfl ?_
  refine V_ialdN (p0 := 53 + b) (o := a) (v := X (53 + b) a) C dX8_hasCustomer_7 (sh_what (by omega)) (by omega) (by omega) (by decide) rfl ?_
  refine V_iconst (v := (1 : Int32)) C dX8_hasCustomer_8 (by decide) ?_
  refine V_icmp_eq (x := X (53 + b) a) (y := (1 : Int32)) (tgt := 24) C dX8_hasCustomer_9 (by decide) (fun h9_1 => ?_) (fun h9_1 => ?_)
  · refine V_iconst (v := (1 : Int32)) C dX8_hasCustomer_24 (by decide) ?_
    refine V_goto (tgt := 29) C dX8_hasCustomer_25 (by decide) ?_
    exact V_zreturnI C dX8_hasCustomer_29 (Or.inr rfl) ⟨bI.t (by simp_all [tC, ← Int32.not_lt]), rfl⟩
  · refine V_aload_n C dX8_hasCustomer_12 rfl ?_
    refine V_getr C fl_X8_11 dX8_hasCustomer_13 (by decide) sh_51 rfl ?_
    refine V_iload_n C dX8_hasCustomer_16 rfl ?_
    refine V_aaldN (o := d) (q := 53 + d) C dX8_hasCustomer_17 sh_52 (by decide) (by omega) (by decide) rfl ?_
    refine V_iload_n C dX8_hasCustomer_18 rfl ?_
    refine V_ialdN (p0 := 53 + d) (o := a) (v := X (53 + d) a) C dX8_hasCustomer_19 (sh_what (by omega)) (by omega) (by omega) (by decide) rfl ?_
    refine V_iconst (v := (1 : Int32)) C dX8_hasCustomer_20 (by decide) ?_
    refine V_icmp_ne (x := X (53 + d) a) (y := (1 : Int32)) (tgt := 28) C dX8_hasCustomer_21 (by decide) (fun h21_2 => ?_) (fun h21_2 => ?_)
    · refine V_iconst (v := (0 : Int32)) C dX8_hasCustomer_28 (by decide) ?_
      exact V_zreturnI C dX8_hasCustomer_29 (Or.inl rfl) ⟨bI.f (by simp_all [tC, ← Int32.not_lt]), rfl⟩
    · refine V_iconst (v := (1 : Int32)) C dX8_hasCustomer_24 (by decide) ?_
      refine V_goto (tgt := 29) C dX8_hasCustomer_25 (by decide) ?_
      exact V_zreturnI C dX8_hasCustomer_29 (Or.inr rfl) ⟨bI.t (by simp_all [tC, ← Int32.not_lt]), rfl⟩
def q_X8_leaksAt (b : Nat) (a : Nat) (d : Nat) (X : Mem) : Int32 → Mem → Prop := fun r X' => bI (¬ tC X b a = 0 ∧ ¬ tC X d a = 0 ∧ ¬ (tC X b a = 1 ∨ tC X d a = 1)) r ∧ X' = X
set_option maxHeartbeats 4000000 in
set_option maxRecDepth 100000 in
theorem k_X8_leaksAt (w : Wt) (l : Launch) (b : Nat) (a : Nat) (d : Nat) (X : Mem) (hb : b < 10) (ha : a < 10) (hd : d < 10) : CtI w l yX8_leaksAt cX8_leaksAt 4 (some .boolean) 2 43 [.ref (w.2.1 51), .int (nI b), .int (nI a), .int (nI d)] X (q_X8_leaksAt b a d X) := by
  refine CtI_of (by decide +kernel) (Nat.le_of_ble_eq_true rfl) (List.forall_mem_cons.mpr ⟨rfl, (List.forall_mem_cons.mpr ⟨rfl, (List.forall_mem_cons.mpr ⟨rfl, (List.forall_mem_cons.mpr ⟨rfl, (fun _ h => nomatch h)⟩)⟩)⟩)⟩) (ls := [some (.ref (w.2.1 51)), some (.int (nI b)), some (.int (nI a)), some (.int (nI d))]) rfl (args := (#[.ref (w.2.1 51), .int (nI b), .int (nI a), .int (nI d)] : Array Value)) rfl (own := RX8) rfl ?_
  intro p e s m below meth c C
  refine V_aload_n C dX8_leaksAt_0 rfl ?_
  refine V_iload_n C dX8_leaksAt_1 rfl ?_
  refine V_iload_n C dX8_leaksAt_2 rfl ?_
  refine V_callVI C [.int (nI b), .int (nI a)] mi_X8_20 (k_X8_areTied w l b a X (by omega) (by omega)) dX8_leaksAt_3 sh_51 (by decide) rfl rfl rfl (Nat.le_of_ble_eq_true rfl) (Nat.le_of_ble_eq_true rfl) (Nat.le_of_ble_eq_true rfl) ⟨Nat.le_refl _, Nat.le_refl _⟩ (fun v1 X1 q1 => ?_)
  obtain ⟨hb1, eX1⟩ := q1; subst X1
  refine V_if_eqB (tgt := 32) C hb1 dX8_leaksAt_6 (by decide) (fun h6_2 => ?_) (fun h6_2 => ?_)
  · refine V_iconst (v := (0 : Int32)) C dX8_leaksAt_32 (by decide) ?_
    exact V_zreturnI C dX8_leaksAt_33 (Or.inl rfl) ⟨bI.f (by simp_all [← Int32.not_lt]), rfl⟩
  · refine V_aload_n C dX8_leaksAt_9 rfl ?_
    refine V_iload_n C dX8_leaksAt_10 rfl ?_
    refine V_iload_n C dX8_leaksAt_11 rfl ?_
    refine V_callVI C [.int (nI d), .int (nI a)] mi_X8_20 (k_X8_areTied w l d a X (by omega) (by omega)) dX8_leaksAt_12 sh_51 (by decide) rfl rfl rfl (Nat.le_of_ble_eq_true rfl) (Nat.le_of_ble_eq_true rfl) (Nat.le_of_ble_eq_true rfl) ⟨Nat.le_refl _, Nat.le_refl _⟩ (fun v3 X3 q3 => ?_)
    obtain ⟨hb3, eX3⟩ := q3; subst X3
    refine V_if_eqB (tgt := 32) C hb3 dX8_leaksAt_15 (by decide) (fun h15_4 => ?_) (fun h15_4 => ?_)
    · refine V_iconst (v := (0 : Int32)) C dX8_leaksAt_32 (by decide) ?_
      exact V_zreturnI C dX8_leaksAt_33 (Or.inl rfl) ⟨bI.f (by simp_all [← Int32.not_lt]), rfl⟩
    · refine V_aload_n C dX8_leaksAt_18 rfl ?_
      refine V_iload_n C dX8_leaksAt_19 rfl ?_
      refine V_iload_n C dX8_leaksAt_20 rfl ?_
      refine V_iload_n C dX8_leaksAt_21 rfl ?_
      refine V_callVI C [.int (nI a), .int (nI b), .int (nI d)] mi_X8_24 (k_X8_hasCustomer w l a b d X (by omega) (by omega) (by omega)) dX8_leaksAt_22 sh_51 (by decide) rfl rfl rfl (Nat.le_of_ble_eq_true rfl) (Nat.le_of_ble_eq_true rfl) (Nat.le_of_ble_eq_true rfl) ⟨Nat.le_refl _, Nat.le_refl _⟩ (fun v5 X5 q5 => ?_)
      obtain ⟨hb5, eX5⟩ := q5; subst X5
      refine V_if_neB (tgt := 32) C hb5 dX8_leaksAt_25 (by decide) (fun h25_6 => ?_) (fun h25_6 => ?_)
      · refine V_iconst (v := (0 : Int32)) C dX8_leaksAt_32 (by decide) ?_
        exact V_zreturnI C dX8_leaksAt_33 (Or.inl rfl) ⟨bI.f (by simp_all [← Int32.not_lt]), rfl⟩
      · refine V_iconst (v := (1 : Int32)) C dX8_leaksAt_28 (by decide) ?_
        refine V_goto (tgt := 33) C dX8_leaksAt_29 (by decide) ?_
        exact V_zreturnI C dX8_leaksAt_33 (Or.inr rfl) ⟨bI.t (by simp_all [← Int32.not_lt]), rfl⟩
def q_X8_turned (v : Int32) (X : Mem) : Int32 → Mem → Prop := fun r X' => r = turnS v ∧ X' = X
set_option maxHeartbeats 4000000 in
set_option maxRecDepth 100000 in
theorem k_X8_turned (w : Wt) (l : Launch) (v : Int32) (X : Mem) : CtI w l yX8_turned cX8_turned 1 (some .int) 1 20 [.int v] X (q_X8_turned v X) := by
  refine CtI_of (by decide +kernel) (Nat.le_of_ble_eq_true rfl) (List.forall_mem_cons.mpr ⟨rfl, (fun _ h => nomatch h)⟩) (ls := [some (.int v)]) rfl (args := (#[.int v] : Array Value)) rfl (own := RX8) rfl ?_
  intro p e s m below meth c C
  refine V_iload_n C dX8_turned_0 rfl ?_
  refine V_iconst (v := (1 : Int32)) C dX8_turned_1 (by decide) ?_
  refine V_icmp_ne (x := v) (y := (1 : Int32)) (tgt := 7) C dX8_turned_2 (by decide) (fun h2_1 => ?_) (fun h2_1 => ?_)
  · refine V_iload_n C dX8_turned_7 rfl ?_
    refine V_iconst (v := (2 : Int32)) C dX8_turned_8 (by decide) ?_
    refine V_icmp_ne (x := v) (y := (2 : Int32)) (tgt := 16) C dX8_turned_9 (by decide) (fun h9_2 => ?_) (fun h9_2 => ?_)
    · refine V_iload_n C dX8_turned_16 rfl ?_
      exact V_ireturnI C dX8_turned_17 ⟨by simp_all [turnS], rfl⟩
    · refine V_iconst (v := (1 : Int32)) C dX8_turned_12 (by decide) ?_
      refine V_goto (tgt := 17) C dX8_turned_13 (by decide) ?_
      exact V_ireturnI C dX8_turned_17 ⟨by simp_all [turnS], rfl⟩
  · refine V_iconst (v := (2 : Int32)) C dX8_turned_5 (by decide) ?_
    exact V_ireturnI C dX8_turned_6 ⟨by simp_all [turnS], rfl⟩

def q_X3_isRefusedAt (a : Nat) (z : Nat) (X : Mem) (N : Nat) (P : Nat → Nat) (hv : Nat → Int32) : Int32 → Mem → Prop := fun r X' => bI (Rf (tC X) hv (X 64) P z) r ∧ X' = X
set_option maxHeartbeats 4000000 in
set_option maxRecDepth 100000 in
theorem k_X3_isRefusedAt (w : Wt) (l : Launch) (a : Nat) (z : Nat) (X : Mem) (N : Nat) (P : Nat → Nat) (hv : Nat → Int32) (hsh : sh a = .inl (0, N)) (hN : N ≤ 256) (ha : a < 92) (hP : PA X a P (z + 1)) (hzN : z + 1 ≤ N) (hPV : PVInv (X 64)) (hND : ND hv (X 64) (X 65)) (hz : 1 ≤ z) : CtI w l yX3_isRefusedAt cX3_isRefusedAt 4 (some .boolean) 4 86 [.ref (w.2.1 63), .ref (w.2.1 a), .int (nI z)] X (q_X3_isRefusedAt a z X N P hv) := by
  have hP2 : PA X a P z := fun k h => hP k (by omega)
  refine CtI_of (by decide +kernel) (Nat.le_of_ble_eq_true rfl) (List.forall_mem_cons.mpr ⟨rfl, (List.forall_mem_cons.mpr ⟨rfl, (List.forall_mem_cons.mpr ⟨rfl, (fun _ h => nomatch h)⟩)⟩)⟩) (ls := [some (.ref (w.2.1 63)), some (.ref (w.2.1 a)), some (.int (nI z)), none]) rfl (args := (#[.ref (w.2.1 63), .ref (w.2.1 a), .int (nI z)] : Array Value)) rfl (own := RX3) rfl ?_
  intro p e s m below meth c C
  refine V_aload_n C dX3_isRefusedAt_0 rfl ?_
  refine V_getr C fl_X3_18 dX3_isRefusedAt_1 (by decide) sh_63 rfl ?_
  refine V_aload_n C dX3_isRefusedAt_4 rfl ?_
  refine V_iload_n C dX3_isRefusedAt_5 rfl ?_
  refine V_iconst (v := (1 : Int32)) C dX3_isRefusedAt_6 (by decide) ?_
  refine V_isubN (a := z) (b := 1) C dX3_isRefusedAt_7 (by omega) ?_
  refine V_ialdN (p0 := a) (o := z - 1) (v := X a (z - 1)) C dX3_isRefusedAt_8 hsh ha (by omega) hN rfl ?_
  have hq1 : P (z - 1) < 10 := (hP (z - 1) (by omega)).2
  refine V_eqi (y := nI (P (z - 1))) ((hP (z - 1) (by omega)).1) ?_
  refine V_aload_n C dX3_isRefusedAt_9 rfl ?_
  refine V_iload_n C dX3_isRefusedAt_10 rfl ?_
  refine V_ialdN (p0 := a) (o := z) (v := X a z) C dX3_isRefusedAt_11 hsh ha (by omega) hN rfl ?_
  have hq2 : P z < 10 := (hP z (by omega)).2
  refine V_eqi (y := nI (P z)) ((hP z (by omega)).1) ?_
  refine V_callVI C [.int (nI (P (z - 1))), .int (nI (P z))] mi_X3_35 (k_X8_between w l (P (z - 1)) (P z) X (by omega) (by omega)) dX3_isRefusedAt_12 sh_51 (by decide) rfl rfl rfl (Nat.le_of_ble_eq_true rfl) (Nat.le_of_ble_eq_true rfl) (Nat.le_of_ble_eq_true rfl) ⟨Nat.le_refl _, Nat.le_refl _⟩ (fun v3 X3 q3 => ?_)
  obtain ⟨ev3, eX3⟩ := q3; subst X3
  subst v3
  refine V_iconst (v := (2 : Int32)) C dX3_isRefusedAt_15 (by decide) ?_
  refine V_icmp_ne (x := tC X (P (z - 1)) (P z)) (y := (2 : Int32)) (tgt := 23) C dX3_isRefusedAt_16 (by decide) (fun h16_4 => ?_) (fun h16_4 => ?_)
  · refine V_iconst (v := (0 : Int32)) C dX3_isRefusedAt_23 (by decide) ?_
    refine V_istore_n (ls1 := [some (.ref (w.2.1 63)), some (.ref (w.2.1 a)), some (.int (nI z)), some (.int (0 : Int32))]) C dX3_isRefusedAt_24 (by decide) rfl ?_
    refine V_iload_n C dX3_isRefusedAt_25 rfl ?_
    refine V_if_eq (x := (0 : Int32)) (tgt := 38) C dX3_isRefusedAt_26 (by decide) (fun _ => ?_) (fun h => absurd h (by decide))
    refine V_aload_n C dX3_isRefusedAt_38 rfl ?_
    refine V_aload_n C dX3_isRefusedAt_39 rfl ?_
    refine V_iload_n C dX3_isRefusedAt_40 rfl ?_
    refine V_callVI C [.ref (w.2.1 a), .int (nI z)] mi_X3_45 (k_X3_judgeUp w l a z X N P hv hsh hN ha hP2 (by omega) hPV hND hz) dX3_isRefusedAt_41 sh_63 (by decide) rfl rfl rfl (Nat.le_of_ble_eq_true rfl) (Nat.le_of_ble_eq_true rfl) (Nat.le_of_ble_eq_true rfl) ⟨Nat.le_refl _, Nat.le_refl _⟩ (fun v6 X6 q6 => ?_)
    obtain ⟨hv6, eX6⟩ := q6; subst X6
    refine V_iconst (v := (2 : Int32)) C dX3_isRefusedAt_44 (by decide) ?_
    refine V_icmp_ne (x := v6) (y := (2 : Int32)) (tgt := 52) C dX3_isRefusedAt_45 (by decide) (fun h45_7 => ?_) (fun h45_7 => ?_)
    · refine V_iconst (v := (0 : Int32)) C dX3_isRefusedAt_52 (by decide) ?_
      exact V_zreturnI C dX3_isRefusedAt_53 (Or.inl rfl) (by first | exact ⟨bI.f (fun q => absurd ((Rf_d (by assumption) (by assumption)).mp q) (by assumption)), rfl⟩ | exact ⟨bI.f (fun q => absurd ((Rf_u (by assumption) (by assumption)).mp q) (by assumption)), rfl⟩)
    · refine V_iconst (v := (1 : Int32)) C dX3_isRefusedAt_48 (by decide) ?_
      refine V_goto (tgt := 53) C dX3_isRefusedAt_49 (by decide) ?_
      exact V_zreturnI C dX3_isRefusedAt_53 (Or.inr rfl) (by first | exact ⟨bI.t ((Rf_d (by assumption) (by assumption)).mpr (by assumption)), rfl⟩ | exact ⟨bI.t ((Rf_u (by assumption) (by assumption)).mpr (by assumption)), rfl⟩)
  · refine V_iconst (v := (1 : Int32)) C dX3_isRefusedAt_19 (by decide) ?_
    refine V_goto (tgt := 24) C dX3_isRefusedAt_20 (by decide) ?_
    refine V_istore_n (ls1 := [some (.ref (w.2.1 63)), some (.ref (w.2.1 a)), some (.int (nI z)), some (.int (1 : Int32))]) C dX3_isRefusedAt_24 (by decide) rfl ?_
    refine V_iload_n C dX3_isRefusedAt_25 rfl ?_
    refine V_if_eq (x := (1 : Int32)) (tgt := 38) C dX3_isRefusedAt_26 (by decide) (fun h => absurd h (by decide)) (fun _ => ?_)
    refine V_aload_n C dX3_isRefusedAt_29 rfl ?_
    refine V_aload_n C dX3_isRefusedAt_30 rfl ?_
    refine V_iload_n C dX3_isRefusedAt_31 rfl ?_
    refine V_callVI C [.ref (w.2.1 a), .int (nI z)] mi_X3_41 (k_X3_judgeDown w l a z X N P hv hsh hN ha hP2 (by omega) hPV hND hz) dX3_isRefusedAt_32 sh_63 (by decide) rfl rfl rfl (Nat.le_of_ble_eq_true rfl) (Nat.le_of_ble_eq_true rfl) (Nat.le_of_ble_eq_true rfl) ⟨Nat.le_refl _, Nat.le_refl _⟩ (fun v9 X9 q9 => ?_)
    obtain ⟨hv9, eX9⟩ := q9; subst X9
    refine V_goto (tgt := 44) C dX3_isRefusedAt_35 (by decide) ?_
    refine V_iconst (v := (2 : Int32)) C dX3_isRefusedAt_44 (by decide) ?_
    refine V_icmp_ne (x := v9) (y := (2 : Int32)) (tgt := 52) C dX3_isRefusedAt_45 (by decide) (fun h45_10 => ?_) (fun h45_10 => ?_)
    · refine V_iconst (v := (0 : Int32)) C dX3_isRefusedAt_52 (by decide) ?_
      exact V_zreturnI C dX3_isRefusedAt_53 (Or.inl rfl) (by first | exact ⟨bI.f (fun q => absurd ((Rf_d (by assumption) (by assumption)).mp q) (by assumption)), rfl⟩ | exact ⟨bI.f (fun q => absurd ((Rf_u (by assumption) (by assumption)).mp q) (by assumption)), rfl⟩)
    · refine V_iconst (v := (1 : Int32)) C dX3_isRefusedAt_48 (by decide) ?_
      refine V_goto (tgt := 53) C dX3_isRefusedAt_49 (by decide) ?_
      exact V_zreturnI C dX3_isRefusedAt_53 (Or.inr rfl) (by first | exact ⟨bI.t ((Rf_d (by assumption) (by assumption)).mpr (by assumption)), rfl⟩ | exact ⟨bI.t ((Rf_u (by assumption) (by assumption)).mpr (by assumption)), rfl⟩)
