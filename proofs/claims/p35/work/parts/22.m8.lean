def q_X5_rankOf (a : Nat) (rd : Nat) (X : Mem) : Int32 → Mem → Prop := fun r X' => r = nI (rkc X rd a) ∧ X' = X
set_option maxHeartbeats 4000000 in
set_option maxRecDepth 100000 in
theorem k_X5_rankOf (w : Wt) (l : Launch) (a : Nat) (rd : Nat) (X : Mem) (hn : ∀ a, a < 10 → CoreIs (X 69 a)) (hrd : rd < 3) (hcr : ∀ a, a < 10 → rd ≠ 0 → CoreIs (X (82 + (rd - 1)) a)) (ha : a < 10) : CtI w l yX5_rankOf cX5_rankOf 3 (some .int) 2 40 [.ref (w.2.1 68), .int (nI a), .int (nI rd)] X (q_X5_rankOf a rd X) := by
  refine CtI_of (by decide +kernel) (Nat.le_of_ble_eq_true rfl) (List.forall_mem_cons.mpr ⟨rfl, (List.forall_mem_cons.mpr ⟨rfl, (List.forall_mem_cons.mpr ⟨rfl, (fun _ h => nomatch h)⟩)⟩)⟩) (ls := [some (.ref (w.2.1 68)), some (.int (nI a)), some (.int (nI rd))]) rfl (args := (#[.ref (w.2.1 68), .int (nI a), .int (nI rd)] : Array Value)) rfl (own := RX5) rfl ?_
  intro p e s m below meth c C
  refine V_iload_n C dX5_rankOf_0 rfl ?_
  refine V_if_neN (a := rd) (tgt := 13) C dX5_rankOf_1 (by decide) (by omega) (fun h1_1 => ?_) (fun h1_1 => ?_)
  · refine V_aload_n C dX5_rankOf_13 rfl ?_
    refine V_getr C fl_X5_24 dX5_rankOf_14 (by decide) sh_68 rfl ?_
    refine V_iload_n C dX5_rankOf_17 rfl ?_
    refine V_iconst (v := (1 : Int32)) C dX5_rankOf_18 (by decide) ?_
    refine V_isubN (a := rd) (b := 1) C dX5_rankOf_19 (by omega) ?_
    refine V_aaldN (o := rd - 1) (q := 82 + (rd - 1)) C dX5_rankOf_20 sh_81 (by decide) (by omega) (by decide) rfl ?_
    refine V_iload_n C dX5_rankOf_21 rfl ?_
    refine V_ialdN (p0 := 82 + (rd - 1)) (o := a) (v := X (82 + (rd - 1)) a) C dX5_rankOf_22 (sh_cust (by omega)) (by omega) (by omega) (by decide) rfl ?_
    obtain ⟨a2, ha2, ea2⟩ := hcr a ha (by assumption)
    have ia2 : ix (nI a2) = a2 := ix_nI (by omega)
    refine V_eqi ea2 ?_
    refine V_callSI C [.int (nI a2)] ms_X5_63 (k_J6_bitCount_0f7a4 w l a2 X (by omega)) dX5_rankOf_23 rfl rfl (Nat.le_of_ble_eq_true rfl) (Nat.le_of_ble_eq_true rfl) (Nat.le_of_ble_eq_true rfl) ⟨Nat.le_refl _, Nat.le_refl _⟩ (fun v3 X3 q3 => ?_)
    obtain ⟨ev3, eX3⟩ := q3; subst X3; subst v3
    have hle3 := cntB_le a2
    exact V_ireturnI C dX5_rankOf_26 ⟨by unfold rkc; first | (rw [if_pos (by assumption), ea2, ia2]) | (rw [if_neg (by assumption), ea2, ia2]), rfl⟩
  · refine V_aload_n C dX5_rankOf_4 rfl ?_
    refine V_getr C fl_X5_15 dX5_rankOf_5 (by decide) sh_68 rfl ?_
    refine V_iload_n C dX5_rankOf_8 rfl ?_
    refine V_ialdN (p0 := 69) (o := a) (v := X 69 a) C dX5_rankOf_9 sh_69 (by decide) (by omega) (by decide) rfl ?_
    obtain ⟨a4, ha4, ea4⟩ := hn a ha
    have ia4 : ix (nI a4) = a4 := ix_nI (by omega)
    refine V_eqi ea4 ?_
    refine V_goto (tgt := 23) C dX5_rankOf_10 (by decide) ?_
    refine V_callSI C [.int (nI a4)] ms_X5_63 (k_J6_bitCount_0f7a4 w l a4 X (by omega)) dX5_rankOf_23 rfl rfl (Nat.le_of_ble_eq_true rfl) (Nat.le_of_ble_eq_true rfl) (Nat.le_of_ble_eq_true rfl) ⟨Nat.le_refl _, Nat.le_refl _⟩ (fun v5 X5 q5 => ?_)
    obtain ⟨ev5, eX5⟩ := q5; subst X5; subst v5
    have hle5 := cntB_le a4
    exact V_ireturnI C dX5_rankOf_26 ⟨by unfold rkc; first | (rw [if_pos (by assumption), ea4, ia4]) | (rw [if_neg (by assumption), ea4, ia4]), rfl⟩
def q_X5_topOf (a : Nat) (z : Nat) (rd : Nat) (X : Mem) (N : Nat) (P : Nat → Nat) (K : Nat) : Int32 → Mem → Prop := fun v X' => (∃ t, v = nI t ∧ Top K (rkc X rd) P z t) ∧ X' = X
set_option maxHeartbeats 4000000 in
set_option maxRecDepth 100000 in
theorem k_X5_topOf (w : Wt) (l : Launch) (a : Nat) (z : Nat) (rd : Nat) (X : Mem) (N : Nat) (P : Nat → Nat) (K : Nat) (hsh : sh a = .inl (0, N)) (hN : N ≤ 256) (ha : a < 92) (hP : PA X a P z) (hzN : z ≤ N) (hn : ∀ a, a < 10 → CoreIs (X 69 a)) (hrd : rd < 3) (hcr : ∀ a, a < 10 → rd ≠ 0 → CoreIs (X (82 + (rd - 1)) a)) (hC : X 68 1 = nI K) (hC1 : K < 1024) (hz : 1 ≤ z) : CtI w l yX5_topOf cX5_topOf 6 (some .int) 3 62 [.ref (w.2.1 68), .ref (w.2.1 a), .int (nI z), .int (nI rd)] X (q_X5_topOf a z rd X N P K) := by
  refine CtI_of (by decide +kernel) (Nat.le_of_ble_eq_true rfl) (List.forall_mem_cons.mpr ⟨rfl, (List.forall_mem_cons.mpr ⟨rfl, (List.forall_mem_cons.mpr ⟨rfl, (List.forall_mem_cons.mpr ⟨rfl, (fun _ h => nomatch h)⟩)⟩)⟩)⟩) (ls := [some (.ref (w.2.1 68)), some (.ref (w.2.1 a)), some (.int (nI z)), some (.int (nI rd)), none, none]) rfl (args := (#[.ref (w.2.1 68), .ref (w.2.1 a), .int (nI z), .int (nI rd)] : Array Value)) rfl (own := RX5) rfl ?_
  intro p e s m below meth c C
  refine V_iconst (v := (0 : Int32)) C dX5_topOf_0 (by decide) ?_
  refine V_istore (ls1 := [some (.ref (w.2.1 68)), some (.ref (w.2.1 a)), some (.int (nI z)), some (.int (nI rd)), some (.int (0 : Int32)), none]) C dX5_topOf_1 (by decide) rfl ?_
  refine V_iconst (v := (0 : Int32)) C dX5_topOf_3 (by decide) ?_
  refine V_istore (ls1 := [some (.ref (w.2.1 68)), some (.ref (w.2.1 a)), some (.int (nI z)), some (.int (nI rd)), some (.int (0 : Int32)), some (.int (0 : Int32))]) C dX5_topOf_4 (by decide) rfl ?_
  have L6 : ∀ (fu : Nat) (i : Nat) (t : Nat), z - i < fu → (i ≤ z) → (t < z) → (∀ j, j < i → ¬ K.testBit (P j) = true) → (BestTo (rkc X rd) P i t) → V p l e ({ frames := 3, cells := 0, slots := 0, locals := 62 } : Room) s m (#[.ref (w.2.1 68), .ref (w.2.1 a), .int (nI z), .int (nI rd)] : Array Value) below meth c w 6 0 0 (EI w below s (#[.ref (w.2.1 68), .ref (w.2.1 a), .int (nI z), .int (nI rd)] : Array Value) 0 0 (q_X5_topOf a z rd X N P K)) 6 [some (.ref (w.2.1 68)), some (.ref (w.2.1 a)), some (.int (nI z)), some (.int (nI rd)), some (.int (nI t)), some (.int (nI i))] [] X := by
    intro fu
    induction fu with
    | zero => intro i t hm; exact absurd hm (Nat.not_lt_zero _)
    | succ fu ih6 =>
      intro i t hm6 hi ht hno hbt
      refine V_iload C dX5_topOf_6 rfl ?_
      refine V_iload_n C dX5_topOf_8 rfl ?_
      refine V_icmp_geN (a := i) (b := z) (tgt := 60) C dX5_topOf_9 (by decide) (by omega) (by omega) (fun h9_1 => ?_) (fun h9_1 => ?_)
      · refine V_iload C dX5_topOf_60 rfl ?_
        exact V_ireturnI C dX5_topOf_62 ⟨⟨t, rfl, Or.inr ⟨fun j hj => hno j (by omega), (show i = z from by omega) ▸ hbt.2 (by omega)⟩⟩, rfl⟩
      · refine V_aload_n C dX5_topOf_12 rfl ?_
        refine V_geti C fl_X5_9 dX5_topOf_13 (by decide) sh_68 rfl ?_
        refine V_eqi (y := nI K) hC ?_
        refine V_aload_n C dX5_topOf_16 rfl ?_
        refine V_iload C dX5_topOf_17 rfl ?_
        refine V_ialdN (p0 := a) (o := i) (v := X a i) C dX5_topOf_19 hsh ha (by omega) hN rfl ?_
        have hq2 : P i < 10 := (hP i (by omega)).2
        refine V_eqi (y := nI (P i)) ((hP i (by omega)).1) ?_
        refine V_callSI C [.int (nI K), .int (nI (P i))] ms_X5_77 (k_X9_isIn w l K (P i) X (by omega) (by omega)) dX5_topOf_20 rfl rfl (Nat.le_of_ble_eq_true rfl) (Nat.le_of_ble_eq_true rfl) (Nat.le_of_ble_eq_true rfl) ⟨Nat.le_refl _, Nat.le_refl _⟩ (fun v3 X3 q3 => ?_)
        obtain ⟨hb3, eX3⟩ := q3; subst X3
        refine V_if_eqB (tgt := 29) C hb3 dX5_topOf_23 (by decide) (fun h23_4 => ?_) (fun h23_4 => ?_)
        · refine V_aload_n C dX5_topOf_29 rfl ?_
          refine V_aload_n C dX5_topOf_30 rfl ?_
          refine V_iload C dX5_topOf_31 rfl ?_
          refine V_ialdN (p0 := a) (o := i) (v := X a i) C dX5_topOf_33 hsh ha (by omega) hN rfl ?_
          have hq5 : P i < 10 := (hP i (by omega)).2
          refine V_eqi (y := nI (P i)) ((hP i (by omega)).1) ?_
          refine V_iload_n C dX5_topOf_34 rfl ?_
          refine V_callVI C [.int (nI (P i)), .int (nI rd)] mi_X5_81 (k_X5_rankOf w l (P i) rd X hn hrd hcr (by omega)) dX5_topOf_35 sh_68 (by decide) rfl rfl rfl (Nat.le_of_ble_eq_true rfl) (Nat.le_of_ble_eq_true rfl) (Nat.le_of_ble_eq_true rfl) ⟨Nat.le_refl _, Nat.le_refl _⟩ (fun v6 X6 q6 => ?_)
          obtain ⟨ev6, eX6⟩ := q6; subst X6
          have hle6 : rkc X rd (P i) ≤ 10 := rkc_le
          subst v6
          refine V_aload_n C dX5_topOf_38 rfl ?_
          refine V_aload_n C dX5_topOf_39 rfl ?_
          refine V_iload C dX5_topOf_40 rfl ?_
          refine V_ialdN (p0 := a) (o := t) (v := X a t) C dX5_topOf_42 hsh ha (by omega) hN rfl ?_
          have hq7 : P t < 10 := (hP t (by omega)).2
          refine V_eqi (y := nI (P t)) ((hP t (by omega)).1) ?_
          refine V_iload_n C dX5_topOf_43 rfl ?_
          refine V_callVI C [.int (nI (P t)), .int (nI rd)] mi_X5_81 (k_X5_rankOf w l (P t) rd X hn hrd hcr (by omega)) dX5_topOf_44 sh_68 (by decide) rfl rfl rfl (Nat.le_of_ble_eq_true rfl) (Nat.le_of_ble_eq_true rfl) (Nat.le_of_ble_eq_true rfl) ⟨Nat.le_refl _, Nat.le_refl _⟩ (fun v8 X8 q8 => ?_)
          obtain ⟨ev8, eX8⟩ := q8; subst X8
          have hle8 : rkc X rd (P t) ≤ 10 := rkc_le
          subst v8
          refine V_icmp_leN (a := rkc X rd (P i)) (b := rkc X rd (P t)) (tgt := 54) C dX5_topOf_47 (by decide) (by omega) (by omega) (fun h47_9 => ?_) (fun h47_9 => ?_)
          · refine V_iincN (a := i) (ls1 := [some (.ref (w.2.1 68)), some (.ref (w.2.1 a)), some (.int (nI z)), some (.int (nI rd)), some (.int (nI t)), some (.int (nI (i + 1)))]) C dX5_topOf_54 rfl (by decide) rfl ?_
            refine V_goto (tgt := 6) C dX5_topOf_57 (by decide) ?_
            exact ih6 (i + 1) t (by omega) (by omega) (by omega) (all_succ hno (by assumption)) (Best_old hbt (by omega))
          · refine V_iload C dX5_topOf_50 rfl ?_
            refine V_istore (ls1 := [some (.ref (w.2.1 68)), some (.ref (w.2.1 a)), some (.int (nI z)), some (.int (nI rd)), some (.int (nI i)), some (.int (nI i))]) C dX5_topOf_52 (by decide) rfl ?_
            refine V_iincN (a := i) (ls1 := [some (.ref (w.2.1 68)), some (.ref (w.2.1 a)), some (.int (nI z)), some (.int (nI rd)), some (.int (nI i)), some (.int (nI (i + 1)))]) C dX5_topOf_54 rfl (by decide) rfl ?_
            refine V_goto (tgt := 6) C dX5_topOf_57 (by decide) ?_
            exact ih6 (i + 1) i (by omega) (by omega) (by omega) (all_succ hno (by assumption)) (Best_new hbt (by omega))
        · refine V_iload C dX5_topOf_26 rfl ?_
          exact V_ireturnI C dX5_topOf_28 ⟨⟨i, rfl, Or.inl ⟨by omega, by assumption, hno⟩⟩, rfl⟩
  exact L6 _ 0 0 (Nat.lt_succ_self _) (by omega) (by omega) (fun j h => absurd h (Nat.not_lt_zero _)) BestTo_0
