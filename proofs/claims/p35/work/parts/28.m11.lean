def q_X5_coneOf (net : Nat) (X : Mem) (W : Nat → Nat → Prop) : Int32 → Mem → Prop := fun v X' => SetIs v (Rch W net) ∧ X' = X
set_option maxHeartbeats 4000000 in
set_option maxRecDepth 100000 in
theorem k_X5_coneOf (w : Wt) (l : Launch) (net : Nat) (X : Mem) (W : Nat → Nat → Prop) (hW : SetRow (X 84) W) (hn : net < 10) : CtI w l yX5_coneOf cX5_coneOf 5 (some .int) 2 41 [.ref (w.2.1 68), .int (nI net)] X (q_X5_coneOf net X W) := by
  refine CtI_of (by decide +kernel) (Nat.le_of_ble_eq_true rfl) (List.forall_mem_cons.mpr ⟨rfl, (List.forall_mem_cons.mpr ⟨rfl, (fun _ h => nomatch h)⟩)⟩) (ls := [some (.ref (w.2.1 68)), some (.int (nI net)), none, none, none]) rfl (args := (#[.ref (w.2.1 68), .int (nI net)] : Array Value)) rfl (own := RX5) rfl ?_
  intro p e s m below meth c C
  refine V_iconst (v := (1 : Int32)) C dX5_coneOf_0 (by decide) ?_
  refine V_iload_n C dX5_coneOf_1 rfl ?_
  refine V_ishl C dX5_coneOf_2 ?_
  refine V_eqi (y := nI (2 ^ net)) (shl1 (by omega)) ?_
  refine V_istore_n (ls1 := [some (.ref (w.2.1 68)), some (.int (nI net)), some (.int (nI (2 ^ net))), none, none]) C dX5_coneOf_3 (by decide) rfl ?_
  refine V_iconst (v := (0 : Int32)) C dX5_coneOf_4 (by decide) ?_
  refine V_istore_n (ls1 := [some (.ref (w.2.1 68)), some (.int (nI net)), some (.int (nI (2 ^ net))), some (.int (0 : Int32)), none]) C dX5_coneOf_5 (by decide) rfl ?_
  have L6 : ∀ (fu : Nat) (st : Nat) (M : Nat), 10 - st < fu → (st ≤ 10) → (ConeI W net st M) → V p l e ({ frames := 2, cells := 0, slots := 0, locals := 41 } : Room) s m (#[.ref (w.2.1 68), .int (nI net)] : Array Value) below meth c w 5 0 0 (EI w below s (#[.ref (w.2.1 68), .int (nI net)] : Array Value) 0 0 (q_X5_coneOf net X W)) 6 [some (.ref (w.2.1 68)), some (.int (nI net)), some (.int (nI M)), some (.int (nI st)), none] [] X := by
    intro fu
    induction fu with
    | zero => intro st M hm; exact absurd hm (Nat.not_lt_zero _)
    | succ fu ih6 =>
      intro st M hm6 hs hM
      refine V_iload_n C dX5_coneOf_6 rfl ?_
      refine V_bipush (v := (10 : Int32)) C dX5_coneOf_7 (by decide) ?_
      refine V_icmp_geN (a := st) (b := 10) (tgt := 55) C dX5_coneOf_9 (by decide) (by omega) (by omega) (fun h9_1 => ?_) (fun h9_1 => ?_)
      · refine V_iload_n C dX5_coneOf_55 rfl ?_
        exact V_ireturnI C dX5_coneOf_56 ⟨ConeI_end ((show st = 10 from by omega) ▸ hM), rfl⟩
      · refine V_iconst (v := (0 : Int32)) C dX5_coneOf_12 (by decide) ?_
        refine V_istore (ls1 := [some (.ref (w.2.1 68)), some (.int (nI net)), some (.int (nI M)), some (.int (nI st)), some (.int (0 : Int32))]) C dX5_coneOf_13 (by decide) rfl ?_
        have L15 : ∀ (fu : Nat) (mm : Nat) (M2 : Nat), 10 - mm < fu → (mm ≤ 10) → (Swp W net M mm M2) → V p l e ({ frames := 2, cells := 0, slots := 0, locals := 41 } : Room) s m (#[.ref (w.2.1 68), .int (nI net)] : Array Value) below meth c w 5 0 0 (EI w below s (#[.ref (w.2.1 68), .int (nI net)] : Array Value) 0 0 (q_X5_coneOf net X W)) 15 [some (.ref (w.2.1 68)), some (.int (nI net)), some (.int (nI M2)), some (.int (nI st)), some (.int (nI mm))] [] X := by
          intro fu
          induction fu with
          | zero => intro mm M2 hm; exact absurd hm (Nat.not_lt_zero _)
          | succ fu ih15 =>
            intro mm M2 hm15 hm hSw
            have hSw1 := hSw.1
            refine V_iload C dX5_coneOf_15 rfl ?_
            refine V_bipush (v := (10 : Int32)) C dX5_coneOf_17 (by decide) ?_
            refine V_icmp_geN (a := mm) (b := 10) (tgt := 49) C dX5_coneOf_19 (by decide) (by omega) (by omega) (fun h19_2 => ?_) (fun h19_2 => ?_)
            · refine V_iincN (a := st) (ls1 := [some (.ref (w.2.1 68)), some (.int (nI net)), some (.int (nI M2)), some (.int (nI (st + 1))), some (.int (nI mm))]) C dX5_coneOf_49 rfl (by decide) rfl ?_
              refine V_goto (tgt := 6) C dX5_coneOf_52 (by decide) ?_
              refine V_kill (i := 4) (ls1 := [some (.ref (w.2.1 68)), some (.int (nI net)), some (.int (nI M2)), some (.int (nI (st + 1))), none]) rfl ?_
              exact ih6 (st + 1) M2 (by omega) (by omega) (ConeI_s hM (show Swp W net M 10 M2 from (show mm = 10 from by omega) ▸ hSw))
            · refine V_iload_n C dX5_coneOf_22 rfl ?_
              refine V_iload C dX5_coneOf_23 rfl ?_
              refine V_callSI C [.int (nI M2), .int (nI mm)] ms_X5_77 (k_X9_isIn w l M2 mm X (by omega) (by omega)) dX5_coneOf_25 rfl rfl (Nat.le_of_ble_eq_true rfl) (Nat.le_of_ble_eq_true rfl) (Nat.le_of_ble_eq_true rfl) ⟨Nat.le_refl _, Nat.le_refl _⟩ (fun v3 X3 q3 => ?_)
              obtain ⟨hb3, eX3⟩ := q3; subst X3
              refine V_if_eqB (tgt := 43) C hb3 dX5_coneOf_28 (by decide) (fun h28_4 => ?_) (fun h28_4 => ?_)
              · refine V_iincN (a := mm) (ls1 := [some (.ref (w.2.1 68)), some (.int (nI net)), some (.int (nI M2)), some (.int (nI st)), some (.int (nI (mm + 1)))]) C dX5_coneOf_43 rfl (by decide) rfl ?_
                refine V_goto (tgt := 15) C dX5_coneOf_46 (by decide) ?_
                exact ih15 (mm + 1) M2 (by omega) (by omega) (Swp_no hSw (by assumption))
              · refine V_iload_n C dX5_coneOf_31 rfl ?_
                refine V_aload_n C dX5_coneOf_32 rfl ?_
                refine V_getr C fl_X5_24 dX5_coneOf_33 (by decide) sh_68 rfl ?_
                refine V_iconst (v := (2 : Int32)) C dX5_coneOf_36 (by decide) ?_
                refine V_aaldN (o := 2) (q := 84) C dX5_coneOf_37 sh_81 (by decide) (by omega) (by decide) rfl ?_
                refine V_iload C dX5_coneOf_38 rfl ?_
                refine V_ialdN (p0 := 84) (o := mm) (v := X 84 mm) C dX5_coneOf_40 sh_84 (by decide) (by omega) (by decide) rfl ?_
                obtain ⟨a5, ha5, ea5⟩ := hW mm (by omega)
                have ia5 : ix (nI a5) = a5 := ix_nI (by omega)
                refine V_eqi ea5 ?_
                refine V_ior C dX5_coneOf_41 ?_
                refine V_eqi (y := nI (M2 ||| a5)) (nI_or _ _) ?_
                refine V_istore_n (ls1 := [some (.ref (w.2.1 68)), some (.int (nI net)), some (.int (nI (M2 ||| a5))), some (.int (nI st)), some (.int (nI mm))]) C dX5_coneOf_42 (by decide) rfl ?_
                refine V_iincN (a := mm) (ls1 := [some (.ref (w.2.1 68)), some (.int (nI net)), some (.int (nI (M2 ||| a5))), some (.int (nI st)), some (.int (nI (mm + 1)))]) C dX5_coneOf_43 rfl (by decide) rfl ?_
                refine V_goto (tgt := 15) C dX5_coneOf_46 (by decide) ?_
                exact ih15 (mm + 1) (M2 ||| a5) (by omega) (by omega) (Swp_yes (by omega) hSw (by assumption) ha5.1 ha5.2)
        exact L15 _ 0 M (Nat.lt_succ_self _) (by omega) (Swp_0 hM.1 hM.2.2.1)
  exact L6 _ 0 (2 ^ net) (Nat.lt_succ_self _) (by omega) (ConeI_0 hn)
def q_X5_customersAhead (a : Nat) (z : Nat) (net : Nat) (X : Mem) (N : Nat) (P : Nat → Nat) (W : Nat → Nat → Prop) : Int32 → Mem → Prop := fun v X' => SetIs v (Ahd W P z net) ∧ X' = X
set_option maxHeartbeats 4000000 in
set_option maxRecDepth 100000 in
theorem k_X5_customersAhead (w : Wt) (l : Launch) (a : Nat) (z : Nat) (net : Nat) (X : Mem) (N : Nat) (P : Nat → Nat) (W : Nat → Nat → Prop) (hsh : sh a = .inl (0, N)) (hN : N ≤ 256) (ha : a < 92) (hP : PA X a P z) (hzN : z ≤ N) (hW : SetRow (X 84) W) (hnr : ¬ Rnd P z) (hn : net < 10) : CtI w l yX5_customersAhead cX5_customersAhead 6 (some .int) 2 41 [.ref (w.2.1 68), .ref (w.2.1 a), .int (nI z), .int (nI net)] X (q_X5_customersAhead a z net X N P W) := by
  refine CtI_of (by decide +kernel) (Nat.le_of_ble_eq_true rfl) (List.forall_mem_cons.mpr ⟨rfl, (List.forall_mem_cons.mpr ⟨rfl, (List.forall_mem_cons.mpr ⟨rfl, (List.forall_mem_cons.mpr ⟨rfl, (fun _ h => nomatch h)⟩)⟩)⟩)⟩) (ls := [some (.ref (w.2.1 68)), some (.ref (w.2.1 a)), some (.int (nI z)), some (.int (nI net)), none, none]) rfl (args := (#[.ref (w.2.1 68), .ref (w.2.1 a), .int (nI z), .int (nI net)] : Array Value)) rfl (own := RX5) rfl ?_
  intro p e s m below meth c C
  refine V_iconst (v := (0 : Int32)) C dX5_customersAhead_0 (by decide) ?_
  refine V_istore (ls1 := [some (.ref (w.2.1 68)), some (.ref (w.2.1 a)), some (.int (nI z)), some (.int (nI net)), some (.int (0 : Int32)), none]) C dX5_customersAhead_1 (by decide) rfl ?_
  refine V_iconst (v := (0 : Int32)) C dX5_customersAhead_3 (by decide) ?_
  refine V_istore (ls1 := [some (.ref (w.2.1 68)), some (.ref (w.2.1 a)), some (.int (nI z)), some (.int (nI net)), some (.int (0 : Int32)), some (.int (0 : Int32))]) C dX5_customersAhead_4 (by decide) rfl ?_
  have L6 : ∀ (fu : Nat) (i : Nat) (ch : Nat), z - i < fu → (i ≤ z) → (ch < 1024) → (SetIs (nI ch) (ChN W P i)) → (∀ j, j < i → P j ≠ net) → V p l e ({ frames := 2, cells := 0, slots := 0, locals := 41 } : Room) s m (#[.ref (w.2.1 68), .ref (w.2.1 a), .int (nI z), .int (nI net)] : Array Value) below meth c w 6 0 0 (EI w below s (#[.ref (w.2.1 68), .ref (w.2.1 a), .int (nI z), .int (nI net)] : Array Value) 0 0 (q_X5_customersAhead a z net X N P W)) 6 [some (.ref (w.2.1 68)), some (.ref (w.2.1 a)), some (.int (nI z)), some (.int (nI net)), some (.int (nI ch)), some (.int (nI i))] [] X := by
    intro fu
    induction fu with
    | zero => intro i ch hm; exact absurd hm (Nat.not_lt_zero _)
    | succ fu ih6 =>
      intro i ch hm6 hi hc1 hch hno
      refine V_iload C dX5_customersAhead_6 rfl ?_
      refine V_iload_n C dX5_customersAhead_8 rfl ?_
      refine V_icmp_geN (a := i) (b := z) (tgt := 71) C dX5_customersAhead_9 (by decide) (by omega) (by omega) (fun h9_1 => ?_) (fun h9_1 => ?_)
      · refine V_iconst (v := (0 : Int32)) C dX5_customersAhead_71 (by decide) ?_
        exact V_ireturnI C dX5_customersAhead_72 ⟨SetIs_congr SetIs_0 (fun b => ⟨False.elim, fun ⟨j, h1, h2, _⟩ => hno j (by omega) h2⟩), rfl⟩
      · refine V_iload C dX5_customersAhead_12 rfl ?_
        refine V_if_leN (a := i) (tgt := 43) C dX5_customersAhead_14 (by decide) (by omega) (fun h14_2 => ?_) (fun h14_2 => ?_)
        · have hE : SetIs (nI ch) (ChE W P i) := (by first | exact SetIs_congr hch (fun b => ChE_y (by omega) ((hi0.2 _).mp (by assumption))) | (have e : i = 0 := (by omega); subst e; exact SetIs_congr hch (fun b => ⟨fun ⟨_, h, _⟩ => absurd h (Nat.not_lt_zero _), fun g => (ChE_0 g).elim⟩)))
          refine V_aload_n C dX5_customersAhead_43 rfl ?_
          refine V_iload C dX5_customersAhead_44 rfl ?_
          refine V_ialdN (p0 := a) (o := i) (v := X a i) C dX5_customersAhead_46 hsh ha (by omega) hN rfl ?_
          have hq3 : P i < 10 := (hP i (by omega)).2
          refine V_eqi (y := nI (P i)) ((hP i (by omega)).1) ?_
          refine V_iload_n C dX5_customersAhead_47 rfl ?_
          refine V_icmp_neN (a := P i) (b := net) (tgt := 54) C dX5_customersAhead_48 (by decide) (by omega) (by omega) (fun h48_4 => ?_) (fun h48_4 => ?_)
          · refine V_iload C dX5_customersAhead_54 rfl ?_
            refine V_iconst (v := (1 : Int32)) C dX5_customersAhead_56 (by decide) ?_
            refine V_aload_n C dX5_customersAhead_57 rfl ?_
            refine V_iload C dX5_customersAhead_58 rfl ?_
            refine V_ialdN (p0 := a) (o := i) (v := X a i) C dX5_customersAhead_60 hsh ha (by omega) hN rfl ?_
            have hq5 : P i < 10 := (hP i (by omega)).2
            refine V_eqi (y := nI (P i)) ((hP i (by omega)).1) ?_
            refine V_ishl C dX5_customersAhead_61 ?_
            refine V_eqi (y := nI (2 ^ (P i))) (shl1 (by omega)) ?_
            refine V_ior C dX5_customersAhead_62 ?_
            refine V_eqi (y := nI (ch ||| (2 ^ (P i)))) (nI_or _ _) ?_
            refine V_istore (ls1 := [some (.ref (w.2.1 68)), some (.ref (w.2.1 a)), some (.int (nI z)), some (.int (nI net)), some (.int (nI (ch ||| (2 ^ (P i))))), some (.int (nI i))]) C dX5_customersAhead_63 (by decide) rfl ?_
            refine V_iincN (a := i) (ls1 := [some (.ref (w.2.1 68)), some (.ref (w.2.1 a)), some (.int (nI z)), some (.int (nI net)), some (.int (nI (ch ||| (2 ^ (P i))))), some (.int (nI (i + 1)))]) C dX5_customersAhead_65 rfl (by decide) rfl ?_
            refine V_goto (tgt := 6) C dX5_customersAhead_68 (by decide) ?_
            exact ih6 (i + 1) (ch ||| (2 ^ (P i))) (by omega) (by omega) ((SetIs_add hE (by omega) (by omega)).2) (SetIs_congr (SetIs_add hE (by omega) (by omega)).1 (fun b => ChN_s.symm)) (all_succ hno (by assumption))
          · refine V_iload C dX5_customersAhead_51 rfl ?_
            exact V_ireturnI C dX5_customersAhead_53 ⟨SetIs_congr hE (fun b => (Ahd_at hnr (by omega) (by assumption)).symm), rfl⟩
        · refine V_aload_n C dX5_customersAhead_17 rfl ?_
          refine V_getr C fl_X5_24 dX5_customersAhead_18 (by decide) sh_68 rfl ?_
          refine V_iconst (v := (2 : Int32)) C dX5_customersAhead_21 (by decide) ?_
          refine V_aaldN (o := 2) (q := 84) C dX5_customersAhead_22 sh_81 (by decide) (by omega) (by decide) rfl ?_
          refine V_aload_n C dX5_customersAhead_23 rfl ?_
          refine V_iload C dX5_customersAhead_24 rfl ?_
          refine V_ialdN (p0 := a) (o := i) (v := X a i) C dX5_customersAhead_26 hsh ha (by omega) hN rfl ?_
          have hq6 : P i < 10 := (hP i (by omega)).2
          refine V_eqi (y := nI (P i)) ((hP i (by omega)).1) ?_
          refine V_ialdN (p0 := 84) (o := P i) (v := X 84 (P i)) C dX5_customersAhead_27 sh_84 (by decide) (by omega) (by decide) rfl ?_
          obtain ⟨a7, ha7, ea7⟩ := hW (P i) (by omega)
          have ia7 : ix (nI a7) = a7 := ix_nI (by omega)
          refine V_eqi ea7 ?_
          refine V_aload_n C dX5_customersAhead_28 rfl ?_
          refine V_iload C dX5_customersAhead_29 rfl ?_
          refine V_iconst (v := (1 : Int32)) C dX5_customersAhead_31 (by decide) ?_
          refine V_isubN (a := i) (b := 1) C dX5_customersAhead_32 (by omega) ?_
          refine V_ialdN (p0 := a) (o := i - 1) (v := X a (i - 1)) C dX5_customersAhead_33 hsh ha (by omega) hN rfl ?_
          have hq8 : P (i - 1) < 10 := (hP (i - 1) (by omega)).2
          refine V_eqi (y := nI (P (i - 1))) ((hP (i - 1) (by omega)).1) ?_
          refine V_callSI C [.int (nI a7), .int (nI (P (i - 1)))] ms_X5_77 (k_X9_isIn w l a7 (P (i - 1)) X (by omega) (by omega)) dX5_customersAhead_34 rfl rfl (Nat.le_of_ble_eq_true rfl) (Nat.le_of_ble_eq_true rfl) (Nat.le_of_ble_eq_true rfl) ⟨Nat.le_refl _, Nat.le_refl _⟩ (fun v9 X9 q9 => ?_)
          obtain ⟨hb9, eX9⟩ := q9; subst X9
          refine V_if_neB (tgt := 43) C hb9 dX5_customersAhead_37 (by decide) (fun h37_10 => ?_) (fun h37_10 => ?_)
          · have hE : SetIs (nI ch) (ChE W P i) := (by first | exact SetIs_congr hch (fun b => ChE_y (by omega) ((ha7.2 _).mp (by assumption))) | (have e : i = 0 := (by omega); subst e; exact SetIs_congr hch (fun b => ⟨fun ⟨_, h, _⟩ => absurd h (Nat.not_lt_zero _), fun g => (ChE_0 g).elim⟩)))
            refine V_aload_n C dX5_customersAhead_43 rfl ?_
            refine V_iload C dX5_customersAhead_44 rfl ?_
            refine V_ialdN (p0 := a) (o := i) (v := X a i) C dX5_customersAhead_46 hsh ha (by omega) hN rfl ?_
            have hq11 : P i < 10 := (hP i (by omega)).2
            refine V_eqi (y := nI (P i)) ((hP i (by omega)).1) ?_
            refine V_iload_n C dX5_customersAhead_47 rfl ?_
            refine V_icmp_neN (a := P i) (b := net) (tgt := 54) C dX5_customersAhead_48 (by decide) (by omega) (by omega) (fun h48_12 => ?_) (fun h48_12 => ?_)
            · refine V_iload C dX5_customersAhead_54 rfl ?_
              refine V_iconst (v := (1 : Int32)) C dX5_customersAhead_56 (by decide) ?_
              refine V_aload_n C dX5_customersAhead_57 rfl ?_
              refine V_iload C dX5_customersAhead_58 rfl ?_
              refine V_ialdN (p0 := a) (o := i) (v := X a i) C dX5_customersAhead_60 hsh ha (by omega) hN rfl ?_
              have hq13 : P i < 10 := (hP i (by omega)).2
              refine V_eqi (y := nI (P i)) ((hP i (by omega)).1) ?_
              refine V_ishl C dX5_customersAhead_61 ?_
              refine V_eqi (y := nI (2 ^ (P i))) (shl1 (by omega)) ?_
              refine V_ior C dX5_customersAhead_62 ?_
              refine V_eqi (y := nI (ch ||| (2 ^ (P i)))) (nI_or _ _) ?_
              refine V_istore (ls1 := [some (.ref (w.2.1 68)), some (.ref (w.2.1 a)), some (.int (nI z)), some (.int (nI net)), some (.int (nI (ch ||| (2 ^ (P i))))), some (.int (nI i))]) C dX5_customersAhead_63 (by decide) rfl ?_
              refine V_iincN (a := i) (ls1 := [some (.ref (w.2.1 68)), some (.ref (w.2.1 a)), some (.int (nI z)), some (.int (nI net)), some (.int (nI (ch ||| (2 ^ (P i))))), some (.int (nI (i + 1)))]) C dX5_customersAhead_65 rfl (by decide) rfl ?_
              refine V_goto (tgt := 6) C dX5_customersAhead_68 (by decide) ?_
              exact ih6 (i + 1) (ch ||| (2 ^ (P i))) (by omega) (by omega) ((SetIs_add hE (by omega) (by omega)).2) (SetIs_congr (SetIs_add hE (by omega) (by omega)).1 (fun b => ChN_s.symm)) (all_succ hno (by assumption))
            · refine V_iload C dX5_customersAhead_51 rfl ?_
              exact V_ireturnI C dX5_customersAhead_53 ⟨SetIs_congr hE (fun b => (Ahd_at hnr (by omega) (by assumption)).symm), rfl⟩
          · refine V_iconst (v := (0 : Int32)) C dX5_customersAhead_40 (by decide) ?_
            refine V_istore (ls1 := [some (.ref (w.2.1 68)), some (.ref (w.2.1 a)), some (.int (nI z)), some (.int (nI net)), some (.int (0 : Int32)), some (.int (nI i))]) C dX5_customersAhead_41 (by decide) rfl ?_
            have hE : SetIs (nI 0) (ChE W P i) := SetIs_congr SetIs_0 (fun b => ⟨False.elim, fun g => (ChE_n (by omega) (fun q => absurd ((ha7.2 _).mpr q) (by assumption)) g).elim⟩)
            refine V_aload_n C dX5_customersAhead_43 rfl ?_
            refine V_iload C dX5_customersAhead_44 rfl ?_
            refine V_ialdN (p0 := a) (o := i) (v := X a i) C dX5_customersAhead_46 hsh ha (by omega) hN rfl ?_
            have hq14 : P i < 10 := (hP i (by omega)).2
            refine V_eqi (y := nI (P i)) ((hP i (by omega)).1) ?_
            refine V_iload_n C dX5_customersAhead_47 rfl ?_
            refine V_icmp_neN (a := P i) (b := net) (tgt := 54) C dX5_customersAhead_48 (by decide) (by omega) (by omega) (fun h48_15 => ?_) (fun h48_15 => ?_)
            · refine V_iload C dX5_customersAhead_54 rfl ?_
              refine V_iconst (v := (1 : Int32)) C dX5_customersAhead_56 (by decide) ?_
              refine V_aload_n C dX5_customersAhead_57 rfl ?_
              refine V_iload C dX5_customersAhead_58 rfl ?_
              refine V_ialdN (p0 := a) (o := i) (v := X a i) C dX5_customersAhead_60 hsh ha (by omega) hN rfl ?_
              have hq16 : P i < 10 := (hP i (by omega)).2
              refine V_eqi (y := nI (P i)) ((hP i (by omega)).1) ?_
              refine V_ishl C dX5_customersAhead_61 ?_
              refine V_eqi (y := nI (2 ^ (P i))) (shl1 (by omega)) ?_
              refine V_ior C dX5_customersAhead_62 ?_
              refine V_eqi (y := nI (0 ||| (2 ^ (P i)))) (nI_or _ _) ?_
              refine V_istore (ls1 := [some (.ref (w.2.1 68)), some (.ref (w.2.1 a)), some (.int (nI z)), some (.int (nI net)), some (.int (nI (0 ||| (2 ^ (P i))))), some (.int (nI i))]) C dX5_customersAhead_63 (by decide) rfl ?_
              refine V_iincN (a := i) (ls1 := [some (.ref (w.2.1 68)), some (.ref (w.2.1 a)), some (.int (nI z)), some (.int (nI net)), some (.int (nI (0 ||| (2 ^ (P i))))), some (.int (nI (i + 1)))]) C dX5_customersAhead_65 rfl (by decide) rfl ?_
              refine V_goto (tgt := 6) C dX5_customersAhead_68 (by decide) ?_
              exact ih6 (i + 1) (0 ||| (2 ^ (P i))) (by omega) (by omega) ((SetIs_add hE (by omega) (by omega)).2) (SetIs_congr (SetIs_add hE (by omega) (by omega)).1 (fun b => ChN_s.symm)) (all_succ hno (by assumption))
            · refine V_iload C dX5_customersAhead_51 rfl ?_
              exact V_ireturnI C dX5_customersAhead_53 ⟨SetIs_congr hE (fun b => (Ahd_at hnr (by omega) (by assumption)).symm), rfl⟩
  exact L6 _ 0 0 (Nat.lt_succ_self _) (by omega) (by omega) (SetIs_congr SetIs_0 (fun b => ⟨False.elim, fun ⟨_, h, _⟩ => absurd h (Nat.not_lt_zero _)⟩)) (fun j h => absurd h (Nat.not_lt_zero _))
def q_X5_pathConeOf (net : Nat) (X : Mem) (W : Nat → Nat → Prop) (R : Nat) (PP : Nat → Nat → Nat) (Z : Nat → Nat) (Th : Nat → Prop) : Int32 → Mem → Prop := fun v X' => SetIs v (PCone W PP Z Th R net) ∧ X' = X
set_option maxHeartbeats 4000000 in
set_option maxRecDepth 100000 in
theorem k_X5_pathConeOf (w : Wt) (l : Launch) (net : Nat) (X : Mem) (W : Nat → Nat → Prop) (R : Nat) (PP : Nat → Nat → Nat) (Z : Nat → Nat) (Th : Nat → Prop) (hB : RBc X R PP Z Th) (hW : SetRow (X 84) W) (hn : net < 10) : CtI w l yX5_pathConeOf cX5_pathConeOf 4 (some .int) 4 85 [.ref (w.2.1 68), .int (nI net)] X (q_X5_pathConeOf net X W R PP Z Th) := by
  have hR24 := hB.1
  refine CtI_of (by decide +kernel) (Nat.le_of_ble_eq_true rfl) (List.forall_mem_cons.mpr ⟨rfl, (List.forall_mem_cons.mpr ⟨rfl, (fun _ h => nomatch h)⟩)⟩) (ls := [some (.ref (w.2.1 68)), some (.int (nI net)), none, none]) rfl (args := (#[.ref (w.2.1 68), .int (nI net)] : Array Value)) rfl (own := RX5) rfl ?_
  intro p e s m below meth c C
  refine V_iconst (v := (1 : Int32)) C dX5_pathConeOf_0 (by decide) ?_
  refine V_iload_n C dX5_pathConeOf_1 rfl ?_
  refine V_ishl C dX5_pathConeOf_2 ?_
  refine V_eqi (y := nI (2 ^ net)) (shl1 (by omega)) ?_
  refine V_istore_n (ls1 := [some (.ref (w.2.1 68)), some (.int (nI net)), some (.int (nI (2 ^ net))), none]) C dX5_pathConeOf_3 (by decide) rfl ?_
  refine V_iconst (v := (0 : Int32)) C dX5_pathConeOf_4 (by decide) ?_
  refine V_istore_n (ls1 := [some (.ref (w.2.1 68)), some (.int (nI net)), some (.int (nI (2 ^ net))), some (.int (0 : Int32))]) C dX5_pathConeOf_5 (by decide) rfl ?_
  have L6 : ∀ (fu : Nat) (r : Nat) (mv : Int32), R - r < fu → (r ≤ R) → (SetIs mv (PCone W PP Z Th r net)) → V p l e ({ frames := 4, cells := 0, slots := 0, locals := 85 } : Room) s m (#[.ref (w.2.1 68), .int (nI net)] : Array Value) below meth c w 4 0 0 (EI w below s (#[.ref (w.2.1 68), .int (nI net)] : Array Value) 0 0 (q_X5_pathConeOf net X W R PP Z Th)) 6 [some (.ref (w.2.1 68)), some (.int (nI net)), some (.int mv), some (.int (nI r))] [] X := by
    intro fu
    induction fu with
    | zero => intro r mv hm; exact absurd hm (Nat.not_lt_zero _)
    | succ fu ih6 =>
      intro r mv hm6 hr hm
      refine V_iload_n C dX5_pathConeOf_6 rfl ?_
      refine V_aload_n C dX5_pathConeOf_7 rfl ?_
      refine V_getr C fl_X5_27 dX5_pathConeOf_8 (by decide) sh_68 rfl ?_
      refine V_geti C fl_X5_44 dX5_pathConeOf_11 (by decide) sh_20 rfl ?_
      refine V_eqi (y := nI R) hB.2.1 ?_
      refine V_icmp_geN (a := r) (b := R) (tgt := 60) C dX5_pathConeOf_14 (by decide) (by omega) (by omega) (fun h14_1 => ?_) (fun h14_1 => ?_)
      · refine V_iload_n C dX5_pathConeOf_60 rfl ?_
        exact V_ireturnI C dX5_pathConeOf_61 ⟨(show r = R from by omega) ▸ hm, rfl⟩
      · refine V_aload_n C dX5_pathConeOf_17 rfl ?_
        refine V_getr C fl_X5_27 dX5_pathConeOf_18 (by decide) sh_68 rfl ?_
        refine V_iload_n C dX5_pathConeOf_21 rfl ?_
        refine V_callVI C [.int (nI r)] mi_X5_49 (k_X6_tellsRelations w l r X R PP Z Th hB (by omega)) dX5_pathConeOf_22 sh_20 (by decide) rfl rfl rfl (Nat.le_of_ble_eq_true rfl) (Nat.le_of_ble_eq_true rfl) (Nat.le_of_ble_eq_true rfl) ⟨Nat.le_refl _, Nat.le_refl _⟩ (fun v2 X2 q2 => ?_)
        obtain ⟨hb2, eX2⟩ := q2; subst X2
        refine V_if_eqB (tgt := 54) C hb2 dX5_pathConeOf_25 (by decide) (fun h25_3 => ?_) (fun h25_3 => ?_)
        · refine V_iincN (a := r) (ls1 := [some (.ref (w.2.1 68)), some (.int (nI net)), some (.int mv), some (.int (nI (r + 1)))]) C dX5_pathConeOf_54 rfl (by decide) rfl ?_
          refine V_goto (tgt := 6) C dX5_pathConeOf_57 (by decide) ?_
          exact ih6 (r + 1) mv (by omega) (by omega) (PCone_s0 hm (by assumption))
        · refine V_iload_n C dX5_pathConeOf_28 rfl ?_
          refine V_aload_n C dX5_pathConeOf_29 rfl ?_
          refine V_aload_n C dX5_pathConeOf_30 rfl ?_
          refine V_getr C fl_X5_27 dX5_pathConeOf_31 (by decide) sh_68 rfl ?_
          refine V_getr C fl_X5_53 dX5_pathConeOf_34 (by decide) sh_20 rfl ?_
          refine V_iload_n C dX5_pathConeOf_37 rfl ?_
          refine V_aaldN (o := r) (q := 23 + r) C dX5_pathConeOf_38 sh_22 (by decide) (by omega) (by decide) rfl ?_
          refine V_aload_n C dX5_pathConeOf_39 rfl ?_
          refine V_getr C fl_X5_27 dX5_pathConeOf_40 (by decide) sh_68 rfl ?_
          refine V_getr C fl_X5_56 dX5_pathConeOf_43 (by decide) sh_20 rfl ?_
          refine V_iload_n C dX5_pathConeOf_46 rfl ?_
          refine V_ialdN (p0 := 47) (o := r) (v := X 47 r) C dX5_pathConeOf_47 sh_47 (by decide) (by omega) (by decide) rfl ?_
          have hq4 : 1 ≤ Z r ∧ Z r ≤ 6 := ⟨(hB.2.2 r (by omega)).1, (hB.2.2 r (by omega)).2.1⟩
          refine V_eqi (y := nI (Z r)) ((hB.2.2 r (by omega)).2.2.1) ?_
          refine V_iload_n C dX5_pathConeOf_48 rfl ?_
          refine V_callVI C [.ref (w.2.1 (23 + r)), .int (nI (Z r)), .int (nI net)] mi_X5_85 (k_X5_customersAhead w l (23 + r) (Z r) net X 6 (PP r) W (sh_nets (by omega)) (by decide) (by omega) (hB.2.2 r (by omega)).2.2.2.1 (by omega) hW (by assumption : Us PP Z Th r).2 hn) dX5_pathConeOf_49 sh_68 (by decide) rfl rfl rfl (Nat.le_of_ble_eq_true rfl) (Nat.le_of_ble_eq_true rfl) (Nat.le_of_ble_eq_true rfl) ⟨Nat.le_refl _, Nat.le_refl _⟩ (fun v5 X5 q5 => ?_)
          obtain ⟨hv5, eX5⟩ := q5; subst X5
          refine V_ior C dX5_pathConeOf_52 ?_
          refine V_istore_n (ls1 := [some (.ref (w.2.1 68)), some (.int (nI net)), some (.int (mv ||| v5)), some (.int (nI r))]) C dX5_pathConeOf_53 (by decide) rfl ?_
          refine V_iincN (a := r) (ls1 := [some (.ref (w.2.1 68)), some (.int (nI net)), some (.int (mv ||| v5)), some (.int (nI (r + 1)))]) C dX5_pathConeOf_54 rfl (by decide) rfl ?_
          refine V_goto (tgt := 6) C dX5_pathConeOf_57 (by decide) ?_
          exact ih6 (r + 1) (mv ||| v5) (by omega) (by omega) (PCone_s1 hm (by assumption) hv5)
  exact L6 _ 0 (nI (2 ^ net)) (Nat.lt_succ_self _) (by omega) (PCone_0 hn)
