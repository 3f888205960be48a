def q_L_isRoute (r : Nat) (F : Nat) (X : Mem) (h D n Dd R : Nat) (dr : Nat → Nat) (PP : Nat → Nat → Nat) (Z : Nat → Nat) (Th : Nat → Prop) : Int32 → Mem → Prop := fun r' X' => r' = 1 ∧ Kp X X'
set_option maxHeartbeats 4000000 in
set_option maxRecDepth 100000 in
theorem k_L_isRoute (w : Wt) (l : Launch) (r : Nat) (F : Nat) (X : Mem) (h D n Dd R : Nat) (dr : Nat → Nat) (PP : Nat → Nat → Nat) (Z : Nat → Nat) (Th : Nat → Prop) (hJ : JP X h D n Dd R dr PP Z Th) (hL : LA X h n R PP Z Th) (hr : r < R) (hR8 : R ≤ 8) (hF : F < 1024) : CtN w l yL_isRoute cL_isRoute 15 (some .boolean) 16 400 12 [.ref (w.2.1 0), .ref (w.2.1 91), .int (nI r), .int (nI F)] X (q_L_isRoute r F X h D n Dd R dr PP Z Th) := by
  have hK0 : Kp X X := Kp.rf
  have h1 := hJ.1.2.2.2.1
  have h8 := hJ.1.2.2.2.2.1
  have n50 := hJ.2.1.2.1.1
  have hR24 : R ≤ 24 := by omega
  refine CtN_of (by decide +kernel) (Nat.le_of_ble_eq_true rfl) (List.forall_mem_cons.mpr ⟨rfl, (List.forall_mem_cons.mpr ⟨rfl, (List.forall_mem_cons.mpr ⟨rfl, (List.forall_mem_cons.mpr ⟨rfl, (fun _ h => nomatch h)⟩)⟩)⟩)⟩) (ls := [some (.ref (w.2.1 0)), some (.ref (w.2.1 91)), some (.int (nI r)), some (.int (nI F)), none, none, none, none, none, none, none, none, none, none, none]) rfl (args := (#[.ref (w.2.1 0), .ref (w.2.1 91), .int (nI r), .int (nI F)] : Array Value)) rfl (own := RL) rfl ?_
  intro p e s m below meth c C hD hN
  refine V_aload_n C dL_isRoute_0 rfl ?_
  refine V_iconst (v := (2 : Int32)) C dL_isRoute_1 (by decide) ?_
  refine V_iload_n C dL_isRoute_2 rfl ?_
  refine V_iconst (v := (1 : Int32)) C dL_isRoute_3 (by decide) ?_
  refine V_lcallS (na := 4) C hD hN [.ref (w.2.1 0), .int (2 : Int32), .int (nI r), .int (1 : Int32)] pl_L_54 (tb_i 738 (by decide +kernel) (by decide +kernel)) (tb_i 31 (by decide +kernel) (by decide +kernel)) (by decide +kernel) (tb_i 737 (by decide +kernel) (by decide +kernel)) (k_L_on_21 w l (nI r) X h n R PP Z Th hJ.2.1.2.1 hJ.1.2.2.2 hJ.2.1.1 hJ.1.2.2.1 hJ.2.2.2.1.1 (fun E X1 h => Or.inl h.2.1)) dL_isRoute_4 rfl rfl (Nat.le_of_ble_eq_true rfl) (Nat.le_of_ble_eq_true rfl) (Nat.le_of_ble_eq_true rfl) ⟨by decide, by decide⟩ (fun v1 X1 q1 => ?_)
  obtain ⟨hK1, hf1⟩ := on_up hK0 hR24 hr q1
  have hJ1 := JP_k hK1 hJ
  refine V_istore (ls1 := [some (.ref (w.2.1 0)), some (.ref (w.2.1 91)), some (.int (nI r)), some (.int (nI F)), some (.int v1), none, none, none, none, none, none, none, none, none, none]) C dL_isRoute_7 (by decide) rfl ?_
  refine V_aload_n C dL_isRoute_9 rfl ?_
  refine V_iconst (v := (2 : Int32)) C dL_isRoute_10 (by decide) ?_
  refine V_iload_n C dL_isRoute_11 rfl ?_
  refine V_iconst (v := (0 : Int32)) C dL_isRoute_12 (by decide) ?_
  refine V_lcallS (na := 4) C hD hN [.ref (w.2.1 0), .int (2 : Int32), .int (nI r), .int (0 : Int32)] pl_L_54 (tb_i 738 (by decide +kernel) (by decide +kernel)) (tb_i 31 (by decide +kernel) (by decide +kernel)) (by decide +kernel) (tb_i 737 (by decide +kernel) (by decide +kernel)) (k_L_on_20 w l (nI r) X1 h n R PP Z Th hJ1.2.1.2.1 hJ1.1.2.2.2 hJ1.2.1.1 hJ1.1.2.2.1 hJ1.2.2.2.1.1 (fun E X1 h => Or.inl h.2.1)) dL_isRoute_13 rfl rfl (Nat.le_of_ble_eq_true rfl) (Nat.le_of_ble_eq_true rfl) (Nat.le_of_ble_eq_true rfl) ⟨by decide, by decide⟩ (fun v2 X2 q2 => ?_)
  obtain ⟨hK2, hf2⟩ := on_down hK1 hR24 hr q2
  have hJ2 := JP_k hK2 hJ
  refine V_istore (ls1 := [some (.ref (w.2.1 0)), some (.ref (w.2.1 91)), some (.int (nI r)), some (.int (nI F)), some (.int v1), some (.int v2), none, none, none, none, none, none, none, none, none]) C dL_isRoute_16 (by decide) rfl ?_
  refine V_aload_n C dL_isRoute_18 rfl ?_
  refine V_bipush (v := (7 : Int32)) C dL_isRoute_19 (by decide) ?_
  refine V_iload_n C dL_isRoute_21 rfl ?_
  refine V_imulN (a := 7) (b := r) C dL_isRoute_22 ?_
  refine V_ialdN (p0 := 91) (o := 7 * r) (v := X2 91 (7 * r)) C dL_isRoute_23 sh_91 (by decide) (by omega) (by decide) rfl ?_
  obtain ⟨a3, ha3, ea3, xa3⟩ := la_many hJ2 (LA_k hK2 hL) hr
  have ia3 : ix (nI a3) = a3 := ix_nI (by omega)
  refine V_eqi ea3 ?_
  refine V_istore (ls1 := [some (.ref (w.2.1 0)), some (.ref (w.2.1 91)), some (.int (nI r)), some (.int (nI F)), some (.int v1), some (.int v2), some (.int (nI a3)), none, none, none, none, none, none, none, none]) C dL_isRoute_24 (by decide) rfl ?_
  refine V_aload_n C dL_isRoute_26 rfl ?_
  refine V_iconst (v := (3 : Int32)) C dL_isRoute_27 (by decide) ?_
  refine V_iload_n C dL_isRoute_28 rfl ?_
  refine V_iconst (v := (0 : Int32)) C dL_isRoute_29 (by decide) ?_
  refine V_lcallS (na := 4) C hD hN [.ref (w.2.1 0), .int (3 : Int32), .int (nI r), .int (0 : Int32)] pl_L_54 (tb_i 738 (by decide +kernel) (by decide +kernel)) (tb_i 31 (by decide +kernel) (by decide +kernel)) (by decide +kernel) (tb_i 737 (by decide +kernel) (by decide +kernel)) (k_L_on_3 w l (nI r) X2 R PP Z Th hJ2.2.2.2.1.1 (fun E X1 h => Or.inl h.2.1)) dL_isRoute_30 rfl rfl (Nat.le_of_ble_eq_true rfl) (Nat.le_of_ble_eq_true rfl) (Nat.le_of_ble_eq_true rfl) ⟨by decide, by decide⟩ (fun v4 X4 q4 => ?_)
  obtain ⟨hK4, hf4⟩ := on_leak hK2 hR24 hr q4
  have hJ4 := JP_k hK4 hJ
  refine V_istore (ls1 := [some (.ref (w.2.1 0)), some (.ref (w.2.1 91)), some (.int (nI r)), some (.int (nI F)), some (.int v1), some (.int v2), some (.int (nI a3)), some (.int v4), none, none, none, none, none, none, none]) C dL_isRoute_33 (by decide) rfl ?_
  refine V_aload_n C dL_isRoute_35 rfl ?_
  refine V_iconst (v := (4 : Int32)) C dL_isRoute_36 (by decide) ?_
  refine V_iload_n C dL_isRoute_37 rfl ?_
  refine V_iload_n C dL_isRoute_38 rfl ?_
  refine V_lcallS (na := 4) C hD hN [.ref (w.2.1 0), .int (4 : Int32), .int (nI r), .int (nI F)] pl_L_54 (tb_i 738 (by decide +kernel) (by decide +kernel)) (tb_i 31 (by decide +kernel) (by decide +kernel)) (by decide +kernel) (tb_i 737 (by decide +kernel) (by decide +kernel)) (k_L_on_4 w l (nI r) (nI F) X4 h n R PP Z Th hJ4.2.1.2.1 hJ4.1.2.2.2 hJ4.2.1.1 hJ4.1.2.2.1 hJ4.2.2.2.1.1 (fun E X1 h => h.2.elim (fun g => Or.inl g.1) (fun g => absurd (btw_n (a := F) (m := 1023) (by omega) (by omega)) g.2.2))) dL_isRoute_39 rfl rfl (Nat.le_of_ble_eq_true rfl) (Nat.le_of_ble_eq_true rfl) (Nat.le_of_ble_eq_true rfl) ⟨by decide, by decide⟩ (fun v5 X5 q5 => ?_)
  obtain ⟨hK5, hf5⟩ := on_stop hK4 hR24 hr (F := F) (by omega) q5
  have hJ5 := JP_k hK5 hJ
  refine V_istore (ls1 := [some (.ref (w.2.1 0)), some (.ref (w.2.1 91)), some (.int (nI r)), some (.int (nI F)), some (.int v1), some (.int v2), some (.int (nI a3)), some (.int v4), some (.int v5), none, none, none, none, none, none]) C dL_isRoute_42 (by decide) rfl ?_
  refine V_iload C dL_isRoute_44 rfl ?_
  refine V_if_neN (a := a3) (tgt := 83) C dL_isRoute_46 (by decide) (by omega) (fun h46_6 => ?_) (fun h46_6 => ?_)
  · have hT : Th r := Classical.byContradiction fun q => (by assumption : a3 ≠ 0) (xa3.2.1 q)
    have hz : a3 = Z r := xa3.1 hT
    obtain ⟨hz1, hz6, -, hPA, -⟩ := hJ.2.2.2.1.1.2.2 r hr
    have hPr : ∀ k, k < Z r → PP r k < 10 := fun k hk => (hPA k hk).2
    have hu := (hf1.resolve_left (fun q => q.1 hT)).2
    have hd := (hf2.resolve_left (fun q => q.1 hT)).2
    have hlk := (hf4.resolve_left (fun q => q.1 hT)).2
    have hsp := (hf5.resolve_left (fun q => q.1 hT)).2
    obtain ⟨cu, hcu, ecu⟩ := PuX_n hu
    subst ecu
    obtain ⟨cd, hcd, ecd⟩ := PdX_n hd
    subst ecd
    obtain ⟨ud1, ud2, ud3, ud4, ud5⟩ := route_ud hJ.1.2.2.2 hJ.2.1.2.1 hz1 hPr hcu hcd hu hd
    have hspi := SpX_in hsp
    have hlki := Lk_in hlk
    refine V_iconst (v := (0 : Int32)) C dL_isRoute_83 (by decide) ?_
    refine V_istore (ls1 := [some (.ref (w.2.1 0)), some (.ref (w.2.1 91)), some (.int (nI r)), some (.int (nI F)), some (.int (nI cu)), some (.int (nI cd)), some (.int (nI a3)), some (.int v4), some (.int v5), some (.int (0 : Int32)), none, none, none, none, none]) C dL_isRoute_84 (by decide) rfl ?_
    refine V_iconst (v := (0 : Int32)) C dL_isRoute_86 (by decide) ?_
    refine V_istore (ls1 := [some (.ref (w.2.1 0)), some (.ref (w.2.1 91)), some (.int (nI r)), some (.int (nI F)), some (.int (nI cu)), some (.int (nI cd)), some (.int (nI a3)), some (.int v4), some (.int v5), some (.int (0 : Int32)), some (.int (0 : Int32)), none, none, none, none]) C dL_isRoute_87 (by decide) rfl ?_
    have L100 : ∀ (al : Int32), (bI (LkT (PP r) a3 v4 0) al) → V p l e ({ frames := 16, cells := 12, slots := 6 * 12, locals := 400 } : Room) s m (#[.ref (w.2.1 0), .ref (w.2.1 91), .int (nI r), .int (nI F)] : Array Value) below meth c w 15 5 30 (XI w below s (#[.ref (w.2.1 0), .ref (w.2.1 91), .int (nI r), .int (nI F)] : Array Value) 12 (q_L_isRoute r F X h D n Dd R dr PP Z Th) (fun _ _ => False)) 100 [some (.ref (w.2.1 0)), some (.ref (w.2.1 91)), some (.int (nI r)), some (.int (nI F)), some (.int (nI cu)), some (.int (nI cd)), some (.int (nI a3)), some (.int v4), some (.int v5), some (.int (0 : Int32)), some (.int (0 : Int32)), none, none, none, none] [.int al] X5 := by
      intro al hal
      refine V_istore (ls1 := [some (.ref (w.2.1 0)), some (.ref (w.2.1 91)), some (.int (nI r)), some (.int (nI F)), some (.int (nI cu)), some (.int (nI cd)), some (.int (nI a3)), some (.int v4), some (.int v5), some (.int (0 : Int32)), some (.int (0 : Int32)), some (.int al), none, none, none]) C dL_isRoute_100 (by decide) rfl ?_
      have L113 : ∀ (as : Int32), (bI (SpT (PP r) F v5 0) as) → V p l e ({ frames := 16, cells := 12, slots := 6 * 12, locals := 400 } : Room) s m (#[.ref (w.2.1 0), .ref (w.2.1 91), .int (nI r), .int (nI F)] : Array Value) below meth c w 15 5 30 (XI w below s (#[.ref (w.2.1 0), .ref (w.2.1 91), .int (nI r), .int (nI F)] : Array Value) 12 (q_L_isRoute r F X h D n Dd R dr PP Z Th) (fun _ _ => False)) 113 [some (.ref (w.2.1 0)), some (.ref (w.2.1 91)), some (.int (nI r)), some (.int (nI F)), some (.int (nI cu)), some (.int (nI cd)), some (.int (nI a3)), some (.int v4), some (.int v5), some (.int (0 : Int32)), some (.int (0 : Int32)), some (.int al), none, none, none] [.int as] X5 := by
        intro as has
        refine V_istore (ls1 := [some (.ref (w.2.1 0)), some (.ref (w.2.1 91)), some (.int (nI r)), some (.int (nI F)), some (.int (nI cu)), some (.int (nI cd)), some (.int (nI a3)), some (.int v4), some (.int v5), some (.int (0 : Int32)), some (.int (0 : Int32)), some (.int al), some (.int as), none, none]) C dL_isRoute_113 (by decide) rfl ?_
        refine V_iconst (v := (1 : Int32)) C dL_isRoute_115 (by decide) ?_
        refine V_istore (ls1 := [some (.ref (w.2.1 0)), some (.ref (w.2.1 91)), some (.int (nI r)), some (.int (nI F)), some (.int (nI cu)), some (.int (nI cd)), some (.int (nI a3)), some (.int v4), some (.int v5), some (.int (0 : Int32)), some (.int (0 : Int32)), some (.int al), some (.int as), some (.int (1 : Int32)), none]) C dL_isRoute_116 (by decide) rfl ?_
        have L118 : ∀ (fu : Nat) (i : Nat) (S : Nat) (rd : Int32) (al : Int32) (as : Int32), 7 - i < fu → (i ≤ a3) → (Seen (PP r) i S) → (bI (Rnd (PP r) i) rd) → (bI (LkT (PP r) a3 v4 i) al) → (bI (SpT (PP r) F v5 i) as) → V p l e ({ frames := 16, cells := 12, slots := 6 * 12, locals := 400 } : Room) s m (#[.ref (w.2.1 0), .ref (w.2.1 91), .int (nI r), .int (nI F)] : Array Value) below meth c w 15 5 30 (XI w below s (#[.ref (w.2.1 0), .ref (w.2.1 91), .int (nI r), .int (nI F)] : Array Value) 12 (q_L_isRoute r F X h D n Dd R dr PP Z Th) (fun _ _ => False)) 118 [some (.ref (w.2.1 0)), some (.ref (w.2.1 91)), some (.int (nI r)), some (.int (nI F)), some (.int (nI cu)), some (.int (nI cd)), some (.int (nI a3)), some (.int v4), some (.int v5), some (.int (nI S)), some (.int rd), some (.int al), some (.int as), some (.int (nI (1 + i))), none] [] X5 := by
          intro fu
          induction fu with
          | zero => intro i S rd al as hm; exact absurd hm (Nat.not_lt_zero _)
          | succ fu ih118 =>
            intro i S rd al as hm118 hi hS hrd hal has
            have hS1 := hS.1
            refine V_iload C dL_isRoute_118 rfl ?_
            refine V_iload C dL_isRoute_120 rfl ?_
            refine V_icmp_gtN (a := 1 + i) (b := a3) (tgt := 241) C dL_isRoute_122 (by decide) (by omega) (by omega) (fun h122_7 => ?_) (fun h122_7 => ?_)
            · have him : i = Z r := by omega
              rw [him] at hrd hal has
              have halz : LkT (PP r) a3 v4 (Z r) := hlki.elim Or.inl (fun ⟨j, g1, g2, g3⟩ => Or.inr ⟨j, by omega, g1, by omega, g3⟩)
              have hasz : SpT (PP r) F v5 (Z r) := hspi.elim Or.inl (fun ⟨j, g1, g2, g3⟩ => Or.inr ⟨j, g2, g1, g3⟩)
              have L333 : (True) → V p l e ({ frames := 16, cells := 12, slots := 6 * 12, locals := 400 } : Room) s m (#[.ref (w.2.1 0), .ref (w.2.1 91), .int (nI r), .int (nI F)] : Array Value) below meth c w 15 5 30 (XI w below s (#[.ref (w.2.1 0), .ref (w.2.1 91), .int (nI r), .int (nI F)] : Array Value) 12 (q_L_isRoute r F X h D n Dd R dr PP Z Th) (fun _ _ => False)) 333 [some (.ref (w.2.1 0)), some (.ref (w.2.1 91)), some (.int (nI r)), some (.int (nI F)), some (.int (nI cu)), some (.int (nI cd)), some (.int (nI a3)), some (.int v4), some (.int v5), some (.int (nI S)), some (.int rd), some (.int al), some (.int as), some (.int (nI (1 + i))), none] [] X5 := by
                intro  ht333
                refine V_iload C dL_isRoute_333 rfl ?_
                refine V_if_eqB (tgt := 376) C hal dL_isRoute_335 (by decide) (fun h335_8 => False.elim (h335_8 halz)) (fun h335_8 => ?_)
                refine V_iload C dL_isRoute_338 rfl ?_
                refine V_if_eqB (tgt := 376) C has dL_isRoute_340 (by decide) (fun h340_9 => False.elim (h340_9 hasz)) (fun h340_9 => ?_)
                refine V_aload_n C dL_isRoute_343 rfl ?_
                refine V_iconst (v := (4 : Int32)) C dL_isRoute_344 (by decide) ?_
                refine V_iload_n C dL_isRoute_345 rfl ?_
                refine V_iconst (v := (0 : Int32)) C dL_isRoute_346 (by decide) ?_
                refine V_lcallS (na := 4) C hD hN [.ref (w.2.1 0), .int (4 : Int32), .int (nI r), .int (0 : Int32)] pl_L_54 (tb_i 738 (by decide +kernel) (by decide +kernel)) (tb_i 31 (by decide +kernel) (by decide +kernel)) (by decide +kernel) (tb_i 737 (by decide +kernel) (by decide +kernel)) (k_L_on_4 w l (nI r) (0 : Int32) X5 h n R PP Z Th hJ5.2.1.2.1 hJ5.1.2.2.2 hJ5.2.1.1 hJ5.1.2.2.1 hJ5.2.2.2.1.1 (fun E X1 h => h.2.elim (fun g => Or.inl g.1) (fun g => absurd (btw_n (a := 0) (m := 1023) (by omega) (by omega)) g.2.2))) dL_isRoute_347 rfl rfl (Nat.le_of_ble_eq_true rfl) (Nat.le_of_ble_eq_true rfl) (Nat.le_of_ble_eq_true rfl) ⟨by decide, by decide⟩ (fun v10 X10 q10 => ?_)
                obtain ⟨hK10, hf10⟩ := on_stop hK5 hR24 hr (F := 0) (by omega) q10
                have hJ10 := JP_k hK10 hJ
                refine V_iconst (v := (-1 : Int32)) C dL_isRoute_350 (by decide) ?_
                refine V_icmp_ne (x := v10) (y := (-1 : Int32)) (tgt := 376) C dL_isRoute_351 (by decide) (fun h351_11 => False.elim (h351_11 (SpX_0 ((hf10.resolve_left (fun q => q.1 hT)).2)))) (fun h351_11 => ?_)
                refine V_iload C dL_isRoute_354 rfl ?_
                refine V_iconst (v := (-1 : Int32)) C dL_isRoute_356 (by decide) ?_
                refine V_icmp_eq (x := v5) (y := (-1 : Int32)) (tgt := 372) C dL_isRoute_357 (by decide) (fun h357_12 => ?_) (fun h357_12 => ?_)
                · refine V_iconst (v := (1 : Int32)) C dL_isRoute_372 (by decide) ?_
                  refine V_goto (tgt := 377) C dL_isRoute_373 (by decide) ?_
                  exact V_zreturnX C dL_isRoute_377 (Or.inr rfl) (by decide) (by decide) ⟨rfl, hK10⟩
                · refine V_aload_n C dL_isRoute_360 rfl ?_
                  refine V_iconst (v := (4 : Int32)) C dL_isRoute_361 (by decide) ?_
                  refine V_iload_n C dL_isRoute_362 rfl ?_
                  refine V_sipush (v := (1023 : Int32)) C dL_isRoute_363 (by decide) ?_
                  refine V_lcallS (na := 4) C hD hN [.ref (w.2.1 0), .int (4 : Int32), .int (nI r), .int (1023 : Int32)] pl_L_54 (tb_i 738 (by decide +kernel) (by decide +kernel)) (tb_i 31 (by decide +kernel) (by decide +kernel)) (by decide +kernel) (tb_i 737 (by decide +kernel) (by decide +kernel)) (k_L_on_4 w l (nI r) (1023 : Int32) X10 h n R PP Z Th hJ10.2.1.2.1 hJ10.1.2.2.2 hJ10.2.1.1 hJ10.1.2.2.1 hJ10.2.2.2.1.1 (fun E X1 h => h.2.elim (fun g => Or.inl g.1) (fun g => absurd (btw_n (a := 1023) (m := 1023) (by omega) (by omega)) g.2.2))) dL_isRoute_366 rfl rfl (Nat.le_of_ble_eq_true rfl) (Nat.le_of_ble_eq_true rfl) (Nat.le_of_ble_eq_true rfl) ⟨by decide, by decide⟩ (fun v13 X13 q13 => ?_)
                  obtain ⟨hK13, hf13⟩ := on_stop hK10 hR24 hr (F := 1023) (by omega) q13
                  have hJ13 := JP_k hK13 hJ
                  refine V_if_lt (x := v13) (tgt := 376) C dL_isRoute_369 (by decide) (fun h369_14 => False.elim (SpX_all hJ.1.2.2.2 hJ.2.1.2.1 hPr hsp (by assumption) ((hf13.resolve_left (fun q => q.1 hT)).2) h369_14)) (fun h369_14 => ?_)
                  refine V_iconst (v := (1 : Int32)) C dL_isRoute_372 (by decide) ?_
                  refine V_goto (tgt := 377) C dL_isRoute_373 (by decide) ?_
                  exact V_zreturnX C dL_isRoute_377 (Or.inr rfl) (by decide) (by decide) ⟨rfl, hK13⟩
              have L316 : (True) → V p l e ({ frames := 16, cells := 12, slots := 6 * 12, locals := 400 } : Room) s m (#[.ref (w.2.1 0), .ref (w.2.1 91), .int (nI r), .int (nI F)] : Array Value) below meth c w 15 5 30 (XI w below s (#[.ref (w.2.1 0), .ref (w.2.1 91), .int (nI r), .int (nI F)] : Array Value) 12 (q_L_isRoute r F X h D n Dd R dr PP Z Th) (fun _ _ => False)) 316 [some (.ref (w.2.1 0)), some (.ref (w.2.1 91)), some (.int (nI r)), some (.int (nI F)), some (.int (nI cu)), some (.int (nI cd)), some (.int (nI a3)), some (.int v4), some (.int v5), some (.int (nI S)), some (.int rd), some (.int al), some (.int as), some (.int (nI (1 + i))), none] [] X5 := by
                intro  ht316
                refine V_iload C dL_isRoute_316 rfl ?_
                refine V_iconst (v := (2 : Int32)) C dL_isRoute_318 (by decide) ?_
                refine V_icmp_gtN (a := a3) (b := 2) (tgt := 333) C dL_isRoute_319 (by decide) (by omega) (by omega) (fun h319_15 => ?_) (fun h319_15 => ?_)
                · exact L333  trivial
                · refine V_iload C dL_isRoute_322 rfl ?_
                  refine V_if_neB (tgt := 333) C hrd dL_isRoute_324 (by decide) (fun h324_16 => ?_) (fun h324_16 => ?_)
                  · exact L333  trivial
                  · refine V_iload C dL_isRoute_327 rfl ?_
                    refine V_iconst (v := (1 : Int32)) C dL_isRoute_329 (by decide) ?_
                    refine V_icmp_neN (a := cd) (b := 1) (tgt := 376) C dL_isRoute_330 (by decide) (by omega) (by omega) (fun h330_17 => False.elim (h330_17 (ud5 (by omega) (by assumption)))) (fun h330_17 => ?_)
                    exact L333  trivial
              have L304 : (True) → V p l e ({ frames := 16, cells := 12, slots := 6 * 12, locals := 400 } : Room) s m (#[.ref (w.2.1 0), .ref (w.2.1 91), .int (nI r), .int (nI F)] : Array Value) below meth c w 15 5 30 (XI w below s (#[.ref (w.2.1 0), .ref (w.2.1 91), .int (nI r), .int (nI F)] : Array Value) 12 (q_L_isRoute r F X h D n Dd R dr PP Z Th) (fun _ _ => False)) 304 [some (.ref (w.2.1 0)), some (.ref (w.2.1 91)), some (.int (nI r)), some (.int (nI F)), some (.int (nI cu)), some (.int (nI cd)), some (.int (nI a3)), some (.int v4), some (.int v5), some (.int (nI S)), some (.int rd), some (.int al), some (.int as), some (.int (nI (1 + i))), none] [] X5 := by
                intro  ht304
                refine V_iload C dL_isRoute_304 rfl ?_
                refine V_iconst (v := (1 : Int32)) C dL_isRoute_306 (by decide) ?_
                refine V_icmp_gtN (a := a3) (b := 1) (tgt := 316) C dL_isRoute_307 (by decide) (by omega) (by omega) (fun h307_18 => ?_) (fun h307_18 => ?_)
                · exact L316  trivial
                · refine V_iload C dL_isRoute_310 rfl ?_
                  refine V_iconst (v := (1 : Int32)) C dL_isRoute_312 (by decide) ?_
                  refine V_icmp_neN (a := cu) (b := 1) (tgt := 376) C dL_isRoute_313 (by decide) (by omega) (by omega) (fun h313_19 => False.elim (h313_19 (ud4 (by omega)))) (fun h313_19 => ?_)
                  exact L316  trivial
              have L292 : (True) → V p l e ({ frames := 16, cells := 12, slots := 6 * 12, locals := 400 } : Room) s m (#[.ref (w.2.1 0), .ref (w.2.1 91), .int (nI r), .int (nI F)] : Array Value) below meth c w 15 5 30 (XI w below s (#[.ref (w.2.1 0), .ref (w.2.1 91), .int (nI r), .int (nI F)] : Array Value) 12 (q_L_isRoute r F X h D n Dd R dr PP Z Th) (fun _ _ => False)) 292 [some (.ref (w.2.1 0)), some (.ref (w.2.1 91)), some (.int (nI r)), some (.int (nI F)), some (.int (nI cu)), some (.int (nI cd)), some (.int (nI a3)), some (.int v4), some (.int v5), some (.int (nI S)), some (.int rd), some (.int al), some (.int as), some (.int (nI (1 + i))), none] [] X5 := by
                intro  ht292
                refine V_iload C dL_isRoute_292 rfl ?_
                refine V_iconst (v := (2 : Int32)) C dL_isRoute_294 (by decide) ?_
                refine V_icmp_neN (a := cd) (b := 2) (tgt := 304) C dL_isRoute_295 (by decide) (by omega) (by omega) (fun h295_20 => ?_) (fun h295_20 => ?_)
                · exact L304  trivial
                · refine V_iload C dL_isRoute_298 rfl ?_
                  refine V_iconst (v := (2 : Int32)) C dL_isRoute_300 (by decide) ?_
                  refine V_icmp_neN (a := cu) (b := 2) (tgt := 376) C dL_isRoute_301 (by decide) (by omega) (by omega) (fun h301_21 => False.elim (h301_21 (ud3 (by assumption)))) (fun h301_21 => ?_)
                  exact L304  trivial
              have L280 : (True) → V p l e ({ frames := 16, cells := 12, slots := 6 * 12, locals := 400 } : Room) s m (#[.ref (w.2.1 0), .ref (w.2.1 91), .int (nI r), .int (nI F)] : Array Value) below meth c w 15 5 30 (XI w below s (#[.ref (w.2.1 0), .ref (w.2.1 91), .int (nI r), .int (nI F)] : Array Value) 12 (q_L_isRoute r F X h D n Dd R dr PP Z Th) (fun _ _ => False)) 280 [some (.ref (w.2.1 0)), some (.ref (w.2.1 91)), some (.int (nI r)), some (.int (nI F)), some (.int (nI cu)), some (.int (nI cd)), some (.int (nI a3)), some (.int v4), some (.int v5), some (.int (nI S)), some (.int rd), some (.int al), some (.int as), some (.int (nI (1 + i))), none] [] X5 := by
                intro  ht280
                refine V_iload C dL_isRoute_280 rfl ?_
                refine V_iconst (v := (1 : Int32)) C dL_isRoute_282 (by decide) ?_
                refine V_icmp_neN (a := cu) (b := 1) (tgt := 292) C dL_isRoute_283 (by decide) (by omega) (by omega) (fun h283_22 => ?_) (fun h283_22 => ?_)
                · exact L292  trivial
                · refine V_iload C dL_isRoute_286 rfl ?_
                  refine V_iconst (v := (1 : Int32)) C dL_isRoute_288 (by decide) ?_
                  refine V_icmp_neN (a := cd) (b := 1) (tgt := 376) C dL_isRoute_289 (by decide) (by omega) (by omega) (fun h289_23 => False.elim (h289_23 (ud2 (by assumption)))) (fun h289_23 => ?_)
                  exact L292  trivial
              refine V_iload C dL_isRoute_241 rfl ?_
              refine V_if_ltN (a := cu) (tgt := 376) C dL_isRoute_243 (by decide) (by omega) ?_
              refine V_iload C dL_isRoute_246 rfl ?_
              refine V_iconst (v := (3 : Int32)) C dL_isRoute_248 (by decide) ?_
              refine V_icmp_geN (a := cu) (b := 3) (tgt := 376) C dL_isRoute_249 (by decide) (by omega) (by omega) (fun h249_25 => False.elim (absurd h249_25 (by omega))) (fun h249_25 => ?_)
              refine V_iload C dL_isRoute_252 rfl ?_
              refine V_if_ltN (a := cd) (tgt := 376) C dL_isRoute_254 (by decide) (by omega) ?_
              refine V_iload C dL_isRoute_257 rfl ?_
              refine V_iconst (v := (3 : Int32)) C dL_isRoute_259 (by decide) ?_
              refine V_icmp_geN (a := cd) (b := 3) (tgt := 376) C dL_isRoute_260 (by decide) (by omega) (by omega) (fun h260_27 => False.elim (absurd h260_27 (by omega))) (fun h260_27 => ?_)
              refine V_iload C dL_isRoute_263 rfl ?_
              refine V_if_eqB (tgt := 280) C hrd dL_isRoute_265 (by decide) (fun h265_28 => ?_) (fun h265_28 => ?_)
              · exact L280  trivial
              · refine V_iload C dL_isRoute_268 rfl ?_
                refine V_iconst (v := (2 : Int32)) C dL_isRoute_270 (by decide) ?_
                refine V_icmp_neN (a := cu) (b := 2) (tgt := 376) C dL_isRoute_271 (by decide) (by omega) (by omega) (fun h271_29 => False.elim (h271_29 (ud1 (by assumption)).1)) (fun h271_29 => ?_)
                refine V_iload C dL_isRoute_274 rfl ?_
                refine V_iconst (v := (2 : Int32)) C dL_isRoute_276 (by decide) ?_
                refine V_icmp_neN (a := cd) (b := 2) (tgt := 376) C dL_isRoute_277 (by decide) (by omega) (by omega) (fun h277_30 => False.elim (h277_30 (ud1 (by assumption)).2)) (fun h277_30 => ?_)
                exact L280  trivial
            · refine V_aload_n C dL_isRoute_125 rfl ?_
              refine V_bipush (v := (7 : Int32)) C dL_isRoute_126 (by decide) ?_
              refine V_iload_n C dL_isRoute_128 rfl ?_
              refine V_imulN (a := 7) (b := r) C dL_isRoute_129 ?_
              refine V_iload C dL_isRoute_130 rfl ?_
              refine V_iaddN (a := 7 * r) (b := 1 + i) C dL_isRoute_132 ?_
              refine V_ialdN (p0 := 91) (o := 7 * r + (1 + i)) (v := X5 91 (7 * r + (1 + i))) C dL_isRoute_133 sh_91 (by decide) (by omega) (by decide) rfl ?_
              have hq31 : PP r i < 10 := (hPr i (by omega))
              refine V_eqi (y := nI (PP r i)) (by have g := (hL.2.2.1 r hr).1 hT; rw [hK5 91 (by omega), Nat.add_comm 1 i]; exact g.2 i (by omega)) ?_
              refine V_istore (ls1 := [some (.ref (w.2.1 0)), some (.ref (w.2.1 91)), some (.int (nI r)), some (.int (nI F)), some (.int (nI cu)), some (.int (nI cd)), some (.int (nI a3)), some (.int v4), some (.int v5), some (.int (nI S)), some (.int rd), some (.int al), some (.int as), some (.int (nI (1 + i))), some (.int (nI (PP r i)))]) C dL_isRoute_134 (by decide) rfl ?_
              have L157 : ∀ (rd2 : Int32), (bI (Rnd (PP r) (i + 1)) rd2) → V p l e ({ frames := 16, cells := 12, slots := 6 * 12, locals := 400 } : Room) s m (#[.ref (w.2.1 0), .ref (w.2.1 91), .int (nI r), .int (nI F)] : Array Value) below meth c w 15 5 30 (XI w below s (#[.ref (w.2.1 0), .ref (w.2.1 91), .int (nI r), .int (nI F)] : Array Value) 12 (q_L_isRoute r F X h D n Dd R dr PP Z Th) (fun _ _ => False)) 157 [some (.ref (w.2.1 0)), some (.ref (w.2.1 91)), some (.int (nI r)), some (.int (nI F)), some (.int (nI cu)), some (.int (nI cd)), some (.int (nI a3)), some (.int v4), some (.int v5), some (.int (nI S)), some (.int rd), some (.int al), some (.int as), some (.int (nI (1 + i))), some (.int (nI (PP r i)))] [.int rd2] X5 := by
                intro rd2 hrd2
                refine V_istore (ls1 := [some (.ref (w.2.1 0)), some (.ref (w.2.1 91)), some (.int (nI r)), some (.int (nI F)), some (.int (nI cu)), some (.int (nI cd)), some (.int (nI a3)), some (.int v4), some (.int v5), some (.int (nI S)), some (.int rd2), some (.int al), some (.int as), some (.int (nI (1 + i))), some (.int (nI (PP r i)))]) C dL_isRoute_157 (by decide) rfl ?_
                refine V_iload C dL_isRoute_159 rfl ?_
                refine V_iconst (v := (1 : Int32)) C dL_isRoute_161 (by decide) ?_
                refine V_iload C dL_isRoute_162 rfl ?_
                refine V_ishl C dL_isRoute_164 ?_
                refine V_eqi (y := nI (2 ^ (PP r i))) (shl1 (by omega)) ?_
                refine V_ior C dL_isRoute_165 ?_
                refine V_eqi (y := nI (S ||| (2 ^ (PP r i)))) (nI_or _ _) ?_
                refine V_istore (ls1 := [some (.ref (w.2.1 0)), some (.ref (w.2.1 91)), some (.int (nI r)), some (.int (nI F)), some (.int (nI cu)), some (.int (nI cd)), some (.int (nI a3)), some (.int v4), some (.int v5), some (.int (nI (S ||| (2 ^ (PP r i))))), some (.int rd2), some (.int al), some (.int as), some (.int (nI (1 + i))), some (.int (nI (PP r i)))]) C dL_isRoute_166 (by decide) rfl ?_
                have L198 : ∀ (al2 : Int32), (bI (LkT (PP r) a3 v4 (i + 1)) al2) → V p l e ({ frames := 16, cells := 12, slots := 6 * 12, locals := 400 } : Room) s m (#[.ref (w.2.1 0), .ref (w.2.1 91), .int (nI r), .int (nI F)] : Array Value) below meth c w 15 5 30 (XI w below s (#[.ref (w.2.1 0), .ref (w.2.1 91), .int (nI r), .int (nI F)] : Array Value) 12 (q_L_isRoute r F X h D n Dd R dr PP Z Th) (fun _ _ => False)) 198 [some (.ref (w.2.1 0)), some (.ref (w.2.1 91)), some (.int (nI r)), some (.int (nI F)), some (.int (nI cu)), some (.int (nI cd)), some (.int (nI a3)), some (.int v4), some (.int v5), some (.int (nI (S ||| (2 ^ (PP r i))))), some (.int rd2), some (.int al), some (.int as), some (.int (nI (1 + i))), some (.int (nI (PP r i)))] [.int al2] X5 := by
                  intro al2 hal2
                  refine V_istore (ls1 := [some (.ref (w.2.1 0)), some (.ref (w.2.1 91)), some (.int (nI r)), some (.int (nI F)), some (.int (nI cu)), some (.int (nI cd)), some (.int (nI a3)), some (.int v4), some (.int v5), some (.int (nI (S ||| (2 ^ (PP r i))))), some (.int rd2), some (.int al2), some (.int as), some (.int (nI (1 + i))), some (.int (nI (PP r i)))]) C dL_isRoute_198 (by decide) rfl ?_
                  have L233 : ∀ (as2 : Int32), (bI (SpT (PP r) F v5 (i + 1)) as2) → V p l e ({ frames := 16, cells := 12, slots := 6 * 12, locals := 400 } : Room) s m (#[.ref (w.2.1 0), .ref (w.2.1 91), .int (nI r), .int (nI F)] : Array Value) below meth c w 15 5 30 (XI w below s (#[.ref (w.2.1 0), .ref (w.2.1 91), .int (nI r), .int (nI F)] : Array Value) 12 (q_L_isRoute r F X h D n Dd R dr PP Z Th) (fun _ _ => False)) 233 [some (.ref (w.2.1 0)), some (.ref (w.2.1 91)), some (.int (nI r)), some (.int (nI F)), some (.int (nI cu)), some (.int (nI cd)), some (.int (nI a3)), some (.int v4), some (.int v5), some (.int (nI (S ||| (2 ^ (PP r i))))), some (.int rd2), some (.int al2), some (.int as), some (.int (nI (1 + i))), some (.int (nI (PP r i)))] [.int as2] X5 := by
                    intro as2 has2
                    refine V_istore (ls1 := [some (.ref (w.2.1 0)), some (.ref (w.2.1 91)), some (.int (nI r)), some (.int (nI F)), some (.int (nI cu)), some (.int (nI cd)), some (.int (nI a3)), some (.int v4), some (.int v5), some (.int (nI (S ||| (2 ^ (PP r i))))), some (.int rd2), some (.int al2), some (.int as2), some (.int (nI (1 + i))), some (.int (nI (PP r i)))]) C dL_isRoute_233 (by decide) rfl ?_
                    refine V_iincN (a := 1 + i) (ls1 := [some (.ref (w.2.1 0)), some (.ref (w.2.1 91)), some (.int (nI r)), some (.int (nI F)), some (.int (nI cu)), some (.int (nI cd)), some (.int (nI a3)), some (.int v4), some (.int v5), some (.int (nI (S ||| (2 ^ (PP r i))))), some (.int rd2), some (.int al2), some (.int as2), some (.int (nI (1 + i + 1))), some (.int (nI (PP r i)))]) C dL_isRoute_235 rfl (by decide) rfl ?_
                    refine V_goto (tgt := 118) C dL_isRoute_238 (by decide) ?_
                    refine V_kill (i := 14) (ls1 := [some (.ref (w.2.1 0)), some (.ref (w.2.1 91)), some (.int (nI r)), some (.int (nI F)), some (.int (nI cu)), some (.int (nI cd)), some (.int (nI a3)), some (.int v4), some (.int v5), some (.int (nI (S ||| (2 ^ (PP r i))))), some (.int rd2), some (.int al2), some (.int as2), some (.int (nI (1 + i + 1))), none]) rfl ?_
                    exact ih118 (i + 1) (S ||| (2 ^ (PP r i))) rd2 al2 as2 (by omega) (by omega) (Seen_succ hS (by omega)) hrd2 hal2 has2
                  refine V_iload C dL_isRoute_200 rfl ?_
                  refine V_if_neB (tgt := 228) C has dL_isRoute_202 (by decide) (fun h202_32 => ?_) (fun h202_32 => ?_)
                  · refine V_iconst (v := (1 : Int32)) C dL_isRoute_228 (by decide) ?_
                    refine V_goto (tgt := 233) C dL_isRoute_229 (by decide) ?_
                    exact L233 (1 : Int32) (bI.t (SpT_s.mpr (by first | exact Or.inl (by assumption) | exact Or.inr ⟨by omega, by assumption, ((bit_in (by omega) (by omega)).mp (by assumption))⟩)))
                  · refine V_iload C dL_isRoute_205 rfl ?_
                    refine V_iconst (v := (1 : Int32)) C dL_isRoute_207 (by decide) ?_
                    refine V_icmp_leN (a := 1 + i) (b := 1) (tgt := 232) C dL_isRoute_208 (by decide) (by omega) (by omega) (fun h208_33 => ?_) (fun h208_33 => ?_)
                    · refine V_iconst (v := (0 : Int32)) C dL_isRoute_232 (by decide) ?_
                      exact L233 (0 : Int32) (bI.f (fun q => (SpT_s.mp q).elim (by assumption) (fun g => by first | exact absurd g.1 (by omega) | exact absurd g.2.1 (by assumption) | exact absurd ((bit_in (by omega) (by omega)).mpr g.2.2) (by assumption))))
                    · refine V_iload C dL_isRoute_211 rfl ?_
                      refine V_iload C dL_isRoute_213 rfl ?_
                      refine V_icmp_ne (x := nI (PP r i)) (y := v5) (tgt := 232) C dL_isRoute_215 (by decide) (fun h215_34 => ?_) (fun h215_34 => ?_)
                      · refine V_iconst (v := (0 : Int32)) C dL_isRoute_232 (by decide) ?_
                        exact L233 (0 : Int32) (bI.f (fun q => (SpT_s.mp q).elim (by assumption) (fun g => by first | exact absurd g.1 (by omega) | exact absurd g.2.1 (by assumption) | exact absurd ((bit_in (by omega) (by omega)).mpr g.2.2) (by assumption))))
                      · refine V_iload_n C dL_isRoute_218 rfl ?_
                        refine V_iload C dL_isRoute_219 rfl ?_
                        refine V_ishr C dL_isRoute_221 ?_
                        refine V_iconst (v := (1 : Int32)) C dL_isRoute_222 (by decide) ?_
                        refine V_iand C dL_isRoute_223 ?_
                        refine V_iconst (v := (1 : Int32)) C dL_isRoute_224 (by decide) ?_
                        refine V_icmp_ne (x := ((nI F) >>> ((nI (PP r i)) &&& 31)) &&& (1 : Int32)) (y := (1 : Int32)) (tgt := 232) C dL_isRoute_225 (by decide) (fun h225_35 => ?_) (fun h225_35 => ?_)
                        · refine V_iconst (v := (0 : Int32)) C dL_isRoute_232 (by decide) ?_
                          exact L233 (0 : Int32) (bI.f (fun q => (SpT_s.mp q).elim (by assumption) (fun g => by first | exact absurd g.1 (by omega) | exact absurd g.2.1 (by assumption) | exact absurd ((bit_in (by omega) (by omega)).mpr g.2.2) (by assumption))))
                        · refine V_iconst (v := (1 : Int32)) C dL_isRoute_228 (by decide) ?_
                          refine V_goto (tgt := 233) C dL_isRoute_229 (by decide) ?_
                          exact L233 (1 : Int32) (bI.t (SpT_s.mpr (by first | exact Or.inl (by assumption) | exact Or.inr ⟨by omega, by assumption, ((bit_in (by omega) (by omega)).mp (by assumption))⟩)))
                refine V_iload C dL_isRoute_168 rfl ?_
                refine V_if_neB (tgt := 193) C hal dL_isRoute_170 (by decide) (fun h170_36 => ?_) (fun h170_36 => ?_)
                · refine V_iconst (v := (1 : Int32)) C dL_isRoute_193 (by decide) ?_
                  refine V_goto (tgt := 198) C dL_isRoute_194 (by decide) ?_
                  exact L198 (1 : Int32) (bI.t (LkT_s.mpr (by first | exact Or.inl (by assumption) | exact Or.inr ⟨by omega, by omega, by assumption⟩)))
                · refine V_iload C dL_isRoute_173 rfl ?_
                  refine V_iconst (v := (1 : Int32)) C dL_isRoute_175 (by decide) ?_
                  refine V_icmp_leN (a := 1 + i) (b := 1) (tgt := 197) C dL_isRoute_176 (by decide) (by omega) (by omega) (fun h176_37 => ?_) (fun h176_37 => ?_)
                  · refine V_iconst (v := (0 : Int32)) C dL_isRoute_197 (by decide) ?_
                    exact L198 (0 : Int32) (bI.f (fun q => (LkT_s.mp q).elim (by assumption) (fun g => by first | exact absurd g.1 (by omega) | exact absurd g.2.1 (by omega) | exact absurd g.2.2 (by assumption))))
                  · refine V_iload C dL_isRoute_179 rfl ?_
                    refine V_iload C dL_isRoute_181 rfl ?_
                    refine V_icmp_geN (a := 1 + i) (b := a3) (tgt := 197) C dL_isRoute_183 (by decide) (by omega) (by omega) (fun h183_38 => ?_) (fun h183_38 => ?_)
                    · refine V_iconst (v := (0 : Int32)) C dL_isRoute_197 (by decide) ?_
                      exact L198 (0 : Int32) (bI.f (fun q => (LkT_s.mp q).elim (by assumption) (fun g => by first | exact absurd g.1 (by omega) | exact absurd g.2.1 (by omega) | exact absurd g.2.2 (by assumption))))
                    · refine V_iload C dL_isRoute_186 rfl ?_
                      refine V_iload C dL_isRoute_188 rfl ?_
                      refine V_icmp_ne (x := nI (PP r i)) (y := v4) (tgt := 197) C dL_isRoute_190 (by decide) (fun h190_39 => ?_) (fun h190_39 => ?_)
                      · refine V_iconst (v := (0 : Int32)) C dL_isRoute_197 (by decide) ?_
                        exact L198 (0 : Int32) (bI.f (fun q => (LkT_s.mp q).elim (by assumption) (fun g => by first | exact absurd g.1 (by omega) | exact absurd g.2.1 (by omega) | exact absurd g.2.2 (by assumption))))
                      · refine V_iconst (v := (1 : Int32)) C dL_isRoute_193 (by decide) ?_
                        refine V_goto (tgt := 198) C dL_isRoute_194 (by decide) ?_
                        exact L198 (1 : Int32) (bI.t (LkT_s.mpr (by first | exact Or.inl (by assumption) | exact Or.inr ⟨by omega, by omega, by assumption⟩)))
              refine V_iload C dL_isRoute_136 rfl ?_
              refine V_if_neB (tgt := 152) C hrd dL_isRoute_138 (by decide) (fun h138_40 => ?_) (fun h138_40 => ?_)
              · refine V_iconst (v := (1 : Int32)) C dL_isRoute_152 (by decide) ?_
                refine V_goto (tgt := 157) C dL_isRoute_153 (by decide) ?_
                exact L157 (1 : Int32) (bI.t (Rnd_succ.mpr (by first | exact Or.inl (by assumption) | exact Or.inr ((hS.2 _).mp ((bit_in (by omega) (by omega)).mp (by assumption))))))
              · refine V_iload C dL_isRoute_141 rfl ?_
                refine V_iload C dL_isRoute_143 rfl ?_
                refine V_ishr C dL_isRoute_145 ?_
                refine V_iconst (v := (1 : Int32)) C dL_isRoute_146 (by decide) ?_
                refine V_iand C dL_isRoute_147 ?_
                refine V_iconst (v := (1 : Int32)) C dL_isRoute_148 (by decide) ?_
                refine V_icmp_ne (x := ((nI S) >>> ((nI (PP r i)) &&& 31)) &&& (1 : Int32)) (y := (1 : Int32)) (tgt := 156) C dL_isRoute_149 (by decide) (fun h149_41 => ?_) (fun h149_41 => ?_)
                · refine V_iconst (v := (0 : Int32)) C dL_isRoute_156 (by decide) ?_
                  exact L157 (0 : Int32) (bI.f (fun q => (Rnd_succ.mp q).elim (by assumption) (fun q => absurd ((bit_in (by omega) (by omega)).mpr ((hS.2 _).mpr q)) (by assumption))))
                · refine V_iconst (v := (1 : Int32)) C dL_isRoute_152 (by decide) ?_
                  refine V_goto (tgt := 157) C dL_isRoute_153 (by decide) ?_
                  exact L157 (1 : Int32) (bI.t (Rnd_succ.mpr (by first | exact Or.inl (by assumption) | exact Or.inr ((hS.2 _).mp ((bit_in (by omega) (by omega)).mp (by assumption))))))
        exact L118 _ 0 0 (0 : Int32) al as (Nat.lt_succ_self _) (by omega) Seen_0 (bI.f (fun ⟨_, _, h1, h2, _⟩ => absurd h2 (Nat.not_lt_zero _))) hal has
      refine V_iload C dL_isRoute_102 rfl ?_
      refine V_iconst (v := (-1 : Int32)) C dL_isRoute_104 (by decide) ?_
      refine V_icmp_ne (x := v5) (y := (-1 : Int32)) (tgt := 112) C dL_isRoute_105 (by decide) (fun h105_42 => ?_) (fun h105_42 => ?_)
      · refine V_iconst (v := (0 : Int32)) C dL_isRoute_112 (by decide) ?_
        exact L113 (0 : Int32) (bI.f (fun q => absurd (SpT_0.mp q) (by assumption)))
      · refine V_iconst (v := (1 : Int32)) C dL_isRoute_108 (by decide) ?_
        refine V_goto (tgt := 113) C dL_isRoute_109 (by decide) ?_
        exact L113 (1 : Int32) (bI.t (SpT_0.mpr (by assumption)))
    refine V_iload C dL_isRoute_89 rfl ?_
    refine V_iconst (v := (-1 : Int32)) C dL_isRoute_91 (by decide) ?_
    refine V_icmp_ne (x := v4) (y := (-1 : Int32)) (tgt := 99) C dL_isRoute_92 (by decide) (fun h92_43 => ?_) (fun h92_43 => ?_)
    · refine V_iconst (v := (0 : Int32)) C dL_isRoute_99 (by decide) ?_
      exact L100 (0 : Int32) (bI.f (fun q => absurd (LkT_0.mp q) (by assumption)))
    · refine V_iconst (v := (1 : Int32)) C dL_isRoute_95 (by decide) ?_
      refine V_goto (tgt := 100) C dL_isRoute_96 (by decide) ?_
      exact L100 (1 : Int32) (bI.t (LkT_0.mpr (by assumption)))
  · refine V_iload C dL_isRoute_49 rfl ?_
    refine V_bipush (v := (-11 : Int32)) C dL_isRoute_51 (by decide) ?_
    refine V_icmp_ne (x := v1) (y := (-11 : Int32)) (tgt := 81) C dL_isRoute_53 (by decide) (fun h53_44 => False.elim (h53_44 ((hf1.resolve_right (fun q => xa3.2.2 (by assumption) q.1)).2))) (fun h53_44 => ?_)
    refine V_iload C dL_isRoute_56 rfl ?_
    refine V_bipush (v := (-11 : Int32)) C dL_isRoute_58 (by decide) ?_
    refine V_icmp_ne (x := v2) (y := (-11 : Int32)) (tgt := 81) C dL_isRoute_60 (by decide) (fun h60_45 => False.elim (h60_45 ((hf2.resolve_right (fun q => xa3.2.2 (by assumption) q.1)).2))) (fun h60_45 => ?_)
    refine V_iload C dL_isRoute_63 rfl ?_
    refine V_bipush (v := (-11 : Int32)) C dL_isRoute_65 (by decide) ?_
    refine V_icmp_ne (x := v4) (y := (-11 : Int32)) (tgt := 81) C dL_isRoute_67 (by decide) (fun h67_46 => False.elim (h67_46 ((hf4.resolve_right (fun q => xa3.2.2 (by assumption) q.1)).2))) (fun h67_46 => ?_)
    refine V_iload C dL_isRoute_70 rfl ?_
    refine V_bipush (v := (-11 : Int32)) C dL_isRoute_72 (by decide) ?_
    refine V_icmp_ne (x := v5) (y := (-11 : Int32)) (tgt := 81) C dL_isRoute_74 (by decide) (fun h74_47 => False.elim (h74_47 ((hf5.resolve_right (fun q => xa3.2.2 (by assumption) q.1)).2))) (fun h74_47 => ?_)
    refine V_iconst (v := (1 : Int32)) C dL_isRoute_77 (by decide) ?_
    refine V_goto (tgt := 82) C dL_isRoute_78 (by decide) ?_
    exact V_zreturnX C dL_isRoute_82 (Or.inr rfl) (by decide) (by decide) ⟨rfl, hK5⟩
