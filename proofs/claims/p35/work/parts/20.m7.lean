def q_J6_bitCount_0f7a4 (s0 : Nat) (X : Mem) : Int32 → Mem → Prop := fun r X' => r = nI (cntB s0) ∧ X' = X
set_option maxHeartbeats 4000000 in
set_option maxRecDepth 100000 in
theorem k_J6_bitCount_0f7a4 (w : Wt) (l : Launch) (s0 : Nat) (X : Mem) (hs : s0 < 1024) : CtI w l yJ6_bitCount_0f7a4 cJ6_bitCount_0f7a4 1 (some .int) 1 20 [.int (nI s0)] X (q_J6_bitCount_0f7a4 s0 X) := by
  refine CtI_of (by decide +kernel) (Nat.le_of_ble_eq_true rfl) (List.forall_mem_cons.mpr ⟨rfl, (fun _ h => nomatch h)⟩) (ls := [some (.int (nI s0))]) rfl (args := (#[.int (nI s0)] : Array Value)) rfl (own := RJ6) rfl ?_
  intro p e s m below meth c C
  refine V_iload_n C dJ6_bitCount_0f7a4_0 rfl ?_
  refine V_iload_n C dJ6_bitCount_0f7a4_1 rfl ?_
  refine V_iconst (v := (1 : Int32)) C dJ6_bitCount_0f7a4_2 (by decide) ?_
  refine V_iushr C dJ6_bitCount_0f7a4_3 ?_
  refine V_ldcw C kc_J6_265 dJ6_bitCount_0f7a4_4 ?_
  refine V_iand C dJ6_bitCount_0f7a4_7 ?_
  refine V_isub C dJ6_bitCount_0f7a4_8 ?_
  refine V_istore_n (ls1 := [some (.int ((nI s0) - ((((nI s0).toUInt32 >>> ((1 : Int32).toUInt32 &&& Int32.toUInt32 31)).toInt32) &&& (1431655765 : Int32))))]) C dJ6_bitCount_0f7a4_9 (by decide) rfl ?_
  refine V_iload_n C dJ6_bitCount_0f7a4_10 rfl ?_
  refine V_ldcw C kc_J6_266 dJ6_bitCount_0f7a4_11 ?_
  refine V_iand C dJ6_bitCount_0f7a4_14 ?_
  refine V_iload_n C dJ6_bitCount_0f7a4_15 rfl ?_
  refine V_iconst (v := (2 : Int32)) C dJ6_bitCount_0f7a4_16 (by decide) ?_
  refine V_iushr C dJ6_bitCount_0f7a4_17 ?_
  refine V_ldcw C kc_J6_266 dJ6_bitCount_0f7a4_18 ?_
  refine V_iand C dJ6_bitCount_0f7a4_21 ?_
  refine V_iadd C dJ6_bitCount_0f7a4_22 ?_
  refine V_istore_n (ls1 := [some (.int ((((nI s0) - ((((nI s0).toUInt32 >>> ((1 : Int32).toUInt32 &&& Int32.toUInt32 31)).toInt32) &&& (1431655765 : Int32))) &&& (858993459 : Int32)) + (((((nI s0) - ((((nI s0).toUInt32 >>> ((1 : Int32).toUInt32 &&& Int32.toUInt32 31)).toInt32) &&& (1431655765 : Int32))).toUInt32 >>> ((2 : Int32).toUInt32 &&& Int32.toUInt32 31)).toInt32) &&& (858993459 : Int32))))]) C dJ6_bitCount_0f7a4_23 (by decide) rfl ?_
  refine V_iload_n C dJ6_bitCount_0f7a4_24 rfl ?_
  refine V_iload_n C dJ6_bitCount_0f7a4_25 rfl ?_
  refine V_iconst (v := (4 : Int32)) C dJ6_bitCount_0f7a4_26 (by decide) ?_
  refine V_iushr C dJ6_bitCount_0f7a4_27 ?_
  refine V_iadd C dJ6_bitCount_0f7a4_28 ?_
  refine V_ldcw C kc_J6_267 dJ6_bitCount_0f7a4_29 ?_
  refine V_iand C dJ6_bitCount_0f7a4_32 ?_
  refine V_istore_n (ls1 := [some (.int ((((((nI s0) - ((((nI s0).toUInt32 >>> ((1 : Int32).toUInt32 &&& Int32.toUInt32 31)).toInt32) &&& (1431655765 : Int32))) &&& (858993459 : Int32)) + (((((nI s0) - ((((nI s0).toUInt32 >>> ((1 : Int32).toUInt32 &&& Int32.toUInt32 31)).toInt32) &&& (1431655765 : Int32))).toUInt32 >>> ((2 : Int32).toUInt32 &&& Int32.toUInt32 31)).toInt32) &&& (858993459 : Int32))) + ((((((nI s0) - ((((nI s0).toUInt32 >>> ((1 : Int32).toUInt32 &&& Int32.toUInt32 31)).toInt32) &&& (1431655765 : Int32))) &&& (858993459 : Int32)) + (((((nI s0) - ((((nI s0).toUInt32 >>> ((1 : Int32).toUInt32 &&& Int32.toUInt32 31)).toInt32) &&& (1431655765 : Int32))).toUInt32 >>> ((2 : Int32).toUInt32 &&& Int32.toUInt32 31)).toInt32) &&& (858993459 : Int32))).toUInt32 >>> ((4 : Int32).toUInt32 &&& Int32.toUInt32 31)).toInt32)) &&& (252645135 : Int32)))]) C dJ6_bitCount_0f7a4_33 (by decide) rfl ?_
  refine V_iload_n C dJ6_bitCount_0f7a4_34 rfl ?_
  refine V_iload_n C dJ6_bitCount_0f7a4_35 rfl ?_
  refine V_bipush (v := (8 : Int32)) C dJ6_bitCount_0f7a4_36 (by decide) ?_
  refine V_iushr C dJ6_bitCount_0f7a4_38 ?_
  refine V_iadd C dJ6_bitCount_0f7a4_39 ?_
  refine V_istore_n (ls1 := [some (.int (((((((nI s0) - ((((nI s0).toUInt32 >>> ((1 : Int32).toUInt32 &&& Int32.toUInt32 31)).toInt32) &&& (1431655765 : Int32))) &&& (858993459 : Int32)) + (((((nI s0) - ((((nI s0).toUInt32 >>> ((1 : Int32).toUInt32 &&& Int32.toUInt32 31)).toInt32) &&& (1431655765 : Int32))).toUInt32 >>> ((2 : Int32).toUInt32 &&& Int32.toUInt32 31)).toInt32) &&& (858993459 : Int32))) + ((((((nI s0) - ((((nI s0).toUInt32 >>> ((1 : Int32).toUInt32 &&& Int32.toUInt32 31)).toInt32) &&& (1431655765 : Int32))) &&& (858993459 : Int32)) + (((((nI s0) - ((((nI s0).toUInt32 >>> ((1 : Int32).toUInt32 &&& Int32.toUInt32 31)).toInt32) &&& (1431655765 : Int32))).toUInt32 >>> ((2 : Int32).toUInt32 &&& Int32.toUInt32 31)).toInt32) &&& (858993459 : Int32))).toUInt32 >>> ((4 : Int32).toUInt32 &&& Int32.toUInt32 31)).toInt32)) &&& (252645135 : Int32)) + ((((((((nI s0) - ((((nI s0).toUInt32 >>> ((1 : Int32).toUInt32 &&& Int32.toUInt32 31)).toInt32) &&& (1431655765 : Int32))) &&& (858993459 : Int32)) + (((((nI s0) - ((((nI s0).toUInt32 >>> ((1 : Int32).toUInt32 &&& Int32.toUInt32 31)).toInt32) &&& (1431655765 : Int32))).toUInt32 >>> ((2 : Int32).toUInt32 &&& Int32.toUInt32 31)).toInt32) &&& (858993459 : Int32))) + ((((((nI s0) - ((((nI s0).toUInt32 >>> ((1 : Int32).toUInt32 &&& Int32.toUInt32 31)).toInt32) &&& (1431655765 : Int32))) &&& (858993459 : Int32)) + (((((nI s0) - ((((nI s0).toUInt32 >>> ((1 : Int32).toUInt32 &&& Int32.toUInt32 31)).toInt32) &&& (1431655765 : Int32))).toUInt32 >>> ((2 : Int32).toUInt32 &&& Int32.toUInt32 31)).toInt32) &&& (858993459 : Int32))).toUInt32 >>> ((4 : Int32).toUInt32 &&& Int32.toUInt32 31)).toInt32)) &&& (252645135 : Int32)).toUInt32 >>> ((8 : Int32).toUInt32 &&& Int32.toUInt32 31)).toInt32)))]) C dJ6_bitCount_0f7a4_40 (by decide) rfl ?_
  refine V_iload_n C dJ6_bitCount_0f7a4_41 rfl ?_
  refine V_iload_n C dJ6_bitCount_0f7a4_42 rfl ?_
  refine V_bipush (v := (16 : Int32)) C dJ6_bitCount_0f7a4_43 (by decide) ?_
  refine V_iushr C dJ6_bitCount_0f7a4_45 ?_
  refine V_iadd C dJ6_bitCount_0f7a4_46 ?_
  refine V_istore_n (ls1 := [some (.int ((((((((nI s0) - ((((nI s0).toUInt32 >>> ((1 : Int32).toUInt32 &&& Int32.toUInt32 31)).toInt32) &&& (1431655765 : Int32))) &&& (858993459 : Int32)) + (((((nI s0) - ((((nI s0).toUInt32 >>> ((1 : Int32).toUInt32 &&& Int32.toUInt32 31)).toInt32) &&& (1431655765 : Int32))).toUInt32 >>> ((2 : Int32).toUInt32 &&& Int32.toUInt32 31)).toInt32) &&& (858993459 : Int32))) + ((((((nI s0) - ((((nI s0).toUInt32 >>> ((1 : Int32).toUInt32 &&& Int32.toUInt32 31)).toInt32) &&& (1431655765 : Int32))) &&& (858993459 : Int32)) + (((((nI s0) - ((((nI s0).toUInt32 >>> ((1 : Int32).toUInt32 &&& Int32.toUInt32 31)).toInt32) &&& (1431655765 : Int32))).toUInt32 >>> ((2 : Int32).toUInt32 &&& Int32.toUInt32 31)).toInt32) &&& (858993459 : Int32))).toUInt32 >>> ((4 : Int32).toUInt32 &&& Int32.toUInt32 31)).toInt32)) &&& (252645135 : Int32)) + ((((((((nI s0) - ((((nI s0).toUInt32 >>> ((1 : Int32).toUInt32 &&& Int32.toUInt32 31)).toInt32) &&& (1431655765 : Int32))) &&& (858993459 : Int32)) + (((((nI s0) - ((((nI s0).toUInt32 >>> ((1 : Int32).toUInt32 &&& Int32.toUInt32 31)).toInt32) &&& (1431655765 : Int32))).toUInt32 >>> ((2 : Int32).toUInt32 &&& Int32.toUInt32 31)).toInt32) &&& (858993459 : Int32))) + ((((((nI s0) - ((((nI s0).toUInt32 >>> ((1 : Int32).toUInt32 &&& Int32.toUInt32 31)).toInt32) &&& (1431655765 : Int32))) &&& (858993459 : Int32)) + (((((nI s0) - ((((nI s0).toUInt32 >>> ((1 : Int32).toUInt32 &&& Int32.toUInt32 31)).toInt32) &&& (1431655765 : Int32))).toUInt32 >>> ((2 : Int32).toUInt32 &&& Int32.toUInt32 31)).toInt32) &&& (858993459 : Int32))).toUInt32 >>> ((4 : Int32).toUInt32 &&& Int32.toUInt32 31)).toInt32)) &&& (252645135 : Int32)).toUInt32 >>> ((8 : Int32).toUInt32 &&& Int32.toUInt32 31)).toInt32)) + (((((((((nI s0) - ((((nI s0).toUInt32 >>> ((1 : Int32).toUInt32 &&& Int32.toUInt32 31)).toInt32) &&& (1431655765 : Int32))) &&& (858993459 : Int32)) + (((((nI s0) - ((((nI s0).toUInt32 >>> ((1 : Int32).toUInt32 &&& Int32.toUInt32 31)).toInt32) &&& (1431655765 : Int32))).toUInt32 >>> ((2 : Int32).toUInt32 &&& Int32.toUInt32 31)).toInt32) &&& (858993459 : Int32))) + ((((((nI s0) - ((((nI s0).toUInt32 >>> ((1 : Int32).toUInt32 &&& Int32.toUInt32 31)).toInt32) &&& (1431655765 : Int32))) &&& (858993459 : Int32)) + (((((nI s0) - ((((nI s0).toUInt32 >>> ((1 : Int32).toUInt32 &&& Int32.toUInt32 31)).toInt32) &&& (1431655765 : Int32))).toUInt32 >>> ((2 : Int32).toUInt32 &&& Int32.toUInt32 31)).toInt32) &&& (858993459 : Int32))).toUInt32 >>> ((4 : Int32).toUInt32 &&& Int32.toUInt32 31)).toInt32)) &&& (252645135 : Int32)) + ((((((((nI s0) - ((((nI s0).toUInt32 >>> ((1 : Int32).toUInt32 &&& Int32.toUInt32 31)).toInt32) &&& (1431655765 : Int32))) &&& (858993459 : Int32)) + (((((nI s0) - ((((nI s0).toUInt32 >>> ((1 : Int32).toUInt32 &&& Int32.toUInt32 31)).toInt32) &&& (1431655765 : Int32))).toUInt32 >>> ((2 : Int32).toUInt32 &&& Int32.toUInt32 31)).toInt32) &&& (858993459 : Int32))) + ((((((nI s0) - ((((nI s0).toUInt32 >>> ((1 : Int32).toUInt32 &&& Int32.toUInt32 31)).toInt32) &&& (1431655765 : Int32))) &&& (858993459 : Int32)) + (((((nI s0) - ((((nI s0).toUInt32 >>> ((1 : Int32).toUInt32 &&& Int32.toUInt32 31)).toInt32) &&& (1431655765 : Int32))).toUInt32 >>> ((2 : Int32).toUInt32 &&& Int32.toUInt32 31)).toInt32) &&& (858993459 : Int32))).toUInt32 >>> ((4 : Int32).toUInt32 &&& Int32.toUInt32 31)).toInt32)) &&& (252645135 : Int32)).toUInt32 >>> ((8 : Int32).toUInt32 &&& Int32.toUInt32 31)).toInt32)).toUInt32 >>> ((16 : Int32).toUInt32 &&& Int32.toUInt32 31)).toInt32)))]) C dJ6_bitCount_0f7a4_47 (by decide) rfl ?_
  refine V_iload_n C dJ6_bitCount_0f7a4_48 rfl ?_
  refine V_bipush (v := (63 : Int32)) C dJ6_bitCount_0f7a4_49 (by decide) ?_
  refine V_iand C dJ6_bitCount_0f7a4_51 ?_
  exact V_ireturnI C dJ6_bitCount_0f7a4_52 ⟨bcE_eq s0 hs, rfl⟩
def q_X6_tellsRelations (r : Nat) (X : Mem) (R : Nat) (PP : Nat → Nat → Nat) (Z : Nat → Nat) (Th : Nat → Prop) : Int32 → Mem → Prop := fun v X' => bI (Us PP Z Th r) v ∧ X' = X
set_option maxHeartbeats 4000000 in
set_option maxRecDepth 100000 in
theorem k_X6_tellsRelations (w : Wt) (l : Launch) (r : Nat) (X : Mem) (R : Nat) (PP : Nat → Nat → Nat) (Z : Nat → Nat) (Th : Nat → Prop) (hB : RBc X R PP Z Th) (hr : r < R) : CtI w l yX6_tellsRelations cX6_tellsRelations 2 (some .boolean) 3 64 [.ref (w.2.1 20), .int (nI r)] X (q_X6_tellsRelations r X R PP Z Th) := by
  have hR24 := hB.1
  refine CtI_of (by decide +kernel) (Nat.le_of_ble_eq_true rfl) (List.forall_mem_cons.mpr ⟨rfl, (List.forall_mem_cons.mpr ⟨rfl, (fun _ h => nomatch h)⟩)⟩) (ls := [some (.ref (w.2.1 20)), some (.int (nI r))]) rfl (args := (#[.ref (w.2.1 20), .int (nI r)] : Array Value)) rfl (own := RX6) rfl ?_
  intro p e s m below meth c C
  refine V_aload_n C dX6_tellsRelations_0 rfl ?_
  refine V_getr C fl_X6_39 dX6_tellsRelations_1 (by decide) sh_20 rfl ?_
  refine V_iload_n C dX6_tellsRelations_4 rfl ?_
  refine V_baldN (p0 := 50) (o := r) (v := X 50 r) C dX6_tellsRelations_5 sh_50 (by decide) (by omega) (by decide) rfl ?_
  refine V_if_ne (x := X 50 r) (tgt := 31) C dX6_tellsRelations_6 (by decide) (fun h6_1 => ?_) (fun h6_1 => ?_)
  · refine V_iconst (v := (0 : Int32)) C dX6_tellsRelations_31 (by decide) ?_
    exact V_zreturnI C dX6_tellsRelations_32 (Or.inl rfl) (by first | exact ⟨bI.f (fun q => absurd ((hB.2.2 r hr).2.2.2.2.mpr q.1) (by assumption)), rfl⟩ | exact ⟨bI.f (fun q => absurd (by assumption) q.2), rfl⟩)
  · refine V_aload_n C dX6_tellsRelations_9 rfl ?_
    refine V_getr C fl_X6_27 dX6_tellsRelations_10 (by decide) sh_20 rfl ?_
    refine V_iload_n C dX6_tellsRelations_13 rfl ?_
    refine V_aaldN (o := r) (q := 23 + r) C dX6_tellsRelations_14 sh_22 (by decide) (by omega) (by decide) rfl ?_
    refine V_aload_n C dX6_tellsRelations_15 rfl ?_
    refine V_getr C fl_X6_30 dX6_tellsRelations_16 (by decide) sh_20 rfl ?_
    refine V_iload_n C dX6_tellsRelations_19 rfl ?_
    refine V_ialdN (p0 := 47) (o := r) (v := X 47 r) C dX6_tellsRelations_20 sh_47 (by decide) (by omega) (by decide) rfl ?_
    have hq2 : 1 ≤ Z r ∧ Z r ≤ 6 := ⟨(hB.2.2 r (by omega)).1, (hB.2.2 r (by omega)).2.1⟩
    refine V_eqi (y := nI (Z r)) ((hB.2.2 r (by omega)).2.2.1) ?_
    refine V_callSI C [.ref (w.2.1 (23 + r)), .int (nI (Z r))] ms_X6_43 (k_X6_runsRound w l (23 + r) (Z r) X 6 (PP r) (sh_nets (by omega)) (by decide) (by omega) (hB.2.2 r hr).2.2.2.1 (by omega)) dX6_tellsRelations_21 rfl rfl (Nat.le_of_ble_eq_true rfl) (Nat.le_of_ble_eq_true rfl) (Nat.le_of_ble_eq_true rfl) ⟨Nat.le_refl _, Nat.le_refl _⟩ (fun v3 X3 q3 => ?_)
    obtain ⟨hb3, eX3⟩ := q3; subst X3
    refine V_if_neB (tgt := 31) C hb3 dX6_tellsRelations_24 (by decide) (fun h24_4 => ?_) (fun h24_4 => ?_)
    · refine V_iconst (v := (0 : Int32)) C dX6_tellsRelations_31 (by decide) ?_
      exact V_zreturnI C dX6_tellsRelations_32 (Or.inl rfl) (by first | exact ⟨bI.f (fun q => absurd ((hB.2.2 r hr).2.2.2.2.mpr q.1) (by assumption)), rfl⟩ | exact ⟨bI.f (fun q => absurd (by assumption) q.2), rfl⟩)
    · refine V_iconst (v := (1 : Int32)) C dX6_tellsRelations_27 (by decide) ?_
      refine V_goto (tgt := 32) C dX6_tellsRelations_28 (by decide) ?_
      exact V_zreturnI C dX6_tellsRelations_32 (Or.inr rfl) ⟨bI.t ⟨(hB.2.2 r hr).2.2.2.2.mp (by assumption), by assumption⟩, rfl⟩
def q_X5_joinNeighbours (a : Nat) (z : Nat) (X : Mem) (N : Nat) (P : Nat → Nat) (Q : Nat → Nat → Prop) : Mem → Prop := fun X' => ∃ nb, X' = ma X 69 nb ∧ SetRow nb (fun a b => Q a b ∨ Adj P z a b)
set_option maxHeartbeats 4000000 in
set_option maxRecDepth 100000 in
theorem k_X5_joinNeighbours (w : Wt) (l : Launch) (a : Nat) (z : Nat) (X : Mem) (N : Nat) (P : Nat → Nat) (Q : Nat → Nat → Prop) (hsh : sh a = .inl (0, N)) (hN : N ≤ 256) (ha : a < 92) (hP : PA X a P z) (hzN : z ≤ N) (hQ : SetRow (X 69) Q) (ha69 : a < 69) (hz : 1 ≤ z) : CtU w l yX5_joinNeighbours cX5_joinNeighbours 4 none 1 20 [.ref (w.2.1 68), .ref (w.2.1 a), .int (nI z)] X (q_X5_joinNeighbours a z X N P Q) := by
  refine CtU_of (by decide +kernel) (Nat.le_of_ble_eq_true rfl) (List.forall_mem_cons.mpr ⟨rfl, (List.forall_mem_cons.mpr ⟨rfl, (List.forall_mem_cons.mpr ⟨rfl, (fun _ h => nomatch h)⟩)⟩)⟩) (ls := [some (.ref (w.2.1 68)), some (.ref (w.2.1 a)), some (.int (nI z)), none]) rfl (args := (#[.ref (w.2.1 68), .ref (w.2.1 a), .int (nI z)] : Array Value)) rfl (own := RX5) rfl ?_
  intro p e s m below meth c C
  refine V_iconst (v := (1 : Int32)) C dX5_joinNeighbours_0 (by decide) ?_
  refine V_istore_n (ls1 := [some (.ref (w.2.1 68)), some (.ref (w.2.1 a)), some (.int (nI z)), some (.int (1 : Int32))]) C dX5_joinNeighbours_1 (by decide) rfl ?_
  have L2 : ∀ (fu : Nat) (i : Nat) (nb : Nat → Int32), z - i < fu → (1 ≤ i) → (i ≤ z) → (SetRow nb (fun a b => Q a b ∨ Adj P i a b)) → V p l e ({ frames := 1, cells := 0, slots := 0, locals := 20 } : Room) s m (#[.ref (w.2.1 68), .ref (w.2.1 a), .int (nI z)] : Array Value) below meth c w 4 0 0 (EU w below s (#[.ref (w.2.1 68), .ref (w.2.1 a), .int (nI z)] : Array Value) 0 0 (q_X5_joinNeighbours a z X N P Q)) 2 [some (.ref (w.2.1 68)), some (.ref (w.2.1 a)), some (.int (nI z)), some (.int (nI i))] [] (ma X 69 nb) := by
    intro fu
    induction fu with
    | zero => intro i nb hm; exact absurd hm (Nat.not_lt_zero _)
    | succ fu ih2 =>
      intro i nb hm2 h1 h2 hnb
      refine V_iload_n C dX5_joinNeighbours_2 rfl ?_
      refine V_iload_n C dX5_joinNeighbours_3 rfl ?_
      refine V_icmp_geN (a := i) (b := z) (tgt := 49) C dX5_joinNeighbours_4 (by decide) (by omega) (by omega) (fun h4_1 => ?_) (fun h4_1 => ?_)
      · exact V_returnU C dX5_joinNeighbours_49 ⟨nb, rfl, (show i = z from by omega) ▸ hnb⟩
      · refine V_aload_n C dX5_joinNeighbours_7 rfl ?_
        refine V_getr C fl_X5_15 dX5_joinNeighbours_8 (by decide) sh_68 rfl ?_
        refine V_aload_n C dX5_joinNeighbours_11 rfl ?_
        refine V_iload_n C dX5_joinNeighbours_12 rfl ?_
        refine V_iconst (v := (1 : Int32)) C dX5_joinNeighbours_13 (by decide) ?_
        refine V_isubN (a := i) (b := 1) C dX5_joinNeighbours_14 (by omega) ?_
        refine V_ialdN (p0 := a) (o := i - 1) (v := X a (i - 1)) C dX5_joinNeighbours_15 hsh ha (by omega) hN (by rw [ma_ne (show a ≠ 69 by omega)]) ?_
        have hq2 : P (i - 1) < 10 := (hP (i - 1) (by omega)).2
        refine V_eqi (y := nI (P (i - 1))) ((hP (i - 1) (by omega)).1) ?_
        refine V_dup2 C dX5_joinNeighbours_16 rfl rfl ?_
        refine V_ialdN (p0 := 69) (o := P (i - 1)) (v := nb (P (i - 1))) C dX5_joinNeighbours_17 sh_69 (by decide) (by omega) (by decide) rfl ?_
        obtain ⟨a3, ha3, ea3⟩ := hnb (P (i - 1)) (by omega)
        have ia3 : ix (nI a3) = a3 := ix_nI (by omega)
        refine V_eqi ea3 ?_
        refine V_iconst (v := (1 : Int32)) C dX5_joinNeighbours_18 (by decide) ?_
        refine V_aload_n C dX5_joinNeighbours_19 rfl ?_
        refine V_iload_n C dX5_joinNeighbours_20 rfl ?_
        refine V_ialdN (p0 := a) (o := i) (v := X a i) C dX5_joinNeighbours_21 hsh ha (by omega) hN (by rw [ma_ne (show a ≠ 69 by omega)]) ?_
        have hq4 : P i < 10 := (hP i (by omega)).2
        refine V_eqi (y := nI (P i)) ((hP i (by omega)).1) ?_
        refine V_ishl C dX5_joinNeighbours_22 ?_
        refine V_eqi (y := nI (2 ^ (P i))) (shl1 (by omega)) ?_
        refine V_ior C dX5_joinNeighbours_23 ?_
        refine V_eqi (y := nI (a3 ||| (2 ^ (P i)))) (nI_or _ _) ?_
        refine V_iastN (p0 := 69) (o := P (i - 1)) (X1 := (ma X 69 (upd (nb) (P (i - 1)) (nI (a3 ||| (2 ^ (P i))))))) C dX5_joinNeighbours_24 sh_69 (by decide) (by omega) (by decide) (ma_ma _ _ _ _) ?_
        have hnb1 := SetRow_add hnb (show P (i - 1) < 10 by omega) (show P i < 10 by omega) ea3
        refine V_aload_n C dX5_joinNeighbours_25 rfl ?_
        refine V_getr C fl_X5_15 dX5_joinNeighbours_26 (by decide) sh_68 rfl ?_
        refine V_aload_n C dX5_joinNeighbours_29 rfl ?_
        refine V_iload_n C dX5_joinNeighbours_30 rfl ?_
        refine V_ialdN (p0 := a) (o := i) (v := X a i) C dX5_joinNeighbours_31 hsh ha (by omega) hN (by rw [ma_ne (show a ≠ 69 by omega)]) ?_
        have hq5 : P i < 10 := (hP i (by omega)).2
        refine V_eqi (y := nI (P i)) ((hP i (by omega)).1) ?_
        refine V_dup2 C dX5_joinNeighbours_32 rfl rfl ?_
        refine V_ialdN (p0 := 69) (o := P i) (v := (upd (nb) (P (i - 1)) (nI (a3 ||| (2 ^ (P i))))) (P i)) C dX5_joinNeighbours_33 sh_69 (by decide) (by omega) (by decide) rfl ?_
        obtain ⟨a6, ha6, ea6⟩ := hnb1 (P i) (by omega)
        have ia6 : ix (nI a6) = a6 := ix_nI (by omega)
        refine V_eqi ea6 ?_
        refine V_iconst (v := (1 : Int32)) C dX5_joinNeighbours_34 (by decide) ?_
        refine V_aload_n C dX5_joinNeighbours_35 rfl ?_
        refine V_iload_n C dX5_joinNeighbours_36 rfl ?_
        refine V_iconst (v := (1 : Int32)) C dX5_joinNeighbours_37 (by decide) ?_
        refine V_isubN (a := i) (b := 1) C dX5_joinNeighbours_38 (by omega) ?_
        refine V_ialdN (p0 := a) (o := i - 1) (v := X a (i - 1)) C dX5_joinNeighbours_39 hsh ha (by omega) hN (by rw [ma_ne (show a ≠ 69 by omega)]) ?_
        have hq7 : P (i - 1) < 10 := (hP (i - 1) (by omega)).2
        refine V_eqi (y := nI (P (i - 1))) ((hP (i - 1) (by omega)).1) ?_
        refine V_ishl C dX5_joinNeighbours_40 ?_
        refine V_eqi (y := nI (2 ^ (P (i - 1)))) (shl1 (by omega)) ?_
        refine V_ior C dX5_joinNeighbours_41 ?_
        refine V_eqi (y := nI (a6 ||| (2 ^ (P (i - 1))))) (nI_or _ _) ?_
        refine V_iastN (p0 := 69) (o := P i) (X1 := (ma X 69 (upd (upd (nb) (P (i - 1)) (nI (a3 ||| (2 ^ (P i))))) (P i) (nI (a6 ||| (2 ^ (P (i - 1)))))))) C dX5_joinNeighbours_42 sh_69 (by decide) (by omega) (by decide) (ma_ma _ _ _ _) ?_
        refine V_iincN (a := i) (ls1 := [some (.ref (w.2.1 68)), some (.ref (w.2.1 a)), some (.int (nI z)), some (.int (nI (i + 1)))]) C dX5_joinNeighbours_43 rfl (by decide) rfl ?_
        refine V_goto (tgt := 2) C dX5_joinNeighbours_46 (by decide) ?_
        exact ih2 (i + 1) (upd (upd (nb) (P (i - 1)) (nI (a3 ||| (2 ^ (P i))))) (P i) (nI (a6 ||| (2 ^ (P (i - 1)))))) (by omega) (by omega) (by omega) (SetRow_pair h1 (SetRow_congr (SetRow_add hnb1 (by assumption) (by assumption) ea6) (fun a b _ => by simp only [or_assoc])))
  refine V_eqX (X1 := (ma X 69 (X 69))) (ma_id rfl) ?_
  exact L2 _ 1 (X 69) (Nat.lt_succ_self _) (by omega) (by omega) (SetRow_congr hQ (fun a b _ => ⟨Or.inl, fun q => q.elim id (fun q => absurd q (Adj_1 (Nat.le_refl _)))⟩))
def q_X5_findNeighbours (X : Mem) (R : Nat) (PP : Nat → Nat → Nat) (Z : Nat → Nat) (Th : Nat → Prop) : Mem → Prop := fun X' => ∃ nb, X' = ma X 69 nb ∧ SetRow nb (Nb R PP Z Th)
set_option maxHeartbeats 4000000 in
set_option maxRecDepth 100000 in
theorem k_X5_findNeighbours (w : Wt) (l : Launch) (X : Mem) (R : Nat) (PP : Nat → Nat → Nat) (Z : Nat → Nat) (Th : Nat → Prop) (hB : RBc X R PP Z Th) : CtU w l yX5_findNeighbours cX5_findNeighbours 2 none 4 85 [.ref (w.2.1 68)] X (q_X5_findNeighbours X R PP Z Th) := by
  have hR24 := hB.1
  refine CtU_of (by decide +kernel) (Nat.le_of_ble_eq_true rfl) (List.forall_mem_cons.mpr ⟨rfl, (fun _ h => nomatch h)⟩) (ls := [some (.ref (w.2.1 68)), none]) rfl (args := (#[.ref (w.2.1 68)] : Array Value)) rfl (own := RX5) rfl ?_
  intro p e s m below meth c C
  refine V_iconst (v := (0 : Int32)) C dX5_findNeighbours_0 (by decide) ?_
  refine V_istore_n (ls1 := [some (.ref (w.2.1 68)), some (.int (0 : Int32))]) C dX5_findNeighbours_1 (by decide) rfl ?_
  have L2 : ∀ (fu : Nat) (j : Nat) (n0 : Nat → Int32), 10 - j < fu → (j ≤ 10) → (∀ a, a < j → n0 a = 0) → V p l e ({ frames := 4, cells := 0, slots := 0, locals := 85 } : Room) s m (#[.ref (w.2.1 68)] : Array Value) below meth c w 2 0 0 (EU w below s (#[.ref (w.2.1 68)] : Array Value) 0 0 (q_X5_findNeighbours X R PP Z Th)) 2 [some (.ref (w.2.1 68)), some (.int (nI j))] [] (ma X 69 n0) := by
    intro fu
    induction fu with
    | zero => intro j n0 hm; exact absurd hm (Nat.not_lt_zero _)
    | succ fu ih2 =>
      intro j n0 hm2 hj hz
      refine V_iload_n C dX5_findNeighbours_2 rfl ?_
      refine V_bipush (v := (10 : Int32)) C dX5_findNeighbours_3 (by decide) ?_
      refine V_icmp_geN (a := j) (b := 10) (tgt := 21) C dX5_findNeighbours_5 (by decide) (by omega) (by omega) (fun h5_1 => ?_) (fun h5_1 => ?_)
      · refine V_iconst (v := (0 : Int32)) C dX5_findNeighbours_21 (by decide) ?_
        refine V_istore_n (ls1 := [some (.ref (w.2.1 68)), some (.int (0 : Int32))]) C dX5_findNeighbours_22 (by decide) rfl ?_
        have L23 : ∀ (fu : Nat) (i : Nat) (nb : Nat → Int32), R - i < fu → (i ≤ R) → (SetRow nb (Nb i PP Z Th)) → V p l e ({ frames := 4, cells := 0, slots := 0, locals := 85 } : Room) s m (#[.ref (w.2.1 68)] : Array Value) below meth c w 2 0 0 (EU w below s (#[.ref (w.2.1 68)] : Array Value) 0 0 (q_X5_findNeighbours X R PP Z Th)) 23 [some (.ref (w.2.1 68)), some (.int (nI i))] [] (ma X 69 nb) := by
          intro fu
          induction fu with
          | zero => intro i nb hm; exact absurd hm (Nat.not_lt_zero _)
          | succ fu ih23 =>
            intro i nb hm23 hi hnb
            refine V_iload_n C dX5_findNeighbours_23 rfl ?_
            refine V_aload_n C dX5_findNeighbours_24 rfl ?_
            refine V_getr C fl_X5_27 dX5_findNeighbours_25 (by decide) sh_68 rfl ?_
            refine V_geti C fl_X5_44 dX5_findNeighbours_28 (by decide) sh_20 rfl ?_
            refine V_eqi (y := X 20 0) rfl ?_
            refine V_eqi (y := nI R) hB.2.1 ?_
            refine V_icmp_geN (a := i) (b := R) (tgt := 73) C dX5_findNeighbours_31 (by decide) (by omega) (by omega) (fun h31_2 => ?_) (fun h31_2 => ?_)
            · exact V_returnU C dX5_findNeighbours_73 ⟨nb, rfl, (show i = R from by omega) ▸ hnb⟩
            · refine V_aload_n C dX5_findNeighbours_34 rfl ?_
              refine V_getr C fl_X5_27 dX5_findNeighbours_35 (by decide) sh_68 rfl ?_
              refine V_iload_n C dX5_findNeighbours_38 rfl ?_
              refine V_callVI C [.int (nI i)] mi_X5_49 (k_X6_tellsRelations w l i (ma X 69 nb) R PP Z Th (RBc_ma (by decide) hB) (by omega)) dX5_findNeighbours_39 sh_20 (by decide) rfl rfl rfl (Nat.le_of_ble_eq_true rfl) (Nat.le_of_ble_eq_true rfl) (Nat.le_of_ble_eq_true rfl) ⟨Nat.le_refl _, Nat.le_refl _⟩ (fun v3 X3 q3 => ?_)
              obtain ⟨hb3, eX3⟩ := q3; subst X3
              try simp (disch := decide) only [oC_ma, gC_ma, oM_ma, gM_ma, tC_ma, tM_ma, ma_eq, ma_ne] at hb3
              refine V_if_eqB (tgt := 67) C hb3 dX5_findNeighbours_42 (by decide) (fun h42_4 => ?_) (fun h42_4 => ?_)
              · refine V_iincN (a := i) (ls1 := [some (.ref (w.2.1 68)), some (.int (nI (i + 1)))]) C dX5_findNeighbours_67 rfl (by decide) rfl ?_
                refine V_goto (tgt := 23) C dX5_findNeighbours_70 (by decide) ?_
                exact ih23 (i + 1) nb (by omega) (by omega) (Nb_skip hnb (by assumption))
              · refine V_aload_n C dX5_findNeighbours_45 rfl ?_
                refine V_aload_n C dX5_findNeighbours_46 rfl ?_
                refine V_getr C fl_X5_27 dX5_findNeighbours_47 (by decide) sh_68 rfl ?_
                refine V_getr C fl_X5_53 dX5_findNeighbours_50 (by decide) sh_20 rfl ?_
                refine V_iload_n C dX5_findNeighbours_53 rfl ?_
                refine V_aaldN (o := i) (q := 23 + i) C dX5_findNeighbours_54 sh_22 (by decide) (by omega) (by decide) rfl ?_
                refine V_aload_n C dX5_findNeighbours_55 rfl ?_
                refine V_getr C fl_X5_27 dX5_findNeighbours_56 (by decide) sh_68 rfl ?_
                refine V_getr C fl_X5_56 dX5_findNeighbours_59 (by decide) sh_20 rfl ?_
                refine V_iload_n C dX5_findNeighbours_62 rfl ?_
                refine V_ialdN (p0 := 47) (o := i) (v := X 47 i) C dX5_findNeighbours_63 sh_47 (by decide) (by omega) (by decide) rfl ?_
                have hq5 : 1 ≤ Z i ∧ Z i ≤ 6 := ⟨(hB.2.2 i (by omega)).1, (hB.2.2 i (by omega)).2.1⟩
                refine V_eqi (y := nI (Z i)) ((hB.2.2 i (by omega)).2.2.1) ?_
                refine V_callVU C [.ref (w.2.1 (23 + i)), .int (nI (Z i))] mi_X5_59 (k_X5_joinNeighbours w l (23 + i) (Z i) (ma X 69 nb) 6 (PP i) (Nb i PP Z Th) (sh_nets (by omega)) (by decide) (by omega) ((RBc_ma (by decide) hB).2.2 i (by omega)).2.2.2.1 (by omega) (by rw [ma_eq]; exact hnb) (by omega) (by omega)) dX5_findNeighbours_64 sh_68 (by decide) rfl rfl rfl (Nat.le_of_ble_eq_true rfl) (Nat.le_of_ble_eq_true rfl) (Nat.le_of_ble_eq_true rfl) ⟨Nat.le_refl _, Nat.le_refl _⟩ (fun X6 q6 => ?_)
                obtain ⟨nb6, eX6, hnb6⟩ := q6
                rw [ma_ma] at eX6
                subst X6
                refine V_iincN (a := i) (ls1 := [some (.ref (w.2.1 68)), some (.int (nI (i + 1)))]) C dX5_findNeighbours_67 rfl (by decide) rfl ?_
                refine V_goto (tgt := 23) C dX5_findNeighbours_70 (by decide) ?_
                exact ih23 (i + 1) nb6 (by omega) (by omega) (Nb_add (by assumption) hnb6)
        exact L23 _ 0 n0 (Nat.lt_succ_self _) (by omega) (fun a ha => by rw [hz a (by omega)]; exact SetIs_congr SetIs_0 (fun b => ⟨False.elim, fun ⟨_, h, _⟩ => absurd h (Nat.not_lt_zero _)⟩))
      · refine V_aload_n C dX5_findNeighbours_8 rfl ?_
        refine V_getr C fl_X5_15 dX5_findNeighbours_9 (by decide) sh_68 rfl ?_
        refine V_iload_n C dX5_findNeighbours_12 rfl ?_
        refine V_iconst (v := (0 : Int32)) C dX5_findNeighbours_13 (by decide) ?_
        refine V_iastN (p0 := 69) (o := j) (X1 := (ma X 69 (upd (n0) j (0 : Int32)))) C dX5_findNeighbours_14 sh_69 (by decide) (by omega) (by decide) (ma_ma _ _ _ _) ?_
        refine V_iincN (a := j) (ls1 := [some (.ref (w.2.1 68)), some (.int (nI (j + 1)))]) C dX5_findNeighbours_15 rfl (by decide) rfl ?_
        refine V_goto (tgt := 2) C dX5_findNeighbours_18 (by decide) ?_
        exact ih2 (j + 1) (upd (n0) j (0 : Int32)) (by omega) (by omega) (by intro a h1; rcases lt_succ_or.mp h1 with h1 | rfl; rw [upd_ne (by omega)]; exact hz a h1; exact upd_eq _ _ _)
  refine V_eqX (X1 := (ma X 69 (X 69))) (ma_id rfl) ?_
  exact L2 _ 0 (X 69) (Nat.lt_succ_self _) (by omega) (fun a h => absurd h (Nat.not_lt_zero _))
def q_X5_findCore (X : Mem) : Mem → Prop := fun X' => X' = ma X 68 (upd (X 68) 1 (coreO (X 69) 9 0))
set_option maxHeartbeats 4000000 in
set_option maxRecDepth 100000 in
theorem k_X5_findCore (w : Wt) (l : Launch) (X : Mem) (hn : ∀ a, a < 10 → CoreIs (X 69 a)) : CtU w l yX5_findCore cX5_findCore 3 none 2 40 [.ref (w.2.1 68)] X (q_X5_findCore X) := by
  refine CtU_of (by decide +kernel) (Nat.le_of_ble_eq_true rfl) (List.forall_mem_cons.mpr ⟨rfl, (fun _ h => nomatch h)⟩) (ls := [some (.ref (w.2.1 68)), none, none]) rfl (args := (#[.ref (w.2.1 68)] : Array Value)) rfl (own := RX5) rfl ?_
  intro p e s m below meth c C
  refine V_aload_n C dX5_findCore_0 rfl ?_
  refine V_iconst (v := (0 : Int32)) C dX5_findCore_1 (by decide) ?_
  refine V_put C fp_X5_9 dX5_findCore_2 (by decide) sh_68 rfl ?_
  refine V_bipush (v := (9 : Int32)) C dX5_findCore_5 (by decide) ?_
  refine V_istore_n (ls1 := [some (.ref (w.2.1 68)), some (.int (9 : Int32)), none]) C dX5_findCore_7 (by decide) rfl ?_
  have L8 : ∀ (fu : Nat) (d : Nat) (co : Int32), d < fu → (d ≤ 9) → (coreO (X 69) d co = coreO (X 69) 9 0) → V p l e ({ frames := 2, cells := 0, slots := 0, locals := 40 } : Room) s m (#[.ref (w.2.1 68)] : Array Value) below meth c w 3 0 0 (EU w below s (#[.ref (w.2.1 68)] : Array Value) 0 0 (q_X5_findCore X)) 8 [some (.ref (w.2.1 68)), some (.int (nI d)), none] [] (ma X 68 (upd (X 68) 1 co)) := by
    intro fu
    induction fu with
    | zero => intro d co hm; exact absurd hm (Nat.not_lt_zero _)
    | succ fu ih8 =>
      intro d co hm8 hd hC
      refine V_iload_n C dX5_findCore_8 rfl ?_
      refine V_if_leN (a := d) (tgt := 73) C dX5_findCore_9 (by decide) (by omega) (fun h9_1 => ?_) (fun h9_1 => ?_)
      · exact V_returnU C dX5_findCore_73 (congrArg (fun z => ma X 68 (upd (X 68) 1 z)) (core_fin hC (by omega)))
      · refine V_iconst (v := (0 : Int32)) C dX5_findCore_12 (by decide) ?_
        refine V_istore_n (ls1 := [some (.ref (w.2.1 68)), some (.int (nI d)), some (.int (0 : Int32))]) C dX5_findCore_13 (by decide) rfl ?_
        have L14 : ∀ (fu : Nat) (n2 : Nat) (co2 : Int32), 10 - n2 < fu → (n2 ≤ 10) → (coreI (X 69) d co n2 = co2) → V p l e ({ frames := 2, cells := 0, slots := 0, locals := 40 } : Room) s m (#[.ref (w.2.1 68)] : Array Value) below meth c w 3 0 0 (EU w below s (#[.ref (w.2.1 68)] : Array Value) 0 0 (q_X5_findCore X)) 14 [some (.ref (w.2.1 68)), some (.int (nI d)), some (.int (nI n2))] [] (ma X 68 (upd (X 68) 1 co2)) := by
          intro fu
          induction fu with
          | zero => intro n2 co2 hm; exact absurd hm (Nat.not_lt_zero _)
          | succ fu ih14 =>
            intro n2 co2 hm14 hn2 hI
            refine V_iload_n C dX5_findCore_14 rfl ?_
            refine V_bipush (v := (10 : Int32)) C dX5_findCore_15 (by decide) ?_
            refine V_icmp_geN (a := n2) (b := 10) (tgt := 67) C dX5_findCore_17 (by decide) (by omega) (by omega) (fun h17_2 => ?_) (fun h17_2 => ?_)
            · refine V_iincD (a := d) (ls1 := [some (.ref (w.2.1 68)), some (.int (nI (d - 1))), some (.int (nI n2))]) C dX5_findCore_67 rfl (by omega) (by decide) rfl ?_
              refine V_goto (tgt := 8) C dX5_findCore_70 (by decide) ?_
              refine V_kill (i := 2) (ls1 := [some (.ref (w.2.1 68)), some (.int (nI (d - 1))), none]) rfl ?_
              exact ih8 (d - 1) co2 (by omega) (by omega) (by rw [← hC, ← hI]; obtain ⟨e, rfl⟩ : ∃ e, d = e + 1 := ⟨d - 1, by omega⟩; rw [show n2 = 10 by omega]; rfl)
            · refine V_aload_n C dX5_findCore_20 rfl ?_
              refine V_getr C fl_X5_15 dX5_findCore_21 (by decide) sh_68 rfl ?_
              refine V_iload_n C dX5_findCore_24 rfl ?_
              refine V_ialdN (p0 := 69) (o := n2) (v := X 69 n2) C dX5_findCore_25 sh_69 (by decide) (by omega) (by decide) rfl ?_
              obtain ⟨a3, ha3, ea3⟩ := hn n2 (by omega)
              have ia3 : ix (nI a3) = a3 := ix_nI (by omega)
              refine V_eqi ea3 ?_
              refine V_callSI C [.int (nI a3)] ms_X5_63 (k_J6_bitCount_0f7a4 w l a3 (ma X 68 (upd (X 68) 1 co2)) (by omega)) dX5_findCore_26 rfl rfl (Nat.le_of_ble_eq_true rfl) (Nat.le_of_ble_eq_true rfl) (Nat.le_of_ble_eq_true rfl) ⟨Nat.le_refl _, Nat.le_refl _⟩ (fun v4 X4 q4 => ?_)
              obtain ⟨ev4, eX4⟩ := q4; subst X4; subst v4
              have hle4 := cntB_le a3
              refine V_iload_n C dX5_findCore_29 rfl ?_
              refine V_icmp_neN (a := cntB a3) (b := d) (tgt := 61) C dX5_findCore_30 (by decide) (by omega) (by omega) (fun h30_5 => ?_) (fun h30_5 => ?_)
              · refine V_iincN (a := n2) (ls1 := [some (.ref (w.2.1 68)), some (.int (nI d)), some (.int (nI (n2 + 1)))]) C dX5_findCore_61 rfl (by decide) rfl ?_
                refine V_goto (tgt := 14) C dX5_findCore_64 (by decide) ?_
                exact ih14 (n2 + 1) co2 (by omega) (by omega) ((coreI_f ea3 ha3 (by first | exact fun q => absurd q.1 (by assumption) | exact fun q => (by assumption : ¬ co2 &&& (nI a3 ^^^ (-1)) = 0) (by rw [← hI]; exact q.2))).trans hI)
              · refine V_aload_n C dX5_findCore_33 rfl ?_
                refine V_geti C fl_X5_9 dX5_findCore_34 (by decide) sh_68 rfl ?_
                refine V_eqi (y := co2) rfl ?_
                refine V_aload_n C dX5_findCore_37 rfl ?_
                refine V_getr C fl_X5_15 dX5_findCore_38 (by decide) sh_68 rfl ?_
                refine V_iload_n C dX5_findCore_41 rfl ?_
                refine V_ialdN (p0 := 69) (o := n2) (v := X 69 n2) C dX5_findCore_42 sh_69 (by decide) (by omega) (by decide) rfl ?_
                refine V_eqi ea3 ?_
                refine V_iconst (v := (-1 : Int32)) C dX5_findCore_43 (by decide) ?_
                refine V_ixor C dX5_findCore_44 ?_
                refine V_iand C dX5_findCore_45 ?_
                refine V_if_ne (x := co2 &&& ((nI a3) ^^^ (-1 : Int32))) (tgt := 61) C dX5_findCore_46 (by decide) (fun h46_6 => ?_) (fun h46_6 => ?_)
                · refine V_iincN (a := n2) (ls1 := [some (.ref (w.2.1 68)), some (.int (nI d)), some (.int (nI (n2 + 1)))]) C dX5_findCore_61 rfl (by decide) rfl ?_
                  refine V_goto (tgt := 14) C dX5_findCore_64 (by decide) ?_
                  exact ih14 (n2 + 1) co2 (by omega) (by omega) ((coreI_f ea3 ha3 (by first | exact fun q => absurd q.1 (by assumption) | exact fun q => (by assumption : ¬ co2 &&& (nI a3 ^^^ (-1)) = 0) (by rw [← hI]; exact q.2))).trans hI)
                · refine V_aload_n C dX5_findCore_49 rfl ?_
                  refine V_dup C dX5_findCore_50 rfl ?_
                  refine V_geti C fl_X5_9 dX5_findCore_51 (by decide) sh_68 rfl ?_
                  refine V_eqi (y := co2) rfl ?_
                  refine V_iconst (v := (1 : Int32)) C dX5_findCore_54 (by decide) ?_
                  refine V_iload_n C dX5_findCore_55 rfl ?_
                  refine V_ishl C dX5_findCore_56 ?_
                  refine V_eqi (y := nI (2 ^ n2)) (shl1 (by omega)) ?_
                  refine V_ior C dX5_findCore_57 ?_
                  refine V_put C fp_X5_9 dX5_findCore_58 (by decide) sh_68 rfl ?_
                  refine V_eqX (X1 := (ma X 68 (upd (X 68) 1 (co2 ||| (nI (2 ^ n2)))))) ma_uu ?_
                  refine V_iincN (a := n2) (ls1 := [some (.ref (w.2.1 68)), some (.int (nI d)), some (.int (nI (n2 + 1)))]) C dX5_findCore_61 rfl (by decide) rfl ?_
                  refine V_goto (tgt := 14) C dX5_findCore_64 (by decide) ?_
                  exact ih14 (n2 + 1) (co2 ||| (nI (2 ^ n2))) (by omega) (by omega) (by rw [coreI_t ea3 ha3 (by omega) (by rw [hI]; assumption), hI])
        exact L14 _ 0 co (Nat.lt_succ_self _) (by omega) rfl
  exact L8 _ 9 (0 : Int32) (Nat.lt_succ_self _) (by omega) rfl
