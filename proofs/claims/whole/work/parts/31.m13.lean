def q_X10_isInClique (a : Nat) (X : Mem) (K : Nat) : Int32 → Mem → Prop := fun v X' => bI (K.testBit a = true) v ∧ X' = X
set_option maxHeartbeats 4000000 in
set_option maxRecDepth 100000 in
theorem k_X10_isInClique (w : Wt) (l : Launch) (a : Nat) (X : Mem) (K : Nat) (hC : X 85 35 = nI K) (hC1 : K < 1024) (ha : a < 10) : CtI w l yX10_isInClique cX10_isInClique 2 (some .boolean) 1 20 [.ref (w.2.1 85), .int (nI a)] X (q_X10_isInClique a X K) := by
  refine CtI_of (by decide +kernel) (Nat.le_of_ble_eq_true rfl) (List.forall_mem_cons.mpr ⟨rfl, (List.forall_mem_cons.mpr ⟨rfl, (fun _ h => nomatch h)⟩)⟩) (ls := [some (.ref (w.2.1 85)), some (.int (nI a))]) rfl (args := (#[.ref (w.2.1 85), .int (nI a)] : Array Value)) rfl (own := RX10) rfl ?_
  intro p e s m below meth c C
  refine V_aload_n C dX10_isInClique_0 rfl ?_
  refine V_geti C fl_X10_223 dX10_isInClique_1 (by decide) sh_85 rfl ?_
  refine V_eqi (y := nI K) hC ?_
  refine V_iload_n C dX10_isInClique_4 rfl ?_
  refine V_ishr C dX10_isInClique_5 ?_
  refine V_iconst (v := (1 : Int32)) C dX10_isInClique_6 (by decide) ?_
  refine V_iand C dX10_isInClique_7 ?_
  refine V_eqi (y := nI (K / 2 ^ a % 2)) (bit_val (by omega) (by omega)) ?_
  refine V_iconst (v := (1 : Int32)) C dX10_isInClique_8 (by decide) ?_
  refine V_icmp_neN (a := K / 2 ^ a % 2) (b := 1) (tgt := 16) C dX10_isInClique_9 (by decide) (by omega) (by omega) (fun h9_1 => ?_) (fun h9_1 => ?_)
  · refine V_iconst (v := (0 : Int32)) C dX10_isInClique_16 (by decide) ?_
    exact V_zreturnI C dX10_isInClique_17 (Or.inl rfl) ⟨bI.f (bt2 (by assumption)), rfl⟩
  · refine V_iconst (v := (1 : Int32)) C dX10_isInClique_12 (by decide) ?_
    refine V_goto (tgt := 17) C dX10_isInClique_13 (by decide) ?_
    exact V_zreturnI C dX10_isInClique_17 (Or.inr rfl) ⟨bI.t (tb_iff.mpr (by assumption)), rfl⟩
def q_X10_topOf (r : Nat) (X : Mem) (R : Nat) (PP : Nat → Nat → Nat) (Z : Nat → Nat) (Th : Nat → Prop) (K : Nat) (rk : Nat → Nat) : Int32 → Mem → Prop := fun v X' => (∃ t, v = nI t ∧ Top K rk (PP r) (Z r) t) ∧ X' = X
set_option maxHeartbeats 4000000 in
set_option maxRecDepth 100000 in
theorem k_X10_topOf (w : Wt) (l : Launch) (r : Nat) (X : Mem) (R : Nat) (PP : Nat → Nat → Nat) (Z : Nat → Nat) (Th : Nat → Prop) (K : Nat) (rk : Nat → Nat) (hB : RBm X R PP Z Th) (hC : X 85 35 = nI K) (hC1 : K < 1024) (hrk : ∀ a, a < 10 → X 114 a = nI (rk a) ∧ rk a ≤ 10) (hr : r < R) : CtI w l yX10_topOf cX10_topOf 4 (some .int) 1 20 [.ref (w.2.1 85), .int (nI r)] X (q_X10_topOf r X R PP Z Th K rk) := by
  have hR24 := hB.1
  have hZ1 := (hB.2.2 r hr).1
  have hZ6 := (hB.2.2 r hr).2.1
  refine CtI_of (by decide +kernel) (Nat.le_of_ble_eq_true rfl) (List.forall_mem_cons.mpr ⟨rfl, (List.forall_mem_cons.mpr ⟨rfl, (fun _ h => nomatch h)⟩)⟩) (ls := [some (.ref (w.2.1 85)), some (.int (nI r)), none, none]) rfl (args := (#[.ref (w.2.1 85), .int (nI r)] : Array Value)) rfl (own := RX10) rfl ?_
  intro p e s m below meth c C
  refine V_iconst (v := (0 : Int32)) C dX10_topOf_0 (by decide) ?_
  refine V_istore_n (ls1 := [some (.ref (w.2.1 85)), some (.int (nI r)), some (.int (0 : Int32)), none]) C dX10_topOf_1 (by decide) rfl ?_
  refine V_iconst (v := (0 : Int32)) C dX10_topOf_2 (by decide) ?_
  refine V_istore_n (ls1 := [some (.ref (w.2.1 85)), some (.int (nI r)), some (.int (0 : Int32)), some (.int (0 : Int32))]) C dX10_topOf_3 (by decide) rfl ?_
  have L4 : ∀ (fu : Nat) (k : Nat) (t : Nat), Z r - k < fu → (k ≤ Z r) → (t < Z r) → (∀ j, j < k → ¬ K.testBit (PP r j) = true) → (BestTo rk (PP r) k t) → V p l e ({ frames := 1, cells := 0, slots := 0, locals := 20 } : Room) s m (#[.ref (w.2.1 85), .int (nI r)] : Array Value) below meth c w 4 0 0 (EI w below s (#[.ref (w.2.1 85), .int (nI r)] : Array Value) 0 0 (q_X10_topOf r X R PP Z Th K rk)) 4 [some (.ref (w.2.1 85)), some (.int (nI r)), some (.int (nI t)), some (.int (nI k))] [] X := by
    intro fu
    induction fu with
    | zero => intro k t hm; exact absurd hm (Nat.not_lt_zero _)
    | succ fu ih4 =>
      intro k t hm4 hk ht hno hbt
      refine V_iload_n C dX10_topOf_4 rfl ?_
      refine V_aload_n C dX10_topOf_5 rfl ?_
      refine V_getr C fl_X10_63 dX10_topOf_6 (by decide) sh_85 rfl ?_
      refine V_iload_n C dX10_topOf_9 rfl ?_
      refine V_ialdN (p0 := 102) (o := r) (v := X 102 r) C dX10_topOf_10 sh_102 (by decide) (by omega) (by decide) rfl ?_
      have hq1 : 1 ≤ Z r ∧ Z r ≤ 6 := ⟨(hB.2.2 r (by omega)).1, (hB.2.2 r (by omega)).2.1⟩
      refine V_eqi (y := nI (Z r)) ((hB.2.2 r (by omega)).2.2.1) ?_
      refine V_icmp_geN (a := k) (b := Z r) (tgt := 85) C dX10_topOf_11 (by decide) (by omega) (by omega) (fun h11_2 => ?_) (fun h11_2 => ?_)
      · refine V_iload_n C dX10_topOf_85 rfl ?_
        exact V_ireturnI C dX10_topOf_86 ⟨⟨t, rfl, Or.inr ⟨fun j hj => hno j (by omega), (show k = Z r from by omega) ▸ hbt.2 (by omega)⟩⟩, rfl⟩
      · refine V_aload_n C dX10_topOf_14 rfl ?_
        refine V_geti C fl_X10_223 dX10_topOf_15 (by decide) sh_85 rfl ?_
        refine V_eqi (y := nI K) hC ?_
        refine V_aload_n C dX10_topOf_18 rfl ?_
        refine V_getr C fl_X10_60 dX10_topOf_19 (by decide) sh_85 rfl ?_
        refine V_bipush (v := (6 : Int32)) C dX10_topOf_22 (by decide) ?_
        refine V_iload_n C dX10_topOf_24 rfl ?_
        refine V_imulN (a := 6) (b := r) C dX10_topOf_25 ?_
        refine V_iload_n C dX10_topOf_26 rfl ?_
        refine V_iaddN (a := 6 * r) (b := k) C dX10_topOf_27 ?_
        refine V_ialdN (p0 := 101) (o := 6 * r + k) (v := X 101 (6 * r + k)) C dX10_topOf_28 sh_101 (by decide) (by omega) (by decide) rfl ?_
        have hq3 : PP r k < 10 := (PAt_i (hB.2.2 r (by omega)).2.2.2.1 (k := 6 * r + k) (i := k) (by omega) (by omega)).2
        refine V_eqi (y := nI (PP r k)) ((PAt_i (hB.2.2 r (by omega)).2.2.2.1 (k := 6 * r + k) (i := k) (by omega) (by omega)).1) ?_
        refine V_ishr C dX10_topOf_29 ?_
        refine V_iconst (v := (1 : Int32)) C dX10_topOf_30 (by decide) ?_
        refine V_iand C dX10_topOf_31 ?_
        refine V_eqi (y := nI (K / 2 ^ (PP r k) % 2)) (bit_val (by omega) (by omega)) ?_
        refine V_iconst (v := (1 : Int32)) C dX10_topOf_32 (by decide) ?_
        refine V_icmp_neN (a := K / 2 ^ (PP r k) % 2) (b := 1) (tgt := 38) C dX10_topOf_33 (by decide) (by omega) (by omega) (fun h33_4 => ?_) (fun h33_4 => ?_)
        · refine V_aload_n C dX10_topOf_38 rfl ?_
          refine V_getr C fl_X10_99 dX10_topOf_39 (by decide) sh_85 rfl ?_
          refine V_aload_n C dX10_topOf_42 rfl ?_
          refine V_getr C fl_X10_60 dX10_topOf_43 (by decide) sh_85 rfl ?_
          refine V_bipush (v := (6 : Int32)) C dX10_topOf_46 (by decide) ?_
          refine V_iload_n C dX10_topOf_48 rfl ?_
          refine V_imulN (a := 6) (b := r) C dX10_topOf_49 ?_
          refine V_iload_n C dX10_topOf_50 rfl ?_
          refine V_iaddN (a := 6 * r) (b := k) C dX10_topOf_51 ?_
          refine V_ialdN (p0 := 101) (o := 6 * r + k) (v := X 101 (6 * r + k)) C dX10_topOf_52 sh_101 (by decide) (by omega) (by decide) rfl ?_
          have hq5 : PP r k < 10 := (PAt_i (hB.2.2 r (by omega)).2.2.2.1 (k := 6 * r + k) (i := k) (by omega) (by omega)).2
          refine V_eqi (y := nI (PP r k)) ((PAt_i (hB.2.2 r (by omega)).2.2.2.1 (k := 6 * r + k) (i := k) (by omega) (by omega)).1) ?_
          refine V_ialdN (p0 := 114) (o := PP r k) (v := X 114 (PP r k)) C dX10_topOf_53 sh_114 (by decide) (by omega) (by decide) rfl ?_
          have hq6 : rk (PP r k) ≤ 10 := (hrk (PP r k) (by omega)).2
          refine V_eqi (y := nI (rk (PP r k))) ((hrk (PP r k) (by omega)).1) ?_
          refine V_aload_n C dX10_topOf_54 rfl ?_
          refine V_getr C fl_X10_99 dX10_topOf_55 (by decide) sh_85 rfl ?_
          refine V_aload_n C dX10_topOf_58 rfl ?_
          refine V_getr C fl_X10_60 dX10_topOf_59 (by decide) sh_85 rfl ?_
          refine V_bipush (v := (6 : Int32)) C dX10_topOf_62 (by decide) ?_
          refine V_iload_n C dX10_topOf_64 rfl ?_
          refine V_imulN (a := 6) (b := r) C dX10_topOf_65 ?_
          refine V_iload_n C dX10_topOf_66 rfl ?_
          refine V_iaddN (a := 6 * r) (b := t) C dX10_topOf_67 ?_
          refine V_ialdN (p0 := 101) (o := 6 * r + t) (v := X 101 (6 * r + t)) C dX10_topOf_68 sh_101 (by decide) (by omega) (by decide) rfl ?_
          have hq7 : PP r t < 10 := (PAt_i (hB.2.2 r (by omega)).2.2.2.1 (k := 6 * r + t) (i := t) (by omega) (by omega)).2
          refine V_eqi (y := nI (PP r t)) ((PAt_i (hB.2.2 r (by omega)).2.2.2.1 (k := 6 * r + t) (i := t) (by omega) (by omega)).1) ?_
          refine V_ialdN (p0 := 114) (o := PP r t) (v := X 114 (PP r t)) C dX10_topOf_69 sh_114 (by decide) (by omega) (by decide) rfl ?_
          have hq8 : rk (PP r t) ≤ 10 := (hrk (PP r t) (by omega)).2
          refine V_eqi (y := nI (rk (PP r t))) ((hrk (PP r t) (by omega)).1) ?_
          refine V_icmp_leN (a := rk (PP r k)) (b := rk (PP r t)) (tgt := 77) C dX10_topOf_70 (by decide) (by omega) (by omega) (fun h70_9 => ?_) (fun h70_9 => ?_)
          · refine V_iload_n C dX10_topOf_77 rfl ?_
            refine V_istore_n (ls1 := [some (.ref (w.2.1 85)), some (.int (nI r)), some (.int (nI t)), some (.int (nI k))]) C dX10_topOf_78 (by decide) rfl ?_
            refine V_iincN (a := k) (ls1 := [some (.ref (w.2.1 85)), some (.int (nI r)), some (.int (nI t)), some (.int (nI (k + 1)))]) C dX10_topOf_79 rfl (by decide) rfl ?_
            refine V_goto (tgt := 4) C dX10_topOf_82 (by decide) ?_
            exact ih4 (k + 1) t (by omega) (by omega) (by omega) (all_succ hno (bt2 (by assumption))) (Best_old hbt (by omega))
          · refine V_iload_n C dX10_topOf_73 rfl ?_
            refine V_goto (tgt := 78) C dX10_topOf_74 (by decide) ?_
            refine V_istore_n (ls1 := [some (.ref (w.2.1 85)), some (.int (nI r)), some (.int (nI k)), some (.int (nI k))]) C dX10_topOf_78 (by decide) rfl ?_
            refine V_iincN (a := k) (ls1 := [some (.ref (w.2.1 85)), some (.int (nI r)), some (.int (nI k)), some (.int (nI (k + 1)))]) C dX10_topOf_79 rfl (by decide) rfl ?_
            refine V_goto (tgt := 4) C dX10_topOf_82 (by decide) ?_
            exact ih4 (k + 1) k (by omega) (by omega) (by omega) (all_succ hno (bt2 (by assumption))) (Best_new hbt (by omega))
        · refine V_iload_n C dX10_topOf_36 rfl ?_
          exact V_ireturnI C dX10_topOf_37 ⟨⟨k, rfl, Or.inl ⟨by omega, tb_iff.mpr (by assumption), hno⟩⟩, rfl⟩
  exact L4 _ 0 0 (Nat.lt_succ_self _) (by omega) (by omega) (fun j h => absurd h (Nat.not_lt_zero _)) BestTo_0
def q_X10_votes (X : Mem) (R : Nat) (PP : Nat → Nat → Nat) (Z : Nat → Nat) (Th : Nat → Prop) (K : Nat) (rk : Nat → Nat) : Mem → Prop := fun X' => ∃ f, X' = ma X 113 f ∧ VRm f (vM K rk PP Z Th R)
set_option maxHeartbeats 4000000 in
set_option maxRecDepth 100000 in
theorem k_X10_votes (w : Wt) (l : Launch) (X : Mem) (R : Nat) (PP : Nat → Nat → Nat) (Z : Nat → Nat) (Th : Nat → Prop) (K : Nat) (rk : Nat → Nat) (hB : RBm X R PP Z Th) (hC : X 85 35 = nI K) (hC1 : K < 1024) (hrk : ∀ a, a < 10 → X 114 a = nI (rk a) ∧ rk a ≤ 10) : CtU w l yX10_votes cX10_votes 6 none 3 66 [.ref (w.2.1 85)] X (q_X10_votes X R PP Z Th K rk) := by
  have hR24 := hB.1
  refine CtU_of (by decide +kernel) (Nat.le_of_ble_eq_true rfl) (List.forall_mem_cons.mpr ⟨rfl, (fun _ h => nomatch h)⟩) (ls := [some (.ref (w.2.1 85)), none, none, none, none, none]) rfl (args := (#[.ref (w.2.1 85)] : Array Value)) rfl (own := RX10) rfl ?_
  intro p e s m below meth c C
  refine V_iconst (v := (0 : Int32)) C dX10_votes_0 (by decide) ?_
  refine V_istore_n (ls1 := [some (.ref (w.2.1 85)), some (.int (0 : Int32)), none, none, none, none]) C dX10_votes_1 (by decide) rfl ?_
  have L2 : ∀ (fu : Nat) (q0 : Nat) (f0 : Nat → Int32), 100 - q0 < fu → (q0 ≤ 100) → (∀ a, a < q0 → f0 a = 0) → V p l e ({ frames := 3, cells := 0, slots := 0, locals := 66 } : Room) s m (#[.ref (w.2.1 85)] : Array Value) below meth c w 6 0 0 (EU w below s (#[.ref (w.2.1 85)] : Array Value) 0 0 (q_X10_votes X R PP Z Th K rk)) 2 [some (.ref (w.2.1 85)), some (.int (nI q0)), none, none, none, none] [] (ma X 113 f0) := by
    intro fu
    induction fu with
    | zero => intro q0 f0 hm; exact absurd hm (Nat.not_lt_zero _)
    | succ fu ih2 =>
      intro q0 f0 hm2 hq hz
      refine V_iload_n C dX10_votes_2 rfl ?_
      refine V_bipush (v := (100 : Int32)) C dX10_votes_3 (by decide) ?_
      refine V_icmp_geN (a := q0) (b := 100) (tgt := 21) C dX10_votes_5 (by decide) (by omega) (by omega) (fun h5_1 => ?_) (fun h5_1 => ?_)
      · refine V_iconst (v := (0 : Int32)) C dX10_votes_21 (by decide) ?_
        refine V_istore_n (ls1 := [some (.ref (w.2.1 85)), some (.int (0 : Int32)), none, none, none, none]) C dX10_votes_22 (by decide) rfl ?_
        have L23 : ∀ (fu : Nat) (r : Nat) (f : Nat → Int32), R - r < fu → (r ≤ R) → (VRm f (vM K rk PP Z Th r)) → V p l e ({ frames := 3, cells := 0, slots := 0, locals := 66 } : Room) s m (#[.ref (w.2.1 85)] : Array Value) below meth c w 6 0 0 (EU w below s (#[.ref (w.2.1 85)] : Array Value) 0 0 (q_X10_votes X R PP Z Th K rk)) 23 [some (.ref (w.2.1 85)), some (.int (nI r)), none, none, none, none] [] (ma X 113 f) := by
          intro fu
          induction fu with
          | zero => intro r f hm; exact absurd hm (Nat.not_lt_zero _)
          | succ fu ih23 =>
            intro r f hm23 hr hv
            refine V_iload_n C dX10_votes_23 rfl ?_
            refine V_aload_n C dX10_votes_24 rfl ?_
            refine V_geti C fl_X10_154 dX10_votes_25 (by decide) sh_85 rfl ?_
            refine V_eqi (y := X 85 25) rfl ?_
            refine V_eqi (y := nI R) hB.2.1 ?_
            refine V_icmp_geN (a := r) (b := R) (tgt := 141) C dX10_votes_28 (by decide) (by omega) (by omega) (fun h28_2 => ?_) (fun h28_2 => ?_)
            · exact V_returnU C dX10_votes_141 ⟨f, rfl, (show r = R from by omega) ▸ hv⟩
            · refine V_aload_n C dX10_votes_31 rfl ?_
              refine V_iload_n C dX10_votes_32 rfl ?_
              refine V_callVI C [.int (nI r)] mi_X10_220 (k_X10_isUsed w l r (ma X 113 f) R PP Z Th (RBm_ma (by decide) hB) (by omega)) dX10_votes_33 sh_85 (by decide) rfl rfl rfl (Nat.le_of_ble_eq_true rfl) (Nat.le_of_ble_eq_true rfl) (Nat.le_of_ble_eq_true rfl) ⟨Nat.le_refl _, Nat.le_refl _⟩ (fun v3 X3 q3 => ?_)
              obtain ⟨hb3, eX3⟩ := q3; subst X3
              try simp (disch := decide) only [oC_ma, gC_ma, oM_ma, gM_ma, tC_ma, tM_ma, ma_eq, ma_ne] at hb3
              refine V_if_eqB (tgt := 47) C hb3 dX10_votes_36 (by decide) (fun h36_4 => ?_) (fun h36_4 => ?_)
              · refine V_iconst (v := (-1 : Int32)) C dX10_votes_47 (by decide) ?_
                refine V_istore_n (ls1 := [some (.ref (w.2.1 85)), some (.int (nI r)), some (.int (-1 : Int32)), none, none, none]) C dX10_votes_48 (by decide) rfl ?_
                refine V_iconst (v := (0 : Int32)) C dX10_votes_49 (by decide) ?_
                refine V_istore_n (ls1 := [some (.ref (w.2.1 85)), some (.int (nI r)), some (.int (-1 : Int32)), some (.int (0 : Int32)), none, none]) C dX10_votes_50 (by decide) rfl ?_
                refine V_iload_n C dX10_votes_51 rfl ?_
                refine V_iconst (v := (-1 : Int32)) C dX10_votes_52 (by decide) ?_
                refine V_icmp_eq (x := (-1 : Int32)) (y := (-1 : Int32)) (tgt := 135) C dX10_votes_53 (by decide) (fun _ => ?_) (fun h => absurd rfl h)
                refine V_iincN (a := r) (ls1 := [some (.ref (w.2.1 85)), some (.int (nI (r + 1))), some (.int (-1 : Int32)), some (.int (0 : Int32)), none, none]) C dX10_votes_135 rfl (by decide) rfl ?_
                refine V_goto (tgt := 23) C dX10_votes_138 (by decide) ?_
                refine V_kill (i := 2) (ls1 := [some (.ref (w.2.1 85)), some (.int (nI (r + 1))), none, some (.int (0 : Int32)), none, none]) rfl ?_
                refine V_kill (i := 3) (ls1 := [some (.ref (w.2.1 85)), some (.int (nI (r + 1))), none, none, none, none]) rfl ?_
                exact ih23 (r + 1) f (by omega) (by omega) (VRm_congr hv (fun a b _ _ => (vM_s0 (by assumption)).symm))
              · refine V_aload_n C dX10_votes_39 rfl ?_
                refine V_iload_n C dX10_votes_40 rfl ?_
                refine V_callVI C [.int (nI r)] mi_X10_229 (k_X10_topOf w l r (ma X 113 f) R PP Z Th K rk (RBm_ma (by decide) hB) hC hC1 hrk (by omega)) dX10_votes_41 sh_85 (by decide) rfl rfl rfl (Nat.le_of_ble_eq_true rfl) (Nat.le_of_ble_eq_true rfl) (Nat.le_of_ble_eq_true rfl) ⟨Nat.le_refl _, Nat.le_refl _⟩ (fun v6 X6 q6 => ?_)
                obtain ⟨⟨a6, ev6, ha6⟩, eX6⟩ := q6; subst v6; subst X6
                refine V_goto (tgt := 48) C dX10_votes_44 (by decide) ?_
                refine V_istore_n (ls1 := [some (.ref (w.2.1 85)), some (.int (nI r)), some (.int (nI a6)), none, none, none]) C dX10_votes_48 (by decide) rfl ?_
                have htl := Top_lt ha6
                have hZ6 := (hB.2.2 r (by omega)).2.1
                refine V_iconst (v := (0 : Int32)) C dX10_votes_49 (by decide) ?_
                refine V_istore_n (ls1 := [some (.ref (w.2.1 85)), some (.int (nI r)), some (.int (nI a6)), some (.int (0 : Int32)), none, none]) C dX10_votes_50 (by decide) rfl ?_
                have L51 : ∀ (fu : Nat) (k : Nat) (f2 : Nat → Int32), Z r - k < fu → (k + 1 ≤ Z r) → (VRm f2 (fun a b => vM K rk PP Z Th r a b + crM (PP r) a6 (k + 1) a b)) → V p l e ({ frames := 3, cells := 0, slots := 0, locals := 66 } : Room) s m (#[.ref (w.2.1 85)] : Array Value) below meth c w 6 0 0 (EU w below s (#[.ref (w.2.1 85)] : Array Value) 0 0 (q_X10_votes X R PP Z Th K rk)) 51 [some (.ref (w.2.1 85)), some (.int (nI r)), some (.int (nI a6)), some (.int (nI k)), none, none] [] (ma X 113 f2) := by
                  intro fu
                  induction fu with
                  | zero => intro k f2 hm; exact absurd hm (Nat.not_lt_zero _)
                  | succ fu ih51 =>
                    intro k f2 hm51 hk hv2
                    refine V_iload_n C dX10_votes_51 rfl ?_
                    refine V_iconst (v := (-1 : Int32)) C dX10_votes_52 (by decide) ?_
                    refine V_icmp_eq (x := nI a6) (y := (-1 : Int32)) (tgt := 135) C dX10_votes_53 (by decide) (fun h => absurd h (ne_m1 (by omega))) (fun _ => ?_)
                    refine V_iload_n C dX10_votes_56 rfl ?_
                    refine V_iconst (v := (1 : Int32)) C dX10_votes_57 (by decide) ?_
                    refine V_iaddN (a := k) (b := 1) C dX10_votes_58 ?_
                    refine V_aload_n C dX10_votes_59 rfl ?_
                    refine V_getr C fl_X10_63 dX10_votes_60 (by decide) sh_85 rfl ?_
                    refine V_iload_n C dX10_votes_63 rfl ?_
                    refine V_ialdN (p0 := 102) (o := r) (v := X 102 r) C dX10_votes_64 sh_102 (by decide) (by omega) (by decide) rfl ?_
                    have hq8 : 1 ≤ Z r ∧ Z r ≤ 6 := ⟨(hB.2.2 r (by omega)).1, (hB.2.2 r (by omega)).2.1⟩
                    refine V_eqi (y := nI (Z r)) ((hB.2.2 r (by omega)).2.2.1) ?_
                    refine V_icmp_geN (a := k + 1) (b := Z r) (tgt := 135) C dX10_votes_65 (by decide) (by omega) (by omega) (fun h65_9 => ?_) (fun h65_9 => ?_)
                    · refine V_iincN (a := r) (ls1 := [some (.ref (w.2.1 85)), some (.int (nI (r + 1))), some (.int (nI a6)), some (.int (nI k)), none, none]) C dX10_votes_135 rfl (by decide) rfl ?_
                      refine V_goto (tgt := 23) C dX10_votes_138 (by decide) ?_
                      refine V_kill (i := 2) (ls1 := [some (.ref (w.2.1 85)), some (.int (nI (r + 1))), none, some (.int (nI k)), none, none]) rfl ?_
                      refine V_kill (i := 3) (ls1 := [some (.ref (w.2.1 85)), some (.int (nI (r + 1))), none, none, none, none]) rfl ?_
                      exact ih23 (r + 1) f2 (by omega) (by omega) (VRm_congr hv2 (fun a b _ _ => by rw [vM_s1 (by assumption) ha6, show Z r = k + 1 by omega]))
                    · refine V_aload_n C dX10_votes_68 rfl ?_
                      refine V_getr C fl_X10_60 dX10_votes_69 (by decide) sh_85 rfl ?_
                      refine V_bipush (v := (6 : Int32)) C dX10_votes_72 (by decide) ?_
                      refine V_iload_n C dX10_votes_74 rfl ?_
                      refine V_imulN (a := 6) (b := r) C dX10_votes_75 ?_
                      refine V_iload_n C dX10_votes_76 rfl ?_
                      refine V_iaddN (a := 6 * r) (b := k) C dX10_votes_77 ?_
                      refine V_ialdN (p0 := 101) (o := 6 * r + k) (v := X 101 (6 * r + k)) C dX10_votes_78 sh_101 (by decide) (by omega) (by decide) rfl ?_
                      have hq10 : PP r k < 10 := (PAt_i (hB.2.2 r (by omega)).2.2.2.1 (k := 6 * r + k) (i := k) (by omega) (by omega)).2
                      refine V_eqi (y := nI (PP r k)) ((PAt_i (hB.2.2 r (by omega)).2.2.2.1 (k := 6 * r + k) (i := k) (by omega) (by omega)).1) ?_
                      refine V_istore (ls1 := [some (.ref (w.2.1 85)), some (.int (nI r)), some (.int (nI a6)), some (.int (nI k)), some (.int (nI (PP r k))), none]) C dX10_votes_79 (by decide) rfl ?_
                      refine V_aload_n C dX10_votes_81 rfl ?_
                      refine V_getr C fl_X10_60 dX10_votes_82 (by decide) sh_85 rfl ?_
                      refine V_bipush (v := (6 : Int32)) C dX10_votes_85 (by decide) ?_
                      refine V_iload_n C dX10_votes_87 rfl ?_
                      refine V_imulN (a := 6) (b := r) C dX10_votes_88 ?_
                      refine V_iload_n C dX10_votes_89 rfl ?_
                      refine V_iaddN (a := 6 * r) (b := k) C dX10_votes_90 ?_
                      refine V_iconst (v := (1 : Int32)) C dX10_votes_91 (by decide) ?_
                      refine V_iaddN (a := 6 * r + k) (b := 1) C dX10_votes_92 ?_
                      refine V_ialdN (p0 := 101) (o := 6 * r + k + 1) (v := X 101 (6 * r + k + 1)) C dX10_votes_93 sh_101 (by decide) (by omega) (by decide) rfl ?_
                      have hq11 : PP r (k + 1) < 10 := (PAt_i (hB.2.2 r (by omega)).2.2.2.1 (k := 6 * r + k + 1) (i := k + 1) (by omega) (by omega)).2
                      refine V_eqi (y := nI (PP r (k + 1))) ((PAt_i (hB.2.2 r (by omega)).2.2.2.1 (k := 6 * r + k + 1) (i := k + 1) (by omega) (by omega)).1) ?_
                      refine V_istore (ls1 := [some (.ref (w.2.1 85)), some (.int (nI r)), some (.int (nI a6)), some (.int (nI k)), some (.int (nI (PP r k))), some (.int (nI (PP r (k + 1))))]) C dX10_votes_94 (by decide) rfl ?_
                      refine V_aload_n C dX10_votes_96 rfl ?_
                      refine V_getr C fl_X10_96 dX10_votes_97 (by decide) sh_85 rfl ?_
                      refine V_iload_n C dX10_votes_100 rfl ?_
                      refine V_iload_n C dX10_votes_101 rfl ?_
                      refine V_icmp_geN (a := k) (b := a6) (tgt := 116) C dX10_votes_102 (by decide) (by omega) (by omega) (fun h102_12 => ?_) (fun h102_12 => ?_)
                      · refine V_bipush (v := (10 : Int32)) C dX10_votes_116 (by decide) ?_
                        refine V_iload C dX10_votes_118 rfl ?_
                        refine V_imulN (a := 10) (b := PP r (k + 1)) C dX10_votes_120 ?_
                        refine V_iload C dX10_votes_121 rfl ?_
                        refine V_iaddN (a := 10 * (PP r (k + 1))) (b := PP r k) C dX10_votes_123 ?_
                        refine V_dup2 C dX10_votes_124 rfl rfl ?_
                        refine V_ialdN (p0 := 113) (o := 10 * (PP r (k + 1)) + (PP r k)) (v := f2 (10 * (PP r (k + 1)) + (PP r k))) C dX10_votes_125 sh_113 (by decide) (by omega) (by decide) rfl ?_
                        refine V_eqi (y := nI (vM K rk PP Z Th r (PP r (k + 1)) ((PP r k)) + crM (PP r) a6 (k + 1) (PP r (k + 1)) ((PP r k)))) (hv2 (PP r (k + 1)) ((PP r k)) (by omega) (by omega)) ?_
                        refine V_iconst (v := (1 : Int32)) C dX10_votes_126 (by decide) ?_
                        refine V_iaddN (a := vM K rk PP Z Th r (PP r (k + 1)) ((PP r k)) + crM (PP r) a6 (k + 1) (PP r (k + 1)) ((PP r k))) (b := 1) C dX10_votes_127 ?_
                        refine V_iastN (p0 := 113) (o := 10 * (PP r (k + 1)) + (PP r k)) (X1 := (ma X 113 (upd (f2) (10 * (PP r (k + 1)) + (PP r k)) (nI (vM K rk PP Z Th r (PP r (k + 1)) ((PP r k)) + crM (PP r) a6 (k + 1) (PP r (k + 1)) ((PP r k)) + 1))))) C dX10_votes_128 sh_113 (by decide) (by omega) (by decide) (ma_ma _ _ _ _) ?_
                        refine V_iincN (a := k) (ls1 := [some (.ref (w.2.1 85)), some (.int (nI r)), some (.int (nI a6)), some (.int (nI (k + 1))), some (.int (nI (PP r k))), some (.int (nI (PP r (k + 1))))]) C dX10_votes_129 rfl (by decide) rfl ?_
                        refine V_goto (tgt := 51) C dX10_votes_132 (by decide) ?_
                        refine V_kill (i := 4) (ls1 := [some (.ref (w.2.1 85)), some (.int (nI r)), some (.int (nI a6)), some (.int (nI (k + 1))), none, some (.int (nI (PP r (k + 1))))]) rfl ?_
                        refine V_kill (i := 5) (ls1 := [some (.ref (w.2.1 85)), some (.int (nI r)), some (.int (nI a6)), some (.int (nI (k + 1))), none, none]) rfl ?_
                        exact ih51 (k + 1) (upd (f2) (10 * (PP r (k + 1)) + (PP r k)) (nI (vM K rk PP Z Th r (PP r (k + 1)) ((PP r k)) + crM (PP r) a6 (k + 1) (PP r (k + 1)) ((PP r k)) + 1))) (by omega) (by omega) (VRm_congr (VRm_add (by omega) (by omega) hv2) (fun a b _ _ => by first | rw [crM_up (by assumption), Nat.add_assoc] | rw [crM_dn (by omega), Nat.add_assoc]))
                      · refine V_bipush (v := (10 : Int32)) C dX10_votes_105 (by decide) ?_
                        refine V_iload C dX10_votes_107 rfl ?_
                        refine V_imulN (a := 10) (b := PP r k) C dX10_votes_109 ?_
                        refine V_iload C dX10_votes_110 rfl ?_
                        refine V_iaddN (a := 10 * (PP r k)) (b := PP r (k + 1)) C dX10_votes_112 ?_
                        refine V_goto (tgt := 124) C dX10_votes_113 (by decide) ?_
                        refine V_dup2 C dX10_votes_124 rfl rfl ?_
                        refine V_ialdN (p0 := 113) (o := 10 * (PP r k) + (PP r (k + 1))) (v := f2 (10 * (PP r k) + (PP r (k + 1)))) C dX10_votes_125 sh_113 (by decide) (by omega) (by decide) rfl ?_
                        refine V_eqi (y := nI (vM K rk PP Z Th r (PP r k) ((PP r (k + 1))) + crM (PP r) a6 (k + 1) (PP r k) ((PP r (k + 1))))) (hv2 (PP r k) ((PP r (k + 1))) (by omega) (by omega)) ?_
                        refine V_iconst (v := (1 : Int32)) C dX10_votes_126 (by decide) ?_
                        refine V_iaddN (a := vM K rk PP Z Th r (PP r k) ((PP r (k + 1))) + crM (PP r) a6 (k + 1) (PP r k) ((PP r (k + 1)))) (b := 1) C dX10_votes_127 ?_
                        refine V_iastN (p0 := 113) (o := 10 * (PP r k) + (PP r (k + 1))) (X1 := (ma X 113 (upd (f2) (10 * (PP r k) + (PP r (k + 1))) (nI (vM K rk PP Z Th r (PP r k) ((PP r (k + 1))) + crM (PP r) a6 (k + 1) (PP r k) ((PP r (k + 1))) + 1))))) C dX10_votes_128 sh_113 (by decide) (by omega) (by decide) (ma_ma _ _ _ _) ?_
                        refine V_iincN (a := k) (ls1 := [some (.ref (w.2.1 85)), some (.int (nI r)), some (.int (nI a6)), some (.int (nI (k + 1))), some (.int (nI (PP r k))), some (.int (nI (PP r (k + 1))))]) C dX10_votes_129 rfl (by decide) rfl ?_
                        refine V_goto (tgt := 51) C dX10_votes_132 (by decide) ?_
                        refine V_kill (i := 4) (ls1 := [some (.ref (w.2.1 85)), some (.int (nI r)), some (.int (nI a6)), some (.int (nI (k + 1))), none, some (.int (nI (PP r (k + 1))))]) rfl ?_
                        refine V_kill (i := 5) (ls1 := [some (.ref (w.2.1 85)), some (.int (nI r)), some (.int (nI a6)), some (.int (nI (k + 1))), none, none]) rfl ?_
                        exact ih51 (k + 1) (upd (f2) (10 * (PP r k) + (PP r (k + 1))) (nI (vM K rk PP Z Th r (PP r k) ((PP r (k + 1))) + crM (PP r) a6 (k + 1) (PP r k) ((PP r (k + 1))) + 1))) (by omega) (by omega) (VRm_congr (VRm_add (by omega) (by omega) hv2) (fun a b _ _ => by first | rw [crM_up (by assumption), Nat.add_assoc] | rw [crM_dn (by omega), Nat.add_assoc]))
                exact L51 _ 0 f (Nat.lt_succ_self _) ((hB.2.2 r (by omega)).1) hv
        exact L23 _ 0 f0 (Nat.lt_succ_self _) (by omega) (fun a b ha hb => hz (10 * a + b) (by omega))
      · refine V_aload_n C dX10_votes_8 rfl ?_
        refine V_getr C fl_X10_96 dX10_votes_9 (by decide) sh_85 rfl ?_
        refine V_iload_n C dX10_votes_12 rfl ?_
        refine V_iconst (v := (0 : Int32)) C dX10_votes_13 (by decide) ?_
        refine V_iastN (p0 := 113) (o := q0) (X1 := (ma X 113 (upd (f0) q0 (0 : Int32)))) C dX10_votes_14 sh_113 (by decide) (by omega) (by decide) (ma_ma _ _ _ _) ?_
        refine V_iincN (a := q0) (ls1 := [some (.ref (w.2.1 85)), some (.int (nI (q0 + 1))), none, none, none, none]) C dX10_votes_15 rfl (by decide) rfl ?_
        refine V_goto (tgt := 2) C dX10_votes_18 (by decide) ?_
        exact ih2 (q0 + 1) (upd (f0) q0 (0 : Int32)) (by omega) (by omega) (by intro a h1; rcases lt_succ_or.mp h1 with h1 | rfl; rw [upd_ne (by omega)]; exact hz a h1; exact upd_eq _ _ _)
  refine V_eqX (X1 := (ma X 113 (X 113))) (ma_id rfl) ?_
  exact L2 _ 0 (X 113) (Nat.lt_succ_self _) (by omega) (fun a h => absurd h (Nat.not_lt_zero _))
def q_X10_relates (X : Mem) (K : Nat) (v U : Nat → Nat → Nat) (Q : Nat → Nat → Prop) : Mem → Prop := fun X' => ∃ f, X' = ma X 112 f ∧ Rel Q (CuV U) f
set_option maxHeartbeats 4000000 in
set_option maxRecDepth 100000 in
theorem k_X10_relates (w : Wt) (l : Launch) (X : Mem) (K : Nat) (v U : Nat → Nat → Nat) (Q : Nat → Nat → Prop) (hC : X 85 35 = nI K) (hC1 : K < 1024) (hv : VRm (X 113) v) (hvb : ∀ a b, v a b ≤ 1000) (hV : VV2 K v U) (hnb : SetRow (X 111) Q) : CtU w l yX10_relates cX10_relates 6 none 2 41 [.ref (w.2.1 85)] X (q_X10_relates X K v U Q) := by
  refine CtU_of (by decide +kernel) (Nat.le_of_ble_eq_true rfl) (List.forall_mem_cons.mpr ⟨rfl, (fun _ h => nomatch h)⟩) (ls := [some (.ref (w.2.1 85)), none, none, none, none, none]) rfl (args := (#[.ref (w.2.1 85)] : Array Value)) rfl (own := RX10) rfl ?_
  intro p e s m below meth c C
  refine V_iconst (v := (0 : Int32)) C dX10_relates_0 (by decide) ?_
  refine V_istore_n (ls1 := [some (.ref (w.2.1 85)), some (.int (0 : Int32)), none, none, none, none]) C dX10_relates_1 (by decide) rfl ?_
  have L2 : ∀ (fu : Nat) (a : Nat) (f : Nat → Int32), 10 - a < fu → (a ≤ 10) → (RelTo Q (CuV U) f (10 * a)) → V p l e ({ frames := 2, cells := 0, slots := 0, locals := 41 } : Room) s m (#[.ref (w.2.1 85)] : Array Value) below meth c w 6 0 0 (EU w below s (#[.ref (w.2.1 85)] : Array Value) 0 0 (q_X10_relates X K v U Q)) 2 [some (.ref (w.2.1 85)), some (.int (nI a)), none, none, none, none] [] (ma X 112 f) := by
    intro fu
    induction fu with
    | zero => intro a f hm; exact absurd hm (Nat.not_lt_zero _)
    | succ fu ih2 =>
      intro a f hm2 ha hf
      refine V_iload_n C dX10_relates_2 rfl ?_
      refine V_bipush (v := (10 : Int32)) C dX10_relates_3 (by decide) ?_
      refine V_icmp_geN (a := a) (b := 10) (tgt := 134) C dX10_relates_5 (by decide) (by omega) (by omega) (fun h5_1 => ?_) (fun h5_1 => ?_)
      · exact V_returnU C dX10_relates_134 ⟨f, rfl, fun x y hx hy => hf x y hx hy (by omega)⟩
      · refine V_iconst (v := (0 : Int32)) C dX10_relates_8 (by decide) ?_
        refine V_istore_n (ls1 := [some (.ref (w.2.1 85)), some (.int (nI a)), some (.int (0 : Int32)), none, none, none]) C dX10_relates_9 (by decide) rfl ?_
        have L10 : ∀ (fu : Nat) (b : Nat) (f2 : Nat → Int32), 10 - b < fu → (b ≤ 10) → (RelTo Q (CuV U) f2 (10 * a + b)) → V p l e ({ frames := 2, cells := 0, slots := 0, locals := 41 } : Room) s m (#[.ref (w.2.1 85)] : Array Value) below meth c w 6 0 0 (EU w below s (#[.ref (w.2.1 85)] : Array Value) 0 0 (q_X10_relates X K v U Q)) 10 [some (.ref (w.2.1 85)), some (.int (nI a)), some (.int (nI b)), none, none, none] [] (ma X 112 f2) := by
          intro fu
          induction fu with
          | zero => intro b f2 hm; exact absurd hm (Nat.not_lt_zero _)
          | succ fu ih10 =>
            intro b f2 hm10 hb hf2
            refine V_iload_n C dX10_relates_10 rfl ?_
            refine V_bipush (v := (10 : Int32)) C dX10_relates_11 (by decide) ?_
            refine V_icmp_geN (a := b) (b := 10) (tgt := 128) C dX10_relates_13 (by decide) (by omega) (by omega) (fun h13_2 => ?_) (fun h13_2 => ?_)
            · refine V_iincN (a := a) (ls1 := [some (.ref (w.2.1 85)), some (.int (nI (a + 1))), some (.int (nI b)), none, none, none]) C dX10_relates_128 rfl (by decide) rfl ?_
              refine V_goto (tgt := 2) C dX10_relates_131 (by decide) ?_
              refine V_kill (i := 2) (ls1 := [some (.ref (w.2.1 85)), some (.int (nI (a + 1))), none, none, none, none]) rfl ?_
              exact ih2 (a + 1) f2 (by omega) (by omega) ((show 10 * a + b = 10 * (a + 1) from by omega) ▸ hf2)
            · refine V_aload_n C dX10_relates_16 rfl ?_
              refine V_getr C fl_X10_96 dX10_relates_17 (by decide) sh_85 rfl ?_
              refine V_bipush (v := (10 : Int32)) C dX10_relates_20 (by decide) ?_
              refine V_iload_n C dX10_relates_22 rfl ?_
              refine V_imulN (a := 10) (b := a) C dX10_relates_23 ?_
              refine V_iload_n C dX10_relates_24 rfl ?_
              refine V_iaddN (a := 10 * a) (b := b) C dX10_relates_25 ?_
              refine V_ialdN (p0 := 113) (o := 10 * a + b) (v := X 113 (10 * a + b)) C dX10_relates_26 sh_113 (by decide) (by omega) (by decide) rfl ?_
              have hq3 : v a b ≤ 1000 := hvb _ _
              refine V_eqi (y := nI (v a b)) (hv a b (by omega) (by omega)) ?_
              refine V_istore_n (ls1 := [some (.ref (w.2.1 85)), some (.int (nI a)), some (.int (nI b)), some (.int (nI (v a b))), none, none]) C dX10_relates_27 (by decide) rfl ?_
              refine V_aload_n C dX10_relates_28 rfl ?_
              refine V_getr C fl_X10_96 dX10_relates_29 (by decide) sh_85 rfl ?_
              refine V_bipush (v := (10 : Int32)) C dX10_relates_32 (by decide) ?_
              refine V_iload_n C dX10_relates_34 rfl ?_
              refine V_imulN (a := 10) (b := b) C dX10_relates_35 ?_
              refine V_iload_n C dX10_relates_36 rfl ?_
              refine V_iaddN (a := 10 * b) (b := a) C dX10_relates_37 ?_
              refine V_ialdN (p0 := 113) (o := 10 * b + a) (v := X 113 (10 * b + a)) C dX10_relates_38 sh_113 (by decide) (by omega) (by decide) rfl ?_
              have hq4 : v b a ≤ 1000 := hvb _ _
              refine V_eqi (y := nI (v b a)) (hv b a (by omega) (by omega)) ?_
              refine V_istore (ls1 := [some (.ref (w.2.1 85)), some (.int (nI a)), some (.int (nI b)), some (.int (nI (v a b))), some (.int (nI (v b a))), none]) C dX10_relates_39 (by decide) rfl ?_
              refine V_iload_n C dX10_relates_41 rfl ?_
              refine V_iconst (v := (2 : Int32)) C dX10_relates_42 (by decide) ?_
              refine V_iload C dX10_relates_43 rfl ?_
              refine V_imulN (a := 2) (b := v b a) C dX10_relates_45 ?_
              refine V_icmp_leN (a := v a b) (b := 2 * (v b a)) (tgt := 53) C dX10_relates_46 (by decide) (by omega) (by omega) (fun h46_5 => ?_) (fun h46_5 => ?_)
              · refine V_iload C dX10_relates_53 rfl ?_
                refine V_iconst (v := (2 : Int32)) C dX10_relates_55 (by decide) ?_
                refine V_iload_n C dX10_relates_56 rfl ?_
                refine V_imulN (a := 2) (b := v a b) C dX10_relates_57 ?_
                refine V_icmp_leN (a := v b a) (b := 2 * (v a b)) (tgt := 65) C dX10_relates_58 (by decide) (by omega) (by omega) (fun h58_6 => ?_) (fun h58_6 => ?_)
                · refine V_iconst (v := (3 : Int32)) C dX10_relates_65 (by decide) ?_
                  refine V_istore (ls1 := [some (.ref (w.2.1 85)), some (.int (nI a)), some (.int (nI b)), some (.int (nI (v a b))), some (.int (nI (v b a))), some (.int (3 : Int32))]) C dX10_relates_66 (by decide) rfl ?_
                  refine V_aload_n C dX10_relates_68 rfl ?_
                  refine V_iload_n C dX10_relates_69 rfl ?_
                  refine V_callVI C [.int (nI a)] mi_X10_232 (k_X10_isInClique w l a (ma X 112 f2) K hC hC1 (by omega)) dX10_relates_70 sh_85 (by decide) rfl rfl rfl (Nat.le_of_ble_eq_true rfl) (Nat.le_of_ble_eq_true rfl) (Nat.le_of_ble_eq_true rfl) ⟨Nat.le_refl _, Nat.le_refl _⟩ (fun v7 X7 q7 => ?_)
                  obtain ⟨hb7, eX7⟩ := q7; subst X7
                  try simp (disch := decide) only [oC_ma, gC_ma, oM_ma, gM_ma, tC_ma, tM_ma, ma_eq, ma_ne] at hb7
                  refine V_if_eqB (tgt := 88) C hb7 dX10_relates_73 (by decide) (fun h73_8 => ?_) (fun h73_8 => ?_)
                  · refine V_iload C dX10_relates_88 rfl ?_
                    refine V_istore (ls1 := [some (.ref (w.2.1 85)), some (.int (nI a)), some (.int (nI b)), some (.int (nI (v a b))), some (.int (nI (v b a))), some (.int (3 : Int32))]) C dX10_relates_90 (by decide) rfl ?_
                    refine V_aload_n C dX10_relates_92 rfl ?_
                    refine V_getr C fl_X10_93 dX10_relates_93 (by decide) sh_85 rfl ?_
                    refine V_bipush (v := (10 : Int32)) C dX10_relates_96 (by decide) ?_
                    refine V_iload_n C dX10_relates_98 rfl ?_
                    refine V_imulN (a := 10) (b := a) C dX10_relates_99 ?_
                    refine V_iload_n C dX10_relates_100 rfl ?_
                    refine V_iaddN (a := 10 * a) (b := b) C dX10_relates_101 ?_
                    refine V_aload_n C dX10_relates_102 rfl ?_
                    refine V_getr C fl_X10_90 dX10_relates_103 (by decide) sh_85 rfl ?_
                    refine V_iload_n C dX10_relates_106 rfl ?_
                    refine V_ialdN (p0 := 111) (o := a) (v := X 111 a) C dX10_relates_107 sh_111 (by decide) (by omega) (by decide) rfl ?_
                    obtain ⟨a9, ha9, ea9⟩ := hnb a (by omega)
                    have ia9 : ix (nI a9) = a9 := ix_nI (by omega)
                    refine V_eqi ea9 ?_
                    refine V_iload_n C dX10_relates_108 rfl ?_
                    refine V_ishr C dX10_relates_109 ?_
                    refine V_iconst (v := (1 : Int32)) C dX10_relates_110 (by decide) ?_
                    refine V_iand C dX10_relates_111 ?_
                    refine V_eqi (y := nI (a9 / 2 ^ b % 2)) (bit_val (by omega) (by omega)) ?_
                    refine V_if_neN (a := a9 / 2 ^ b % 2) (tgt := 119) C dX10_relates_112 (by decide) (by omega) (fun h112_10 => ?_) (fun h112_10 => ?_)
                    · refine V_iload C dX10_relates_119 rfl ?_
                      refine V_iastN (p0 := 112) (o := 10 * a + b) (X1 := (ma X 112 (upd (f2) (10 * a + b) (3 : Int32)))) C dX10_relates_121 sh_112 (by decide) (by omega) (by decide) (ma_ma _ _ _ _) ?_
                      refine V_iincN (a := b) (ls1 := [some (.ref (w.2.1 85)), some (.int (nI a)), some (.int (nI (b + 1))), some (.int (nI (v a b))), some (.int (nI (v b a))), some (.int (3 : Int32))]) C dX10_relates_122 rfl (by decide) rfl ?_
                      refine V_goto (tgt := 10) C dX10_relates_125 (by decide) ?_
                      refine V_kill (i := 3) (ls1 := [some (.ref (w.2.1 85)), some (.int (nI a)), some (.int (nI (b + 1))), none, some (.int (nI (v b a))), some (.int (3 : Int32))]) rfl ?_
                      refine V_kill (i := 4) (ls1 := [some (.ref (w.2.1 85)), some (.int (nI a)), some (.int (nI (b + 1))), none, none, some (.int (3 : Int32))]) rfl ?_
                      refine V_kill (i := 5) (ls1 := [some (.ref (w.2.1 85)), some (.int (nI a)), some (.int (nI (b + 1))), none, none, none]) rfl ?_
                      exact ih10 (b + 1) (upd (f2) (10 * a + b) (3 : Int32)) (by omega) (by omega) (RelTo_s hf2 (by omega) (by first | exact rel_bo hV ha9 (by assumption) ⟨by assumption, by assumption⟩ | exact rel_3 hV ha9 (by assumption) (by first | exact fun q => absurd q.1 (by assumption) | exact fun q => absurd q.2 (by assumption)) (by omega) (by omega)))
                    · refine V_iconst (v := (0 : Int32)) C dX10_relates_115 (by decide) ?_
                      refine V_goto (tgt := 121) C dX10_relates_116 (by decide) ?_
                      refine V_iastN (p0 := 112) (o := 10 * a + b) (X1 := (ma X 112 (upd (f2) (10 * a + b) (0 : Int32)))) C dX10_relates_121 sh_112 (by decide) (by omega) (by decide) (ma_ma _ _ _ _) ?_
                      refine V_iincN (a := b) (ls1 := [some (.ref (w.2.1 85)), some (.int (nI a)), some (.int (nI (b + 1))), some (.int (nI (v a b))), some (.int (nI (v b a))), some (.int (3 : Int32))]) C dX10_relates_122 rfl (by decide) rfl ?_
                      refine V_goto (tgt := 10) C dX10_relates_125 (by decide) ?_
                      refine V_kill (i := 3) (ls1 := [some (.ref (w.2.1 85)), some (.int (nI a)), some (.int (nI (b + 1))), none, some (.int (nI (v b a))), some (.int (3 : Int32))]) rfl ?_
                      refine V_kill (i := 4) (ls1 := [some (.ref (w.2.1 85)), some (.int (nI a)), some (.int (nI (b + 1))), none, none, some (.int (3 : Int32))]) rfl ?_
                      refine V_kill (i := 5) (ls1 := [some (.ref (w.2.1 85)), some (.int (nI a)), some (.int (nI (b + 1))), none, none, none]) rfl ?_
                      exact ih10 (b + 1) (upd (f2) (10 * a + b) (0 : Int32)) (by omega) (by omega) (RelTo_s hf2 (by omega) (rel_no ha9 (by assumption)))
                  · refine V_aload_n C dX10_relates_76 rfl ?_
                    refine V_iload_n C dX10_relates_77 rfl ?_
                    refine V_callVI C [.int (nI b)] mi_X10_232 (k_X10_isInClique w l b (ma X 112 f2) K hC hC1 (by omega)) dX10_relates_78 sh_85 (by decide) rfl rfl rfl (Nat.le_of_ble_eq_true rfl) (Nat.le_of_ble_eq_true rfl) (Nat.le_of_ble_eq_true rfl) ⟨Nat.le_refl _, Nat.le_refl _⟩ (fun v11 X11 q11 => ?_)
                    obtain ⟨hb11, eX11⟩ := q11; subst X11
                    try simp (disch := decide) only [oC_ma, gC_ma, oM_ma, gM_ma, tC_ma, tM_ma, ma_eq, ma_ne] at hb11
                    refine V_if_eqB (tgt := 88) C hb11 dX10_relates_81 (by decide) (fun h81_12 => ?_) (fun h81_12 => ?_)
                    · refine V_iload C dX10_relates_88 rfl ?_
                      refine V_istore (ls1 := [some (.ref (w.2.1 85)), some (.int (nI a)), some (.int (nI b)), some (.int (nI (v a b))), some (.int (nI (v b a))), some (.int (3 : Int32))]) C dX10_relates_90 (by decide) rfl ?_
                      refine V_aload_n C dX10_relates_92 rfl ?_
                      refine V_getr C fl_X10_93 dX10_relates_93 (by decide) sh_85 rfl ?_
                      refine V_bipush (v := (10 : Int32)) C dX10_relates_96 (by decide) ?_
                      refine V_iload_n C dX10_relates_98 rfl ?_
                      refine V_imulN (a := 10) (b := a) C dX10_relates_99 ?_
                      refine V_iload_n C dX10_relates_100 rfl ?_
                      refine V_iaddN (a := 10 * a) (b := b) C dX10_relates_101 ?_
                      refine V_aload_n C dX10_relates_102 rfl ?_
                      refine V_getr C fl_X10_90 dX10_relates_103 (by decide) sh_85 rfl ?_
                      refine V_iload_n C dX10_relates_106 rfl ?_
                      refine V_ialdN (p0 := 111) (o := a) (v := X 111 a) C dX10_relates_107 sh_111 (by decide) (by omega) (by decide) rfl ?_
                      obtain ⟨a13, ha13, ea13⟩ := hnb a (by omega)
                      have ia13 : ix (nI a13) = a13 := ix_nI (by omega)
                      refine V_eqi ea13 ?_
                      refine V_iload_n C dX10_relates_108 rfl ?_
                      refine V_ishr C dX10_relates_109 ?_
                      refine V_iconst (v := (1 : Int32)) C dX10_relates_110 (by decide) ?_
                      refine V_iand C dX10_relates_111 ?_
                      refine V_eqi (y := nI (a13 / 2 ^ b % 2)) (bit_val (by omega) (by omega)) ?_
                      refine V_if_neN (a := a13 / 2 ^ b % 2) (tgt := 119) C dX10_relates_112 (by decide) (by omega) (fun h112_14 => ?_) (fun h112_14 => ?_)
                      · refine V_iload C dX10_relates_119 rfl ?_
                        refine V_iastN (p0 := 112) (o := 10 * a + b) (X1 := (ma X 112 (upd (f2) (10 * a + b) (3 : Int32)))) C dX10_relates_121 sh_112 (by decide) (by omega) (by decide) (ma_ma _ _ _ _) ?_
                        refine V_iincN (a := b) (ls1 := [some (.ref (w.2.1 85)), some (.int (nI a)), some (.int (nI (b + 1))), some (.int (nI (v a b))), some (.int (nI (v b a))), some (.int (3 : Int32))]) C dX10_relates_122 rfl (by decide) rfl ?_
                        refine V_goto (tgt := 10) C dX10_relates_125 (by decide) ?_
                        refine V_kill (i := 3) (ls1 := [some (.ref (w.2.1 85)), some (.int (nI a)), some (.int (nI (b + 1))), none, some (.int (nI (v b a))), some (.int (3 : Int32))]) rfl ?_
                        refine V_kill (i := 4) (ls1 := [some (.ref (w.2.1 85)), some (.int (nI a)), some (.int (nI (b + 1))), none, none, some (.int (3 : Int32))]) rfl ?_
                        refine V_kill (i := 5) (ls1 := [some (.ref (w.2.1 85)), some (.int (nI a)), some (.int (nI (b + 1))), none, none, none]) rfl ?_
                        exact ih10 (b + 1) (upd (f2) (10 * a + b) (3 : Int32)) (by omega) (by omega) (RelTo_s hf2 (by omega) (by first | exact rel_bo hV ha13 (by assumption) ⟨by assumption, by assumption⟩ | exact rel_3 hV ha13 (by assumption) (by first | exact fun q => absurd q.1 (by assumption) | exact fun q => absurd q.2 (by assumption)) (by omega) (by omega)))
                      · refine V_iconst (v := (0 : Int32)) C dX10_relates_115 (by decide) ?_
                        refine V_goto (tgt := 121) C dX10_relates_116 (by decide) ?_
                        refine V_iastN (p0 := 112) (o := 10 * a + b) (X1 := (ma X 112 (upd (f2) (10 * a + b) (0 : Int32)))) C dX10_relates_121 sh_112 (by decide) (by omega) (by decide) (ma_ma _ _ _ _) ?_
                        refine V_iincN (a := b) (ls1 := [some (.ref (w.2.1 85)), some (.int (nI a)), some (.int (nI (b + 1))), some (.int (nI (v a b))), some (.int (nI (v b a))), some (.int (3 : Int32))]) C dX10_relates_122 rfl (by decide) rfl ?_
                        refine V_goto (tgt := 10) C dX10_relates_125 (by decide) ?_
                        refine V_kill (i := 3) (ls1 := [some (.ref (w.2.1 85)), some (.int (nI a)), some (.int (nI (b + 1))), none, some (.int (nI (v b a))), some (.int (3 : Int32))]) rfl ?_
                        refine V_kill (i := 4) (ls1 := [some (.ref (w.2.1 85)), some (.int (nI a)), some (.int (nI (b + 1))), none, none, some (.int (3 : Int32))]) rfl ?_
                        refine V_kill (i := 5) (ls1 := [some (.ref (w.2.1 85)), some (.int (nI a)), some (.int (nI (b + 1))), none, none, none]) rfl ?_
                        exact ih10 (b + 1) (upd (f2) (10 * a + b) (0 : Int32)) (by omega) (by omega) (RelTo_s hf2 (by omega) (rel_no ha13 (by assumption)))
                    · refine V_iconst (v := (3 : Int32)) C dX10_relates_84 (by decide) ?_
                      refine V_goto (tgt := 90) C dX10_relates_85 (by decide) ?_
                      refine V_istore (ls1 := [some (.ref (w.2.1 85)), some (.int (nI a)), some (.int (nI b)), some (.int (nI (v a b))), some (.int (nI (v b a))), some (.int (3 : Int32))]) C dX10_relates_90 (by decide) rfl ?_
                      refine V_aload_n C dX10_relates_92 rfl ?_
                      refine V_getr C fl_X10_93 dX10_relates_93 (by decide) sh_85 rfl ?_
                      refine V_bipush (v := (10 : Int32)) C dX10_relates_96 (by decide) ?_
                      refine V_iload_n C dX10_relates_98 rfl ?_
                      refine V_imulN (a := 10) (b := a) C dX10_relates_99 ?_
                      refine V_iload_n C dX10_relates_100 rfl ?_
                      refine V_iaddN (a := 10 * a) (b := b) C dX10_relates_101 ?_
                      refine V_aload_n C dX10_relates_102 rfl ?_
                      refine V_getr C fl_X10_90 dX10_relates_103 (by decide) sh_85 rfl ?_
                      refine V_iload_n C dX10_relates_106 rfl ?_
                      refine V_ialdN (p0 := 111) (o := a) (v := X 111 a) C dX10_relates_107 sh_111 (by decide) (by omega) (by decide) rfl ?_
                      obtain ⟨a15, ha15, ea15⟩ := hnb a (by omega)
                      have ia15 : ix (nI a15) = a15 := ix_nI (by omega)
                      refine V_eqi ea15 ?_
                      refine V_iload_n C dX10_relates_108 rfl ?_
                      refine V_ishr C dX10_relates_109 ?_
                      refine V_iconst (v := (1 : Int32)) C dX10_relates_110 (by decide) ?_
                      refine V_iand C dX10_relates_111 ?_
                      refine V_eqi (y := nI (a15 / 2 ^ b % 2)) (bit_val (by omega) (by omega)) ?_
                      refine V_if_neN (a := a15 / 2 ^ b % 2) (tgt := 119) C dX10_relates_112 (by decide) (by omega) (fun h112_16 => ?_) (fun h112_16 => ?_)
                      · refine V_iload C dX10_relates_119 rfl ?_
                        refine V_iastN (p0 := 112) (o := 10 * a + b) (X1 := (ma X 112 (upd (f2) (10 * a + b) (3 : Int32)))) C dX10_relates_121 sh_112 (by decide) (by omega) (by decide) (ma_ma _ _ _ _) ?_
                        refine V_iincN (a := b) (ls1 := [some (.ref (w.2.1 85)), some (.int (nI a)), some (.int (nI (b + 1))), some (.int (nI (v a b))), some (.int (nI (v b a))), some (.int (3 : Int32))]) C dX10_relates_122 rfl (by decide) rfl ?_
                        refine V_goto (tgt := 10) C dX10_relates_125 (by decide) ?_
                        refine V_kill (i := 3) (ls1 := [some (.ref (w.2.1 85)), some (.int (nI a)), some (.int (nI (b + 1))), none, some (.int (nI (v b a))), some (.int (3 : Int32))]) rfl ?_
                        refine V_kill (i := 4) (ls1 := [some (.ref (w.2.1 85)), some (.int (nI a)), some (.int (nI (b + 1))), none, none, some (.int (3 : Int32))]) rfl ?_
                        refine V_kill (i := 5) (ls1 := [some (.ref (w.2.1 85)), some (.int (nI a)), some (.int (nI (b + 1))), none, none, none]) rfl ?_
                        exact ih10 (b + 1) (upd (f2) (10 * a + b) (3 : Int32)) (by omega) (by omega) (RelTo_s hf2 (by omega) (by first | exact rel_bo hV ha15 (by assumption) ⟨by assumption, by assumption⟩ | exact rel_3 hV ha15 (by assumption) (by first | exact fun q => absurd q.1 (by assumption) | exact fun q => absurd q.2 (by assumption)) (by omega) (by omega)))
                      · refine V_iconst (v := (0 : Int32)) C dX10_relates_115 (by decide) ?_
                        refine V_goto (tgt := 121) C dX10_relates_116 (by decide) ?_
                        refine V_iastN (p0 := 112) (o := 10 * a + b) (X1 := (ma X 112 (upd (f2) (10 * a + b) (0 : Int32)))) C dX10_relates_121 sh_112 (by decide) (by omega) (by decide) (ma_ma _ _ _ _) ?_
                        refine V_iincN (a := b) (ls1 := [some (.ref (w.2.1 85)), some (.int (nI a)), some (.int (nI (b + 1))), some (.int (nI (v a b))), some (.int (nI (v b a))), some (.int (3 : Int32))]) C dX10_relates_122 rfl (by decide) rfl ?_
                        refine V_goto (tgt := 10) C dX10_relates_125 (by decide) ?_
                        refine V_kill (i := 3) (ls1 := [some (.ref (w.2.1 85)), some (.int (nI a)), some (.int (nI (b + 1))), none, some (.int (nI (v b a))), some (.int (3 : Int32))]) rfl ?_
                        refine V_kill (i := 4) (ls1 := [some (.ref (w.2.1 85)), some (.int (nI a)), some (.int (nI (b + 1))), none, none, some (.int (3 : Int32))]) rfl ?_
                        refine V_kill (i := 5) (ls1 := [some (.ref (w.2.1 85)), some (.int (nI a)), some (.int (nI (b + 1))), none, none, none]) rfl ?_
                        exact ih10 (b + 1) (upd (f2) (10 * a + b) (0 : Int32)) (by omega) (by omega) (RelTo_s hf2 (by omega) (rel_no ha15 (by assumption)))
                · refine V_iconst (v := (2 : Int32)) C dX10_relates_61 (by decide) ?_
                  refine V_goto (tgt := 66) C dX10_relates_62 (by decide) ?_
                  refine V_istore (ls1 := [some (.ref (w.2.1 85)), some (.int (nI a)), some (.int (nI b)), some (.int (nI (v a b))), some (.int (nI (v b a))), some (.int (2 : Int32))]) C dX10_relates_66 (by decide) rfl ?_
                  refine V_aload_n C dX10_relates_68 rfl ?_
                  refine V_iload_n C dX10_relates_69 rfl ?_
                  refine V_callVI C [.int (nI a)] mi_X10_232 (k_X10_isInClique w l a (ma X 112 f2) K hC hC1 (by omega)) dX10_relates_70 sh_85 (by decide) rfl rfl rfl (Nat.le_of_ble_eq_true rfl) (Nat.le_of_ble_eq_true rfl) (Nat.le_of_ble_eq_true rfl) ⟨Nat.le_refl _, Nat.le_refl _⟩ (fun v17 X17 q17 => ?_)
                  obtain ⟨hb17, eX17⟩ := q17; subst X17
                  try simp (disch := decide) only [oC_ma, gC_ma, oM_ma, gM_ma, tC_ma, tM_ma, ma_eq, ma_ne] at hb17
                  refine V_if_eqB (tgt := 88) C hb17 dX10_relates_73 (by decide) (fun h73_18 => ?_) (fun h73_18 => ?_)
                  · refine V_iload C dX10_relates_88 rfl ?_
                    refine V_istore (ls1 := [some (.ref (w.2.1 85)), some (.int (nI a)), some (.int (nI b)), some (.int (nI (v a b))), some (.int (nI (v b a))), some (.int (2 : Int32))]) C dX10_relates_90 (by decide) rfl ?_
                    refine V_aload_n C dX10_relates_92 rfl ?_
                    refine V_getr C fl_X10_93 dX10_relates_93 (by decide) sh_85 rfl ?_
                    refine V_bipush (v := (10 : Int32)) C dX10_relates_96 (by decide) ?_
                    refine V_iload_n C dX10_relates_98 rfl ?_
                    refine V_imulN (a := 10) (b := a) C dX10_relates_99 ?_
                    refine V_iload_n C dX10_relates_100 rfl ?_
                    refine V_iaddN (a := 10 * a) (b := b) C dX10_relates_101 ?_
                    refine V_aload_n C dX10_relates_102 rfl ?_
                    refine V_getr C fl_X10_90 dX10_relates_103 (by decide) sh_85 rfl ?_
                    refine V_iload_n C dX10_relates_106 rfl ?_
                    refine V_ialdN (p0 := 111) (o := a) (v := X 111 a) C dX10_relates_107 sh_111 (by decide) (by omega) (by decide) rfl ?_
                    obtain ⟨a19, ha19, ea19⟩ := hnb a (by omega)
                    have ia19 : ix (nI a19) = a19 := ix_nI (by omega)
                    refine V_eqi ea19 ?_
                    refine V_iload_n C dX10_relates_108 rfl ?_
                    refine V_ishr C dX10_relates_109 ?_
                    refine V_iconst (v := (1 : Int32)) C dX10_relates_110 (by decide) ?_
                    refine V_iand C dX10_relates_111 ?_
                    refine V_eqi (y := nI (a19 / 2 ^ b % 2)) (bit_val (by omega) (by omega)) ?_
                    refine V_if_neN (a := a19 / 2 ^ b % 2) (tgt := 119) C dX10_relates_112 (by decide) (by omega) (fun h112_20 => ?_) (fun h112_20 => ?_)
                    · refine V_iload C dX10_relates_119 rfl ?_
                      refine V_iastN (p0 := 112) (o := 10 * a + b) (X1 := (ma X 112 (upd (f2) (10 * a + b) (2 : Int32)))) C dX10_relates_121 sh_112 (by decide) (by omega) (by decide) (ma_ma _ _ _ _) ?_
                      refine V_iincN (a := b) (ls1 := [some (.ref (w.2.1 85)), some (.int (nI a)), some (.int (nI (b + 1))), some (.int (nI (v a b))), some (.int (nI (v b a))), some (.int (2 : Int32))]) C dX10_relates_122 rfl (by decide) rfl ?_
                      refine V_goto (tgt := 10) C dX10_relates_125 (by decide) ?_
                      refine V_kill (i := 3) (ls1 := [some (.ref (w.2.1 85)), some (.int (nI a)), some (.int (nI (b + 1))), none, some (.int (nI (v b a))), some (.int (2 : Int32))]) rfl ?_
                      refine V_kill (i := 4) (ls1 := [some (.ref (w.2.1 85)), some (.int (nI a)), some (.int (nI (b + 1))), none, none, some (.int (2 : Int32))]) rfl ?_
                      refine V_kill (i := 5) (ls1 := [some (.ref (w.2.1 85)), some (.int (nI a)), some (.int (nI (b + 1))), none, none, none]) rfl ?_
                      exact ih10 (b + 1) (upd (f2) (10 * a + b) (2 : Int32)) (by omega) (by omega) (RelTo_s hf2 (by omega) (rel_2 hV ha19 (by assumption) (by first | exact fun q => absurd q.1 (by assumption) | exact fun q => absurd q.2 (by assumption)) (by omega) (by omega) (by omega)))
                    · refine V_iconst (v := (0 : Int32)) C dX10_relates_115 (by decide) ?_
                      refine V_goto (tgt := 121) C dX10_relates_116 (by decide) ?_
                      refine V_iastN (p0 := 112) (o := 10 * a + b) (X1 := (ma X 112 (upd (f2) (10 * a + b) (0 : Int32)))) C dX10_relates_121 sh_112 (by decide) (by omega) (by decide) (ma_ma _ _ _ _) ?_
                      refine V_iincN (a := b) (ls1 := [some (.ref (w.2.1 85)), some (.int (nI a)), some (.int (nI (b + 1))), some (.int (nI (v a b))), some (.int (nI (v b a))), some (.int (2 : Int32))]) C dX10_relates_122 rfl (by decide) rfl ?_
                      refine V_goto (tgt := 10) C dX10_relates_125 (by decide) ?_
                      refine V_kill (i := 3) (ls1 := [some (.ref (w.2.1 85)), some (.int (nI a)), some (.int (nI (b + 1))), none, some (.int (nI (v b a))), some (.int (2 : Int32))]) rfl ?_
                      refine V_kill (i := 4) (ls1 := [some (.ref (w.2.1 85)), some (.int (nI a)), some (.int (nI (b + 1))), none, none, some (.int (2 : Int32))]) rfl ?_
                      refine V_kill (i := 5) (ls1 := [some (.ref (w.2.1 85)), some (.int (nI a)), some (.int (nI (b + 1))), none, none, none]) rfl ?_
                      exact ih10 (b + 1) (upd (f2) (10 * a + b) (0 : Int32)) (by omega) (by omega) (RelTo_s hf2 (by omega) (rel_no ha19 (by assumption)))
                  · refine V_aload_n C dX10_relates_76 rfl ?_
                    refine V_iload_n C dX10_relates_77 rfl ?_
                    refine V_callVI C [.int (nI b)] mi_X10_232 (k_X10_isInClique w l b (ma X 112 f2) K hC hC1 (by omega)) dX10_relates_78 sh_85 (by decide) rfl rfl rfl (Nat.le_of_ble_eq_true rfl) (Nat.le_of_ble_eq_true rfl) (Nat.le_of_ble_eq_true rfl) ⟨Nat.le_refl _, Nat.le_refl _⟩ (fun v21 X21 q21 => ?_)
                    obtain ⟨hb21, eX21⟩ := q21; subst X21
                    try simp (disch := decide) only [oC_ma, gC_ma, oM_ma, gM_ma, tC_ma, tM_ma, ma_eq, ma_ne] at hb21
                    refine V_if_eqB (tgt := 88) C hb21 dX10_relates_81 (by decide) (fun h81_22 => ?_) (fun h81_22 => ?_)
                    · refine V_iload C dX10_relates_88 rfl ?_
                      refine V_istore (ls1 := [some (.ref (w.2.1 85)), some (.int (nI a)), some (.int (nI b)), some (.int (nI (v a b))), some (.int (nI (v b a))), some (.int (2 : Int32))]) C dX10_relates_90 (by decide) rfl ?_
                      refine V_aload_n C dX10_relates_92 rfl ?_
                      refine V_getr C fl_X10_93 dX10_relates_93 (by decide) sh_85 rfl ?_
                      refine V_bipush (v := (10 : Int32)) C dX10_relates_96 (by decide) ?_
                      refine V_iload_n C dX10_relates_98 rfl ?_
                      refine V_imulN (a := 10) (b := a) C dX10_relates_99 ?_
                      refine V_iload_n C dX10_relates_100 rfl ?_
                      refine V_iaddN (a := 10 * a) (b := b) C dX10_relates_101 ?_
                      refine V_aload_n C dX10_relates_102 rfl ?_
                      refine V_getr C fl_X10_90 dX10_relates_103 (by decide) sh_85 rfl ?_
                      refine V_iload_n C dX10_relates_106 rfl ?_
                      refine V_ialdN (p0 := 111) (o := a) (v := X 111 a) C dX10_relates_107 sh_111 (by decide) (by omega) (by decide) rfl ?_
                      obtain ⟨a23, ha23, ea23⟩ := hnb a (by omega)
                      have ia23 : ix (nI a23) = a23 := ix_nI (by omega)
                      refine V_eqi ea23 ?_
                      refine V_iload_n C dX10_relates_108 rfl ?_
                      refine V_ishr C dX10_relates_109 ?_
                      refine V_iconst (v := (1 : Int32)) C dX10_relates_110 (by decide) ?_
                      refine V_iand C dX10_relates_111 ?_
                      refine V_eqi (y := nI (a23 / 2 ^ b % 2)) (bit_val (by omega) (by omega)) ?_
                      refine V_if_neN (a := a23 / 2 ^ b % 2) (tgt := 119) C dX10_relates_112 (by decide) (by omega) (fun h112_24 => ?_) (fun h112_24 => ?_)
                      · refine V_iload C dX10_relates_119 rfl ?_
                        refine V_iastN (p0 := 112) (o := 10 * a + b) (X1 := (ma X 112 (upd (f2) (10 * a + b) (2 : Int32)))) C dX10_relates_121 sh_112 (by decide) (by omega) (by decide) (ma_ma _ _ _ _) ?_
                        refine V_iincN (a := b) (ls1 := [some (.ref (w.2.1 85)), some (.int (nI a)), some (.int (nI (b + 1))), some (.int (nI (v a b))), some (.int (nI (v b a))), some (.int (2 : Int32))]) C dX10_relates_122 rfl (by decide) rfl ?_
                        refine V_goto (tgt := 10) C dX10_relates_125 (by decide) ?_
                        refine V_kill (i := 3) (ls1 := [some (.ref (w.2.1 85)), some (.int (nI a)), some (.int (nI (b + 1))), none, some (.int (nI (v b a))), some (.int (2 : Int32))]) rfl ?_
                        refine V_kill (i := 4) (ls1 := [some (.ref (w.2.1 85)), some (.int (nI a)), some (.int (nI (b + 1))), none, none, some (.int (2 : Int32))]) rfl ?_
                        refine V_kill (i := 5) (ls1 := [some (.ref (w.2.1 85)), some (.int (nI a)), some (.int (nI (b + 1))), none, none, none]) rfl ?_
                        exact ih10 (b + 1) (upd (f2) (10 * a + b) (2 : Int32)) (by omega) (by omega) (RelTo_s hf2 (by omega) (rel_2 hV ha23 (by assumption) (by first | exact fun q => absurd q.1 (by assumption) | exact fun q => absurd q.2 (by assumption)) (by omega) (by omega) (by omega)))
                      · refine V_iconst (v := (0 : Int32)) C dX10_relates_115 (by decide) ?_
                        refine V_goto (tgt := 121) C dX10_relates_116 (by decide) ?_
                        refine V_iastN (p0 := 112) (o := 10 * a + b) (X1 := (ma X 112 (upd (f2) (10 * a + b) (0 : Int32)))) C dX10_relates_121 sh_112 (by decide) (by omega) (by decide) (ma_ma _ _ _ _) ?_
                        refine V_iincN (a := b) (ls1 := [some (.ref (w.2.1 85)), some (.int (nI a)), some (.int (nI (b + 1))), some (.int (nI (v a b))), some (.int (nI (v b a))), some (.int (2 : Int32))]) C dX10_relates_122 rfl (by decide) rfl ?_
                        refine V_goto (tgt := 10) C dX10_relates_125 (by decide) ?_
                        refine V_kill (i := 3) (ls1 := [some (.ref (w.2.1 85)), some (.int (nI a)), some (.int (nI (b + 1))), none, some (.int (nI (v b a))), some (.int (2 : Int32))]) rfl ?_
                        refine V_kill (i := 4) (ls1 := [some (.ref (w.2.1 85)), some (.int (nI a)), some (.int (nI (b + 1))), none, none, some (.int (2 : Int32))]) rfl ?_
                        refine V_kill (i := 5) (ls1 := [some (.ref (w.2.1 85)), some (.int (nI a)), some (.int (nI (b + 1))), none, none, none]) rfl ?_
                        exact ih10 (b + 1) (upd (f2) (10 * a + b) (0 : Int32)) (by omega) (by omega) (RelTo_s hf2 (by omega) (rel_no ha23 (by assumption)))
                    · refine V_iconst (v := (3 : Int32)) C dX10_relates_84 (by decide) ?_
                      refine V_goto (tgt := 90) C dX10_relates_85 (by decide) ?_
                      refine V_istore (ls1 := [some (.ref (w.2.1 85)), some (.int (nI a)), some (.int (nI b)), some (.int (nI (v a b))), some (.int (nI (v b a))), some (.int (3 : Int32))]) C dX10_relates_90 (by decide) rfl ?_
                      refine V_aload_n C dX10_relates_92 rfl ?_
                      refine V_getr C fl_X10_93 dX10_relates_93 (by decide) sh_85 rfl ?_
                      refine V_bipush (v := (10 : Int32)) C dX10_relates_96 (by decide) ?_
                      refine V_iload_n C dX10_relates_98 rfl ?_
                      refine V_imulN (a := 10) (b := a) C dX10_relates_99 ?_
                      refine V_iload_n C dX10_relates_100 rfl ?_
                      refine V_iaddN (a := 10 * a) (b := b) C dX10_relates_101 ?_
                      refine V_aload_n C dX10_relates_102 rfl ?_
                      refine V_getr C fl_X10_90 dX10_relates_103 (by decide) sh_85 rfl ?_
                      refine V_iload_n C dX10_relates_106 rfl ?_
                      refine V_ialdN (p0 := 111) (o := a) (v := X 111 a) C dX10_relates_107 sh_111 (by decide) (by omega) (by decide) rfl ?_
                      obtain ⟨a25, ha25, ea25⟩ := hnb a (by omega)
                      have ia25 : ix (nI a25) = a25 := ix_nI (by omega)
                      refine V_eqi ea25 ?_
                      refine V_iload_n C dX10_relates_108 rfl ?_
                      refine V_ishr C dX10_relates_109 ?_
                      refine V_iconst (v := (1 : Int32)) C dX10_relates_110 (by decide) ?_
                      refine V_iand C dX10_relates_111 ?_
                      refine V_eqi (y := nI (a25 / 2 ^ b % 2)) (bit_val (by omega) (by omega)) ?_
                      refine V_if_neN (a := a25 / 2 ^ b % 2) (tgt := 119) C dX10_relates_112 (by decide) (by omega) (fun h112_26 => ?_) (fun h112_26 => ?_)
                      · refine V_iload C dX10_relates_119 rfl ?_
                        refine V_iastN (p0 := 112) (o := 10 * a + b) (X1 := (ma X 112 (upd (f2) (10 * a + b) (3 : Int32)))) C dX10_relates_121 sh_112 (by decide) (by omega) (by decide) (ma_ma _ _ _ _) ?_
                        refine V_iincN (a := b) (ls1 := [some (.ref (w.2.1 85)), some (.int (nI a)), some (.int (nI (b + 1))), some (.int (nI (v a b))), some (.int (nI (v b a))), some (.int (3 : Int32))]) C dX10_relates_122 rfl (by decide) rfl ?_
                        refine V_goto (tgt := 10) C dX10_relates_125 (by decide) ?_
                        refine V_kill (i := 3) (ls1 := [some (.ref (w.2.1 85)), some (.int (nI a)), some (.int (nI (b + 1))), none, some (.int (nI (v b a))), some (.int (3 : Int32))]) rfl ?_
                        refine V_kill (i := 4) (ls1 := [some (.ref (w.2.1 85)), some (.int (nI a)), some (.int (nI (b + 1))), none, none, some (.int (3 : Int32))]) rfl ?_
                        refine V_kill (i := 5) (ls1 := [some (.ref (w.2.1 85)), some (.int (nI a)), some (.int (nI (b + 1))), none, none, none]) rfl ?_
                        exact ih10 (b + 1) (upd (f2) (10 * a + b) (3 : Int32)) (by omega) (by omega) (RelTo_s hf2 (by omega) (by first | exact rel_bo hV ha25 (by assumption) ⟨by assumption, by assumption⟩ | exact rel_3 hV ha25 (by assumption) (by first | exact fun q => absurd q.1 (by assumption) | exact fun q => absurd q.2 (by assumption)) (by omega) (by omega)))
                      · refine V_iconst (v := (0 : Int32)) C dX10_relates_115 (by decide) ?_
                        refine V_goto (tgt := 121) C dX10_relates_116 (by decide) ?_
                        refine V_iastN (p0 := 112) (o := 10 * a + b) (X1 := (ma X 112 (upd (f2) (10 * a + b) (0 : Int32)))) C dX10_relates_121 sh_112 (by decide) (by omega) (by decide) (ma_ma _ _ _ _) ?_
                        refine V_iincN (a := b) (ls1 := [some (.ref (w.2.1 85)), some (.int (nI a)), some (.int (nI (b + 1))), some (.int (nI (v a b))), some (.int (nI (v b a))), some (.int (3 : Int32))]) C dX10_relates_122 rfl (by decide) rfl ?_
                        refine V_goto (tgt := 10) C dX10_relates_125 (by decide) ?_
                        refine V_kill (i := 3) (ls1 := [some (.ref (w.2.1 85)), some (.int (nI a)), some (.int (nI (b + 1))), none, some (.int (nI (v b a))), some (.int (3 : Int32))]) rfl ?_
                        refine V_kill (i := 4) (ls1 := [some (.ref (w.2.1 85)), some (.int (nI a)), some (.int (nI (b + 1))), none, none, some (.int (3 : Int32))]) rfl ?_
                        refine V_kill (i := 5) (ls1 := [some (.ref (w.2.1 85)), some (.int (nI a)), some (.int (nI (b + 1))), none, none, none]) rfl ?_
                        exact ih10 (b + 1) (upd (f2) (10 * a + b) (0 : Int32)) (by omega) (by omega) (RelTo_s hf2 (by omega) (rel_no ha25 (by assumption)))
              · refine V_iconst (v := (1 : Int32)) C dX10_relates_49 (by decide) ?_
                refine V_goto (tgt := 66) C dX10_relates_50 (by decide) ?_
                refine V_istore (ls1 := [some (.ref (w.2.1 85)), some (.int (nI a)), some (.int (nI b)), some (.int (nI (v a b))), some (.int (nI (v b a))), some (.int (1 : Int32))]) C dX10_relates_66 (by decide) rfl ?_
                refine V_aload_n C dX10_relates_68 rfl ?_
                refine V_iload_n C dX10_relates_69 rfl ?_
                refine V_callVI C [.int (nI a)] mi_X10_232 (k_X10_isInClique w l a (ma X 112 f2) K hC hC1 (by omega)) dX10_relates_70 sh_85 (by decide) rfl rfl rfl (Nat.le_of_ble_eq_true rfl) (Nat.le_of_ble_eq_true rfl) (Nat.le_of_ble_eq_true rfl) ⟨Nat.le_refl _, Nat.le_refl _⟩ (fun v27 X27 q27 => ?_)
                obtain ⟨hb27, eX27⟩ := q27; subst X27
                try simp (disch := decide) only [oC_ma, gC_ma, oM_ma, gM_ma, tC_ma, tM_ma, ma_eq, ma_ne] at hb27
                refine V_if_eqB (tgt := 88) C hb27 dX10_relates_73 (by decide) (fun h73_28 => ?_) (fun h73_28 => ?_)
                · refine V_iload C dX10_relates_88 rfl ?_
                  refine V_istore (ls1 := [some (.ref (w.2.1 85)), some (.int (nI a)), some (.int (nI b)), some (.int (nI (v a b))), some (.int (nI (v b a))), some (.int (1 : Int32))]) C dX10_relates_90 (by decide) rfl ?_
                  refine V_aload_n C dX10_relates_92 rfl ?_
                  refine V_getr C fl_X10_93 dX10_relates_93 (by decide) sh_85 rfl ?_
                  refine V_bipush (v := (10 : Int32)) C dX10_relates_96 (by decide) ?_
                  refine V_iload_n C dX10_relates_98 rfl ?_
                  refine V_imulN (a := 10) (b := a) C dX10_relates_99 ?_
                  refine V_iload_n C dX10_relates_100 rfl ?_
                  refine V_iaddN (a := 10 * a) (b := b) C dX10_relates_101 ?_
                  refine V_aload_n C dX10_relates_102 rfl ?_
                  refine V_getr C fl_X10_90 dX10_relates_103 (by decide) sh_85 rfl ?_
                  refine V_iload_n C dX10_relates_106 rfl ?_
                  refine V_ialdN (p0 := 111) (o := a) (v := X 111 a) C dX10_relates_107 sh_111 (by decide) (by omega) (by decide) rfl ?_
                  obtain ⟨a29, ha29, ea29⟩ := hnb a (by omega)
                  have ia29 : ix (nI a29) = a29 := ix_nI (by omega)
                  refine V_eqi ea29 ?_
                  refine V_iload_n C dX10_relates_108 rfl ?_
                  refine V_ishr C dX10_relates_109 ?_
                  refine V_iconst (v := (1 : Int32)) C dX10_relates_110 (by decide) ?_
                  refine V_iand C dX10_relates_111 ?_
                  refine V_eqi (y := nI (a29 / 2 ^ b % 2)) (bit_val (by omega) (by omega)) ?_
                  refine V_if_neN (a := a29 / 2 ^ b % 2) (tgt := 119) C dX10_relates_112 (by decide) (by omega) (fun h112_30 => ?_) (fun h112_30 => ?_)
                  · refine V_iload C dX10_relates_119 rfl ?_
                    refine V_iastN (p0 := 112) (o := 10 * a + b) (X1 := (ma X 112 (upd (f2) (10 * a + b) (1 : Int32)))) C dX10_relates_121 sh_112 (by decide) (by omega) (by decide) (ma_ma _ _ _ _) ?_
                    refine V_iincN (a := b) (ls1 := [some (.ref (w.2.1 85)), some (.int (nI a)), some (.int (nI (b + 1))), some (.int (nI (v a b))), some (.int (nI (v b a))), some (.int (1 : Int32))]) C dX10_relates_122 rfl (by decide) rfl ?_
                    refine V_goto (tgt := 10) C dX10_relates_125 (by decide) ?_
                    refine V_kill (i := 3) (ls1 := [some (.ref (w.2.1 85)), some (.int (nI a)), some (.int (nI (b + 1))), none, some (.int (nI (v b a))), some (.int (1 : Int32))]) rfl ?_
                    refine V_kill (i := 4) (ls1 := [some (.ref (w.2.1 85)), some (.int (nI a)), some (.int (nI (b + 1))), none, none, some (.int (1 : Int32))]) rfl ?_
                    refine V_kill (i := 5) (ls1 := [some (.ref (w.2.1 85)), some (.int (nI a)), some (.int (nI (b + 1))), none, none, none]) rfl ?_
                    exact ih10 (b + 1) (upd (f2) (10 * a + b) (1 : Int32)) (by omega) (by omega) (RelTo_s hf2 (by omega) (rel_1 hV ha29 (by assumption) (by first | exact fun q => absurd q.1 (by assumption) | exact fun q => absurd q.2 (by assumption)) (by omega) (by omega)))
                  · refine V_iconst (v := (0 : Int32)) C dX10_relates_115 (by decide) ?_
                    refine V_goto (tgt := 121) C dX10_relates_116 (by decide) ?_
                    refine V_iastN (p0 := 112) (o := 10 * a + b) (X1 := (ma X 112 (upd (f2) (10 * a + b) (0 : Int32)))) C dX10_relates_121 sh_112 (by decide) (by omega) (by decide) (ma_ma _ _ _ _) ?_
                    refine V_iincN (a := b) (ls1 := [some (.ref (w.2.1 85)), some (.int (nI a)), some (.int (nI (b + 1))), some (.int (nI (v a b))), some (.int (nI (v b a))), some (.int (1 : Int32))]) C dX10_relates_122 rfl (by decide) rfl ?_
                    refine V_goto (tgt := 10) C dX10_relates_125 (by decide) ?_
                    refine V_kill (i := 3) (ls1 := [some (.ref (w.2.1 85)), some (.int (nI a)), some (.int (nI (b + 1))), none, some (.int (nI (v b a))), some (.int (1 : Int32))]) rfl ?_
                    refine V_kill (i := 4) (ls1 := [some (.ref (w.2.1 85)), some (.int (nI a)), some (.int (nI (b + 1))), none, none, some (.int (1 : Int32))]) rfl ?_
                    refine V_kill (i := 5) (ls1 := [some (.ref (w.2.1 85)), some (.int (nI a)), some (.int (nI (b + 1))), none, none, none]) rfl ?_
                    exact ih10 (b + 1) (upd (f2) (10 * a + b) (0 : Int32)) (by omega) (by omega) (RelTo_s hf2 (by omega) (rel_no ha29 (by assumption)))
                · refine V_aload_n C dX10_relates_76 rfl ?_
                  refine V_iload_n C dX10_relates_77 rfl ?_
                  refine V_callVI C [.int (nI b)] mi_X10_232 (k_X10_isInClique w l b (ma X 112 f2) K hC hC1 (by omega)) dX10_relates_78 sh_85 (by decide) rfl rfl rfl (Nat.le_of_ble_eq_true rfl) (Nat.le_of_ble_eq_true rfl) (Nat.le_of_ble_eq_true rfl) ⟨Nat.le_refl _, Nat.le_refl _⟩ (fun v31 X31 q31 => ?_)
                  obtain ⟨hb31, eX31⟩ := q31; subst X31
                  try simp (disch := decide) only [oC_ma, gC_ma, oM_ma, gM_ma, tC_ma, tM_ma, ma_eq, ma_ne] at hb31
                  refine V_if_eqB (tgt := 88) C hb31 dX10_relates_81 (by decide) (fun h81_32 => ?_) (fun h81_32 => ?_)
                  · refine V_iload C dX10_relates_88 rfl ?_
                    refine V_istore (ls1 := [some (.ref (w.2.1 85)), some (.int (nI a)), some (.int (nI b)), some (.int (nI (v a b))), some (.int (nI (v b a))), some (.int (1 : Int32))]) C dX10_relates_90 (by decide) rfl ?_
                    refine V_aload_n C dX10_relates_92 rfl ?_
                    refine V_getr C fl_X10_93 dX10_relates_93 (by decide) sh_85 rfl ?_
                    refine V_bipush (v := (10 : Int32)) C dX10_relates_96 (by decide) ?_
                    refine V_iload_n C dX10_relates_98 rfl ?_
                    refine V_imulN (a := 10) (b := a) C dX10_relates_99 ?_
                    refine V_iload_n C dX10_relates_100 rfl ?_
                    refine V_iaddN (a := 10 * a) (b := b) C dX10_relates_101 ?_
                    refine V_aload_n C dX10_relates_102 rfl ?_
                    refine V_getr C fl_X10_90 dX10_relates_103 (by decide) sh_85 rfl ?_
                    refine V_iload_n C dX10_relates_106 rfl ?_
                    refine V_ialdN (p0 := 111) (o := a) (v := X 111 a) C dX10_relates_107 sh_111 (by decide) (by omega) (by decide) rfl ?_
                    obtain ⟨a33, ha33, ea33⟩ := hnb a (by omega)
                    have ia33 : ix (nI a33) = a33 := ix_nI (by omega)
                    refine V_eqi ea33 ?_
                    refine V_iload_n C dX10_relates_108 rfl ?_
                    refine V_ishr C dX10_relates_109 ?_
                    refine V_iconst (v := (1 : Int32)) C dX10_relates_110 (by decide) ?_
                    refine V_iand C dX10_relates_111 ?_
                    refine V_eqi (y := nI (a33 / 2 ^ b % 2)) (bit_val (by omega) (by omega)) ?_
                    refine V_if_neN (a := a33 / 2 ^ b % 2) (tgt := 119) C dX10_relates_112 (by decide) (by omega) (fun h112_34 => ?_) (fun h112_34 => ?_)
                    · refine V_iload C dX10_relates_119 rfl ?_
                      refine V_iastN (p0 := 112) (o := 10 * a + b) (X1 := (ma X 112 (upd (f2) (10 * a + b) (1 : Int32)))) C dX10_relates_121 sh_112 (by decide) (by omega) (by decide) (ma_ma _ _ _ _) ?_
                      refine V_iincN (a := b) (ls1 := [some (.ref (w.2.1 85)), some (.int (nI a)), some (.int (nI (b + 1))), some (.int (nI (v a b))), some (.int (nI (v b a))), some (.int (1 : Int32))]) C dX10_relates_122 rfl (by decide) rfl ?_
                      refine V_goto (tgt := 10) C dX10_relates_125 (by decide) ?_
                      refine V_kill (i := 3) (ls1 := [some (.ref (w.2.1 85)), some (.int (nI a)), some (.int (nI (b + 1))), none, some (.int (nI (v b a))), some (.int (1 : Int32))]) rfl ?_
                      refine V_kill (i := 4) (ls1 := [some (.ref (w.2.1 85)), some (.int (nI a)), some (.int (nI (b + 1))), none, none, some (.int (1 : Int32))]) rfl ?_
                      refine V_kill (i := 5) (ls1 := [some (.ref (w.2.1 85)), some (.int (nI a)), some (.int (nI (b + 1))), none, none, none]) rfl ?_
                      exact ih10 (b + 1) (upd (f2) (10 * a + b) (1 : Int32)) (by omega) (by omega) (RelTo_s hf2 (by omega) (rel_1 hV ha33 (by assumption) (by first | exact fun q => absurd q.1 (by assumption) | exact fun q => absurd q.2 (by assumption)) (by omega) (by omega)))
                    · refine V_iconst (v := (0 : Int32)) C dX10_relates_115 (by decide) ?_
                      refine V_goto (tgt := 121) C dX10_relates_116 (by decide) ?_
                      refine V_iastN (p0 := 112) (o := 10 * a + b) (X1 := (ma X 112 (upd (f2) (10 * a + b) (0 : Int32)))) C dX10_relates_121 sh_112 (by decide) (by omega) (by decide) (ma_ma _ _ _ _) ?_
                      refine V_iincN (a := b) (ls1 := [some (.ref (w.2.1 85)), some (.int (nI a)), some (.int (nI (b + 1))), some (.int (nI (v a b))), some (.int (nI (v b a))), some (.int (1 : Int32))]) C dX10_relates_122 rfl (by decide) rfl ?_
                      refine V_goto (tgt := 10) C dX10_relates_125 (by decide) ?_
                      refine V_kill (i := 3) (ls1 := [some (.ref (w.2.1 85)), some (.int (nI a)), some (.int (nI (b + 1))), none, some (.int (nI (v b a))), some (.int (1 : Int32))]) rfl ?_
                      refine V_kill (i := 4) (ls1 := [some (.ref (w.2.1 85)), some (.int (nI a)), some (.int (nI (b + 1))), none, none, some (.int (1 : Int32))]) rfl ?_
                      refine V_kill (i := 5) (ls1 := [some (.ref (w.2.1 85)), some (.int (nI a)), some (.int (nI (b + 1))), none, none, none]) rfl ?_
                      exact ih10 (b + 1) (upd (f2) (10 * a + b) (0 : Int32)) (by omega) (by omega) (RelTo_s hf2 (by omega) (rel_no ha33 (by assumption)))
                  · refine V_iconst (v := (3 : Int32)) C dX10_relates_84 (by decide) ?_
                    refine V_goto (tgt := 90) C dX10_relates_85 (by decide) ?_
                    refine V_istore (ls1 := [some (.ref (w.2.1 85)), some (.int (nI a)), some (.int (nI b)), some (.int (nI (v a b))), some (.int (nI (v b a))), some (.int (3 : Int32))]) C dX10_relates_90 (by decide) rfl ?_
                    refine V_aload_n C dX10_relates_92 rfl ?_
                    refine V_getr C fl_X10_93 dX10_relates_93 (by decide) sh_85 rfl ?_
                    refine V_bipush (v := (10 : Int32)) C dX10_relates_96 (by decide) ?_
                    refine V_iload_n C dX10_relates_98 rfl ?_
                    refine V_imulN (a := 10) (b := a) C dX10_relates_99 ?_
                    refine V_iload_n C dX10_relates_100 rfl ?_
                    refine V_iaddN (a := 10 * a) (b := b) C dX10_relates_101 ?_
                    refine V_aload_n C dX10_relates_102 rfl ?_
                    refine V_getr C fl_X10_90 dX10_relates_103 (by decide) sh_85 rfl ?_
                    refine V_iload_n C dX10_relates_106 rfl ?_
                    refine V_ialdN (p0 := 111) (o := a) (v := X 111 a) C dX10_relates_107 sh_111 (by decide) (by omega) (by decide) rfl ?_
                    obtain ⟨a35, ha35, ea35⟩ := hnb a (by omega)
                    have ia35 : ix (nI a35) = a35 := ix_nI (by omega)
                    refine V_eqi ea35 ?_
                    refine V_iload_n C dX10_relates_108 rfl ?_
                    refine V_ishr C dX10_relates_109 ?_
                    refine V_iconst (v := (1 : Int32)) C dX10_relates_110 (by decide) ?_
                    refine V_iand C dX10_relates_111 ?_
                    refine V_eqi (y := nI (a35 / 2 ^ b % 2)) (bit_val (by omega) (by omega)) ?_
                    refine V_if_neN (a := a35 / 2 ^ b % 2) (tgt := 119) C dX10_relates_112 (by decide) (by omega) (fun h112_36 => ?_) (fun h112_36 => ?_)
                    · refine V_iload C dX10_relates_119 rfl ?_
                      refine V_iastN (p0 := 112) (o := 10 * a + b) (X1 := (ma X 112 (upd (f2) (10 * a + b) (3 : Int32)))) C dX10_relates_121 sh_112 (by decide) (by omega) (by decide) (ma_ma _ _ _ _) ?_
                      refine V_iincN (a := b) (ls1 := [some (.ref (w.2.1 85)), some (.int (nI a)), some (.int (nI (b + 1))), some (.int (nI (v a b))), some (.int (nI (v b a))), some (.int (3 : Int32))]) C dX10_relates_122 rfl (by decide) rfl ?_
                      refine V_goto (tgt := 10) C dX10_relates_125 (by decide) ?_
                      refine V_kill (i := 3) (ls1 := [some (.ref (w.2.1 85)), some (.int (nI a)), some (.int (nI (b + 1))), none, some (.int (nI (v b a))), some (.int (3 : Int32))]) rfl ?_
                      refine V_kill (i := 4) (ls1 := [some (.ref (w.2.1 85)), some (.int (nI a)), some (.int (nI (b + 1))), none, none, some (.int (3 : Int32))]) rfl ?_
                      refine V_kill (i := 5) (ls1 := [some (.ref (w.2.1 85)), some (.int (nI a)), some (.int (nI (b + 1))), none, none, none]) rfl ?_
                      exact ih10 (b + 1) (upd (f2) (10 * a + b) (3 : Int32)) (by omega) (by omega) (RelTo_s hf2 (by omega) (by first | exact rel_bo hV ha35 (by assumption) ⟨by assumption, by assumption⟩ | exact rel_3 hV ha35 (by assumption) (by first | exact fun q => absurd q.1 (by assumption) | exact fun q => absurd q.2 (by assumption)) (by omega) (by omega)))
                    · refine V_iconst (v := (0 : Int32)) C dX10_relates_115 (by decide) ?_
                      refine V_goto (tgt := 121) C dX10_relates_116 (by decide) ?_
                      refine V_iastN (p0 := 112) (o := 10 * a + b) (X1 := (ma X 112 (upd (f2) (10 * a + b) (0 : Int32)))) C dX10_relates_121 sh_112 (by decide) (by omega) (by decide) (ma_ma _ _ _ _) ?_
                      refine V_iincN (a := b) (ls1 := [some (.ref (w.2.1 85)), some (.int (nI a)), some (.int (nI (b + 1))), some (.int (nI (v a b))), some (.int (nI (v b a))), some (.int (3 : Int32))]) C dX10_relates_122 rfl (by decide) rfl ?_
                      refine V_goto (tgt := 10) C dX10_relates_125 (by decide) ?_
                      refine V_kill (i := 3) (ls1 := [some (.ref (w.2.1 85)), some (.int (nI a)), some (.int (nI (b + 1))), none, some (.int (nI (v b a))), some (.int (3 : Int32))]) rfl ?_
                      refine V_kill (i := 4) (ls1 := [some (.ref (w.2.1 85)), some (.int (nI a)), some (.int (nI (b + 1))), none, none, some (.int (3 : Int32))]) rfl ?_
                      refine V_kill (i := 5) (ls1 := [some (.ref (w.2.1 85)), some (.int (nI a)), some (.int (nI (b + 1))), none, none, none]) rfl ?_
                      exact ih10 (b + 1) (upd (f2) (10 * a + b) (0 : Int32)) (by omega) (by omega) (RelTo_s hf2 (by omega) (rel_no ha35 (by assumption)))
        exact L10 _ 0 f (Nat.lt_succ_self _) (by omega) hf
  refine V_eqX (X1 := (ma X 112 (X 112))) (ma_id rfl) ?_
  exact L2 _ 0 (X 112) (Nat.lt_succ_self _) (by omega) RelTo_0
