def q_X5_infer (X : Mem) (R : Nat) (PP : Nat → Nat → Nat) (Z : Nat → Nat) (Th : Nat → Prop) : Mem → Prop := fun X' => OutI X X' ∧ InfC X' R PP Z Th 3
set_option maxHeartbeats 4000000 in
set_option maxRecDepth 100000 in
theorem k_X5_infer (w : Wt) (l : Launch) (X : Mem) (R : Nat) (PP : Nat → Nat → Nat) (Z : Nat → Nat) (Th : Nat → Prop) (hB : RBc X R PP Z Th) : CtU w l yX5_infer cX5_infer 2 none 6 137 [.ref (w.2.1 68)] X (q_X5_infer X R PP Z Th) := by
  have hR24 := hB.1
  refine CtU_of (by decide +kernel) (Nat.le_of_ble_eq_true rfl) (List.forall_mem_cons.mpr ⟨rfl, (fun _ h => nomatch h)⟩) (ls := [some (.ref (w.2.1 68)), none]) rfl (args := (#[.ref (w.2.1 68)] : Array Value)) rfl (own := RX5) rfl ?_
  intro p e s m below meth c C
  refine V_aload_n C dX5_infer_0 rfl ?_
  refine V_callVU C [] mi_X5_31 (k_X5_findNeighbours w l X R PP Z Th hB) dX5_infer_1 sh_68 (by decide) rfl rfl rfl (Nat.le_of_ble_eq_true rfl) (Nat.le_of_ble_eq_true rfl) (Nat.le_of_ble_eq_true rfl) ⟨Nat.le_refl _, Nat.le_refl _⟩ (fun X1 q1 => ?_)
  obtain ⟨nb1, eX1, hnb1⟩ := q1; subst X1
  refine V_aload_n C dX5_infer_4 rfl ?_
  refine V_callVU C [] mi_X5_34 (k_X5_findCore w l (ma X 69 nb1) (fun a h => by rw [ma_eq]; exact SetIs_core (hnb1 a h))) dX5_infer_5 sh_68 (by decide) rfl rfl rfl (Nat.le_of_ble_eq_true rfl) (Nat.le_of_ble_eq_true rfl) (Nat.le_of_ble_eq_true rfl) ⟨Nat.le_refl _, Nat.le_refl _⟩ (fun X2 q2 => ?_)
  have q2 : X2 = ma (ma X 69 nb1) 68 (upd ((ma X 69 nb1) 68) 1 (coreO ((ma X 69 nb1) 69) 9 0)) := q2
  have hO0 : OutI X X2 := fun p hp => by rw [q2, ma_ne (by omega), ma_ne (by omega)]
  have hI0 : InfC X2 R PP Z Th 0 := ⟨by rw [q2, ma_ne (by decide), ma_eq]; exact hnb1, by rw [q2, ma_eq, upd_eq, ma_eq]; exact core_row hnb1, fun q h => absurd h (Nat.not_lt_zero _)⟩
  refine V_iconst (v := (0 : Int32)) C dX5_infer_8 (by decide) ?_
  refine V_istore_n (ls1 := [some (.ref (w.2.1 68)), some (.int (0 : Int32))]) C dX5_infer_9 (by decide) rfl ?_
  have L10 : ∀ (fu : Nat) (rd : Nat) (Y : Mem), 3 - rd < fu → (rd ≤ 3) → (OutI X Y) → (InfC Y R PP Z Th rd) → V p l e ({ frames := 6, cells := 0, slots := 0, locals := 137 } : Room) s m (#[.ref (w.2.1 68)] : Array Value) below meth c w 2 0 0 (EU w below s (#[.ref (w.2.1 68)] : Array Value) 0 0 (q_X5_infer X R PP Z Th)) 10 [some (.ref (w.2.1 68)), some (.int (nI rd))] [] Y := by
    intro fu
    induction fu with
    | zero => intro rd Y hm; exact absurd hm (Nat.not_lt_zero _)
    | succ fu ih10 =>
      intro rd Y hm10 hrd hO hI
      refine V_iload_n C dX5_infer_10 rfl ?_
      refine V_iconst (v := (3 : Int32)) C dX5_infer_11 (by decide) ?_
      refine V_icmp_geN (a := rd) (b := 3) (tgt := 31) C dX5_infer_12 (by decide) (by omega) (by omega) (fun h12_3 => ?_) (fun h12_3 => ?_)
      · exact V_returnU C dX5_infer_31 ⟨hO, (show rd = 3 from by omega) ▸ hI⟩
      · refine V_aload_n C dX5_infer_15 rfl ?_
        refine V_iload_n C dX5_infer_16 rfl ?_
        refine V_callVU C [.int (nI rd)] mi_X5_37 (k_X5_vote w l rd Y (KF R PP Z Th) R PP Z Th (RBc_outI hO hB) (fun a h => SetIs_core (hI.1 a h)) (by omega) (fun a h h2 => SetIs_core (hI.2.2 (rd - 1) (by omega) a h)) hI.2.1 (KF_is R PP Z Th).2) dX5_infer_17 sh_68 (by decide) rfl rfl rfl (Nat.le_of_ble_eq_true rfl) (Nat.le_of_ble_eq_true rfl) (Nat.le_of_ble_eq_true rfl) ⟨Nat.le_refl _, Nat.le_refl _⟩ (fun X4 q4 => ?_)
        obtain ⟨hO4, hV4⟩ := q4
        refine V_aload_n C dX5_infer_20 rfl ?_
        refine V_iload_n C dX5_infer_21 rfl ?_
        refine V_callVU C [.int (nI rd)] mi_X5_41 (k_X5_findCustomers w l rd X4 (VF R PP Z Th rd) (by omega) (VF_row hB hI hV4) (VF_le hB)) dX5_infer_22 sh_68 (by decide) rfl rfl rfl (Nat.le_of_ble_eq_true rfl) (Nat.le_of_ble_eq_true rfl) (Nat.le_of_ble_eq_true rfl) ⟨Nat.le_refl _, Nat.le_refl _⟩ (fun X5 q5 => ?_)
        obtain ⟨cu5, eX5, hcu5⟩ := q5
        subst X5
        refine V_iincN (a := rd) (ls1 := [some (.ref (w.2.1 68)), some (.int (nI (rd + 1)))]) C dX5_infer_25 rfl (by decide) rfl ?_
        refine V_goto (tgt := 10) C dX5_infer_28 (by decide) ?_
        exact ih10 (rd + 1) (ma X4 (82 + rd) cu5) (by omega) (by omega) (fun p hp => by rw [ma_ne (by omega), hO4 p (by omega)]; exact hO p hp) (InfC_step (by omega) hI hO4 hcu5)
  exact L10 _ 0 X2 (Nat.lt_succ_self _) (by omega) hO0 hI0
def q_X5_between (a : Nat) (b : Nat) (rd : Nat) (X : Mem) (Q W : Nat → Nat → Prop) : Int32 → Mem → Prop := fun r X' => BetR Q W a b r ∧ X' = X
set_option maxHeartbeats 4000000 in
set_option maxRecDepth 100000 in
theorem k_X5_between (w : Wt) (l : Launch) (a : Nat) (b : Nat) (rd : Nat) (X : Mem) (Q W : Nat → Nat → Prop) (hQ : SetRow (X 69) Q) (hW : SetRow (X (82 + rd)) W) (ha : a < 10) (hb : b < 10) (hrd : rd < 3) : CtI w l yX5_between cX5_between 4 (some .int) 2 41 [.ref (w.2.1 68), .int (nI a), .int (nI b), .int (nI rd)] X (q_X5_between a b rd X Q W) := by
  refine CtI_of (by decide +kernel) (Nat.le_of_ble_eq_true rfl) (List.forall_mem_cons.mpr ⟨rfl, (List.forall_mem_cons.mpr ⟨rfl, (List.forall_mem_cons.mpr ⟨rfl, (List.forall_mem_cons.mpr ⟨rfl, (fun _ h => nomatch h)⟩)⟩)⟩)⟩) (ls := [some (.ref (w.2.1 68)), some (.int (nI a)), some (.int (nI b)), some (.int (nI rd))]) rfl (args := (#[.ref (w.2.1 68), .int (nI a), .int (nI b), .int (nI rd)] : Array Value)) rfl (own := RX5) rfl ?_
  intro p e s m below meth c C
  refine V_aload_n C dX5_between_0 rfl ?_
  refine V_getr C fl_X5_15 dX5_between_1 (by decide) sh_68 rfl ?_
  refine V_iload_n C dX5_between_4 rfl ?_
  refine V_ialdN (p0 := 69) (o := a) (v := X 69 a) C dX5_between_5 sh_69 (by decide) (by omega) (by decide) rfl ?_
  obtain ⟨a1, ha1, ea1⟩ := hQ a (by omega)
  have ia1 : ix (nI a1) = a1 := ix_nI (by omega)
  refine V_eqi ea1 ?_
  refine V_iload_n C dX5_between_6 rfl ?_
  refine V_callSI C [.int (nI a1), .int (nI b)] ms_X5_77 (k_X9_isIn w l a1 b X (by omega) (by omega)) dX5_between_7 rfl rfl (Nat.le_of_ble_eq_true rfl) (Nat.le_of_ble_eq_true rfl) (Nat.le_of_ble_eq_true rfl) ⟨Nat.le_refl _, Nat.le_refl _⟩ (fun v2 X2 q2 => ?_)
  obtain ⟨hb2, eX2⟩ := q2; subst X2
  refine V_if_neB (tgt := 15) C hb2 dX5_between_10 (by decide) (fun h10_3 => ?_) (fun h10_3 => ?_)
  · refine V_aload_n C dX5_between_15 rfl ?_
    refine V_getr C fl_X5_24 dX5_between_16 (by decide) sh_68 rfl ?_
    refine V_iload_n C dX5_between_19 rfl ?_
    refine V_aaldN (o := rd) (q := 82 + rd) C dX5_between_20 sh_81 (by decide) (by omega) (by decide) rfl ?_
    refine V_iload_n C dX5_between_21 rfl ?_
    refine V_ialdN (p0 := 82 + rd) (o := b) (v := X (82 + rd) b) C dX5_between_22 (sh_cust (by omega)) (by omega) (by omega) (by decide) rfl ?_
    obtain ⟨a4, ha4, ea4⟩ := hW b (by omega)
    have ia4 : ix (nI a4) = a4 := ix_nI (by omega)
    refine V_eqi ea4 ?_
    refine V_iload_n C dX5_between_23 rfl ?_
    refine V_callSI C [.int (nI a4), .int (nI a)] ms_X5_77 (k_X9_isIn w l a4 a X (by omega) (by omega)) dX5_between_24 rfl rfl (Nat.le_of_ble_eq_true rfl) (Nat.le_of_ble_eq_true rfl) (Nat.le_of_ble_eq_true rfl) ⟨Nat.le_refl _, Nat.le_refl _⟩ (fun v5 X5 q5 => ?_)
    obtain ⟨hb5, eX5⟩ := q5; subst X5
    refine V_if_eqB (tgt := 32) C hb5 dX5_between_27 (by decide) (fun h27_6 => ?_) (fun h27_6 => ?_)
    · refine V_aload_n C dX5_between_32 rfl ?_
      refine V_getr C fl_X5_24 dX5_between_33 (by decide) sh_68 rfl ?_
      refine V_iload_n C dX5_between_36 rfl ?_
      refine V_aaldN (o := rd) (q := 82 + rd) C dX5_between_37 sh_81 (by decide) (by omega) (by decide) rfl ?_
      refine V_iload_n C dX5_between_38 rfl ?_
      refine V_ialdN (p0 := 82 + rd) (o := a) (v := X (82 + rd) a) C dX5_between_39 (sh_cust (by omega)) (by omega) (by omega) (by decide) rfl ?_
      obtain ⟨a7, ha7, ea7⟩ := hW a (by omega)
      have ia7 : ix (nI a7) = a7 := ix_nI (by omega)
      refine V_eqi ea7 ?_
      refine V_iload_n C dX5_between_40 rfl ?_
      refine V_callSI C [.int (nI a7), .int (nI b)] ms_X5_77 (k_X9_isIn w l a7 b X (by omega) (by omega)) dX5_between_41 rfl rfl (Nat.le_of_ble_eq_true rfl) (Nat.le_of_ble_eq_true rfl) (Nat.le_of_ble_eq_true rfl) ⟨Nat.le_refl _, Nat.le_refl _⟩ (fun v8 X8 q8 => ?_)
      obtain ⟨hb8, eX8⟩ := q8; subst X8
      refine V_if_eqB (tgt := 51) C hb8 dX5_between_44 (by decide) (fun h44_9 => ?_) (fun h44_9 => ?_)
      · refine V_iconst (v := (3 : Int32)) C dX5_between_51 (by decide) ?_
        exact V_ireturnI C dX5_between_52 ⟨Or.inr (Or.inr (Or.inr ⟨((ha1.2 b).mp (by assumption)), (fun q => absurd ((ha4.2 a).mpr q) (by assumption)), (fun q => absurd ((ha7.2 b).mpr q) (by assumption)), rfl⟩)), rfl⟩
      · refine V_iconst (v := (2 : Int32)) C dX5_between_47 (by decide) ?_
        refine V_goto (tgt := 52) C dX5_between_48 (by decide) ?_
        exact V_ireturnI C dX5_between_52 ⟨Or.inr (Or.inr (Or.inl ⟨((ha1.2 b).mp (by assumption)), (fun q => absurd ((ha4.2 a).mpr q) (by assumption)), ((ha7.2 b).mp (by assumption)), rfl⟩)), rfl⟩
    · refine V_iconst (v := (1 : Int32)) C dX5_between_30 (by decide) ?_
      exact V_ireturnI C dX5_between_31 ⟨Or.inr (Or.inl ⟨((ha1.2 b).mp (by assumption)), ((ha4.2 a).mp (by assumption)), rfl⟩), rfl⟩
  · refine V_iconst (v := (0 : Int32)) C dX5_between_13 (by decide) ?_
    exact V_ireturnI C dX5_between_14 ⟨Or.inl ⟨(fun q => absurd ((ha1.2 b).mpr q) (by assumption)), rfl⟩, rfl⟩
