def q_X0_mayGoOn (z : Nat) (a : Nat) (X : Mem) (P : Nat → Nat) : Int32 → Mem → Prop := fun r X' => bI (Stp1 (tC X) (ext1 P z a) (z - 1)) r ∧ X' = X
set_option maxHeartbeats 4000000 in
set_option maxRecDepth 100000 in
theorem k_X0_mayGoOn (w : Wt) (l : Launch) (z : Nat) (a : Nat) (X : Mem) (P : Nat → Nat) (hP : PA X 67 P z) (hz : 1 ≤ z) (hz5 : z ≤ 5) (ha : a < 10) : CtI w l yX0_mayGoOn cX0_mayGoOn 4 (some .boolean) 2 43 [.ref (w.2.1 66), .int (nI z), .int (nI a)] X (q_X0_mayGoOn z a X P) := by
  refine CtI_of (by decide +kernel) (Nat.le_of_ble_eq_true rfl) (List.forall_mem_cons.mpr ⟨rfl, (List.forall_mem_cons.mpr ⟨rfl, (List.forall_mem_cons.mpr ⟨rfl, (fun _ h => nomatch h)⟩)⟩)⟩) (ls := [some (.ref (w.2.1 66)), some (.int (nI z)), some (.int (nI a)), none]) rfl (args := (#[.ref (w.2.1 66), .int (nI z), .int (nI a)] : Array Value)) rfl (own := RX0) rfl ?_
  intro p e s m below meth c C
  refine V_aload_n C dX0_mayGoOn_0 rfl ?_
  refine V_getr C fl_X0_9 dX0_mayGoOn_1 (by decide) sh_66 rfl ?_
  refine V_iload_n C dX0_mayGoOn_4 rfl ?_
  refine V_iconst (v := (1 : Int32)) C dX0_mayGoOn_5 (by decide) ?_
  refine V_isubN (a := z) (b := 1) C dX0_mayGoOn_6 (by omega) ?_
  refine V_ialdN (p0 := 67) (o := z - 1) (v := X 67 (z - 1)) C dX0_mayGoOn_7 sh_67 (by decide) (by omega) (by decide) rfl ?_
  have hq1 : P (z - 1) < 10 := (hP (z - 1) (by omega)).2
  refine V_eqi (y := nI (P (z - 1))) ((hP (z - 1) (by omega)).1) ?_
  refine V_istore_n (ls1 := [some (.ref (w.2.1 66)), some (.int (nI z)), some (.int (nI a)), some (.int (nI (P (z - 1))))]) C dX0_mayGoOn_8 (by decide) rfl ?_
  refine V_aload_n C dX0_mayGoOn_9 rfl ?_
  refine V_getr C fl_X0_15 dX0_mayGoOn_10 (by decide) sh_66 rfl ?_
  refine V_iload_n C dX0_mayGoOn_13 rfl ?_
  refine V_iload_n C dX0_mayGoOn_14 rfl ?_
  refine V_callVI C [.int (nI (P (z - 1))), .int (nI a)] mi_X0_44 (k_X8_areTied w l (P (z - 1)) a X (by omega) (by omega)) dX0_mayGoOn_15 sh_51 (by decide) rfl rfl rfl (Nat.le_of_ble_eq_true rfl) (Nat.le_of_ble_eq_true rfl) (Nat.le_of_ble_eq_true rfl) ⟨Nat.le_refl _, Nat.le_refl _⟩ (fun v2 X2 q2 => ?_)
  obtain ⟨hb2, eX2⟩ := q2; subst X2
  refine V_if_eqB (tgt := 50) C hb2 dX0_mayGoOn_18 (by decide) (fun h18_3 => ?_) (fun h18_3 => ?_)
  · refine V_iconst (v := (0 : Int32)) C dX0_mayGoOn_50 (by decide) ?_
    exact V_zreturnI C dX0_mayGoOn_51 (Or.inl rfl) (by first | exact ⟨bI.f (fun q => absurd ((Stp1_ext hz).mp q).1 (by assumption)), rfl⟩ | exact ⟨bI.f (fun q => ((Stp1_ext hz).mp q).2.elim (by assumption) (by assumption)), rfl⟩)
  · refine V_iload_n C dX0_mayGoOn_21 rfl ?_
    refine V_iconst (v := (1 : Int32)) C dX0_mayGoOn_22 (by decide) ?_
    refine V_icmp_eqN (a := z) (b := 1) (tgt := 46) C dX0_mayGoOn_23 (by decide) (by omega) (by omega) (fun h23_4 => ?_) (fun h23_4 => ?_)
    · refine V_iconst (v := (1 : Int32)) C dX0_mayGoOn_46 (by decide) ?_
      refine V_goto (tgt := 51) C dX0_mayGoOn_47 (by decide) ?_
      exact V_zreturnI C dX0_mayGoOn_51 (Or.inr rfl) ⟨bI.t ((Stp1_ext hz).mpr ⟨by assumption, by first | exact Or.inl (by assumption) | exact Or.inr (by assumption)⟩), rfl⟩
    · refine V_aload_n C dX0_mayGoOn_26 rfl ?_
      refine V_getr C fl_X0_15 dX0_mayGoOn_27 (by decide) sh_66 rfl ?_
      refine V_iload_n C dX0_mayGoOn_30 rfl ?_
      refine V_aload_n C dX0_mayGoOn_31 rfl ?_
      refine V_getr C fl_X0_9 dX0_mayGoOn_32 (by decide) sh_66 rfl ?_
      refine V_iload_n C dX0_mayGoOn_35 rfl ?_
      refine V_iconst (v := (2 : Int32)) C dX0_mayGoOn_36 (by decide) ?_
      refine V_isubN (a := z) (b := 2) C dX0_mayGoOn_37 (by omega) ?_
      refine V_ialdN (p0 := 67) (o := z - 2) (v := X 67 (z - 2)) C dX0_mayGoOn_38 sh_67 (by decide) (by omega) (by decide) rfl ?_
      have hq5 : P (z - 2) < 10 := (hP (z - 2) (by omega)).2
      refine V_eqi (y := nI (P (z - 2))) ((hP (z - 2) (by omega)).1) ?_
      refine V_iload_n C dX0_mayGoOn_39 rfl ?_
      refine V_callVI C [.int (nI (P (z - 1))), .int (nI (P (z - 2))), .int (nI a)] mi_X0_49 (k_X8_hasCustomer w l (P (z - 1)) (P (z - 2)) a X (by omega) (by omega) (by omega)) dX0_mayGoOn_40 sh_51 (by decide) rfl rfl rfl (Nat.le_of_ble_eq_true rfl) (Nat.le_of_ble_eq_true rfl) (Nat.le_of_ble_eq_true rfl) ⟨Nat.le_refl _, Nat.le_refl _⟩ (fun v6 X6 q6 => ?_)
      obtain ⟨hb6, eX6⟩ := q6; subst X6
      refine V_if_eqB (tgt := 50) C hb6 dX0_mayGoOn_43 (by decide) (fun h43_7 => ?_) (fun h43_7 => ?_)
      · refine V_iconst (v := (0 : Int32)) C dX0_mayGoOn_50 (by decide) ?_
        exact V_zreturnI C dX0_mayGoOn_51 (Or.inl rfl) (by first | exact ⟨bI.f (fun q => absurd ((Stp1_ext hz).mp q).1 (by assumption)), rfl⟩ | exact ⟨bI.f (fun q => ((Stp1_ext hz).mp q).2.elim (by assumption) (by assumption)), rfl⟩)
      · refine V_iconst (v := (1 : Int32)) C dX0_mayGoOn_46 (by decide) ?_
        refine V_goto (tgt := 51) C dX0_mayGoOn_47 (by decide) ?_
        exact V_zreturnI C dX0_mayGoOn_51 (Or.inr rfl) ⟨bI.t ((Stp1_ext hz).mpr ⟨by assumption, by first | exact Or.inl (by assumption) | exact Or.inr (by assumption)⟩), rfl⟩
def q_X0_countOnwards_t (z : Nat) (S : Nat) (to : Nat) (X : Mem) (d : Nat) (P : Nat → Nat) : Int32 → Mem → Prop := fun v X' => ∃ T, X' = ma X 67 T ∧ (∀ k, k < z → T k = X 67 k) ∧ v = nI (tot (wTo (tC X) to) d P z)
def q_X0_countOver_t (a : Nat) (z : Nat) (S : Nat) (to : Nat) (X : Mem) (d : Nat) (P : Nat → Nat) : Int32 → Mem → Prop := fun v X' => ∃ T, X' = ma X 67 T ∧ (∀ k, k < z → T k = X 67 k) ∧ v = nI ((wTo (tC X) to) (ext1 P z a) (z + 1) + tot (wTo (tC X) to) (d - 1) (ext1 P z a) (z + 1))
set_option maxHeartbeats 4000000 in
set_option maxRecDepth 100000 in
theorem k_X0_countOver_t (w : Wt) (l : Launch) (a : Nat) (z : Nat) (S : Nat) (to : Nat) (X : Mem) (d : Nat) (P : Nat → Nat) (hzd : z + d = 5) (hd : 1 ≤ d) (hz : 1 ≤ z) (ha : a < 10) (hP : PA X 67 P z) (hS : Seen P z S) (hA : Al (tC X) (ext1 P z a) (z + 1)) (hto : to < 10) (hK : ∀ d1, d1 < d → ∀ (z S to : Nat) (X : Mem) (P : Nat → Nat), z + d1 = 5 → 1 ≤ z → PA X 67 P z → Seen P z S → Al (tC X) P z → to < 10 → CtI w l yX0_countOnwards cX0_countOnwards 6 (some .int) (9 + 2 * d1) (300 + 50 * d1) [.ref (w.2.1 66), .int (nI z), .int (nI S), .int (nI to)] X (q_X0_countOnwards_t z S to X d1 P)) : CtI w l yX0_countOver cX0_countOver 6 (some .int) (8 + 2 * d) (275 + 50 * d) [.ref (w.2.1 66), .int (nI a), .int (nI z), .int (nI S), .int (nI to)] X (q_X0_countOver_t a z S to X d P) := by
  have hS1 := hS.1
  refine CtI_of (by decide +kernel) (Nat.le_of_ble_eq_true rfl) (List.forall_mem_cons.mpr ⟨rfl, (List.forall_mem_cons.mpr ⟨rfl, (List.forall_mem_cons.mpr ⟨rfl, (List.forall_mem_cons.mpr ⟨rfl, (List.forall_mem_cons.mpr ⟨rfl, (fun _ h => nomatch h)⟩)⟩)⟩)⟩)⟩) (ls := [some (.ref (w.2.1 66)), some (.int (nI a)), some (.int (nI z)), some (.int (nI S)), some (.int (nI to)), none]) rfl (args := (#[.ref (w.2.1 66), .int (nI a), .int (nI z), .int (nI S), .int (nI to)] : Array Value)) rfl (own := RX0) rfl ?_
  intro p e s m below meth c C
  refine V_aload_n C dX0_countOver_0 rfl ?_
  refine V_getr C fl_X0_9 dX0_countOver_1 (by decide) sh_66 rfl ?_
  refine V_iload_n C dX0_countOver_4 rfl ?_
  refine V_iload_n C dX0_countOver_5 rfl ?_
  refine V_iastN (p0 := 67) (o := z) (X1 := (ma X 67 (upd (X 67) z (nI a)))) C dX0_countOver_6 sh_67 (by decide) (by omega) (by decide) rfl ?_
  refine V_iload C dX0_countOver_7 rfl ?_
  refine V_iconst (v := (-1 : Int32)) C dX0_countOver_9 (by decide) ?_
  refine V_icmp_ne (x := nI to) (y := (-1 : Int32)) (tgt := 28) C dX0_countOver_10 (by decide) (fun _ => ?_) (fun h => absurd h (ne_m1 hto))
  refine V_iload_n C dX0_countOver_28 rfl ?_
  refine V_iload C dX0_countOver_29 rfl ?_
  refine V_icmp_neN (a := a) (b := to) (tgt := 38) C dX0_countOver_31 (by decide) (by omega) (by omega) (fun h31_2 => ?_) (fun h31_2 => ?_)
  · refine V_iconst (v := (0 : Int32)) C dX0_countOver_38 (by decide) ?_
    refine V_istore (ls1 := [some (.ref (w.2.1 66)), some (.int (nI a)), some (.int (nI z)), some (.int (nI S)), some (.int (nI to)), some (.int (0 : Int32))]) C dX0_countOver_39 (by decide) rfl ?_
    refine V_iload C dX0_countOver_41 rfl ?_
    refine V_if_eq (x := (0 : Int32)) (tgt := 50) C dX0_countOver_43 (by decide) (fun _ => ?_) (fun h => absurd h (by decide))
    refine V_iconst (v := (0 : Int32)) C dX0_countOver_50 (by decide) ?_
    refine V_aload_n C dX0_countOver_51 rfl ?_
    refine V_iload_n C dX0_countOver_52 rfl ?_
    refine V_iconst (v := (1 : Int32)) C dX0_countOver_53 (by decide) ?_
    refine V_iaddN (a := z) (b := 1) C dX0_countOver_54 ?_
    refine V_iload_n C dX0_countOver_55 rfl ?_
    refine V_iconst (v := (1 : Int32)) C dX0_countOver_56 (by decide) ?_
    refine V_iload_n C dX0_countOver_57 rfl ?_
    refine V_ishl C dX0_countOver_58 ?_
    refine V_eqi (y := nI (2 ^ a)) (shl1 (by omega)) ?_
    refine V_ior C dX0_countOver_59 ?_
    refine V_eqi (y := nI (S ||| (2 ^ a))) (nI_or _ _) ?_
    refine V_iload C dX0_countOver_60 rfl ?_
    refine V_callVI C [.int (nI (z + 1)), .int (nI (S ||| (2 ^ a))), .int (nI to)] mi_X0_23 (hK (d - 1) (by omega) (z + 1) (S ||| (2 ^ a)) to (ma X 67 (upd (X 67) z (nI a))) (ext1 P z a) (by omega) (by omega) (fun k hk => by rw [ma_eq]; exact PAr_ext (fun k hk => hP k hk) (by omega) k hk) (Seen_ext hS (by omega)) (by rw [tC_ma (by decide)]; exact hA) hto) dX0_countOver_62 sh_66 (by decide) rfl rfl rfl (Nat.le_of_ble_eq_true rfl) (show ((9 + 2 * (d - 1))) + 1 ≤ (8 + 2 * d) from by omega) (show 8 + (6 + 11) + ((300 + 50 * (d - 1))) ≤ (275 + 50 * d) from by omega) ⟨Nat.le_refl _, Nat.le_refl _⟩ (fun v4 X4 q4 => ?_)
    obtain ⟨T4, eX4, hT4, ev4⟩ := q4
    rw [ma_ma] at eX4
    subst X4
    try simp (disch := decide) only [oC_ma, gC_ma, oM_ma, gM_ma, tC_ma, tM_ma, ma_eq, ma_ne] at hT4
    try simp (disch := decide) only [oC_ma, gC_ma, oM_ma, gM_ma, tC_ma, tM_ma, ma_eq, ma_ne] at ev4
    subst v4
    refine V_iaddN (a := 0) (b := tot (wTo (tC X) to) (d - 1) (ext1 P z a) (z + 1)) C dX0_countOver_65 ?_
    exact V_ireturnI C dX0_countOver_66 ⟨T4, rfl, fun k hk => (hT4 k (by omega)).trans (upd_ne (by omega)), congrArg nI (by rw [wTo_n (by assumption)])⟩
  · refine V_iconst (v := (1 : Int32)) C dX0_countOver_34 (by decide) ?_
    refine V_goto (tgt := 39) C dX0_countOver_35 (by decide) ?_
    refine V_istore (ls1 := [some (.ref (w.2.1 66)), some (.int (nI a)), some (.int (nI z)), some (.int (nI S)), some (.int (nI to)), some (.int (1 : Int32))]) C dX0_countOver_39 (by decide) rfl ?_
    refine V_iload C dX0_countOver_41 rfl ?_
    refine V_if_eq (x := (1 : Int32)) (tgt := 50) C dX0_countOver_43 (by decide) (fun h => absurd h (by decide)) (fun _ => ?_)
    refine V_iconst (v := (1 : Int32)) C dX0_countOver_46 (by decide) ?_
    refine V_goto (tgt := 51) C dX0_countOver_47 (by decide) ?_
    refine V_aload_n C dX0_countOver_51 rfl ?_
    refine V_iload_n C dX0_countOver_52 rfl ?_
    refine V_iconst (v := (1 : Int32)) C dX0_countOver_53 (by decide) ?_
    refine V_iaddN (a := z) (b := 1) C dX0_countOver_54 ?_
    refine V_iload_n C dX0_countOver_55 rfl ?_
    refine V_iconst (v := (1 : Int32)) C dX0_countOver_56 (by decide) ?_
    refine V_iload_n C dX0_countOver_57 rfl ?_
    refine V_ishl C dX0_countOver_58 ?_
    refine V_eqi (y := nI (2 ^ a)) (shl1 (by omega)) ?_
    refine V_ior C dX0_countOver_59 ?_
    refine V_eqi (y := nI (S ||| (2 ^ a))) (nI_or _ _) ?_
    refine V_iload C dX0_countOver_60 rfl ?_
    refine V_callVI C [.int (nI (z + 1)), .int (nI (S ||| (2 ^ a))), .int (nI to)] mi_X0_23 (hK (d - 1) (by omega) (z + 1) (S ||| (2 ^ a)) to (ma X 67 (upd (X 67) z (nI a))) (ext1 P z a) (by omega) (by omega) (fun k hk => by rw [ma_eq]; exact PAr_ext (fun k hk => hP k hk) (by omega) k hk) (Seen_ext hS (by omega)) (by rw [tC_ma (by decide)]; exact hA) hto) dX0_countOver_62 sh_66 (by decide) rfl rfl rfl (Nat.le_of_ble_eq_true rfl) (show ((9 + 2 * (d - 1))) + 1 ≤ (8 + 2 * d) from by omega) (show 8 + (6 + 11) + ((300 + 50 * (d - 1))) ≤ (275 + 50 * d) from by omega) ⟨Nat.le_refl _, Nat.le_refl _⟩ (fun v6 X6 q6 => ?_)
    obtain ⟨T6, eX6, hT6, ev6⟩ := q6
    rw [ma_ma] at eX6
    subst X6
    try simp (disch := decide) only [oC_ma, gC_ma, oM_ma, gM_ma, tC_ma, tM_ma, ma_eq, ma_ne] at hT6
    try simp (disch := decide) only [oC_ma, gC_ma, oM_ma, gM_ma, tC_ma, tM_ma, ma_eq, ma_ne] at ev6
    subst v6
    refine V_iaddN (a := 1) (b := tot (wTo (tC X) to) (d - 1) (ext1 P z a) (z + 1)) C dX0_countOver_65 ?_
    exact V_ireturnI C dX0_countOver_66 ⟨T6, rfl, fun k hk => (hT6 k (by omega)).trans (upd_ne (by omega)), congrArg nI (by rw [wTo_y hA (by assumption)])⟩
set_option maxHeartbeats 4000000 in
set_option maxRecDepth 100000 in
theorem k_X0_countOnwards_t (w : Wt) (l : Launch) (z : Nat) (S : Nat) (to : Nat) (X : Mem) (d : Nat) (P : Nat → Nat) (hzd : z + d = 5) (hz : 1 ≤ z) (hP : PA X 67 P z) (hS : Seen P z S) (hA : Al (tC X) P z) (hto : to < 10) : CtI w l yX0_countOnwards cX0_countOnwards 6 (some .int) (9 + 2 * d) (300 + 50 * d) [.ref (w.2.1 66), .int (nI z), .int (nI S), .int (nI to)] X (q_X0_countOnwards_t z S to X d P) := by
  induction d using Nat.strongRecOn generalizing z S to X P with
  | ind d IH =>
    have hS1 := hS.1
    refine CtI_of (by decide +kernel) (Nat.le_of_ble_eq_true rfl) (List.forall_mem_cons.mpr ⟨rfl, (List.forall_mem_cons.mpr ⟨rfl, (List.forall_mem_cons.mpr ⟨rfl, (List.forall_mem_cons.mpr ⟨rfl, (fun _ h => nomatch h)⟩)⟩)⟩)⟩) (ls := [some (.ref (w.2.1 66)), some (.int (nI z)), some (.int (nI S)), some (.int (nI to)), none, none]) rfl (args := (#[.ref (w.2.1 66), .int (nI z), .int (nI S), .int (nI to)] : Array Value)) rfl (own := RX0) rfl ?_
    intro p e s m below meth c C
    refine V_iload_n C dX0_countOnwards_0 rfl ?_
    refine V_iconst (v := (5 : Int32)) C dX0_countOnwards_1 (by decide) ?_
    refine V_icmp_ltN (a := z) (b := 5) (tgt := 7) C dX0_countOnwards_2 (by decide) (by omega) (by omega) (fun h2_1 => ?_) (fun h2_1 => ?_)
    · refine V_iconst (v := (0 : Int32)) C dX0_countOnwards_7 (by decide) ?_
      refine V_istore (ls1 := [some (.ref (w.2.1 66)), some (.int (nI z)), some (.int (nI S)), some (.int (nI to)), some (.int (0 : Int32)), none]) C dX0_countOnwards_8 (by decide) rfl ?_
      refine V_iconst (v := (0 : Int32)) C dX0_countOnwards_10 (by decide) ?_
      refine V_istore (ls1 := [some (.ref (w.2.1 66)), some (.int (nI z)), some (.int (nI S)), some (.int (nI to)), some (.int (0 : Int32)), some (.int (0 : Int32))]) C dX0_countOnwards_11 (by decide) rfl ?_
      have L13 : ∀ (fu : Nat) (a : Nat) (fo : Nat) (T : Nat → Int32), 10 - a < fu → (a ≤ 10) → (∀ k, k < z → T k = X 67 k) → (fo = sumN (fun b => (wTo (tC X) to) (ext1 P z b) (z + 1) + tot (wTo (tC X) to) (d - 1) (ext1 P z b) (z + 1)) a) → V p l e ({ frames := (9 + 2 * d), cells := 0, slots := 0, locals := (300 + 50 * d) } : Room) s m (#[.ref (w.2.1 66), .int (nI z), .int (nI S), .int (nI to)] : Array Value) below meth c w 6 0 0 (EI w below s (#[.ref (w.2.1 66), .int (nI z), .int (nI S), .int (nI to)] : Array Value) 0 0 (q_X0_countOnwards_t z S to X d P)) 13 [some (.ref (w.2.1 66)), some (.int (nI z)), some (.int (nI S)), some (.int (nI to)), some (.int (nI fo)), some (.int (nI a))] [] (ma X 67 T) := by
        intro fu
        induction fu with
        | zero => intro a fo T hm; exact absurd hm (Nat.not_lt_zero _)
        | succ fu ih13 =>
          intro a fo T hm13 ha hT hfo
          refine V_iload C dX0_countOnwards_13 rfl ?_
          refine V_bipush (v := (10 : Int32)) C dX0_countOnwards_15 (by decide) ?_
          refine V_icmp_geN (a := a) (b := 10) (tgt := 59) C dX0_countOnwards_17 (by decide) (by omega) (by omega) (fun h17_2 => ?_) (fun h17_2 => ?_)
          · refine V_iload C dX0_countOnwards_59 rfl ?_
            exact V_ireturnI C dX0_countOnwards_61 ⟨T, rfl, hT, congrArg nI (cnt_end hzd (by omega) (by omega) ha hfo)⟩
          · refine V_iload_n C dX0_countOnwards_20 rfl ?_
            refine V_iload C dX0_countOnwards_21 rfl ?_
            refine V_callSI C [.int (nI S), .int (nI a)] ms_X0_27 (k_X9_isIn w l S a (ma X 67 T) (by omega) (by omega)) dX0_countOnwards_23 rfl rfl (Nat.le_of_ble_eq_true rfl) (show (1) + 1 ≤ (9 + 2 * d) from by omega) (show 8 + (2 + 11) + (20) ≤ (300 + 50 * d) from by omega) ⟨Nat.le_refl _, Nat.le_refl _⟩ (fun v3 X3 q3 => ?_)
            obtain ⟨hb3, eX3⟩ := q3; subst X3
            try simp (disch := decide) only [oC_ma, gC_ma, oM_ma, gM_ma, tC_ma, tM_ma, ma_eq, ma_ne] at hb3
            refine V_if_neB (tgt := 53) C hb3 dX0_countOnwards_26 (by decide) (fun h26_4 => ?_) (fun h26_4 => ?_)
            · refine V_iincN (a := a) (ls1 := [some (.ref (w.2.1 66)), some (.int (nI z)), some (.int (nI S)), some (.int (nI to)), some (.int (nI fo)), some (.int (nI (a + 1)))]) C dX0_countOnwards_53 rfl (by decide) rfl ?_
              refine V_goto (tgt := 13) C dX0_countOnwards_56 (by decide) ?_
              exact ih13 (a + 1) fo T (by omega) (by omega) hT (by first | exact cnt_0 wTo_z hfo (not_Al_seen hz hS (by assumption)) | exact cnt_0 wTo_z hfo (not_Al_step hz (by assumption)))
            · refine V_aload_n C dX0_countOnwards_29 rfl ?_
              refine V_iload_n C dX0_countOnwards_30 rfl ?_
              refine V_iload C dX0_countOnwards_31 rfl ?_
              refine V_callVI C [.int (nI z), .int (nI a)] mi_X0_31 (k_X0_mayGoOn w l z a (ma X 67 T) P (fun k hk => by rw [ma_eq, hT k hk]; exact hP k hk) hz (by omega) (by omega)) dX0_countOnwards_33 sh_66 (by decide) rfl rfl rfl (Nat.le_of_ble_eq_true rfl) (show (2) + 1 ≤ (9 + 2 * d) from by omega) (show 8 + (4 + 11) + (43) ≤ (300 + 50 * d) from by omega) ⟨Nat.le_refl _, Nat.le_refl _⟩ (fun v5 X5 q5 => ?_)
              obtain ⟨hb5, eX5⟩ := q5; subst X5
              try simp (disch := decide) only [oC_ma, gC_ma, oM_ma, gM_ma, tC_ma, tM_ma, ma_eq, ma_ne] at hb5
              refine V_if_eqB (tgt := 53) C hb5 dX0_countOnwards_36 (by decide) (fun h36_6 => ?_) (fun h36_6 => ?_)
              · refine V_iincN (a := a) (ls1 := [some (.ref (w.2.1 66)), some (.int (nI z)), some (.int (nI S)), some (.int (nI to)), some (.int (nI fo)), some (.int (nI (a + 1)))]) C dX0_countOnwards_53 rfl (by decide) rfl ?_
                refine V_goto (tgt := 13) C dX0_countOnwards_56 (by decide) ?_
                exact ih13 (a + 1) fo T (by omega) (by omega) hT (by first | exact cnt_0 wTo_z hfo (not_Al_seen hz hS (by assumption)) | exact cnt_0 wTo_z hfo (not_Al_step hz (by assumption)))
              · refine V_iload C dX0_countOnwards_39 rfl ?_
                refine V_aload_n C dX0_countOnwards_41 rfl ?_
                refine V_iload C dX0_countOnwards_42 rfl ?_
                refine V_iload_n C dX0_countOnwards_44 rfl ?_
                refine V_iload_n C dX0_countOnwards_45 rfl ?_
                refine V_iload_n C dX0_countOnwards_46 rfl ?_
                refine V_callVI C [.int (nI a), .int (nI z), .int (nI S), .int (nI to)] mi_X0_34 (k_X0_countOver_t w l a z S to (ma X 67 T) d P (by omega) (by omega) hz (by omega) (fun k hk => by rw [ma_eq, hT k hk]; exact hP k hk) hS (by rw [tC_ma (by decide)]; exact Al_yes hz hA hS (by assumption) (by assumption)) hto IH) dX0_countOnwards_47 sh_66 (by decide) rfl rfl rfl (Nat.le_of_ble_eq_true rfl) (show ((8 + 2 * d)) + 1 ≤ (9 + 2 * d) from by omega) (show 8 + (6 + 11) + ((275 + 50 * d)) ≤ (300 + 50 * d) from by omega) ⟨Nat.le_refl _, Nat.le_refl _⟩ (fun v7 X7 q7 => ?_)
                obtain ⟨T7, eX7, hT7, ev7⟩ := q7
                rw [ma_ma] at eX7
                subst X7
                try simp (disch := decide) only [oC_ma, gC_ma, oM_ma, gM_ma, tC_ma, tM_ma, ma_eq, ma_ne] at hT7
                try simp (disch := decide) only [oC_ma, gC_ma, oM_ma, gM_ma, tC_ma, tM_ma, ma_eq, ma_ne] at ev7
                subst v7
                refine V_iaddN (a := fo) (b := (wTo (tC X) to) (ext1 P z a) (z + 1) + tot (wTo (tC X) to) (d - 1) (ext1 P z a) (z + 1)) C dX0_countOnwards_50 ?_
                refine V_istore (ls1 := [some (.ref (w.2.1 66)), some (.int (nI z)), some (.int (nI S)), some (.int (nI to)), some (.int (nI (fo + ((wTo (tC X) to) (ext1 P z a) (z + 1) + tot (wTo (tC X) to) (d - 1) (ext1 P z a) (z + 1))))), some (.int (nI a))]) C dX0_countOnwards_51 (by decide) rfl ?_
                refine V_iincN (a := a) (ls1 := [some (.ref (w.2.1 66)), some (.int (nI z)), some (.int (nI S)), some (.int (nI to)), some (.int (nI (fo + ((wTo (tC X) to) (ext1 P z a) (z + 1) + tot (wTo (tC X) to) (d - 1) (ext1 P z a) (z + 1))))), some (.int (nI (a + 1)))]) C dX0_countOnwards_53 rfl (by decide) rfl ?_
                refine V_goto (tgt := 13) C dX0_countOnwards_56 (by decide) ?_
                exact ih13 (a + 1) (fo + ((wTo (tC X) to) (ext1 P z a) (z + 1) + tot (wTo (tC X) to) (d - 1) (ext1 P z a) (z + 1))) T7 (by omega) (by omega) (fun k hk => (hT7 k (by omega)).trans (hT k hk)) (by rw [hfo]; rfl)
      refine V_eqX (X1 := (ma X 67 (X 67))) (ma_id rfl) ?_
      exact L13 _ 0 0 (X 67) (Nat.lt_succ_self _) (by omega) (fun _ _ => rfl) rfl
    · refine V_iconst (v := (0 : Int32)) C dX0_countOnwards_5 (by decide) ?_
      exact V_ireturnI C dX0_countOnwards_6 ⟨X 67, (ma_self X 67).symm, fun _ _ => rfl, tot_none (by omega)⟩
def q_X0_countOnwards_r (z : Nat) (S : Nat) (X : Mem) (d : Nat) (P : Nat → Nat) (hv : Nat → Int32) : Int32 → Mem → Prop := fun v X' => ∃ T, X' = ma X 67 T ∧ (∀ k, k < z → T k = X 67 k) ∧ v = nI (tot (wRf (tC X) hv (X 64)) d P z)
def q_X0_countOver_r (a : Nat) (z : Nat) (S : Nat) (X : Mem) (d : Nat) (P : Nat → Nat) (hv : Nat → Int32) : Int32 → Mem → Prop := fun v X' => ∃ T, X' = ma X 67 T ∧ (∀ k, k < z → T k = X 67 k) ∧ v = nI ((wRf (tC X) hv (X 64)) (ext1 P z a) (z + 1) + tot (wRf (tC X) hv (X 64)) (d - 1) (ext1 P z a) (z + 1))
set_option maxHeartbeats 4000000 in
set_option maxRecDepth 100000 in
theorem k_X0_countOver_r (w : Wt) (l : Launch) (a : Nat) (z : Nat) (S : Nat) (X : Mem) (d : Nat) (P : Nat → Nat) (hv : Nat → Int32) (hzd : z + d = 5) (hd : 1 ≤ d) (hz : 1 ≤ z) (ha : a < 10) (hP : PA X 67 P z) (hS : Seen P z S) (hA : Al (tC X) (ext1 P z a) (z + 1)) (hPV : PVInv (X 64)) (hND : ND hv (X 64) (X 65)) (hK : ∀ d1, d1 < d → ∀ (z S : Nat) (X : Mem) (P : Nat → Nat), z + d1 = 5 → 1 ≤ z → PA X 67 P z → Seen P z S → Al (tC X) P z → PVInv (X 64) → ND hv (X 64) (X 65) → CtI w l yX0_countOnwards cX0_countOnwards 6 (some .int) (9 + 2 * d1) (300 + 50 * d1) [.ref (w.2.1 66), .int (nI z), .int (nI S), .int (-1 : Int32)] X (q_X0_countOnwards_r z S X d1 P hv)) : CtI w l yX0_countOver cX0_countOver 6 (some .int) (8 + 2 * d) (275 + 50 * d) [.ref (w.2.1 66), .int (nI a), .int (nI z), .int (nI S), .int (-1 : Int32)] X (q_X0_countOver_r a z S X d P hv) := by
  have hS1 := hS.1
  refine CtI_of (by decide +kernel) (Nat.le_of_ble_eq_true rfl) (List.forall_mem_cons.mpr ⟨rfl, (List.forall_mem_cons.mpr ⟨rfl, (List.forall_mem_cons.mpr ⟨rfl, (List.forall_mem_cons.mpr ⟨rfl, (List.forall_mem_cons.mpr ⟨rfl, (fun _ h => nomatch h)⟩)⟩)⟩)⟩)⟩) (ls := [some (.ref (w.2.1 66)), some (.int (nI a)), some (.int (nI z)), some (.int (nI S)), some (.int (-1 : Int32)), none]) rfl (args := (#[.ref (w.2.1 66), .int (nI a), .int (nI z), .int (nI S), .int (-1 : Int32)] : Array Value)) rfl (own := RX0) rfl ?_
  intro p e s m below meth c C
  refine V_aload_n C dX0_countOver_0 rfl ?_
  refine V_getr C fl_X0_9 dX0_countOver_1 (by decide) sh_66 rfl ?_
  refine V_iload_n C dX0_countOver_4 rfl ?_
  refine V_iload_n C dX0_countOver_5 rfl ?_
  refine V_iastN (p0 := 67) (o := z) (X1 := (ma X 67 (upd (X 67) z (nI a)))) C dX0_countOver_6 sh_67 (by decide) (by omega) (by decide) rfl ?_
  refine V_iload C dX0_countOver_7 rfl ?_
  refine V_iconst (v := (-1 : Int32)) C dX0_countOver_9 (by decide) ?_
  refine V_icmp_ne (x := (-1 : Int32)) (y := (-1 : Int32)) (tgt := 28) C dX0_countOver_10 (by decide) (fun h => absurd rfl h) (fun _ => ?_)
  refine V_aload_n C dX0_countOver_13 rfl ?_
  refine V_getr C fl_X0_19 dX0_countOver_14 (by decide) sh_66 rfl ?_
  refine V_aload_n C dX0_countOver_17 rfl ?_
  refine V_getr C fl_X0_9 dX0_countOver_18 (by decide) sh_66 rfl ?_
  refine V_iload_n C dX0_countOver_21 rfl ?_
  refine V_callVI C [.ref (w.2.1 67), .int (nI z)] mi_X0_38 (k_X3_isRefusedAt w l 67 z (ma X 67 (upd (X 67) z (nI a))) 5 (ext1 P z a) hv sh_67 (by decide) (by decide) (fun k hk => by rw [ma_eq]; exact PAr_ext (fun k hk => hP k hk) (by omega) k hk) (by omega) hPV hND hz) dX0_countOver_22 sh_63 (by decide) rfl rfl rfl (Nat.le_of_ble_eq_true rfl) (show (4) + 1 ≤ (8 + 2 * d) from by omega) (show 8 + (4 + 11) + (86) ≤ (275 + 50 * d) from by omega) ⟨Nat.le_refl _, Nat.le_refl _⟩ (fun v2 X2 q2 => ?_)
  obtain ⟨hb2, eX2⟩ := q2; subst X2
  try simp (disch := decide) only [oC_ma, gC_ma, oM_ma, gM_ma, tC_ma, tM_ma, ma_eq, ma_ne] at hb2
  refine V_goto (tgt := 39) C dX0_countOver_25 (by decide) ?_
  refine V_istore (ls1 := [some (.ref (w.2.1 66)), some (.int (nI a)), some (.int (nI z)), some (.int (nI S)), some (.int (-1 : Int32)), some (.int v2)]) C dX0_countOver_39 (by decide) rfl ?_
  refine V_iload C dX0_countOver_41 rfl ?_
  refine V_if_eqB (tgt := 50) C hb2 dX0_countOver_43 (by decide) (fun h43_3 => ?_) (fun h43_3 => ?_)
  · refine V_iconst (v := (0 : Int32)) C dX0_countOver_50 (by decide) ?_
    refine V_aload_n C dX0_countOver_51 rfl ?_
    refine V_iload_n C dX0_countOver_52 rfl ?_
    refine V_iconst (v := (1 : Int32)) C dX0_countOver_53 (by decide) ?_
    refine V_iaddN (a := z) (b := 1) C dX0_countOver_54 ?_
    refine V_iload_n C dX0_countOver_55 rfl ?_
    refine V_iconst (v := (1 : Int32)) C dX0_countOver_56 (by decide) ?_
    refine V_iload_n C dX0_countOver_57 rfl ?_
    refine V_ishl C dX0_countOver_58 ?_
    refine V_eqi (y := nI (2 ^ a)) (shl1 (by omega)) ?_
    refine V_ior C dX0_countOver_59 ?_
    refine V_eqi (y := nI (S ||| (2 ^ a))) (nI_or _ _) ?_
    refine V_iload C dX0_countOver_60 rfl ?_
    refine V_callVI C [.int (nI (z + 1)), .int (nI (S ||| (2 ^ a))), .int (-1 : Int32)] mi_X0_23 (hK (d - 1) (by omega) (z + 1) (S ||| (2 ^ a)) (ma X 67 (upd (X 67) z (nI a))) (ext1 P z a) (by omega) (by omega) (fun k hk => by rw [ma_eq]; exact PAr_ext (fun k hk => hP k hk) (by omega) k hk) (Seen_ext hS (by omega)) (by rw [tC_ma (by decide)]; exact hA) hPV hND) dX0_countOver_62 sh_66 (by decide) rfl rfl rfl (Nat.le_of_ble_eq_true rfl) (show ((9 + 2 * (d - 1))) + 1 ≤ (8 + 2 * d) from by omega) (show 8 + (6 + 11) + ((300 + 50 * (d - 1))) ≤ (275 + 50 * d) from by omega) ⟨Nat.le_refl _, Nat.le_refl _⟩ (fun v4 X4 q4 => ?_)
    obtain ⟨T4, eX4, hT4, ev4⟩ := q4
    rw [ma_ma] at eX4
    subst X4
    try simp (disch := decide) only [oC_ma, gC_ma, oM_ma, gM_ma, tC_ma, tM_ma, ma_eq, ma_ne] at hT4
    try simp (disch := decide) only [oC_ma, gC_ma, oM_ma, gM_ma, tC_ma, tM_ma, ma_eq, ma_ne] at ev4
    subst v4
    refine V_iaddN (a := 0) (b := tot (wRf (tC X) hv (X 64)) (d - 1) (ext1 P z a) (z + 1)) C dX0_countOver_65 ?_
    exact V_ireturnI C dX0_countOver_66 ⟨T4, rfl, fun k hk => (hT4 k (by omega)).trans (upd_ne (by omega)), congrArg nI (by rw [wRf_n (by assumption)])⟩
  · refine V_iconst (v := (1 : Int32)) C dX0_countOver_46 (by decide) ?_
    refine V_goto (tgt := 51) C dX0_countOver_47 (by decide) ?_
    refine V_aload_n C dX0_countOver_51 rfl ?_
    refine V_iload_n C dX0_countOver_52 rfl ?_
    refine V_iconst (v := (1 : Int32)) C dX0_countOver_53 (by decide) ?_
    refine V_iaddN (a := z) (b := 1) C dX0_countOver_54 ?_
    refine V_iload_n C dX0_countOver_55 rfl ?_
    refine V_iconst (v := (1 : Int32)) C dX0_countOver_56 (by decide) ?_
    refine V_iload_n C dX0_countOver_57 rfl ?_
    refine V_ishl C dX0_countOver_58 ?_
    refine V_eqi (y := nI (2 ^ a)) (shl1 (by omega)) ?_
    refine V_ior C dX0_countOver_59 ?_
    refine V_eqi (y := nI (S ||| (2 ^ a))) (nI_or _ _) ?_
    refine V_iload C dX0_countOver_60 rfl ?_
    refine V_callVI C [.int (nI (z + 1)), .int (nI (S ||| (2 ^ a))), .int (-1 : Int32)] mi_X0_23 (hK (d - 1) (by omega) (z + 1) (S ||| (2 ^ a)) (ma X 67 (upd (X 67) z (nI a))) (ext1 P z a) (by omega) (by omega) (fun k hk => by rw [ma_eq]; exact PAr_ext (fun k hk => hP k hk) (by omega) k hk) (Seen_ext hS (by omega)) (by rw [tC_ma (by decide)]; exact hA) hPV hND) dX0_countOver_62 sh_66 (by decide) rfl rfl rfl (Nat.le_of_ble_eq_true rfl) (show ((9 + 2 * (d - 1))) + 1 ≤ (8 + 2 * d) from by omega) (show 8 + (6 + 11) + ((300 + 50 * (d - 1))) ≤ (275 + 50 * d) from by omega) ⟨Nat.le_refl _, Nat.le_refl _⟩ (fun v5 X5 q5 => ?_)
    obtain ⟨T5, eX5, hT5, ev5⟩ := q5
    rw [ma_ma] at eX5
    subst X5
    try simp (disch := decide) only [oC_ma, gC_ma, oM_ma, gM_ma, tC_ma, tM_ma, ma_eq, ma_ne] at hT5
    try simp (disch := decide) only [oC_ma, gC_ma, oM_ma, gM_ma, tC_ma, tM_ma, ma_eq, ma_ne] at ev5
    subst v5
    refine V_iaddN (a := 1) (b := tot (wRf (tC X) hv (X 64)) (d - 1) (ext1 P z a) (z + 1)) C dX0_countOver_65 ?_
    exact V_ireturnI C dX0_countOver_66 ⟨T5, rfl, fun k hk => (hT5 k (by omega)).trans (upd_ne (by omega)), congrArg nI (by rw [wRf_y hA (by assumption)])⟩
set_option maxHeartbeats 4000000 in
set_option maxRecDepth 100000 in
theorem k_X0_countOnwards_r (w : Wt) (l : Launch) (z : Nat) (S : Nat) (X : Mem) (d : Nat) (P : Nat → Nat) (hv : Nat → Int32) (hzd : z + d = 5) (hz : 1 ≤ z) (hP : PA X 67 P z) (hS : Seen P z S) (hA : Al (tC X) P z) (hPV : PVInv (X 64)) (hND : ND hv (X 64) (X 65)) : CtI w l yX0_countOnwards cX0_countOnwards 6 (some .int) (9 + 2 * d) (300 + 50 * d) [.ref (w.2.1 66), .int (nI z), .int (nI S), .int (-1 : Int32)] X (q_X0_countOnwards_r z S X d P hv) := by
  induction d using Nat.strongRecOn generalizing z S X P with
  | ind d IH =>
    have hS1 := hS.1
    refine CtI_of (by decide +kernel) (Nat.le_of_ble_eq_true rfl) (List.forall_mem_cons.mpr ⟨rfl, (List.forall_mem_cons.mpr ⟨rfl, (List.forall_mem_cons.mpr ⟨rfl, (List.forall_mem_cons.mpr ⟨rfl, (fun _ h => nomatch h)⟩)⟩)⟩)⟩) (ls := [some (.ref (w.2.1 66)), some (.int (nI z)), some (.int (nI S)), some (.int (-1 : Int32)), none, none]) rfl (args := (#[.ref (w.2.1 66), .int (nI z), .int (nI S), .int (-1 : Int32)] : Array Value)) rfl (own := RX0) rfl ?_
    intro p e s m below meth c C
    refine V_iload_n C dX0_countOnwards_0 rfl ?_
    refine V_iconst (v := (5 : Int32)) C dX0_countOnwards_1 (by decide) ?_
    refine V_icmp_ltN (a := z) (b := 5) (tgt := 7) C dX0_countOnwards_2 (by decide) (by omega) (by omega) (fun h2_1 => ?_) (fun h2_1 => ?_)
    · refine V_iconst (v := (0 : Int32)) C dX0_countOnwards_7 (by decide) ?_
      refine V_istore (ls1 := [some (.ref (w.2.1 66)), some (.int (nI z)), some (.int (nI S)), some (.int (-1 : Int32)), some (.int (0 : Int32)), none]) C dX0_countOnwards_8 (by decide) rfl ?_
      refine V_iconst (v := (0 : Int32)) C dX0_countOnwards_10 (by decide) ?_
      refine V_istore (ls1 := [some (.ref (w.2.1 66)), some (.int (nI z)), some (.int (nI S)), some (.int (-1 : Int32)), some (.int (0 : Int32)), some (.int (0 : Int32))]) C dX0_countOnwards_11 (by decide) rfl ?_
      have L13 : ∀ (fu : Nat) (a : Nat) (fo : Nat) (T : Nat → Int32), 10 - a < fu → (a ≤ 10) → (∀ k, k < z → T k = X 67 k) → (fo = sumN (fun b => (wRf (tC X) hv (X 64)) (ext1 P z b) (z + 1) + tot (wRf (tC X) hv (X 64)) (d - 1) (ext1 P z b) (z + 1)) a) → V p l e ({ frames := (9 + 2 * d), cells := 0, slots := 0, locals := (300 + 50 * d) } : Room) s m (#[.ref (w.2.1 66), .int (nI z), .int (nI S), .int (-1 : Int32)] : Array Value) below meth c w 6 0 0 (EI w below s (#[.ref (w.2.1 66), .int (nI z), .int (nI S), .int (-1 : Int32)] : Array Value) 0 0 (q_X0_countOnwards_r z S X d P hv)) 13 [some (.ref (w.2.1 66)), some (.int (nI z)), some (.int (nI S)), some (.int (-1 : Int32)), some (.int (nI fo)), some (.int (nI a))] [] (ma X 67 T) := by
        intro fu
        induction fu with
        | zero => intro a fo T hm; exact absurd hm (Nat.not_lt_zero _)
        | succ fu ih13 =>
          intro a fo T hm13 ha hT hfo
          refine V_iload C dX0_countOnwards_13 rfl ?_
          refine V_bipush (v := (10 : Int32)) C dX0_countOnwards_15 (by decide) ?_
          refine V_icmp_geN (a := a) (b := 10) (tgt := 59) C dX0_countOnwards_17 (by decide) (by omega) (by omega) (fun h17_2 => ?_) (fun h17_2 => ?_)
          · refine V_iload C dX0_countOnwards_59 rfl ?_
            exact V_ireturnI C dX0_countOnwards_61 ⟨T, rfl, hT, congrArg nI (cnt_end hzd (by omega) (by omega) ha hfo)⟩
          · refine V_iload_n C dX0_countOnwards_20 rfl ?_
            refine V_iload C dX0_countOnwards_21 rfl ?_
            refine V_callSI C [.int (nI S), .int (nI a)] ms_X0_27 (k_X9_isIn w l S a (ma X 67 T) (by omega) (by omega)) dX0_countOnwards_23 rfl rfl (Nat.le_of_ble_eq_true rfl) (show (1) + 1 ≤ (9 + 2 * d) from by omega) (show 8 + (2 + 11) + (20) ≤ (300 + 50 * d) from by omega) ⟨Nat.le_refl _, Nat.le_refl _⟩ (fun v3 X3 q3 => ?_)
            obtain ⟨hb3, eX3⟩ := q3; subst X3
            try simp (disch := decide) only [oC_ma, gC_ma, oM_ma, gM_ma, tC_ma, tM_ma, ma_eq, ma_ne] at hb3
            refine V_if_neB (tgt := 53) C hb3 dX0_countOnwards_26 (by decide) (fun h26_4 => ?_) (fun h26_4 => ?_)
            · refine V_iincN (a := a) (ls1 := [some (.ref (w.2.1 66)), some (.int (nI z)), some (.int (nI S)), some (.int (-1 : Int32)), some (.int (nI fo)), some (.int (nI (a + 1)))]) C dX0_countOnwards_53 rfl (by decide) rfl ?_
              refine V_goto (tgt := 13) C dX0_countOnwards_56 (by decide) ?_
              exact ih13 (a + 1) fo T (by omega) (by omega) hT (by first | exact cnt_0 wRf_z hfo (not_Al_seen hz hS (by assumption)) | exact cnt_0 wRf_z hfo (not_Al_step hz (by assumption)))
            · refine V_aload_n C dX0_countOnwards_29 rfl ?_
              refine V_iload_n C dX0_countOnwards_30 rfl ?_
              refine V_iload C dX0_countOnwards_31 rfl ?_
              refine V_callVI C [.int (nI z), .int (nI a)] mi_X0_31 (k_X0_mayGoOn w l z a (ma X 67 T) P (fun k hk => by rw [ma_eq, hT k hk]; exact hP k hk) hz (by omega) (by omega)) dX0_countOnwards_33 sh_66 (by decide) rfl rfl rfl (Nat.le_of_ble_eq_true rfl) (show (2) + 1 ≤ (9 + 2 * d) from by omega) (show 8 + (4 + 11) + (43) ≤ (300 + 50 * d) from by omega) ⟨Nat.le_refl _, Nat.le_refl _⟩ (fun v5 X5 q5 => ?_)
              obtain ⟨hb5, eX5⟩ := q5; subst X5
              try simp (disch := decide) only [oC_ma, gC_ma, oM_ma, gM_ma, tC_ma, tM_ma, ma_eq, ma_ne] at hb5
              refine V_if_eqB (tgt := 53) C hb5 dX0_countOnwards_36 (by decide) (fun h36_6 => ?_) (fun h36_6 => ?_)
              · refine V_iincN (a := a) (ls1 := [some (.ref (w.2.1 66)), some (.int (nI z)), some (.int (nI S)), some (.int (-1 : Int32)), some (.int (nI fo)), some (.int (nI (a + 1)))]) C dX0_countOnwards_53 rfl (by decide) rfl ?_
                refine V_goto (tgt := 13) C dX0_countOnwards_56 (by decide) ?_
                exact ih13 (a + 1) fo T (by omega) (by omega) hT (by first | exact cnt_0 wRf_z hfo (not_Al_seen hz hS (by assumption)) | exact cnt_0 wRf_z hfo (not_Al_step hz (by assumption)))
              · refine V_iload C dX0_countOnwards_39 rfl ?_
                refine V_aload_n C dX0_countOnwards_41 rfl ?_
                refine V_iload C dX0_countOnwards_42 rfl ?_
                refine V_iload_n C dX0_countOnwards_44 rfl ?_
                refine V_iload_n C dX0_countOnwards_45 rfl ?_
                refine V_iload_n C dX0_countOnwards_46 rfl ?_
                refine V_callVI C [.int (nI a), .int (nI z), .int (nI S), .int (-1 : Int32)] mi_X0_34 (k_X0_countOver_r w l a z S (ma X 67 T) d P hv (by omega) (by omega) hz (by omega) (fun k hk => by rw [ma_eq, hT k hk]; exact hP k hk) hS (by rw [tC_ma (by decide)]; exact Al_yes hz hA hS (by assumption) (by assumption)) hPV hND IH) dX0_countOnwards_47 sh_66 (by decide) rfl rfl rfl (Nat.le_of_ble_eq_true rfl) (show ((8 + 2 * d)) + 1 ≤ (9 + 2 * d) from by omega) (show 8 + (6 + 11) + ((275 + 50 * d)) ≤ (300 + 50 * d) from by omega) ⟨Nat.le_refl _, Nat.le_refl _⟩ (fun v7 X7 q7 => ?_)
                obtain ⟨T7, eX7, hT7, ev7⟩ := q7
                rw [ma_ma] at eX7
                subst X7
                try simp (disch := decide) only [oC_ma, gC_ma, oM_ma, gM_ma, tC_ma, tM_ma, ma_eq, ma_ne] at hT7
                try simp (disch := decide) only [oC_ma, gC_ma, oM_ma, gM_ma, tC_ma, tM_ma, ma_eq, ma_ne] at ev7
                subst v7
                refine V_iaddN (a := fo) (b := (wRf (tC X) hv (X 64)) (ext1 P z a) (z + 1) + tot (wRf (tC X) hv (X 64)) (d - 1) (ext1 P z a) (z + 1)) C dX0_countOnwards_50 ?_
                refine V_istore (ls1 := [some (.ref (w.2.1 66)), some (.int (nI z)), some (.int (nI S)), some (.int (-1 : Int32)), some (.int (nI (fo + ((wRf (tC X) hv (X 64)) (ext1 P z a) (z + 1) + tot (wRf (tC X) hv (X 64)) (d - 1) (ext1 P z a) (z + 1))))), some (.int (nI a))]) C dX0_countOnwards_51 (by decide) rfl ?_
                refine V_iincN (a := a) (ls1 := [some (.ref (w.2.1 66)), some (.int (nI z)), some (.int (nI S)), some (.int (-1 : Int32)), some (.int (nI (fo + ((wRf (tC X) hv (X 64)) (ext1 P z a) (z + 1) + tot (wRf (tC X) hv (X 64)) (d - 1) (ext1 P z a) (z + 1))))), some (.int (nI (a + 1)))]) C dX0_countOnwards_53 rfl (by decide) rfl ?_
                refine V_goto (tgt := 13) C dX0_countOnwards_56 (by decide) ?_
                exact ih13 (a + 1) (fo + ((wRf (tC X) hv (X 64)) (ext1 P z a) (z + 1) + tot (wRf (tC X) hv (X 64)) (d - 1) (ext1 P z a) (z + 1))) T7 (by omega) (by omega) (fun k hk => (hT7 k (by omega)).trans (hT k hk)) (by rw [hfo]; rfl)
      refine V_eqX (X1 := (ma X 67 (X 67))) (ma_id rfl) ?_
      exact L13 _ 0 0 (X 67) (Nat.lt_succ_self _) (by omega) (fun _ _ => rfl) rfl
    · refine V_iconst (v := (0 : Int32)) C dX0_countOnwards_5 (by decide) ?_
      exact V_ireturnI C dX0_countOnwards_6 ⟨X 67, (ma_self X 67).symm, fun _ _ => rfl, tot_none (by omega)⟩
def q_X0_countTo (fr : Nat) (to : Nat) (X : Mem) : Int32 → Mem → Prop := fun v X' => ∃ T, X' = ma X 67 T ∧ v = nI (tot (wTo (tC X) to) 4 (fun _ => fr) 1)
set_option maxHeartbeats 4000000 in
set_option maxRecDepth 100000 in
theorem k_X0_countTo (w : Wt) (l : Launch) (fr : Nat) (to : Nat) (X : Mem) (hfr : fr < 10) (hto : to < 10) : CtI w l yX0_countTo cX0_countTo 3 (some .int) (18) (540) [.ref (w.2.1 66), .int (nI fr), .int (nI to)] X (q_X0_countTo fr to X) := by
  refine CtI_of (by decide +kernel) (Nat.le_of_ble_eq_true rfl) (List.forall_mem_cons.mpr ⟨rfl, (List.forall_mem_cons.mpr ⟨rfl, (List.forall_mem_cons.mpr ⟨rfl, (fun _ h => nomatch h)⟩)⟩)⟩) (ls := [some (.ref (w.2.1 66)), some (.int (nI fr)), some (.int (nI to))]) rfl (args := (#[.ref (w.2.1 66), .int (nI fr), .int (nI to)] : Array Value)) rfl (own := RX0) rfl ?_
  intro p e s m below meth c C
  refine V_aload_n C dX0_countTo_0 rfl ?_
  refine V_getr C fl_X0_9 dX0_countTo_1 (by decide) sh_66 rfl ?_
  refine V_iconst (v := (0 : Int32)) C dX0_countTo_4 (by decide) ?_
  refine V_iload_n C dX0_countTo_5 rfl ?_
  refine V_iastN (p0 := 67) (o := 0) (X1 := (ma X 67 (upd (X 67) 0 (nI fr)))) C dX0_countTo_6 sh_67 (by decide) (by omega) (by decide) rfl ?_
  refine V_aload_n C dX0_countTo_7 rfl ?_
  refine V_iconst (v := (1 : Int32)) C dX0_countTo_8 (by decide) ?_
  refine V_iconst (v := (1 : Int32)) C dX0_countTo_9 (by decide) ?_
  refine V_iload_n C dX0_countTo_10 rfl ?_
  refine V_ishl C dX0_countTo_11 ?_
  refine V_eqi (y := nI (2 ^ fr)) (shl1 (by omega)) ?_
  refine V_iload_n C dX0_countTo_12 rfl ?_
  refine V_callVI C [.int (1 : Int32), .int (nI (2 ^ fr)), .int (nI to)] mi_X0_23 (k_X0_countOnwards_t w l 1 (2 ^ fr) to (ma X 67 (upd (X 67) 0 (nI fr))) 4 (fun _ => fr) rfl (by decide) (fun k hk => by rw [ma_eq, show k = 0 by omega, upd_eq]; exact ⟨rfl, by omega⟩) (Seen_one (by omega)) (Al_one _ _) hto) dX0_countTo_13 sh_66 (by decide) rfl rfl rfl (Nat.le_of_ble_eq_true rfl) (show ((9 + 2 * 4)) + 1 ≤ (18) from by omega) (show 8 + (6 + 11) + ((300 + 50 * 4)) ≤ (540) from by omega) ⟨Nat.le_refl _, Nat.le_refl _⟩ (fun v1 X1 q1 => ?_)
  obtain ⟨T1, eX1, hT1, ev1⟩ := q1
  rw [ma_ma] at eX1
  subst X1
  try simp (disch := decide) only [oC_ma, gC_ma, oM_ma, gM_ma, tC_ma, tM_ma, ma_eq, ma_ne] at hT1
  try simp (disch := decide) only [oC_ma, gC_ma, oM_ma, gM_ma, tC_ma, tM_ma, ma_eq, ma_ne] at ev1
  subst v1
  exact V_ireturnI C dX0_countTo_16 ⟨T1, rfl, rfl⟩
def q_X0_countRefused (X : Mem) (hv : Nat → Int32) : Int32 → Mem → Prop := fun v X' => ∃ T, X' = ma X 67 T ∧ v = nI (sumN (fun f => tot (wRf (tC X) hv (X 64)) 4 (fun _ => f) 1) 10)
set_option maxHeartbeats 4000000 in
set_option maxRecDepth 100000 in
theorem k_X0_countRefused (w : Wt) (l : Launch) (X : Mem) (hv : Nat → Int32) (hPV : PVInv (X 64)) (hND : ND hv (X 64) (X 65)) : CtI w l yX0_countRefused cX0_countRefused 3 (some .int) (18) (540) [.ref (w.2.1 66)] X (q_X0_countRefused X hv) := by
  refine CtI_of (by decide +kernel) (Nat.le_of_ble_eq_true rfl) (List.forall_mem_cons.mpr ⟨rfl, (fun _ h => nomatch h)⟩) (ls := [some (.ref (w.2.1 66)), none, none]) rfl (args := (#[.ref (w.2.1 66)] : Array Value)) rfl (own := RX0) rfl ?_
  intro p e s m below meth c C
  refine V_iconst (v := (0 : Int32)) C dX0_countRefused_0 (by decide) ?_
  refine V_istore_n (ls1 := [some (.ref (w.2.1 66)), some (.int (0 : Int32)), none]) C dX0_countRefused_1 (by decide) rfl ?_
  refine V_iconst (v := (0 : Int32)) C dX0_countRefused_2 (by decide) ?_
  refine V_istore_n (ls1 := [some (.ref (w.2.1 66)), some (.int (0 : Int32)), some (.int (0 : Int32))]) C dX0_countRefused_3 (by decide) rfl ?_
  have L4 : ∀ (fu : Nat) (f : Nat) (re : Nat) (T : Nat → Int32), 10 - f < fu → (f ≤ 10) → (re = sumN (fun f => tot (wRf (tC X) hv (X 64)) 4 (fun _ => f) 1) f) → V p l e ({ frames := (18), cells := 0, slots := 0, locals := (540) } : Room) s m (#[.ref (w.2.1 66)] : Array Value) below meth c w 3 0 0 (EI w below s (#[.ref (w.2.1 66)] : Array Value) 0 0 (q_X0_countRefused X hv)) 4 [some (.ref (w.2.1 66)), some (.int (nI re)), some (.int (nI f))] [] (ma X 67 T) := by
    intro fu
    induction fu with
    | zero => intro f re T hm; exact absurd hm (Nat.not_lt_zero _)
    | succ fu ih4 =>
      intro f re T hm4 hf hre
      refine V_iload_n C dX0_countRefused_4 rfl ?_
      refine V_bipush (v := (10 : Int32)) C dX0_countRefused_5 (by decide) ?_
      refine V_icmp_geN (a := f) (b := 10) (tgt := 35) C dX0_countRefused_7 (by decide) (by omega) (by omega) (fun h7_1 => ?_) (fun h7_1 => ?_)
      · refine V_iload_n C dX0_countRefused_35 rfl ?_
        exact V_ireturnI C dX0_countRefused_36 ⟨T, rfl, by rw [hre, show f = 10 by omega]⟩
      · refine V_aload_n C dX0_countRefused_10 rfl ?_
        refine V_getr C fl_X0_9 dX0_countRefused_11 (by decide) sh_66 rfl ?_
        refine V_iconst (v := (0 : Int32)) C dX0_countRefused_14 (by decide) ?_
        refine V_iload_n C dX0_countRefused_15 rfl ?_
        refine V_iastN (p0 := 67) (o := 0) (X1 := (ma X 67 (upd (T) 0 (nI f)))) C dX0_countRefused_16 sh_67 (by decide) (by omega) (by decide) (ma_ma _ _ _ _) ?_
        refine V_iload_n C dX0_countRefused_17 rfl ?_
        refine V_aload_n C dX0_countRefused_18 rfl ?_
        refine V_iconst (v := (1 : Int32)) C dX0_countRefused_19 (by decide) ?_
        refine V_iconst (v := (1 : Int32)) C dX0_countRefused_20 (by decide) ?_
        refine V_iload_n C dX0_countRefused_21 rfl ?_
        refine V_ishl C dX0_countRefused_22 ?_
        refine V_eqi (y := nI (2 ^ f)) (shl1 (by omega)) ?_
        refine V_iconst (v := (-1 : Int32)) C dX0_countRefused_23 (by decide) ?_
        refine V_callVI C [.int (1 : Int32), .int (nI (2 ^ f)), .int (-1 : Int32)] mi_X0_23 (k_X0_countOnwards_r w l 1 (2 ^ f) (ma X 67 (upd (T) 0 (nI f))) 4 (fun _ => f) hv rfl (by decide) (fun k hk => by rw [ma_eq, show k = 0 by omega, upd_eq]; exact ⟨rfl, by omega⟩) (Seen_one (by omega)) (Al_one _ _) hPV hND) dX0_countRefused_24 sh_66 (by decide) rfl rfl rfl (Nat.le_of_ble_eq_true rfl) (show ((9 + 2 * 4)) + 1 ≤ (18) from by omega) (show 8 + (6 + 11) + ((300 + 50 * 4)) ≤ (540) from by omega) ⟨Nat.le_refl _, Nat.le_refl _⟩ (fun v2 X2 q2 => ?_)
        obtain ⟨T2, eX2, hT2, ev2⟩ := q2
        rw [ma_ma] at eX2
        subst X2
        try simp (disch := decide) only [oC_ma, gC_ma, oM_ma, gM_ma, tC_ma, tM_ma, ma_eq, ma_ne] at hT2
        try simp (disch := decide) only [oC_ma, gC_ma, oM_ma, gM_ma, tC_ma, tM_ma, ma_eq, ma_ne] at ev2
        subst v2
        refine V_iaddN (a := re) (b := tot (wRf (tC X) hv (X 64)) 4 (fun _ => f) 1) C dX0_countRefused_27 ?_
        refine V_istore_n (ls1 := [some (.ref (w.2.1 66)), some (.int (nI (re + (tot (wRf (tC X) hv (X 64)) 4 (fun _ => f) 1)))), some (.int (nI f))]) C dX0_countRefused_28 (by decide) rfl ?_
        refine V_iincN (a := f) (ls1 := [some (.ref (w.2.1 66)), some (.int (nI (re + (tot (wRf (tC X) hv (X 64)) 4 (fun _ => f) 1)))), some (.int (nI (f + 1)))]) C dX0_countRefused_29 rfl (by decide) rfl ?_
        refine V_goto (tgt := 4) C dX0_countRefused_32 (by decide) ?_
        exact ih4 (f + 1) (re + (tot (wRf (tC X) hv (X 64)) 4 (fun _ => f) 1)) T2 (by omega) (by omega) (by rw [hre]; rfl)
  refine V_eqX (X1 := (ma X 67 (X 67))) (ma_id rfl) ?_
  exact L4 _ 0 0 (X 67) (Nat.lt_succ_self _) (by omega) rfl


