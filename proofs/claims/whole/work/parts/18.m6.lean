def q_X0_mayGoOn (z : Nat) (a : Nat) (X : Mem) (P : Nat → Nat) : Int32 → Mem → Prop := fun r X' => bI (Stp1 (tC X) (ext1 P z a) (z - 1)) r ∧ X' = X
set_option maxHeartbeats 4000000 in
set_option maxRecDepth 100000 in
theorem k_X0_mayGoOn (w : Wt) (l : Launch) (z : Nat) (a : Nat) (X : Mem) (P : Nat → Nat) (hP : PA X 67 P z) (hz : 1 ≤ z) (hz5 : z ≤ 5) (ha : a < 10) : CtI w l yX0_mayGoOn cX0_mayGoOn 4 (some .boolean) 2 43 [.ref (w.2.1 66), .int (nI z), .int (nI a)] X (q_X0_mayGoOn z a X P) := by
  refine CtI_of (by decide +kernel) (Nat.le_of_ble_eq_true rfl) (List.forall_mem_cons.mpr ⟨rfl, (List.forall_mem_cons.mpr ⟨rfl, (List.forall_mem_cons.mpr ⟨rfl, (fun _ h => nomatch h)⟩)⟩)⟩) (ls := [some (.ref (w.2.1 66)), some (.int (nI z)), some (.int (nI a)), none]) rfl (args := (#[.ref (w.2.1 66), .int (nI z), .int (nI a)] : Array Value)) rfl (own := RX0) rfl ?_
  intro p e s m below meth c C
  refine V_aload_n C dX0_mayGoOn_0 rfl ?_
  refine V_getr C fl_X0_9 dX0_mayGoOn_1 (by decide) sh_66 rfl ?_
  refine V_iload_n C dX0_mayGoOn_4 rfl ?_
  refine V_iconst (v := (1 : Int32)) C dX0_mayGoOn_5 (by decide) ?_
  refine V_isubN (a := z) (b := 1) C dX0_mayGoOn_6 (by omega) ?_
  refine V_ialdN (p0 := 67) (o := z - 1) (v := X 67 (z - 1)) C dX0_mayGoOn_7 sh_67 (by decide) (by omega) (by decide) rfl ?_
  have hq1 : P (z - 1) < 10 := (hP (z - 1) (by omega)).2
  refine V_eqi (y := nI (P (z - 1))) ((hP (z - 1) (by omega)).1) ?_
  refine V_istore_n (ls1 := [some (.ref (w.2.1 66)), some (.int (nI z)), some (.int (nI a)), some (.int (nI (P (z - 1))))]) C dX0_mayGoOn_8 (by decide) rfl ?_
  refine V_aload_n C dX0_mayGoOn_9 rfl ?_
  refine V_getr C fl_X0_15 dX0_mayGoOn_10 (by decide) sh_66 rfl ?_
  refine V_iload_n C dX0_mayGoOn_13 rfl ?_
  refine V_iload_n C dX0_mayGoOn_14 rfl ?_
  refine V_callVI C [.int (nI (P (z - 1))), .int (nI a)] mi_X0_40 (k_X8_areTied w l (P (z - 1)) a X (by omega) (by omega)) dX0_mayGoOn_15 sh_51 (by decide) rfl rfl rfl (Nat.le_of_ble_eq_true rfl) (Nat.le_of_ble_eq_true rfl) (Nat.le_of_ble_eq_true rfl) ⟨Nat.le_refl _, Nat.le_refl _⟩ (fun v2 X2 q2 => ?_)
  obtain ⟨hb2, eX2⟩ := q2; subst X2
  refine V_if_eqB (tgt := 50) C hb2 dX0_mayGoOn_18 (by decide) (fun h18_3 => ?_) (fun h18_3 => ?_)
  · refine V_iconst (v := (0 : Int32)) C dX0_mayGoOn_50 (by decide) ?_
    exact V_zreturnI C dX0_mayGoOn_51 (Or.inl rfl) (by first | exact ⟨bI.f (fun q => absurd ((Stp1_ext hz).mp q).1 (by assumption)), rfl⟩ | exact ⟨bI.f (fun q => ((Stp1_ext hz).mp q).2.elim (by assumption) (by assumption)), rfl⟩)
  · refine V_iload_n C dX0_mayGoOn_21 rfl ?_
    refine V_iconst (v := (1 : Int32)) C dX0_mayGoOn_22 (by decide) ?_
    refine V_icmp_eqN (a := z) (b := 1) (tgt := 46) C dX0_mayGoOn_23 (by decide) (by omega) (by omega) (fun h23_4 => ?_) (fun h23_4 => ?_)
    · refine V_iconst (v := (1 : Int32)) C dX0_mayGoOn_46 (by decide) ?_
      refine V_goto (tgt := 51) C dX0_mayGoOn_47 (by decide) ?_
      exact V_zreturnI C dX0_mayGoOn_51 (Or.inr rfl) ⟨bI.t ((Stp1_ext hz).mpr ⟨by assumption, by first | exact Or.inl (by assumption) | exact Or.inr (by assumption)⟩), rfl⟩
    · refine V_aload_n C dX0_mayGoOn_26 rfl ?_
      refine V_getr C fl_X0_15 dX0_mayGoOn_27 (by decide) sh_66 rfl ?_
      refine V_iload_n C dX0_mayGoOn_30 rfl ?_
      refine V_aload_n C dX0_mayGoOn_31 rfl ?_
      refine V_getr C fl_X0_9 dX0_mayGoOn_32 (by decide) sh_66 rfl ?_
      refine V_iload_n C dX0_mayGoOn_35 rfl ?_
      refine V_iconst (v := (2 : Int32)) C dX0_mayGoOn_36 (by decide) ?_
      refine V_isubN (a := z) (b := 2) C dX0_mayGoOn_37 (by omega) ?_
      refine V_ialdN (p0 := 67) (o := z - 2) (v := X 67 (z - 2)) C dX0_mayGoOn_38 sh_67 (by decide) (by omega) (by decide) rfl ?_
      have hq5 : P (z - 2) < 10 := (hP (z - 2) (by omega)).2
      refine V_eqi (y := nI (P (z - 2))) ((hP (z - 2) (by omega)).1) ?_
      refine V_iload_n C dX0_mayGoOn_39 rfl ?_
      refine V_callVI C [.int (nI (P (z - 1))), .int (nI (P (z - 2))), .int (nI a)] mi_X0_45 (k_X8_hasCustomer w l (P (z - 1)) (P (z - 2)) a X (by omega) (by omega) (by omega)) dX0_mayGoOn_40 sh_51 (by decide) rfl rfl rfl (Nat.le_of_ble_eq_true rfl) (Nat.le_of_ble_eq_true rfl) (Nat.le_of_ble_eq_true rfl) ⟨Nat.le_refl _, Nat.le_refl _⟩ (fun v6 X6 q6 => ?_)
      obtain ⟨hb6, eX6⟩ := q6; subst X6
      refine V_if_eqB (tgt := 50) C hb6 dX0_mayGoOn_43 (by decide) (fun h43_7 => ?_) (fun h43_7 => ?_)
      · refine V_iconst (v := (0 : Int32)) C dX0_mayGoOn_50 (by decide) ?_
        exact V_zreturnI C dX0_mayGoOn_51 (Or.inl rfl) (by first | exact ⟨bI.f (fun q => absurd ((Stp1_ext hz).mp q).1 (by assumption)), rfl⟩ | exact ⟨bI.f (fun q => ((Stp1_ext hz).mp q).2.elim (by assumption) (by assumption)), rfl⟩)
      · refine V_iconst (v := (1 : Int32)) C dX0_mayGoOn_46 (by decide) ?_
        refine V_goto (tgt := 51) C dX0_mayGoOn_47 (by decide) ?_
        exact V_zreturnI C dX0_mayGoOn_51 (Or.inr rfl) ⟨bI.t ((Stp1_ext hz).mpr ⟨by assumption, by first | exact Or.inl (by assumption) | exact Or.inr (by assumption)⟩), rfl⟩
def q_X0_countOnwards_t (z : Nat) (S : Nat) (to : Nat) (X : Mem) (d : Nat) (P : Nat → Nat) : Int32 → Mem → Prop := fun v X' => ∃ T, X' = ma X 67 T ∧ (∀ k, k < z → T k = X 67 k) ∧ v = nI (tot (wTo (tC X) to) d P z)
set_option maxHeartbeats 4000000 in
set_option maxRecDepth 100000 in
theorem k_X0_countOnwards_t (w : Wt) (l : Launch) (z : Nat) (S : Nat) (to : Nat) (X : Mem) (d : Nat) (P : Nat → Nat) (hzd : z + d = 5) (hz : 1 ≤ z) (hP : PA X 67 P z) (hS : Seen P z S) (hA : Al (tC X) P z) (hPV : PVInv (X 65)) (hto : to < 10) : CtI w l yX0_countOnwards cX0_countOnwards 6 (some .int) (9 + d) (300 + d * 25) [.ref (w.2.1 66), .int (nI z), .int (nI S), .int (nI to)] X (q_X0_countOnwards_t z S to X d P) := by
  induction d using Nat.strongRecOn generalizing z S to X P with
  | ind d IH =>
    have hS1 := hS.1
    refine CtI_of (by decide +kernel) (Nat.le_of_ble_eq_true rfl) (List.forall_mem_cons.mpr ⟨rfl, (List.forall_mem_cons.mpr ⟨rfl, (List.forall_mem_cons.mpr ⟨rfl, (List.forall_mem_cons.mpr ⟨rfl, (fun _ h => nomatch h)⟩)⟩)⟩)⟩) (ls := [some (.ref (w.2.1 66)), some (.int (nI z)), some (.int (nI S)), some (.int (nI to)), none, none]) rfl (args := (#[.ref (w.2.1 66), .int (nI z), .int (nI S), .int (nI to)] : Array Value)) rfl (own := RX0) rfl ?_
    intro p e s m below meth c C
    refine V_iload_n C dX0_countOnwards_0 rfl ?_
    refine V_iconst (v := (5 : Int32)) C dX0_countOnwards_1 (by decide) ?_
    refine V_icmp_ltN (a := z) (b := 5) (tgt := 7) C dX0_countOnwards_2 (by decide) (by omega) (by omega) (fun h2_1 => ?_) (fun h2_1 => ?_)
    · refine V_iconst (v := (0 : Int32)) C dX0_countOnwards_7 (by decide) ?_
      refine V_istore (ls1 := [some (.ref (w.2.1 66)), some (.int (nI z)), some (.int (nI S)), some (.int (nI to)), some (.int (0 : Int32)), none]) C dX0_countOnwards_8 (by decide) rfl ?_
      refine V_iconst (v := (0 : Int32)) C dX0_countOnwards_10 (by decide) ?_
      refine V_istore (ls1 := [some (.ref (w.2.1 66)), some (.int (nI z)), some (.int (nI S)), some (.int (nI to)), some (.int (0 : Int32)), some (.int (0 : Int32))]) C dX0_countOnwards_11 (by decide) rfl ?_
      have L13 : ∀ (fu : Nat) (a : Nat) (fo : Nat) (T : Nat → Int32), 10 - a < fu → (a ≤ 10) → (∀ k, k < z → T k = X 67 k) → (fo = sumN (fun b => (wTo (tC X) to) (ext1 P z b) (z + 1) + tot (wTo (tC X) to) (d - 1) (ext1 P z b) (z + 1)) a) → V p l e ({ frames := (9 + d), cells := 0, slots := 0, locals := (300 + d * 25) } : Room) s m (#[.ref (w.2.1 66), .int (nI z), .int (nI S), .int (nI to)] : Array Value) below meth c w 6 0 0 (EI w below s (#[.ref (w.2.1 66), .int (nI z), .int (nI S), .int (nI to)] : Array Value) 0 0 (q_X0_countOnwards_t z S to X d P)) 13 [some (.ref (w.2.1 66)), some (.int (nI z)), some (.int (nI S)), some (.int (nI to)), some (.int (nI fo)), some (.int (nI a))] [] (ma X 67 T) := by
        intro fu
        induction fu with
        | zero => intro a fo T hm; exact absurd hm (Nat.not_lt_zero _)
        | succ fu ih13 =>
          intro a fo T hm13 ha hT hfo
          refine V_iload C dX0_countOnwards_13 rfl ?_
          refine V_bipush (v := (10 : Int32)) C dX0_countOnwards_15 (by decide) ?_
          refine V_icmp_geN (a := a) (b := 10) (tgt := 107) C dX0_countOnwards_17 (by decide) (by omega) (by omega) (fun h17_2 => ?_) (fun h17_2 => ?_)
          · refine V_iload C dX0_countOnwards_107 rfl ?_
            exact V_ireturnI C dX0_countOnwards_109 ⟨T, rfl, hT, congrArg nI (cnt_end hzd (by omega) (by omega) ha hfo)⟩
          · refine V_iload_n C dX0_countOnwards_20 rfl ?_
            refine V_iload C dX0_countOnwards_21 rfl ?_
            refine V_callSI C [.int (nI S), .int (nI a)] ms_X0_27 (k_X9_isIn w l S a (ma X 67 T) (by omega) (by omega)) dX0_countOnwards_23 rfl rfl (Nat.le_of_ble_eq_true rfl) (show (1) + 1 ≤ (9 + d) from by omega) (show 8 + (2 + 11) + (20) ≤ (300 + d * 25) from by omega) ⟨Nat.le_refl _, Nat.le_refl _⟩ (fun v3 X3 q3 => ?_)
            obtain ⟨hb3, eX3⟩ := q3; subst X3
            try simp (disch := decide) only [oC_ma, gC_ma, oM_ma, gM_ma, tC_ma, tM_ma, ma_eq, ma_ne] at hb3
            refine V_if_neB (tgt := 101) C hb3 dX0_countOnwards_26 (by decide) (fun h26_4 => ?_) (fun h26_4 => ?_)
            · refine V_iincN (a := a) (ls1 := [some (.ref (w.2.1 66)), some (.int (nI z)), some (.int (nI S)), some (.int (nI to)), some (.int (nI fo)), some (.int (nI (a + 1)))]) C dX0_countOnwards_101 rfl (by decide) rfl ?_
              refine V_goto (tgt := 13) C dX0_countOnwards_104 (by decide) ?_
              exact ih13 (a + 1) fo T (by omega) (by omega) hT (by first | exact cnt_0 wTo_z hfo (not_Al_seen hz hS (by assumption)) | exact cnt_0 wTo_z hfo (not_Al_step hz (by assumption)))
            · refine V_aload_n C dX0_countOnwards_29 rfl ?_
              refine V_iload_n C dX0_countOnwards_30 rfl ?_
              refine V_iload C dX0_countOnwards_31 rfl ?_
              refine V_callVI C [.int (nI z), .int (nI a)] mi_X0_31 (k_X0_mayGoOn w l z a (ma X 67 T) P (fun k hk => by rw [ma_eq, hT k hk]; exact hP k hk) hz (by omega) (by omega)) dX0_countOnwards_33 sh_66 (by decide) rfl rfl rfl (Nat.le_of_ble_eq_true rfl) (show (2) + 1 ≤ (9 + d) from by omega) (show 8 + (4 + 11) + (43) ≤ (300 + d * 25) from by omega) ⟨Nat.le_refl _, Nat.le_refl _⟩ (fun v5 X5 q5 => ?_)
              obtain ⟨hb5, eX5⟩ := q5; subst X5
              try simp (disch := decide) only [oC_ma, gC_ma, oM_ma, gM_ma, tC_ma, tM_ma, ma_eq, ma_ne] at hb5
              refine V_if_neB (tgt := 42) C hb5 dX0_countOnwards_36 (by decide) (fun h36_6 => ?_) (fun h36_6 => ?_)
              · refine V_aload_n C dX0_countOnwards_42 rfl ?_
                refine V_getr C fl_X0_9 dX0_countOnwards_43 (by decide) sh_66 rfl ?_
                refine V_iload_n C dX0_countOnwards_46 rfl ?_
                refine V_iload C dX0_countOnwards_47 rfl ?_
                refine V_iastN (p0 := 67) (o := z) (X1 := (ma X 67 (upd (T) z (nI a)))) C dX0_countOnwards_49 sh_67 (by decide) (by omega) (by decide) (ma_ma _ _ _ _) ?_
                refine V_iload_n C dX0_countOnwards_50 rfl ?_
                refine V_iconst (v := (-1 : Int32)) C dX0_countOnwards_51 (by decide) ?_
                refine V_icmp_ne (x := nI to) (y := (-1 : Int32)) (tgt := 73) C dX0_countOnwards_52 (by decide) (fun _ => ?_) (fun h => absurd h (ne_m1 hto))
                refine V_iload C dX0_countOnwards_73 rfl ?_
                refine V_iload_n C dX0_countOnwards_75 rfl ?_
                refine V_icmp_neN (a := a) (b := to) (tgt := 82) C dX0_countOnwards_76 (by decide) (by omega) (by omega) (fun h76_8 => ?_) (fun h76_8 => ?_)
                · refine V_iload C dX0_countOnwards_82 rfl ?_
                  refine V_aload_n C dX0_countOnwards_84 rfl ?_
                  refine V_iload_n C dX0_countOnwards_85 rfl ?_
                  refine V_iconst (v := (1 : Int32)) C dX0_countOnwards_86 (by decide) ?_
                  refine V_iaddN (a := z) (b := 1) C dX0_countOnwards_87 ?_
                  refine V_iload_n C dX0_countOnwards_88 rfl ?_
                  refine V_iconst (v := (1 : Int32)) C dX0_countOnwards_89 (by decide) ?_
                  refine V_iload C dX0_countOnwards_90 rfl ?_
                  refine V_ishl C dX0_countOnwards_92 ?_
                  refine V_eqi (y := nI (2 ^ a)) (shl1 (by omega)) ?_
                  refine V_ior C dX0_countOnwards_93 ?_
                  refine V_eqi (y := nI (S ||| (2 ^ a))) (nI_or _ _) ?_
                  refine V_iload_n C dX0_countOnwards_94 rfl ?_
                  refine V_callVI C [.int (nI (z + 1)), .int (nI (S ||| (2 ^ a))), .int (nI to)] mi_X0_23 (IH (d - 1) (by omega) (z + 1) (S ||| (2 ^ a)) to (ma X 67 (upd (T) z (nI a))) (ext1 P z a) (by omega) (by omega) (fun k hk => by rw [ma_eq]; exact PAr_ext (fun k hk => by rw [hT k hk]; exact hP k hk) (by omega) k hk) (Seen_ext hS (by omega)) (by rw [tC_ma (by decide)]; exact Al_yes hz hA hS (by assumption) (by assumption)) hPV hto) dX0_countOnwards_95 sh_66 (by decide) rfl rfl rfl (Nat.le_of_ble_eq_true rfl) (show ((9 + (d - 1))) + 1 ≤ (9 + d) from by omega) (show 8 + (6 + 11) + ((300 + (d - 1) * 25)) ≤ (300 + d * 25) from by omega) ⟨Nat.le_refl _, Nat.le_refl _⟩ (fun v9 X9 q9 => ?_)
                  obtain ⟨T9, eX9, hT9, ev9⟩ := q9
                  rw [ma_ma] at eX9
                  subst X9
                  try simp (disch := decide) only [oC_ma, gC_ma, oM_ma, gM_ma, tC_ma, tM_ma, ma_eq, ma_ne] at hT9
                  try simp (disch := decide) only [oC_ma, gC_ma, oM_ma, gM_ma, tC_ma, tM_ma, ma_eq, ma_ne] at ev9
                  subst v9
                  refine V_iaddN (a := fo) (b := tot (wTo (tC X) to) (d - 1) (ext1 P z a) (z + 1)) C dX0_countOnwards_98 ?_
                  refine V_istore (ls1 := [some (.ref (w.2.1 66)), some (.int (nI z)), some (.int (nI S)), some (.int (nI to)), some (.int (nI (fo + (tot (wTo (tC X) to) (d - 1) (ext1 P z a) (z + 1))))), some (.int (nI a))]) C dX0_countOnwards_99 (by decide) rfl ?_
                  refine V_iincN (a := a) (ls1 := [some (.ref (w.2.1 66)), some (.int (nI z)), some (.int (nI S)), some (.int (nI to)), some (.int (nI (fo + (tot (wTo (tC X) to) (d - 1) (ext1 P z a) (z + 1))))), some (.int (nI (a + 1)))]) C dX0_countOnwards_101 rfl (by decide) rfl ?_
                  refine V_goto (tgt := 13) C dX0_countOnwards_104 (by decide) ?_
                  exact ih13 (a + 1) (fo + (tot (wTo (tC X) to) (d - 1) (ext1 P z a) (z + 1))) T9 (by omega) (by omega) (fun k hk => (hT9 k (by omega)).trans ((upd_ne (by omega)).trans (hT k hk))) (cnt_1 hfo (x := 0) (wTo_n (by assumption)))
                · refine V_iincN (a := fo) (ls1 := [some (.ref (w.2.1 66)), some (.int (nI z)), some (.int (nI S)), some (.int (nI to)), some (.int (nI (fo + 1))), some (.int (nI a))]) C dX0_countOnwards_79 rfl (by decide) rfl ?_
                  refine V_iload C dX0_countOnwards_82 rfl ?_
                  refine V_aload_n C dX0_countOnwards_84 rfl ?_
                  refine V_iload_n C dX0_countOnwards_85 rfl ?_
                  refine V_iconst (v := (1 : Int32)) C dX0_countOnwards_86 (by decide) ?_
                  refine V_iaddN (a := z) (b := 1) C dX0_countOnwards_87 ?_
                  refine V_iload_n C dX0_countOnwards_88 rfl ?_
                  refine V_iconst (v := (1 : Int32)) C dX0_countOnwards_89 (by decide) ?_
                  refine V_iload C dX0_countOnwards_90 rfl ?_
                  refine V_ishl C dX0_countOnwards_92 ?_
                  refine V_eqi (y := nI (2 ^ a)) (shl1 (by omega)) ?_
                  refine V_ior C dX0_countOnwards_93 ?_
                  refine V_eqi (y := nI (S ||| (2 ^ a))) (nI_or _ _) ?_
                  refine V_iload_n C dX0_countOnwards_94 rfl ?_
                  refine V_callVI C [.int (nI (z + 1)), .int (nI (S ||| (2 ^ a))), .int (nI to)] mi_X0_23 (IH (d - 1) (by omega) (z + 1) (S ||| (2 ^ a)) to (ma X 67 (upd (T) z (nI a))) (ext1 P z a) (by omega) (by omega) (fun k hk => by rw [ma_eq]; exact PAr_ext (fun k hk => by rw [hT k hk]; exact hP k hk) (by omega) k hk) (Seen_ext hS (by omega)) (by rw [tC_ma (by decide)]; exact Al_yes hz hA hS (by assumption) (by assumption)) hPV hto) dX0_countOnwards_95 sh_66 (by decide) rfl rfl rfl (Nat.le_of_ble_eq_true rfl) (show ((9 + (d - 1))) + 1 ≤ (9 + d) from by omega) (show 8 + (6 + 11) + ((300 + (d - 1) * 25)) ≤ (300 + d * 25) from by omega) ⟨Nat.le_refl _, Nat.le_refl _⟩ (fun v10 X10 q10 => ?_)
                  obtain ⟨T10, eX10, hT10, ev10⟩ := q10
                  rw [ma_ma] at eX10
                  subst X10
                  try simp (disch := decide) only [oC_ma, gC_ma, oM_ma, gM_ma, tC_ma, tM_ma, ma_eq, ma_ne] at hT10
                  try simp (disch := decide) only [oC_ma, gC_ma, oM_ma, gM_ma, tC_ma, tM_ma, ma_eq, ma_ne] at ev10
                  subst v10
                  refine V_iaddN (a := fo + 1) (b := tot (wTo (tC X) to) (d - 1) (ext1 P z a) (z + 1)) C dX0_countOnwards_98 ?_
                  refine V_istore (ls1 := [some (.ref (w.2.1 66)), some (.int (nI z)), some (.int (nI S)), some (.int (nI to)), some (.int (nI (fo + 1 + (tot (wTo (tC X) to) (d - 1) (ext1 P z a) (z + 1))))), some (.int (nI a))]) C dX0_countOnwards_99 (by decide) rfl ?_
                  refine V_iincN (a := a) (ls1 := [some (.ref (w.2.1 66)), some (.int (nI z)), some (.int (nI S)), some (.int (nI to)), some (.int (nI (fo + 1 + (tot (wTo (tC X) to) (d - 1) (ext1 P z a) (z + 1))))), some (.int (nI (a + 1)))]) C dX0_countOnwards_101 rfl (by decide) rfl ?_
                  refine V_goto (tgt := 13) C dX0_countOnwards_104 (by decide) ?_
                  exact ih13 (a + 1) (fo + 1 + (tot (wTo (tC X) to) (d - 1) (ext1 P z a) (z + 1))) T10 (by omega) (by omega) (fun k hk => (hT10 k (by omega)).trans ((upd_ne (by omega)).trans (hT k hk))) (cnt_1 hfo (x := 1) (wTo_y (Al_yes hz hA hS (by assumption) (by assumption)) (by assumption)))
              · refine V_goto (tgt := 101) C dX0_countOnwards_39 (by decide) ?_
                refine V_iincN (a := a) (ls1 := [some (.ref (w.2.1 66)), some (.int (nI z)), some (.int (nI S)), some (.int (nI to)), some (.int (nI fo)), some (.int (nI (a + 1)))]) C dX0_countOnwards_101 rfl (by decide) rfl ?_
                refine V_goto (tgt := 13) C dX0_countOnwards_104 (by decide) ?_
                exact ih13 (a + 1) fo T (by omega) (by omega) hT (by first | exact cnt_0 wTo_z hfo (not_Al_seen hz hS (by assumption)) | exact cnt_0 wTo_z hfo (not_Al_step hz (by assumption)))
      refine V_eqX (X1 := (ma X 67 (X 67))) (ma_id rfl) ?_
      exact L13 _ 0 0 (X 67) (Nat.lt_succ_self _) (by omega) (fun _ _ => rfl) rfl
    · refine V_iconst (v := (0 : Int32)) C dX0_countOnwards_5 (by decide) ?_
      exact V_ireturnI C dX0_countOnwards_6 ⟨X 67, (ma_self X 67).symm, fun _ _ => rfl, tot_none (by omega)⟩
def q_X0_countOnwards_r (z : Nat) (S : Nat) (X : Mem) (d : Nat) (P : Nat → Nat) : Int32 → Mem → Prop := fun v X' => ∃ T, X' = ma X 67 T ∧ (∀ k, k < z → T k = X 67 k) ∧ v = nI (tot (wRf (tC X) (X 64) (X 65)) d P z)
set_option maxHeartbeats 4000000 in
set_option maxRecDepth 100000 in
theorem k_X0_countOnwards_r (w : Wt) (l : Launch) (z : Nat) (S : Nat) (X : Mem) (d : Nat) (P : Nat → Nat) (hzd : z + d = 5) (hz : 1 ≤ z) (hP : PA X 67 P z) (hS : Seen P z S) (hA : Al (tC X) P z) (hPV : PVInv (X 65)) : CtI w l yX0_countOnwards cX0_countOnwards 6 (some .int) (9 + d) (300 + d * 25) [.ref (w.2.1 66), .int (nI z), .int (nI S), .int (-1 : Int32)] X (q_X0_countOnwards_r z S X d P) := by
  induction d using Nat.strongRecOn generalizing z S X P with
  | ind d IH =>
    have hS1 := hS.1
    refine CtI_of (by decide +kernel) (Nat.le_of_ble_eq_true rfl) (List.forall_mem_cons.mpr ⟨rfl, (List.forall_mem_cons.mpr ⟨rfl, (List.forall_mem_cons.mpr ⟨rfl, (List.forall_mem_cons.mpr ⟨rfl, (fun _ h => nomatch h)⟩)⟩)⟩)⟩) (ls := [some (.ref (w.2.1 66)), some (.int (nI z)), some (.int (nI S)), some (.int (-1 : Int32)), none, none]) rfl (args := (#[.ref (w.2.1 66), .int (nI z), .int (nI S), .int (-1 : Int32)] : Array Value)) rfl (own := RX0) rfl ?_
    intro p e s m below meth c C
    refine V_iload_n C dX0_countOnwards_0 rfl ?_
    refine V_iconst (v := (5 : Int32)) C dX0_countOnwards_1 (by decide) ?_
    refine V_icmp_ltN (a := z) (b := 5) (tgt := 7) C dX0_countOnwards_2 (by decide) (by omega) (by omega) (fun h2_1 => ?_) (fun h2_1 => ?_)
    · refine V_iconst (v := (0 : Int32)) C dX0_countOnwards_7 (by decide) ?_
      refine V_istore (ls1 := [some (.ref (w.2.1 66)), some (.int (nI z)), some (.int (nI S)), some (.int (-1 : Int32)), some (.int (0 : Int32)), none]) C dX0_countOnwards_8 (by decide) rfl ?_
      refine V_iconst (v := (0 : Int32)) C dX0_countOnwards_10 (by decide) ?_
      refine V_istore (ls1 := [some (.ref (w.2.1 66)), some (.int (nI z)), some (.int (nI S)), some (.int (-1 : Int32)), some (.int (0 : Int32)), some (.int (0 : Int32))]) C dX0_countOnwards_11 (by decide) rfl ?_
      have L13 : ∀ (fu : Nat) (a : Nat) (fo : Nat) (T : Nat → Int32), 10 - a < fu → (a ≤ 10) → (∀ k, k < z → T k = X 67 k) → (fo = sumN (fun b => (wRf (tC X) (X 64) (X 65)) (ext1 P z b) (z + 1) + tot (wRf (tC X) (X 64) (X 65)) (d - 1) (ext1 P z b) (z + 1)) a) → V p l e ({ frames := (9 + d), cells := 0, slots := 0, locals := (300 + d * 25) } : Room) s m (#[.ref (w.2.1 66), .int (nI z), .int (nI S), .int (-1 : Int32)] : Array Value) below meth c w 6 0 0 (EI w below s (#[.ref (w.2.1 66), .int (nI z), .int (nI S), .int (-1 : Int32)] : Array Value) 0 0 (q_X0_countOnwards_r z S X d P)) 13 [some (.ref (w.2.1 66)), some (.int (nI z)), some (.int (nI S)), some (.int (-1 : Int32)), some (.int (nI fo)), some (.int (nI a))] [] (ma X 67 T) := by
        intro fu
        induction fu with
        | zero => intro a fo T hm; exact absurd hm (Nat.not_lt_zero _)
        | succ fu ih13 =>
          intro a fo T hm13 ha hT hfo
          refine V_iload C dX0_countOnwards_13 rfl ?_
          refine V_bipush (v := (10 : Int32)) C dX0_countOnwards_15 (by decide) ?_
          refine V_icmp_geN (a := a) (b := 10) (tgt := 107) C dX0_countOnwards_17 (by decide) (by omega) (by omega) (fun h17_2 => ?_) (fun h17_2 => ?_)
          · refine V_iload C dX0_countOnwards_107 rfl ?_
            exact V_ireturnI C dX0_countOnwards_109 ⟨T, rfl, hT, congrArg nI (cnt_end hzd (by omega) (by omega) ha hfo)⟩
          · refine V_iload_n C dX0_countOnwards_20 rfl ?_
            refine V_iload C dX0_countOnwards_21 rfl ?_
            refine V_callSI C [.int (nI S), .int (nI a)] ms_X0_27 (k_X9_isIn w l S a (ma X 67 T) (by omega) (by omega)) dX0_countOnwards_23 rfl rfl (Nat.le_of_ble_eq_true rfl) (show (1) + 1 ≤ (9 + d) from by omega) (show 8 + (2 + 11) + (20) ≤ (300 + d * 25) from by omega) ⟨Nat.le_refl _, Nat.le_refl _⟩ (fun v3 X3 q3 => ?_)
            obtain ⟨hb3, eX3⟩ := q3; subst X3
            try simp (disch := decide) only [oC_ma, gC_ma, oM_ma, gM_ma, tC_ma, tM_ma, ma_eq, ma_ne] at hb3
            refine V_if_neB (tgt := 101) C hb3 dX0_countOnwards_26 (by decide) (fun h26_4 => ?_) (fun h26_4 => ?_)
            · refine V_iincN (a := a) (ls1 := [some (.ref (w.2.1 66)), some (.int (nI z)), some (.int (nI S)), some (.int (-1 : Int32)), some (.int (nI fo)), some (.int (nI (a + 1)))]) C dX0_countOnwards_101 rfl (by decide) rfl ?_
              refine V_goto (tgt := 13) C dX0_countOnwards_104 (by decide) ?_
              exact ih13 (a + 1) fo T (by omega) (by omega) hT (by first | exact cnt_0 wRf_z hfo (not_Al_seen hz hS (by assumption)) | exact cnt_0 wRf_z hfo (not_Al_step hz (by assumption)))
            · refine V_aload_n C dX0_countOnwards_29 rfl ?_
              refine V_iload_n C dX0_countOnwards_30 rfl ?_
              refine V_iload C dX0_countOnwards_31 rfl ?_
              refine V_callVI C [.int (nI z), .int (nI a)] mi_X0_31 (k_X0_mayGoOn w l z a (ma X 67 T) P (fun k hk => by rw [ma_eq, hT k hk]; exact hP k hk) hz (by omega) (by omega)) dX0_countOnwards_33 sh_66 (by decide) rfl rfl rfl (Nat.le_of_ble_eq_true rfl) (show (2) + 1 ≤ (9 + d) from by omega) (show 8 + (4 + 11) + (43) ≤ (300 + d * 25) from by omega) ⟨Nat.le_refl _, Nat.le_refl _⟩ (fun v5 X5 q5 => ?_)
              obtain ⟨hb5, eX5⟩ := q5; subst X5
              try simp (disch := decide) only [oC_ma, gC_ma, oM_ma, gM_ma, tC_ma, tM_ma, ma_eq, ma_ne] at hb5
              refine V_if_neB (tgt := 42) C hb5 dX0_countOnwards_36 (by decide) (fun h36_6 => ?_) (fun h36_6 => ?_)
              · refine V_aload_n C dX0_countOnwards_42 rfl ?_
                refine V_getr C fl_X0_9 dX0_countOnwards_43 (by decide) sh_66 rfl ?_
                refine V_iload_n C dX0_countOnwards_46 rfl ?_
                refine V_iload C dX0_countOnwards_47 rfl ?_
                refine V_iastN (p0 := 67) (o := z) (X1 := (ma X 67 (upd (T) z (nI a)))) C dX0_countOnwards_49 sh_67 (by decide) (by omega) (by decide) (ma_ma _ _ _ _) ?_
                refine V_iload_n C dX0_countOnwards_50 rfl ?_
                refine V_iconst (v := (-1 : Int32)) C dX0_countOnwards_51 (by decide) ?_
                refine V_icmp_ne (x := (-1 : Int32)) (y := (-1 : Int32)) (tgt := 73) C dX0_countOnwards_52 (by decide) (fun h => absurd rfl h) (fun _ => ?_)
                refine V_aload_n C dX0_countOnwards_55 rfl ?_
                refine V_getr C fl_X0_19 dX0_countOnwards_56 (by decide) sh_66 rfl ?_
                refine V_aload_n C dX0_countOnwards_59 rfl ?_
                refine V_getr C fl_X0_9 dX0_countOnwards_60 (by decide) sh_66 rfl ?_
                refine V_iload_n C dX0_countOnwards_63 rfl ?_
                refine V_callVI C [.ref (w.2.1 67), .int (nI z)] mi_X0_34 (k_X3_isRefusedAt w l 67 z (ma X 67 (upd (T) z (nI a))) 5 (ext1 P z a) sh_67 (by decide) (by decide) (fun k hk => by rw [ma_eq]; exact PAr_ext (fun k hk => by rw [hT k hk]; exact hP k hk) (by omega) k hk) (by omega) hPV hz) dX0_countOnwards_64 sh_63 (by decide) rfl rfl rfl (Nat.le_of_ble_eq_true rfl) (show (5) + 1 ≤ (9 + d) from by omega) (show 8 + (4 + 11) + (111) ≤ (300 + d * 25) from by omega) ⟨Nat.le_refl _, Nat.le_refl _⟩ (fun v8 X8 q8 => ?_)
                obtain ⟨hb8, eX8⟩ := q8; subst X8
                try simp (disch := decide) only [oC_ma, gC_ma, oM_ma, gM_ma, tC_ma, tM_ma, ma_eq, ma_ne] at hb8
                refine V_if_eqB (tgt := 82) C hb8 dX0_countOnwards_67 (by decide) (fun h67_9 => ?_) (fun h67_9 => ?_)
                · refine V_iload C dX0_countOnwards_82 rfl ?_
                  refine V_aload_n C dX0_countOnwards_84 rfl ?_
                  refine V_iload_n C dX0_countOnwards_85 rfl ?_
                  refine V_iconst (v := (1 : Int32)) C dX0_countOnwards_86 (by decide) ?_
                  refine V_iaddN (a := z) (b := 1) C dX0_countOnwards_87 ?_
                  refine V_iload_n C dX0_countOnwards_88 rfl ?_
                  refine V_iconst (v := (1 : Int32)) C dX0_countOnwards_89 (by decide) ?_
                  refine V_iload C dX0_countOnwards_90 rfl ?_
                  refine V_ishl C dX0_countOnwards_92 ?_
                  refine V_eqi (y := nI (2 ^ a)) (shl1 (by omega)) ?_
                  refine V_ior C dX0_countOnwards_93 ?_
                  refine V_eqi (y := nI (S ||| (2 ^ a))) (nI_or _ _) ?_
                  refine V_iload_n C dX0_countOnwards_94 rfl ?_
                  refine V_callVI C [.int (nI (z + 1)), .int (nI (S ||| (2 ^ a))), .int (-1 : Int32)] mi_X0_23 (IH (d - 1) (by omega) (z + 1) (S ||| (2 ^ a)) (ma X 67 (upd (T) z (nI a))) (ext1 P z a) (by omega) (by omega) (fun k hk => by rw [ma_eq]; exact PAr_ext (fun k hk => by rw [hT k hk]; exact hP k hk) (by omega) k hk) (Seen_ext hS (by omega)) (by rw [tC_ma (by decide)]; exact Al_yes hz hA hS (by assumption) (by assumption)) hPV) dX0_countOnwards_95 sh_66 (by decide) rfl rfl rfl (Nat.le_of_ble_eq_true rfl) (show ((9 + (d - 1))) + 1 ≤ (9 + d) from by omega) (show 8 + (6 + 11) + ((300 + (d - 1) * 25)) ≤ (300 + d * 25) from by omega) ⟨Nat.le_refl _, Nat.le_refl _⟩ (fun v10 X10 q10 => ?_)
                  obtain ⟨T10, eX10, hT10, ev10⟩ := q10
                  rw [ma_ma] at eX10
                  subst X10
                  try simp (disch := decide) only [oC_ma, gC_ma, oM_ma, gM_ma, tC_ma, tM_ma, ma_eq, ma_ne] at hT10
                  try simp (disch := decide) only [oC_ma, gC_ma, oM_ma, gM_ma, tC_ma, tM_ma, ma_eq, ma_ne] at ev10
                  subst v10
                  refine V_iaddN (a := fo) (b := tot (wRf (tC X) (X 64) (X 65)) (d - 1) (ext1 P z a) (z + 1)) C dX0_countOnwards_98 ?_
                  refine V_istore (ls1 := [some (.ref (w.2.1 66)), some (.int (nI z)), some (.int (nI S)), some (.int (-1 : Int32)), some (.int (nI (fo + (tot (wRf (tC X) (X 64) (X 65)) (d - 1) (ext1 P z a) (z + 1))))), some (.int (nI a))]) C dX0_countOnwards_99 (by decide) rfl ?_
                  refine V_iincN (a := a) (ls1 := [some (.ref (w.2.1 66)), some (.int (nI z)), some (.int (nI S)), some (.int (-1 : Int32)), some (.int (nI (fo + (tot (wRf (tC X) (X 64) (X 65)) (d - 1) (ext1 P z a) (z + 1))))), some (.int (nI (a + 1)))]) C dX0_countOnwards_101 rfl (by decide) rfl ?_
                  refine V_goto (tgt := 13) C dX0_countOnwards_104 (by decide) ?_
                  exact ih13 (a + 1) (fo + (tot (wRf (tC X) (X 64) (X 65)) (d - 1) (ext1 P z a) (z + 1))) T10 (by omega) (by omega) (fun k hk => (hT10 k (by omega)).trans ((upd_ne (by omega)).trans (hT k hk))) (cnt_1 hfo (x := 0) (wRf_n (by assumption)))
                · refine V_goto (tgt := 79) C dX0_countOnwards_70 (by decide) ?_
                  refine V_iincN (a := fo) (ls1 := [some (.ref (w.2.1 66)), some (.int (nI z)), some (.int (nI S)), some (.int (-1 : Int32)), some (.int (nI (fo + 1))), some (.int (nI a))]) C dX0_countOnwards_79 rfl (by decide) rfl ?_
                  refine V_iload C dX0_countOnwards_82 rfl ?_
                  refine V_aload_n C dX0_countOnwards_84 rfl ?_
                  refine V_iload_n C dX0_countOnwards_85 rfl ?_
                  refine V_iconst (v := (1 : Int32)) C dX0_countOnwards_86 (by decide) ?_
                  refine V_iaddN (a := z) (b := 1) C dX0_countOnwards_87 ?_
                  refine V_iload_n C dX0_countOnwards_88 rfl ?_
                  refine V_iconst (v := (1 : Int32)) C dX0_countOnwards_89 (by decide) ?_
                  refine V_iload C dX0_countOnwards_90 rfl ?_
                  refine V_ishl C dX0_countOnwards_92 ?_
                  refine V_eqi (y := nI (2 ^ a)) (shl1 (by omega)) ?_
                  refine V_ior C dX0_countOnwards_93 ?_
                  refine V_eqi (y := nI (S ||| (2 ^ a))) (nI_or _ _) ?_
                  refine V_iload_n C dX0_countOnwards_94 rfl ?_
                  refine V_callVI C [.int (nI (z + 1)), .int (nI (S ||| (2 ^ a))), .int (-1 : Int32)] mi_X0_23 (IH (d - 1) (by omega) (z + 1) (S ||| (2 ^ a)) (ma X 67 (upd (T) z (nI a))) (ext1 P z a) (by omega) (by omega) (fun k hk => by rw [ma_eq]; exact PAr_ext (fun k hk => by rw [hT k hk]; exact hP k hk) (by omega) k hk) (Seen_ext hS (by omega)) (by rw [tC_ma (by decide)]; exact Al_yes hz hA hS (by assumption) (by assumption)) hPV) dX0_countOnwards_95 sh_66 (by decide) rfl rfl rfl (Nat.le_of_ble_eq_true rfl) (show ((9 + (d - 1))) + 1 ≤ (9 + d) from by omega) (show 8 + (6 + 11) + ((300 + (d - 1) * 25)) ≤ (300 + d * 25) from by omega) ⟨Nat.le_refl _, Nat.le_refl _⟩ (fun v11 X11 q11 => ?_)
                  obtain ⟨T11, eX11, hT11, ev11⟩ := q11
                  rw [ma_ma] at eX11
                  subst X11
                  try simp (disch := decide) only [oC_ma, gC_ma, oM_ma, gM_ma, tC_ma, tM_ma, ma_eq, ma_ne] at hT11
                  try simp (disch := decide) only [oC_ma, gC_ma, oM_ma, gM_ma, tC_ma, tM_ma, ma_eq, ma_ne] at ev11
                  subst v11
                  refine V_iaddN (a := fo + 1) (b := tot (wRf (tC X) (X 64) (X 65)) (d - 1) (ext1 P z a) (z + 1)) C dX0_countOnwards_98 ?_
                  refine V_istore (ls1 := [some (.ref (w.2.1 66)), some (.int (nI z)), some (.int (nI S)), some (.int (-1 : Int32)), some (.int (nI (fo + 1 + (tot (wRf (tC X) (X 64) (X 65)) (d - 1) (ext1 P z a) (z + 1))))), some (.int (nI a))]) C dX0_countOnwards_99 (by decide) rfl ?_
                  refine V_iincN (a := a) (ls1 := [some (.ref (w.2.1 66)), some (.int (nI z)), some (.int (nI S)), some (.int (-1 : Int32)), some (.int (nI (fo + 1 + (tot (wRf (tC X) (X 64) (X 65)) (d - 1) (ext1 P z a) (z + 1))))), some (.int (nI (a + 1)))]) C dX0_countOnwards_101 rfl (by decide) rfl ?_
                  refine V_goto (tgt := 13) C dX0_countOnwards_104 (by decide) ?_
                  exact ih13 (a + 1) (fo + 1 + (tot (wRf (tC X) (X 64) (X 65)) (d - 1) (ext1 P z a) (z + 1))) T11 (by omega) (by omega) (fun k hk => (hT11 k (by omega)).trans ((upd_ne (by omega)).trans (hT k hk))) (cnt_1 hfo (x := 1) (wRf_y (Al_yes hz hA hS (by assumption) (by assumption)) (by assumption)))
              · refine V_goto (tgt := 101) C dX0_countOnwards_39 (by decide) ?_
                refine V_iincN (a := a) (ls1 := [some (.ref (w.2.1 66)), some (.int (nI z)), some (.int (nI S)), some (.int (-1 : Int32)), some (.int (nI fo)), some (.int (nI (a + 1)))]) C dX0_countOnwards_101 rfl (by decide) rfl ?_
                refine V_goto (tgt := 13) C dX0_countOnwards_104 (by decide) ?_
                exact ih13 (a + 1) fo T (by omega) (by omega) hT (by first | exact cnt_0 wRf_z hfo (not_Al_seen hz hS (by assumption)) | exact cnt_0 wRf_z hfo (not_Al_step hz (by assumption)))
      refine V_eqX (X1 := (ma X 67 (X 67))) (ma_id rfl) ?_
      exact L13 _ 0 0 (X 67) (Nat.lt_succ_self _) (by omega) (fun _ _ => rfl) rfl
    · refine V_iconst (v := (0 : Int32)) C dX0_countOnwards_5 (by decide) ?_
      exact V_ireturnI C dX0_countOnwards_6 ⟨X 67, (ma_self X 67).symm, fun _ _ => rfl, tot_none (by omega)⟩
