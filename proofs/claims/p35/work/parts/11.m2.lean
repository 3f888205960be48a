def q_X2_isGoodOriginOver (o : Nat) (v : Int32) (b : Int32) (X : Mem) : Int32 → Mem → Prop := fun r X' => bI (CovO (oC X) (X 18) o v b) r ∧ X' = X
set_option maxHeartbeats 4000000 in
set_option maxRecDepth 100000 in
theorem k_X2_isGoodOriginOver (w : Wt) (l : Launch) (o : Nat) (v : Int32) (b : Int32) (X : Mem) (ho : o < 50) : CtI w l yX2_isGoodOriginOver cX2_isGoodOriginOver 4 (some .boolean) 3 67 [.ref (w.2.1 17), .int (nI o), .int v, .int b] X (q_X2_isGoodOriginOver o v b X) := by
  refine CtI_of (by decide +kernel) (Nat.le_of_ble_eq_true rfl) (List.forall_mem_cons.mpr ⟨rfl, (List.forall_mem_cons.mpr ⟨rfl, (List.forall_mem_cons.mpr ⟨rfl, (List.forall_mem_cons.mpr ⟨rfl, (fun _ h => nomatch h)⟩)⟩)⟩)⟩) (ls := [some (.ref (w.2.1 17)), some (.int (nI o)), some (.int v), some (.int b)]) rfl (args := (#[.ref (w.2.1 17), .int (nI o), .int v, .int b] : Array Value)) rfl (own := RX2) rfl ?_
  intro p e s m below meth c C
  refine V_aload_n C dX2_isGoodOriginOver_0 rfl ?_
  refine V_getr C fl_X2_23 dX2_isGoodOriginOver_1 (by decide) sh_17 rfl ?_
  refine V_getr C fl_X2_44 dX2_isGoodOriginOver_4 (by decide) sh_6 rfl ?_
  refine V_iload_n C dX2_isGoodOriginOver_7 rfl ?_
  refine V_ialdN (p0 := 7) (o := o) (v := X 7 o) C dX2_isGoodOriginOver_8 sh_7 (by decide) (by omega) (by decide) rfl ?_
  refine V_iconst (v := (1 : Int32)) C dX2_isGoodOriginOver_9 (by decide) ?_
  refine V_icmp_ne (x := X 7 o) (y := (1 : Int32)) (tgt := 39) C dX2_isGoodOriginOver_10 (by decide) (fun h10_1 => ?_) (fun h10_1 => ?_)
  · refine V_iconst (v := (0 : Int32)) C dX2_isGoodOriginOver_39 (by decide) ?_
    exact V_zreturnI C dX2_isGoodOriginOver_40 (Or.inl rfl) ⟨bI.f (by simp_all [CovO, oC, gC, kd, isr, whm, vlu, len, ext, lst, sgn, rvk, lsd, prt, kyy, frs, own, ← Int32.not_lt]), rfl⟩
  · refine V_aload_n C dX2_isGoodOriginOver_13 rfl ?_
    refine V_getr C fl_X2_9 dX2_isGoodOriginOver_14 (by decide) sh_17 rfl ?_
    refine V_iload_n C dX2_isGoodOriginOver_17 rfl ?_
    refine V_ialdN (p0 := 18) (o := o) (v := X 18 o) C dX2_isGoodOriginOver_18 sh_18 (by decide) (by omega) (by decide) rfl ?_
    refine V_if_ne (x := X 18 o) (tgt := 39) C dX2_isGoodOriginOver_19 (by decide) (fun h19_2 => ?_) (fun h19_2 => ?_)
    · refine V_iconst (v := (0 : Int32)) C dX2_isGoodOriginOver_39 (by decide) ?_
      exact V_zreturnI C dX2_isGoodOriginOver_40 (Or.inl rfl) ⟨bI.f (by simp_all [CovO, oC, gC, kd, isr, whm, vlu, len, ext, lst, sgn, rvk, lsd, prt, kyy, frs, own, ← Int32.not_lt]), rfl⟩
    · refine V_aload_n C dX2_isGoodOriginOver_22 rfl ?_
      refine V_getr C fl_X2_23 dX2_isGoodOriginOver_23 (by decide) sh_17 rfl ?_
      refine V_iload_n C dX2_isGoodOriginOver_26 rfl ?_
      refine V_iload_n C dX2_isGoodOriginOver_27 rfl ?_
      refine V_iload_n C dX2_isGoodOriginOver_28 rfl ?_
      refine V_callVI C [.int (nI o), .int v, .int b] mi_X2_104 (k_X7_covers w l o v b X (by assumption)) dX2_isGoodOriginOver_29 sh_6 (by decide) rfl rfl rfl (Nat.le_of_ble_eq_true rfl) (Nat.le_of_ble_eq_true rfl) (Nat.le_of_ble_eq_true rfl) ⟨Nat.le_refl _, Nat.le_refl _⟩ (fun v3 X3 q3 => ?_)
      obtain ⟨hb3, eX3⟩ := q3; subst X3
      refine V_if_eqB (tgt := 39) C hb3 dX2_isGoodOriginOver_32 (by decide) (fun h32_4 => ?_) (fun h32_4 => ?_)
      · refine V_iconst (v := (0 : Int32)) C dX2_isGoodOriginOver_39 (by decide) ?_
        exact V_zreturnI C dX2_isGoodOriginOver_40 (Or.inl rfl) ⟨bI.f (by simp_all [CovO, oC, gC, kd, isr, whm, vlu, len, ext, lst, sgn, rvk, lsd, prt, kyy, frs, own, ← Int32.not_lt]), rfl⟩
      · refine V_iconst (v := (1 : Int32)) C dX2_isGoodOriginOver_35 (by decide) ?_
        refine V_goto (tgt := 40) C dX2_isGoodOriginOver_36 (by decide) ?_
        exact V_zreturnI C dX2_isGoodOriginOver_40 (Or.inr rfl) ⟨bI.t (by simp_all [CovO, oC, gC, kd, isr, whm, vlu, len, ext, lst, sgn, rvk, lsd, prt, kyy, frs, own, ← Int32.not_lt]), rfl⟩
def q_X2_originState (net : Int32) (v : Int32) (b : Int32) (X : Mem) (n : Nat) : Int32 → Mem → Prop := fun r X' => StR (oC X) (X 18) n net v b r ∧ X' = X
set_option maxHeartbeats 4000000 in
set_option maxRecDepth 100000 in
theorem k_X2_originState (w : Wt) (l : Launch) (net : Int32) (v : Int32) (b : Int32) (X : Mem) (n : Nat) (hn : X 6 0 = nI n) (n50 : n ≤ 50) : CtI w l yX2_originState cX2_originState 6 (some .int) 4 90 [.ref (w.2.1 17), .int net, .int v, .int b] X (q_X2_originState net v b X n) := by
  refine CtI_of (by decide +kernel) (Nat.le_of_ble_eq_true rfl) (List.forall_mem_cons.mpr ⟨rfl, (List.forall_mem_cons.mpr ⟨rfl, (List.forall_mem_cons.mpr ⟨rfl, (List.forall_mem_cons.mpr ⟨rfl, (fun _ h => nomatch h)⟩)⟩)⟩)⟩) (ls := [some (.ref (w.2.1 17)), some (.int net), some (.int v), some (.int b), none, none]) rfl (args := (#[.ref (w.2.1 17), .int net, .int v, .int b] : Array Value)) rfl (own := RX2) rfl ?_
  intro p e s m below meth c C
  refine V_iconst (v := (0 : Int32)) C dX2_originState_0 (by decide) ?_
  refine V_istore (ls1 := [some (.ref (w.2.1 17)), some (.int net), some (.int v), some (.int b), some (.int (0 : Int32)), none]) C dX2_originState_1 (by decide) rfl ?_
  refine V_iconst (v := (0 : Int32)) C dX2_originState_3 (by decide) ?_
  refine V_istore (ls1 := [some (.ref (w.2.1 17)), some (.int net), some (.int v), some (.int b), some (.int (0 : Int32)), some (.int (0 : Int32))]) C dX2_originState_4 (by decide) rfl ?_
  have L6 : ∀ (fu : Nat) (i : Nat) (st : Int32), n - i < fu → (i ≤ n) → (StR (oC X) (X 18) i net v b st) → V p l e ({ frames := 4, cells := 0, slots := 0, locals := 90 } : Room) s m (#[.ref (w.2.1 17), .int net, .int v, .int b] : Array Value) below meth c w 6 0 0 (EI w below s (#[.ref (w.2.1 17), .int net, .int v, .int b] : Array Value) 0 0 (q_X2_originState net v b X n)) 6 [some (.ref (w.2.1 17)), some (.int net), some (.int v), some (.int b), some (.int st), some (.int (nI i))] [] X := by
    intro fu
    induction fu with
    | zero => intro i st hm; exact absurd hm (Nat.not_lt_zero _)
    | succ fu ih6 =>
      intro i st hm6 hi hs
      refine V_iload C dX2_originState_6 rfl ?_
      refine V_aload_n C dX2_originState_8 rfl ?_
      refine V_getr C fl_X2_23 dX2_originState_9 (by decide) sh_17 rfl ?_
      refine V_geti C fl_X2_33 dX2_originState_12 (by decide) sh_6 rfl ?_
      refine V_eqi (y := nI n) hn ?_
      refine V_icmp_geN (a := i) (b := n) (tgt := 76) C dX2_originState_15 (by decide) (by omega) (by omega) (fun h15_1 => ?_) (fun h15_1 => ?_)
      · refine V_iload C dX2_originState_76 rfl ?_
        exact V_ireturnI C dX2_originState_78 ⟨StR_done hs hi (by first | exact Or.inl (by assumption) | exact Or.inr (by assumption)), rfl⟩
      · refine V_iload C dX2_originState_18 rfl ?_
        refine V_iconst (v := (1 : Int32)) C dX2_originState_20 (by decide) ?_
        refine V_icmp_eq (x := st) (y := (1 : Int32)) (tgt := 76) C dX2_originState_21 (by decide) (fun h21_2 => ?_) (fun h21_2 => ?_)
        · refine V_iload C dX2_originState_76 rfl ?_
          exact V_ireturnI C dX2_originState_78 ⟨StR_done hs hi (by first | exact Or.inl (by assumption) | exact Or.inr (by assumption)), rfl⟩
        · refine V_aload_n C dX2_originState_24 rfl ?_
          refine V_iload C dX2_originState_25 rfl ?_
          refine V_iload_n C dX2_originState_27 rfl ?_
          refine V_iload_n C dX2_originState_28 rfl ?_
          refine V_callVI C [.int (nI i), .int v, .int b] mi_X2_117 (k_X2_isGoodOriginOver w l i v b X (by omega)) dX2_originState_29 sh_17 (by decide) rfl rfl rfl (Nat.le_of_ble_eq_true rfl) (Nat.le_of_ble_eq_true rfl) (Nat.le_of_ble_eq_true rfl) ⟨Nat.le_refl _, Nat.le_refl _⟩ (fun v3 X3 q3 => ?_)
          obtain ⟨hb3, eX3⟩ := q3; subst X3
          refine V_if_eqB (tgt := 70) C hb3 dX2_originState_32 (by decide) (fun h32_4 => ?_) (fun h32_4 => ?_)
          · refine V_iincN (a := i) (ls1 := [some (.ref (w.2.1 17)), some (.int net), some (.int v), some (.int b), some (.int st), some (.int (nI (i + 1)))]) C dX2_originState_70 rfl (by decide) rfl ?_
            refine V_goto (tgt := 6) C dX2_originState_73 (by decide) ?_
            exact ih6 (i + 1) st (by omega) (by omega) (StR_skip hs (by simp_all [CovO, ValO, oC, whm, ext, ← Int32.not_lt]))
          · refine V_aload_n C dX2_originState_35 rfl ?_
            refine V_getr C fl_X2_23 dX2_originState_36 (by decide) sh_17 rfl ?_
            refine V_getr C fl_X2_47 dX2_originState_39 (by decide) sh_6 rfl ?_
            refine V_iload C dX2_originState_42 rfl ?_
            refine V_ialdN (p0 := 9) (o := i) (v := X 9 i) C dX2_originState_44 sh_9 (by decide) (by omega) (by decide) rfl ?_
            refine V_iload_n C dX2_originState_45 rfl ?_
            refine V_icmp_ne (x := X 9 i) (y := net) (tgt := 67) C dX2_originState_46 (by decide) (fun h46_5 => ?_) (fun h46_5 => ?_)
            · refine V_iconst (v := (2 : Int32)) C dX2_originState_67 (by decide) ?_
              refine V_istore (ls1 := [some (.ref (w.2.1 17)), some (.int net), some (.int v), some (.int b), some (.int (2 : Int32)), some (.int (nI i))]) C dX2_originState_68 (by decide) rfl ?_
              refine V_iincN (a := i) (ls1 := [some (.ref (w.2.1 17)), some (.int net), some (.int v), some (.int b), some (.int (2 : Int32)), some (.int (nI (i + 1)))]) C dX2_originState_70 rfl (by decide) rfl ?_
              refine V_goto (tgt := 6) C dX2_originState_73 (by decide) ?_
              exact ih6 (i + 1) (2 : Int32) (by omega) (by omega) (StR_inv hs (by assumption) (by simp_all [CovO, ValO, oC, whm, ext, ← Int32.not_lt]) (by simp_all [CovO, ValO, oC, whm, ext, ← Int32.not_lt]))
            · refine V_iload_n C dX2_originState_49 rfl ?_
              refine V_aload_n C dX2_originState_50 rfl ?_
              refine V_getr C fl_X2_23 dX2_originState_51 (by decide) sh_17 rfl ?_
              refine V_getr C fl_X2_120 dX2_originState_54 (by decide) sh_6 rfl ?_
              refine V_iload C dX2_originState_57 rfl ?_
              refine V_ialdN (p0 := 12) (o := i) (v := X 12 i) C dX2_originState_59 sh_12 (by decide) (by omega) (by decide) rfl ?_
              refine V_icmp_gt (x := b) (y := X 12 i) (tgt := 67) C dX2_originState_60 (by decide) (fun h60_6 => ?_) (fun h60_6 => ?_)
              · refine V_iconst (v := (2 : Int32)) C dX2_originState_67 (by decide) ?_
                refine V_istore (ls1 := [some (.ref (w.2.1 17)), some (.int net), some (.int v), some (.int b), some (.int (2 : Int32)), some (.int (nI i))]) C dX2_originState_68 (by decide) rfl ?_
                refine V_iincN (a := i) (ls1 := [some (.ref (w.2.1 17)), some (.int net), some (.int v), some (.int b), some (.int (2 : Int32)), some (.int (nI (i + 1)))]) C dX2_originState_70 rfl (by decide) rfl ?_
                refine V_goto (tgt := 6) C dX2_originState_73 (by decide) ?_
                exact ih6 (i + 1) (2 : Int32) (by omega) (by omega) (StR_inv hs (by assumption) (by simp_all [CovO, ValO, oC, whm, ext, ← Int32.not_lt]) (by simp_all [CovO, ValO, oC, whm, ext, ← Int32.not_lt]))
              · refine V_iconst (v := (1 : Int32)) C dX2_originState_63 (by decide) ?_
                refine V_goto (tgt := 68) C dX2_originState_64 (by decide) ?_
                refine V_istore (ls1 := [some (.ref (w.2.1 17)), some (.int net), some (.int v), some (.int b), some (.int (1 : Int32)), some (.int (nI i))]) C dX2_originState_68 (by decide) rfl ?_
                refine V_iincN (a := i) (ls1 := [some (.ref (w.2.1 17)), some (.int net), some (.int v), some (.int b), some (.int (1 : Int32)), some (.int (nI (i + 1)))]) C dX2_originState_70 rfl (by decide) rfl ?_
                refine V_goto (tgt := 6) C dX2_originState_73 (by decide) ?_
                exact ih6 (i + 1) (1 : Int32) (by omega) (by omega) (StR_val (by simp_all [CovO, ValO, oC, whm, ext, ← Int32.not_lt]))
  exact L6 _ 0 (0 : Int32) (Nat.lt_succ_self _) (by omega) StR_0
def q_X2_isLinkTo (o : Nat) (c0 : Nat) (X : Mem) (h n : Nat) : Int32 → Mem → Prop := fun r X' => bI (LinkTo (oC X) (gC X) (X 1 0) o (nI c0)) r ∧ X' = X
set_option maxHeartbeats 4000000 in
set_option maxRecDepth 100000 in
theorem k_X2_isLinkTo (w : Wt) (l : Launch) (o : Nat) (c0 : Nat) (X : Mem) (h n : Nat) (hO : OInv (oC X) h n) (hG : GInv (gC X) h) (hn : X 6 0 = nI n) (ho : o < n) (hc : c0 < h) : CtI w l yX2_isLinkTo cX2_isLinkTo 3 (some .boolean) 4 87 [.ref (w.2.1 17), .int (nI o), .int (nI c0)] X (q_X2_isLinkTo o c0 X h n) := by
  have n50 := hO.1
  have h8 := hG.2.1
  have i0 : ix (nI c0) = c0 := ix_nI (by omega)
  refine CtI_of (by decide +kernel) (Nat.le_of_ble_eq_true rfl) (List.forall_mem_cons.mpr ⟨rfl, (List.forall_mem_cons.mpr ⟨rfl, (List.forall_mem_cons.mpr ⟨rfl, (fun _ h => nomatch h)⟩)⟩)⟩) (ls := [some (.ref (w.2.1 17)), some (.int (nI o)), some (.int (nI c0))]) rfl (args := (#[.ref (w.2.1 17), .int (nI o), .int (nI c0)] : Array Value)) rfl (own := RX2) rfl ?_
  intro p e s m below meth c C
  refine V_aload_n C dX2_isLinkTo_0 rfl ?_
  refine V_iload_n C dX2_isLinkTo_1 rfl ?_
  refine V_iload_n C dX2_isLinkTo_2 rfl ?_
  refine V_callVI C [.int (nI o), .int (nI c0)] mi_X2_36 (k_X2_isGrantTo w l o (nI c0) X (by omega)) dX2_isLinkTo_3 sh_17 (by decide) rfl rfl rfl (Nat.le_of_ble_eq_true rfl) (Nat.le_of_ble_eq_true rfl) (Nat.le_of_ble_eq_true rfl) ⟨Nat.le_refl _, Nat.le_refl _⟩ (fun v1 X1 q1 => ?_)
  obtain ⟨hb1, eX1⟩ := q1; subst X1
  refine V_if_eqB (tgt := 42) C hb1 dX2_isLinkTo_6 (by decide) (fun h6_2 => ?_) (fun h6_2 => ?_)
  · refine V_iconst (v := (0 : Int32)) C dX2_isLinkTo_42 (by decide) ?_
    exact V_zreturnI C dX2_isLinkTo_43 (Or.inl rfl) ⟨bI.f (by simp_all [LinkTo, oC, gC, kd, isr, whm, vlu, len, ext, lst, sgn, rvk, lsd, prt, kyy, frs, own, ← Int32.not_lt]), rfl⟩
  · refine V_aload_n C dX2_isLinkTo_9 rfl ?_
    refine V_getr C fl_X2_23 dX2_isLinkTo_10 (by decide) sh_17 rfl ?_
    refine V_getr C fl_X2_57 dX2_isLinkTo_13 (by decide) sh_6 rfl ?_
    refine V_iload_n C dX2_isLinkTo_16 rfl ?_
    refine V_ialdN (p0 := 8) (o := o) (v := X 8 o) C dX2_isLinkTo_17 sh_8 (by decide) (by omega) (by decide) rfl ?_
    refine V_aload_n C dX2_isLinkTo_18 rfl ?_
    refine V_getr C fl_X2_19 dX2_isLinkTo_19 (by decide) sh_17 rfl ?_
    refine V_getr C fl_X2_88 dX2_isLinkTo_22 (by decide) sh_1 rfl ?_
    refine V_iload_n C dX2_isLinkTo_25 rfl ?_
    refine V_ialdN (p0 := 2) (o := c0) (v := X 2 c0) C dX2_isLinkTo_26 sh_2 (by decide) (by omega) (by decide) rfl ?_
    refine V_icmp_ne (x := X 8 o) (y := X 2 c0) (tgt := 42) C dX2_isLinkTo_27 (by decide) (fun h27_3 => ?_) (fun h27_3 => ?_)
    · refine V_iconst (v := (0 : Int32)) C dX2_isLinkTo_42 (by decide) ?_
      exact V_zreturnI C dX2_isLinkTo_43 (Or.inl rfl) ⟨bI.f (by simp_all [LinkTo, oC, gC, kd, isr, whm, vlu, len, ext, lst, sgn, rvk, lsd, prt, kyy, frs, own, ← Int32.not_lt]), rfl⟩
    · refine V_aload_n C dX2_isLinkTo_30 rfl ?_
      refine V_iload_n C dX2_isLinkTo_31 rfl ?_
      refine V_callVI C [.int (nI o)] mi_X2_50 (k_X2_faultOfItsOwn w l o X h n hO hG hn (by omega)) dX2_isLinkTo_32 sh_17 (by decide) rfl rfl rfl (Nat.le_of_ble_eq_true rfl) (Nat.le_of_ble_eq_true rfl) (Nat.le_of_ble_eq_true rfl) ⟨Nat.le_refl _, Nat.le_refl _⟩ (fun v4 X4 q4 => ?_)
      obtain ⟨ev4, eX4⟩ := q4; subst X4
      subst v4
      refine V_if_ne (x := faultS (oC X) (gC X) (X 1 0) o) (tgt := 42) C dX2_isLinkTo_35 (by decide) (fun h35_5 => ?_) (fun h35_5 => ?_)
      · refine V_iconst (v := (0 : Int32)) C dX2_isLinkTo_42 (by decide) ?_
        exact V_zreturnI C dX2_isLinkTo_43 (Or.inl rfl) ⟨bI.f (by simp_all [LinkTo, oC, gC, kd, isr, whm, vlu, len, ext, lst, sgn, rvk, lsd, prt, kyy, frs, own, ← Int32.not_lt]), rfl⟩
      · refine V_iconst (v := (1 : Int32)) C dX2_isLinkTo_38 (by decide) ?_
        refine V_goto (tgt := 43) C dX2_isLinkTo_39 (by decide) ?_
        exact V_zreturnI C dX2_isLinkTo_43 (Or.inr rfl) ⟨bI.t (by simp_all [LinkTo, oC, gC, kd, isr, whm, vlu, len, ext, lst, sgn, rvk, lsd, prt, kyy, frs, own, ← Int32.not_lt]), rfl⟩
def q_X2_chainReaches (c0 : Nat) (v : Int32) (b : Int32) (dp : Nat) (X : Mem) (h n : Nat) : Int32 → Mem → Prop := fun r X' => ∃ T, X' = ma X 19 T ∧ bI (Rx (oC X) (gC X) (X 1 0) n (nI c0) v b) r ∧ (r = 0 → Dead (oC X) (gC X) (X 1 0) n c0 T) ∧ Same (oC X) c0 (X 19) T
def q_X2_leadsUp (o : Nat) (dp : Nat) (X : Mem) (h n c0 : Nat) : Int32 → Mem → Prop := fun r X' => ∃ T, X' = ma X 19 T ∧ bI (Up (oC X) (gC X) (X 1 0) n o) r ∧ (r = 0 → Dead (oC X) (gC X) (X 1 0) n c0 T) ∧ Same (oC X) c0 (X 19) T
set_option maxHeartbeats 4000000 in
set_option maxRecDepth 100000 in
theorem k_X2_leadsUp (w : Wt) (l : Launch) (o : Nat) (dp : Nat) (X : Mem) (h n c0 : Nat) (hO : OInv (oC X) h n) (hG : GInv (gC X) h) (hn : X 6 0 = nI n) (hc : c0 < h) (ho : o < n) (hd : dp + c0 ≤ 7) (hz : ¬ c0 = 0) (hL : LinkTo (oC X) (gC X) (X 1 0) o (nI c0)) (hT : Dead (oC X) (gC X) (X 1 0) n c0 (X 19)) (hK : ∀ c1, c1 < c0 → ∀ (v b : Int32) (dp : Nat) (X : Mem), OInv (oC X) h n → GInv (gC X) h → X 6 0 = nI n → c1 < h → dp + c1 ≤ 7 → Dead (oC X) (gC X) (X 1 0) n c1 (X 19) → CtI w l yX2_chainReaches cX2_chainReaches 7 (some .boolean) (9 + 2 * c1) (300 + 48 * c1) [.ref (w.2.1 17), .int (nI c1), .int v, .int b, .int (nI dp)] X (q_X2_chainReaches c1 v b dp X h n)) : CtI w l yX2_leadsUp cX2_leadsUp 3 (some .boolean) (8 + 2 * c0) (278 + 48 * c0) [.ref (w.2.1 17), .int (nI o), .int (nI dp)] X (q_X2_leadsUp o dp X h n c0) := by
  have n50 := hO.1
  have h8 := hG.2.1
  refine CtI_of (by decide +kernel) (Nat.le_of_ble_eq_true rfl) (List.forall_mem_cons.mpr ⟨rfl, (List.forall_mem_cons.mpr ⟨rfl, (List.forall_mem_cons.mpr ⟨rfl, (fun _ h => nomatch h)⟩)⟩)⟩) (ls := [some (.ref (w.2.1 17)), some (.int (nI o)), some (.int (nI dp))]) rfl (args := (#[.ref (w.2.1 17), .int (nI o), .int (nI dp)] : Array Value)) rfl (own := RX2) rfl ?_
  intro p e s m below meth c C
  refine V_aload_n C dX2_leadsUp_0 rfl ?_
  refine V_getr C fl_X2_15 dX2_leadsUp_1 (by decide) sh_17 rfl ?_
  refine V_iload_n C dX2_leadsUp_4 rfl ?_
  refine V_iconst (v := (1 : Int32)) C dX2_leadsUp_5 (by decide) ?_
  refine V_bastN (p0 := 19) (o := o) (X1 := (ma X 19 (upd (X 19) o (1 : Int32)))) C dX2_leadsUp_6 sh_19 (by decide) (by omega) (by decide) (Or.inr rfl) rfl ?_
  refine V_aload_n C dX2_leadsUp_7 rfl ?_
  refine V_aload_n C dX2_leadsUp_8 rfl ?_
  refine V_getr C fl_X2_23 dX2_leadsUp_9 (by decide) sh_17 rfl ?_
  refine V_getr C fl_X2_57 dX2_leadsUp_12 (by decide) sh_6 rfl ?_
  refine V_iload_n C dX2_leadsUp_15 rfl ?_
  refine V_ialdN (p0 := 8) (o := o) (v := X 8 o) C dX2_leadsUp_16 sh_8 (by decide) (by omega) (by decide) rfl ?_
  obtain ⟨a1, ha1, ea1⟩ := Link_isr hG hz hc hL
  have ia1 : ix (nI a1) = a1 := ix_nI (by omega)
  refine V_eqi ea1 ?_
  refine V_aload_n C dX2_leadsUp_17 rfl ?_
  refine V_getr C fl_X2_23 dX2_leadsUp_18 (by decide) sh_17 rfl ?_
  refine V_getr C fl_X2_91 dX2_leadsUp_21 (by decide) sh_6 rfl ?_
  refine V_iload_n C dX2_leadsUp_24 rfl ?_
  refine V_ialdN (p0 := 10) (o := o) (v := X 10 o) C dX2_leadsUp_25 sh_10 (by decide) (by omega) (by decide) rfl ?_
  refine V_aload_n C dX2_leadsUp_26 rfl ?_
  refine V_getr C fl_X2_23 dX2_leadsUp_27 (by decide) sh_17 rfl ?_
  refine V_getr C fl_X2_94 dX2_leadsUp_30 (by decide) sh_6 rfl ?_
  refine V_iload_n C dX2_leadsUp_33 rfl ?_
  refine V_ialdN (p0 := 11) (o := o) (v := X 11 o) C dX2_leadsUp_34 sh_11 (by decide) (by omega) (by decide) rfl ?_
  refine V_iload_n C dX2_leadsUp_35 rfl ?_
  refine V_iconst (v := (1 : Int32)) C dX2_leadsUp_36 (by decide) ?_
  refine V_iaddN (a := dp) (b := 1) C dX2_leadsUp_37 ?_
  refine V_callVI C [.int (nI a1), .int (X 10 o), .int (X 11 o), .int (nI (dp + 1))] mi_X2_107 (hK a1 (by omega) (X 10 o) (X 11 o) (dp + 1) (ma X 19 (upd (X 19) o (1 : Int32))) hO hG hn (by omega) (by omega) (Dead_mark hG.2.1 hc (by assumption) hL.1 hT)) dX2_leadsUp_38 sh_17 (by decide) rfl rfl rfl (Nat.le_of_ble_eq_true rfl) (show ((9 + 2 * a1)) + 1 ≤ (8 + 2 * c0) from by omega) (show 8 + (7 + 11) + ((300 + 48 * a1)) ≤ (278 + 48 * c0) from by omega) ⟨Nat.le_refl _, Nat.le_refl _⟩ (fun v2 X2 q2 => ?_)
  obtain ⟨T2, eX2, hb2, hD2, hS2⟩ := q2
  rw [ma_ma] at eX2
  subst X2
  try simp (disch := decide) only [oC_ma, gC_ma, oM_ma, gM_ma, ma_eq, ma_ne] at hb2
  try simp (disch := decide) only [oC_ma, gC_ma, oM_ma, gM_ma, ma_eq, ma_ne] at hD2
  try simp (disch := decide) only [oC_ma, gC_ma, oM_ma, gM_ma, ma_eq, ma_ne] at hS2
  exact V_zreturnI C dX2_leadsUp_41 hb2.z ⟨_, rfl, hb2.congr (Up_iff ea1), fun z => Dead_back hG.2.1 hc (by assumption) hT (hD2 z) hS2 (fun q => (hb2.eq0.mp z) ((Up_iff ea1).mpr q)), Same_back (by assumption) hL.1 (fun _ _ => rfl) hS2⟩
set_option maxHeartbeats 4000000 in
set_option maxRecDepth 100000 in
theorem k_X2_chainReaches (w : Wt) (l : Launch) (c0 : Nat) (v : Int32) (b : Int32) (dp : Nat) (X : Mem) (h n : Nat) (hO : OInv (oC X) h n) (hG : GInv (gC X) h) (hn : X 6 0 = nI n) (hc : c0 < h) (hd : dp + c0 ≤ 7) (hT : Dead (oC X) (gC X) (X 1 0) n c0 (X 19)) : CtI w l yX2_chainReaches cX2_chainReaches 7 (some .boolean) (9 + 2 * c0) (300 + 48 * c0) [.ref (w.2.1 17), .int (nI c0), .int v, .int b, .int (nI dp)] X (q_X2_chainReaches c0 v b dp X h n) := by
  induction c0 using Nat.strongRecOn generalizing v b dp X with
  | ind c0 IH =>
    have n50 := hO.1
    have h8 := hG.2.1
    refine CtI_of (by decide +kernel) (Nat.le_of_ble_eq_true rfl) (List.forall_mem_cons.mpr ⟨rfl, (List.forall_mem_cons.mpr ⟨rfl, (List.forall_mem_cons.mpr ⟨rfl, (List.forall_mem_cons.mpr ⟨rfl, (List.forall_mem_cons.mpr ⟨rfl, (fun _ h => nomatch h)⟩)⟩)⟩)⟩)⟩) (ls := [some (.ref (w.2.1 17)), some (.int (nI c0)), some (.int v), some (.int b), some (.int (nI dp)), none, none]) rfl (args := (#[.ref (w.2.1 17), .int (nI c0), .int v, .int b, .int (nI dp)] : Array Value)) rfl (own := RX2) rfl ?_
    intro p e s m below meth c C
    have L23 : ∀ (fu : Nat) (i : Nat) (f : Int32) (T : Nat → Int32), n - i < fu → (i ≤ n) → (Same (oC X) c0 (X 19) T) → ((f = 1 ∧ Rx (oC X) (gC X) (X 1 0) n (nI c0) v b) ∨ (f = 0 ∧ ¬ c0 = 0 ∧ Dead (oC X) (gC X) (X 1 0) n c0 T ∧ ∀ o, o < i → LinkTo (oC X) (gC X) (X 1 0) o (nI c0) → LiesIn v b (vlu (oC X) o) (len (oC X) o) → ¬ Up (oC X) (gC X) (X 1 0) n o)) → V p l e ({ frames := (9 + 2 * c0), cells := 0, slots := 0, locals := (300 + 48 * c0) } : Room) s m (#[.ref (w.2.1 17), .int (nI c0), .int v, .int b, .int (nI dp)] : Array Value) below meth c w 7 0 0 (EI w below s (#[.ref (w.2.1 17), .int (nI c0), .int v, .int b, .int (nI dp)] : Array Value) 0 0 (q_X2_chainReaches c0 v b dp X h n)) 23 [some (.ref (w.2.1 17)), some (.int (nI c0)), some (.int v), some (.int b), some (.int (nI dp)), some (.int f), some (.int (nI i))] [] (ma X 19 T) := by
      intro fu
      induction fu with
      | zero => intro i f T hm; exact absurd hm (Nat.not_lt_zero _)
      | succ fu ih23 =>
        intro i f T hm23 hi hF hfo
        refine V_iload C dX2_chainReaches_23 rfl ?_
        refine V_aload_n C dX2_chainReaches_25 rfl ?_
        refine V_getr C fl_X2_23 dX2_chainReaches_26 (by decide) sh_17 rfl ?_
        refine V_geti C fl_X2_33 dX2_chainReaches_29 (by decide) sh_6 rfl ?_
        refine V_eqi (y := X 6 0) rfl ?_
        refine V_eqi (y := nI n) hn ?_
        refine V_icmp_geN (a := i) (b := n) (tgt := 98) C dX2_chainReaches_32 (by decide) (by omega) (by omega) (fun h32_1 => ?_) (fun h32_1 => ?_)
        · refine V_iload C dX2_chainReaches_98 rfl ?_
          exact V_zreturnI C dX2_chainReaches_100 (hfo.elim (fun q => Or.inr q.1) (fun q => Or.inl q.1)) ⟨T, rfl, (chain_out (by omega) hfo (by first | exact Or.inl (by omega) | exact Or.inr (by assumption))).1, (chain_out (by omega) hfo (by first | exact Or.inl (by omega) | exact Or.inr (by assumption))).2, hF⟩
        · refine V_iload C dX2_chainReaches_35 rfl ?_
          refine V_if_ne (x := f) (tgt := 98) C dX2_chainReaches_37 (by decide) (fun h37_2 => ?_) (fun h37_2 => ?_)
          · refine V_iload C dX2_chainReaches_98 rfl ?_
            exact V_zreturnI C dX2_chainReaches_100 (hfo.elim (fun q => Or.inr q.1) (fun q => Or.inl q.1)) ⟨T, rfl, (chain_out (by omega) hfo (by first | exact Or.inl (by omega) | exact Or.inr (by assumption))).1, (chain_out (by omega) hfo (by first | exact Or.inl (by omega) | exact Or.inr (by assumption))).2, hF⟩
          · obtain ⟨hc0, hTr, hN⟩ := chf hfo (by assumption)
            refine V_aload_n C dX2_chainReaches_40 rfl ?_
            refine V_getr C fl_X2_15 dX2_chainReaches_41 (by decide) sh_17 rfl ?_
            refine V_iload C dX2_chainReaches_44 rfl ?_
            refine V_baldN (p0 := 19) (o := i) (v := T i) C dX2_chainReaches_46 sh_19 (by decide) (by omega) (by decide) rfl ?_
            refine V_if_ne (x := T i) (tgt := 89) C dX2_chainReaches_47 (by decide) (fun h47_3 => ?_) (fun h47_3 => ?_)
            · refine V_iconst (v := (0 : Int32)) C dX2_chainReaches_89 (by decide) ?_
              refine V_istore (ls1 := [some (.ref (w.2.1 17)), some (.int (nI c0)), some (.int v), some (.int b), some (.int (nI dp)), some (.int (0 : Int32)), some (.int (nI i))]) C dX2_chainReaches_90 (by decide) rfl ?_
              refine V_iincN (a := i) (ls1 := [some (.ref (w.2.1 17)), some (.int (nI c0)), some (.int v), some (.int b), some (.int (nI dp)), some (.int (0 : Int32)), some (.int (nI (i + 1)))]) C dX2_chainReaches_92 rfl (by decide) rfl ?_
              refine V_goto (tgt := 23) C dX2_chainReaches_95 (by decide) ?_
              exact ih23 (i + 1) (0 : Int32) T (by omega) (by omega) hF (Or.inr ⟨rfl, hc0, hTr, chain_N hN (by first | exact fun g _ => hTr i c0 (by omega) (Nat.le_refl _) g.1 (by assumption) | exact fun g _ => absurd g (by assumption) | exact fun _ g => absurd g (by assumption))⟩)
            · refine V_aload_n C dX2_chainReaches_50 rfl ?_
              refine V_iload C dX2_chainReaches_51 rfl ?_
              refine V_iload_n C dX2_chainReaches_53 rfl ?_
              refine V_callVI C [.int (nI i), .int (nI c0)] mi_X2_111 (k_X2_isLinkTo w l i c0 (ma X 19 T) h n hO hG hn (by omega) (by omega)) dX2_chainReaches_54 sh_17 (by decide) rfl rfl rfl (Nat.le_of_ble_eq_true rfl) (show (4) + 1 ≤ (9 + 2 * c0) from by omega) (show 8 + (3 + 11) + (87) ≤ (300 + 48 * c0) from by omega) ⟨Nat.le_refl _, Nat.le_refl _⟩ (fun v4 X4 q4 => ?_)
              obtain ⟨hb4, eX4⟩ := q4; subst X4
              try simp (disch := decide) only [oC_ma, gC_ma, oM_ma, gM_ma, ma_eq, ma_ne] at hb4
              refine V_if_eqB (tgt := 89) C hb4 dX2_chainReaches_57 (by decide) (fun h57_5 => ?_) (fun h57_5 => ?_)
              · refine V_iconst (v := (0 : Int32)) C dX2_chainReaches_89 (by decide) ?_
                refine V_istore (ls1 := [some (.ref (w.2.1 17)), some (.int (nI c0)), some (.int v), some (.int b), some (.int (nI dp)), some (.int (0 : Int32)), some (.int (nI i))]) C dX2_chainReaches_90 (by decide) rfl ?_
                refine V_iincN (a := i) (ls1 := [some (.ref (w.2.1 17)), some (.int (nI c0)), some (.int v), some (.int b), some (.int (nI dp)), some (.int (0 : Int32)), some (.int (nI (i + 1)))]) C dX2_chainReaches_92 rfl (by decide) rfl ?_
                refine V_goto (tgt := 23) C dX2_chainReaches_95 (by decide) ?_
                exact ih23 (i + 1) (0 : Int32) T (by omega) (by omega) hF (Or.inr ⟨rfl, hc0, hTr, chain_N hN (by first | exact fun g _ => hTr i c0 (by omega) (Nat.le_refl _) g.1 (by assumption) | exact fun g _ => absurd g (by assumption) | exact fun _ g => absurd g (by assumption))⟩)
              · refine V_aload_n C dX2_chainReaches_60 rfl ?_
                refine V_getr C fl_X2_23 dX2_chainReaches_61 (by decide) sh_17 rfl ?_
                refine V_iload C dX2_chainReaches_64 rfl ?_
                refine V_iload_n C dX2_chainReaches_66 rfl ?_
                refine V_iload_n C dX2_chainReaches_67 rfl ?_
                refine V_callVI C [.int (nI i), .int v, .int b] mi_X2_104 (k_X7_covers w l i v b (ma X 19 T) (by omega)) dX2_chainReaches_68 sh_6 (by decide) rfl rfl rfl (Nat.le_of_ble_eq_true rfl) (show (2) + 1 ≤ (9 + 2 * c0) from by omega) (show 8 + (4 + 11) + (44) ≤ (300 + 48 * c0) from by omega) ⟨Nat.le_refl _, Nat.le_refl _⟩ (fun v6 X6 q6 => ?_)
                obtain ⟨hb6, eX6⟩ := q6; subst X6
                try simp (disch := decide) only [oC_ma, gC_ma, oM_ma, gM_ma, ma_eq, ma_ne] at hb6
                refine V_if_eqB (tgt := 89) C hb6 dX2_chainReaches_71 (by decide) (fun h71_7 => ?_) (fun h71_7 => ?_)
                · refine V_iconst (v := (0 : Int32)) C dX2_chainReaches_89 (by decide) ?_
                  refine V_istore (ls1 := [some (.ref (w.2.1 17)), some (.int (nI c0)), some (.int v), some (.int b), some (.int (nI dp)), some (.int (0 : Int32)), some (.int (nI i))]) C dX2_chainReaches_90 (by decide) rfl ?_
                  refine V_iincN (a := i) (ls1 := [some (.ref (w.2.1 17)), some (.int (nI c0)), some (.int v), some (.int b), some (.int (nI dp)), some (.int (0 : Int32)), some (.int (nI (i + 1)))]) C dX2_chainReaches_92 rfl (by decide) rfl ?_
                  refine V_goto (tgt := 23) C dX2_chainReaches_95 (by decide) ?_
                  exact ih23 (i + 1) (0 : Int32) T (by omega) (by omega) hF (Or.inr ⟨rfl, hc0, hTr, chain_N hN (by first | exact fun g _ => hTr i c0 (by omega) (Nat.le_refl _) g.1 (by assumption) | exact fun g _ => absurd g (by assumption) | exact fun _ g => absurd g (by assumption))⟩)
                · refine V_aload_n C dX2_chainReaches_74 rfl ?_
                  refine V_iload C dX2_chainReaches_75 rfl ?_
                  refine V_iload C dX2_chainReaches_77 rfl ?_
                  refine V_callVI C [.int (nI i), .int (nI dp)] mi_X2_114 (k_X2_leadsUp w l i dp (ma X 19 T) h n c0 hO hG hn (by omega) (by omega) (by omega) hc0 (by assumption) hTr IH) dX2_chainReaches_79 sh_17 (by decide) rfl rfl rfl (Nat.le_of_ble_eq_true rfl) (show ((8 + 2 * c0)) + 1 ≤ (9 + 2 * c0) from by omega) (show 8 + (3 + 11) + ((278 + 48 * c0)) ≤ (300 + 48 * c0) from by omega) ⟨Nat.le_refl _, Nat.le_refl _⟩ (fun v8 X8 q8 => ?_)
                  obtain ⟨T8, eX8, hb8, hD8, hS8⟩ := q8
                  rw [ma_ma] at eX8
                  subst X8
                  try simp (disch := decide) only [oC_ma, gC_ma, oM_ma, gM_ma, ma_eq, ma_ne] at hb8
                  try simp (disch := decide) only [oC_ma, gC_ma, oM_ma, gM_ma, ma_eq, ma_ne] at hD8
                  try simp (disch := decide) only [oC_ma, gC_ma, oM_ma, gM_ma, ma_eq, ma_ne] at hS8
                  refine V_if_eqB (tgt := 89) C hb8 dX2_chainReaches_82 (by decide) (fun h82_9 => ?_) (fun h82_9 => ?_)
                  · refine V_iconst (v := (0 : Int32)) C dX2_chainReaches_89 (by decide) ?_
                    refine V_istore (ls1 := [some (.ref (w.2.1 17)), some (.int (nI c0)), some (.int v), some (.int b), some (.int (nI dp)), some (.int (0 : Int32)), some (.int (nI i))]) C dX2_chainReaches_90 (by decide) rfl ?_
                    refine V_iincN (a := i) (ls1 := [some (.ref (w.2.1 17)), some (.int (nI c0)), some (.int v), some (.int b), some (.int (nI dp)), some (.int (0 : Int32)), some (.int (nI (i + 1)))]) C dX2_chainReaches_92 rfl (by decide) rfl ?_
                    refine V_goto (tgt := 23) C dX2_chainReaches_95 (by decide) ?_
                    exact ih23 (i + 1) (0 : Int32) T8 (by omega) (by omega) (Same_tr hF hS8) (Or.inr ⟨rfl, hc0, hD8 (hb8.eq0.mpr (by assumption)), chain_N hN (fun _ _ => (by assumption))⟩)
                  · refine V_iconst (v := (1 : Int32)) C dX2_chainReaches_85 (by decide) ?_
                    refine V_goto (tgt := 90) C dX2_chainReaches_86 (by decide) ?_
                    refine V_istore (ls1 := [some (.ref (w.2.1 17)), some (.int (nI c0)), some (.int v), some (.int b), some (.int (nI dp)), some (.int (1 : Int32)), some (.int (nI i))]) C dX2_chainReaches_90 (by decide) rfl ?_
                    refine V_iincN (a := i) (ls1 := [some (.ref (w.2.1 17)), some (.int (nI c0)), some (.int v), some (.int b), some (.int (nI dp)), some (.int (1 : Int32)), some (.int (nI (i + 1)))]) C dX2_chainReaches_92 rfl (by decide) rfl ?_
                    refine V_goto (tgt := 23) C dX2_chainReaches_95 (by decide) ?_
                    exact ih23 (i + 1) (1 : Int32) T8 (by omega) (by omega) (Same_tr hF hS8) (Or.inl ⟨rfl, chain_yes (by omega) (by assumption) (by assumption) (by assumption)⟩)
    refine V_iload C dX2_chainReaches_0 rfl ?_
    refine V_bipush (v := (8 : Int32)) C dX2_chainReaches_2 (by decide) ?_
    refine V_icmp_ltN (a := dp) (b := 8) (tgt := 9) C dX2_chainReaches_4 (by decide) (by omega) (by omega) (fun h4_10 => ?_) (fun h4_10 => ?_)
    · refine V_iload_n C dX2_chainReaches_9 rfl ?_
      refine V_if_neN (a := c0) (tgt := 17) C dX2_chainReaches_10 (by decide) (by omega) (fun h10_11 => ?_) (fun h10_11 => ?_)
      · refine V_iconst (v := (0 : Int32)) C dX2_chainReaches_17 (by decide) ?_
        refine V_istore (ls1 := [some (.ref (w.2.1 17)), some (.int (nI c0)), some (.int v), some (.int b), some (.int (nI dp)), some (.int (0 : Int32)), none]) C dX2_chainReaches_18 (by decide) rfl ?_
        refine V_iconst (v := (0 : Int32)) C dX2_chainReaches_20 (by decide) ?_
        refine V_istore (ls1 := [some (.ref (w.2.1 17)), some (.int (nI c0)), some (.int v), some (.int b), some (.int (nI dp)), some (.int (0 : Int32)), some (.int (0 : Int32))]) C dX2_chainReaches_21 (by decide) rfl ?_
        refine V_eqX (X1 := (ma X 19 (X 19))) (ma_id rfl) ?_
        exact L23 _ 0 (0 : Int32) (X 19) (Nat.lt_succ_self _) (by omega) (fun _ _ => rfl) (Or.inr ⟨rfl, by assumption, hT, fun o h => absurd h (Nat.not_lt_zero _)⟩)
      · refine V_iconst (v := (1 : Int32)) C dX2_chainReaches_13 (by decide) ?_
        refine V_goto (tgt := 18) C dX2_chainReaches_14 (by decide) ?_
        refine V_istore (ls1 := [some (.ref (w.2.1 17)), some (.int (nI c0)), some (.int v), some (.int b), some (.int (nI dp)), some (.int (1 : Int32)), none]) C dX2_chainReaches_18 (by decide) rfl ?_
        refine V_iconst (v := (0 : Int32)) C dX2_chainReaches_20 (by decide) ?_
        refine V_istore (ls1 := [some (.ref (w.2.1 17)), some (.int (nI c0)), some (.int v), some (.int b), some (.int (nI dp)), some (.int (1 : Int32)), some (.int (0 : Int32))]) C dX2_chainReaches_21 (by decide) rfl ?_
        refine V_eqX (X1 := (ma X 19 (X 19))) (ma_id rfl) ?_
        exact L23 _ 0 (1 : Int32) (X 19) (Nat.lt_succ_self _) (by omega) (fun _ _ => rfl) (Or.inl ⟨rfl, ⟨0, by subst_vars; rfl⟩⟩)
    · refine V_iconst (v := (0 : Int32)) C dX2_chainReaches_7 (by decide) ?_
      exact V_zreturnI C dX2_chainReaches_8 (Or.inl rfl) (absurd (by assumption : 8 ≤ dp) (by omega))
def q_X2_holdsByChains (c0 : Nat) (v : Int32) (b : Int32) (X : Mem) (h n : Nat) : Int32 → Mem → Prop := fun r X' => ∃ T, X' = ma X 19 T ∧ bI (Rx (oC X) (gC X) (X 1 0) n (nI c0) v b) r
set_option maxHeartbeats 4000000 in
set_option maxRecDepth 100000 in
theorem k_X2_holdsByChains (w : Wt) (l : Launch) (c0 : Nat) (v : Int32) (b : Int32) (X : Mem) (h n : Nat) (hO : OInv (oC X) h n) (hG : GInv (gC X) h) (hn : X 6 0 = nI n) (hc : c0 < h) : CtI w l yX2_holdsByChains cX2_holdsByChains 5 (some .boolean) (24) (662) [.ref (w.2.1 17), .int (nI c0), .int v, .int b] X (q_X2_holdsByChains c0 v b X h n) := by
  have n50 := hO.1
  have h8 := hG.2.1
  refine CtI_of (by decide +kernel) (Nat.le_of_ble_eq_true rfl) (List.forall_mem_cons.mpr ⟨rfl, (List.forall_mem_cons.mpr ⟨rfl, (List.forall_mem_cons.mpr ⟨rfl, (List.forall_mem_cons.mpr ⟨rfl, (fun _ h => nomatch h)⟩)⟩)⟩)⟩) (ls := [some (.ref (w.2.1 17)), some (.int (nI c0)), some (.int v), some (.int b), none]) rfl (args := (#[.ref (w.2.1 17), .int (nI c0), .int v, .int b] : Array Value)) rfl (own := RX2) rfl ?_
  intro p e s m below meth c C
  refine V_iconst (v := (0 : Int32)) C dX2_holdsByChains_0 (by decide) ?_
  refine V_istore (ls1 := [some (.ref (w.2.1 17)), some (.int (nI c0)), some (.int v), some (.int b), some (.int (0 : Int32))]) C dX2_holdsByChains_1 (by decide) rfl ?_
  have L3 : ∀ (fu : Nat) (i : Nat) (T : Nat → Int32), n - i < fu → (i ≤ n) → (∀ o, o < i → T o = 0) → V p l e ({ frames := (24), cells := 0, slots := 0, locals := (662) } : Room) s m (#[.ref (w.2.1 17), .int (nI c0), .int v, .int b] : Array Value) below meth c w 5 0 0 (EI w below s (#[.ref (w.2.1 17), .int (nI c0), .int v, .int b] : Array Value) 0 0 (q_X2_holdsByChains c0 v b X h n)) 3 [some (.ref (w.2.1 17)), some (.int (nI c0)), some (.int v), some (.int b), some (.int (nI i))] [] (ma X 19 T) := by
    intro fu
    induction fu with
    | zero => intro i T hm; exact absurd hm (Nat.not_lt_zero _)
    | succ fu ih3 =>
      intro i T hm3 hi hz
      refine V_iload C dX2_holdsByChains_3 rfl ?_
      refine V_aload_n C dX2_holdsByChains_5 rfl ?_
      refine V_getr C fl_X2_23 dX2_holdsByChains_6 (by decide) sh_17 rfl ?_
      refine V_geti C fl_X2_33 dX2_holdsByChains_9 (by decide) sh_6 rfl ?_
      refine V_eqi (y := X 6 0) rfl ?_
      refine V_eqi (y := nI n) hn ?_
      refine V_icmp_geN (a := i) (b := n) (tgt := 29) C dX2_holdsByChains_12 (by decide) (by omega) (by omega) (fun h12_1 => ?_) (fun h12_1 => ?_)
      · refine V_aload_n C dX2_holdsByChains_29 rfl ?_
        refine V_iload_n C dX2_holdsByChains_30 rfl ?_
        refine V_iload_n C dX2_holdsByChains_31 rfl ?_
        refine V_iload_n C dX2_holdsByChains_32 rfl ?_
        refine V_iconst (v := (0 : Int32)) C dX2_holdsByChains_33 (by decide) ?_
        refine V_callVI C [.int (nI c0), .int v, .int b, .int (0 : Int32)] mi_X2_107 (k_X2_chainReaches w l c0 v b 0 (ma X 19 T) h n hO hG hn hc (by omega) (fun o _ h1 _ _ h4 => absurd (hz o (by omega)) h4)) dX2_holdsByChains_34 sh_17 (by decide) rfl rfl rfl (Nat.le_of_ble_eq_true rfl) (show ((9 + 2 * c0)) + 1 ≤ (24) from by omega) (show 8 + (7 + 11) + ((300 + 48 * c0)) ≤ (662) from by omega) ⟨Nat.le_refl _, Nat.le_refl _⟩ (fun v2 X2 q2 => ?_)
        obtain ⟨T2, eX2, hb2, hD2, hS2⟩ := q2
        rw [ma_ma] at eX2
        subst X2
        try simp (disch := decide) only [oC_ma, gC_ma, oM_ma, gM_ma, ma_eq, ma_ne] at hb2
        try simp (disch := decide) only [oC_ma, gC_ma, oM_ma, gM_ma, ma_eq, ma_ne] at hD2
        try simp (disch := decide) only [oC_ma, gC_ma, oM_ma, gM_ma, ma_eq, ma_ne] at hS2
        exact V_zreturnI C dX2_holdsByChains_37 hb2.z ⟨_, rfl, hb2⟩
      · refine V_aload_n C dX2_holdsByChains_15 rfl ?_
        refine V_getr C fl_X2_15 dX2_holdsByChains_16 (by decide) sh_17 rfl ?_
        refine V_iload C dX2_holdsByChains_19 rfl ?_
        refine V_iconst (v := (0 : Int32)) C dX2_holdsByChains_21 (by decide) ?_
        refine V_bastN (p0 := 19) (o := i) (X1 := (ma X 19 (upd (T) i (0 : Int32)))) C dX2_holdsByChains_22 sh_19 (by decide) (by omega) (by decide) (Or.inl rfl) (ma_ma _ _ _ _) ?_
        refine V_iincN (a := i) (ls1 := [some (.ref (w.2.1 17)), some (.int (nI c0)), some (.int v), some (.int b), some (.int (nI (i + 1)))]) C dX2_holdsByChains_23 rfl (by decide) rfl ?_
        refine V_goto (tgt := 3) C dX2_holdsByChains_26 (by decide) ?_
        exact ih3 (i + 1) (upd (T) i (0 : Int32)) (by omega) (by omega) (by intro o h1; rcases lt_succ_or.mp h1 with h1 | rfl; rw [upd_ne (by omega)]; exact hz o h1; exact upd_eq _ _ _)
  refine V_eqX (X1 := (ma X 19 (X 19))) (ma_id rfl) ?_
  exact L3 _ 0 (X 19) (Nat.lt_succ_self _) (by omega) (fun o h => absurd h (Nat.not_lt_zero _))
