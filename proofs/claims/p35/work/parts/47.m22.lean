def q_X6_addDraft (v : Int32) (ln : Int32) (X : Mem) (R N1 D : Nat) (dr : Nat → Nat) : Int32 → Mem → Prop := fun r X' => r = nI R ∧ ∃ f, SqR f 0 dr D ∧ X' = (ma (ma (ma (ma (ma X (23 + R) f) 47 (upd (X 47) R (nI (sqn dr D)))) 48 (upd (X 48) R v)) 49 (upd (X 49) R ln)) 20 (upd (upd (upd (X 20) 2 0) 0 (nI (R + 1))) 1 (nI (N1 + 1))))
set_option maxHeartbeats 4000000 in
set_option maxRecDepth 100000 in
theorem k_X6_addDraft (w : Wt) (l : Launch) (v : Int32) (ln : Int32) (X : Mem) (R N1 D : Nat) (dr : Nat → Nat) (hr0 : X 20 0 = nI R) (R24 : R < 24) (hth : X 20 1 = nI N1) (hd : X 20 2 = nI D) (hd6 : D ≤ 6) (hP : PA X 21 dr D) : CtI w l yX6_addDraft cX6_addDraft 6 (some .int) 1 20 [.ref (w.2.1 20), .int v, .int ln] X (q_X6_addDraft v ln X R N1 D dr) := by
  refine CtI_of (by decide +kernel) (Nat.le_of_ble_eq_true rfl) (List.forall_mem_cons.mpr ⟨rfl, (List.forall_mem_cons.mpr ⟨rfl, (List.forall_mem_cons.mpr ⟨rfl, (fun _ h => nomatch h)⟩)⟩)⟩) (ls := [some (.ref (w.2.1 20)), some (.int v), some (.int ln), none, none, none]) rfl (args := (#[.ref (w.2.1 20), .int v, .int ln] : Array Value)) rfl (own := RX6) rfl ?_
  intro p e s m below meth c C
  refine V_aload_n C dX6_addDraft_0 rfl ?_
  refine V_geti C fl_X6_9 dX6_addDraft_1 (by decide) sh_20 rfl ?_
  refine V_eqi (y := nI R) hr0 ?_
  refine V_istore_n (ls1 := [some (.ref (w.2.1 20)), some (.int v), some (.int ln), some (.int (nI R)), none, none]) C dX6_addDraft_4 (by decide) rfl ?_
  refine V_iconst (v := (0 : Int32)) C dX6_addDraft_5 (by decide) ?_
  refine V_istore (ls1 := [some (.ref (w.2.1 20)), some (.int v), some (.int ln), some (.int (nI R)), some (.int (0 : Int32)), none]) C dX6_addDraft_6 (by decide) rfl ?_
  refine V_iconst (v := (0 : Int32)) C dX6_addDraft_8 (by decide) ?_
  refine V_istore (ls1 := [some (.ref (w.2.1 20)), some (.int v), some (.int ln), some (.int (nI R)), some (.int (0 : Int32)), some (.int (0 : Int32))]) C dX6_addDraft_9 (by decide) rfl ?_
  have L11 : ∀ (fu : Nat) (mm : Nat) (j : Nat) (f : Nat → Int32), D - j < fu → (j ≤ D) → (mm = sqn dr j) → (SqR f 0 dr j) → V p l e ({ frames := 1, cells := 0, slots := 0, locals := 20 } : Room) s m (#[.ref (w.2.1 20), .int v, .int ln] : Array Value) below meth c w 6 0 0 (EI w below s (#[.ref (w.2.1 20), .int v, .int ln] : Array Value) 0 0 (q_X6_addDraft v ln X R N1 D dr)) 11 [some (.ref (w.2.1 20)), some (.int v), some (.int ln), some (.int (nI R)), some (.int (nI mm)), some (.int (nI j))] [] (ma X (23 + R) f) := by
    intro fu
    induction fu with
    | zero => intro mm j f hm; exact absurd hm (Nat.not_lt_zero _)
    | succ fu ih11 =>
      intro mm j f hm11 hj hm hf
      have hmj := sqn_le (dr := dr) j
      refine V_iload C dX6_addDraft_11 rfl ?_
      refine V_aload_n C dX6_addDraft_13 rfl ?_
      refine V_geti C fl_X6_18 dX6_addDraft_14 (by decide) sh_20 rfl ?_
      refine V_eqi (y := X 20 2) (by rw [ma_ne (show 20 ≠ 23 + R by omega)]) ?_
      refine V_eqi (y := nI D) hd ?_
      refine V_icmp_geN (a := j) (b := D) (tgt := 69) C dX6_addDraft_17 (by decide) (by omega) (by omega) (fun h17_1 => ?_) (fun h17_1 => ?_)
      · refine V_aload_n C dX6_addDraft_69 rfl ?_
        refine V_getr C fl_X6_30 dX6_addDraft_70 (by decide) sh_20 rfl ?_
        refine V_iload_n C dX6_addDraft_73 rfl ?_
        refine V_iload C dX6_addDraft_74 rfl ?_
        refine V_iastN (p0 := 47) (o := R) (X1 := (ma (ma X (23 + R) f) 47 (upd (X 47) R (nI mm)))) C dX6_addDraft_76 sh_47 (by decide) (by omega) (by decide) (by rw [ma_ne (show 47 ≠ 23 + R by omega)]) ?_
        refine V_aload_n C dX6_addDraft_77 rfl ?_
        refine V_getr C fl_X6_33 dX6_addDraft_78 (by decide) sh_20 rfl ?_
        refine V_iload_n C dX6_addDraft_81 rfl ?_
        refine V_iload_n C dX6_addDraft_82 rfl ?_
        refine V_iastN (p0 := 48) (o := R) (X1 := (ma (ma (ma X (23 + R) f) 47 (upd (X 47) R (nI mm))) 48 (upd (X 48) R v))) C dX6_addDraft_83 sh_48 (by decide) (by omega) (by decide) (by rw [ma_ne (show 48 ≠ 47 by omega), ma_ne (show 48 ≠ 23 + R by omega)]) ?_
        refine V_aload_n C dX6_addDraft_84 rfl ?_
        refine V_getr C fl_X6_36 dX6_addDraft_85 (by decide) sh_20 rfl ?_
        refine V_iload_n C dX6_addDraft_88 rfl ?_
        refine V_iload_n C dX6_addDraft_89 rfl ?_
        refine V_iastN (p0 := 49) (o := R) (X1 := (ma (ma (ma (ma X (23 + R) f) 47 (upd (X 47) R (nI mm))) 48 (upd (X 48) R v)) 49 (upd (X 49) R ln))) C dX6_addDraft_90 sh_49 (by decide) (by omega) (by decide) (by rw [ma_ne (show 49 ≠ 48 by omega), ma_ne (show 49 ≠ 47 by omega), ma_ne (show 49 ≠ 23 + R by omega)]) ?_
        refine V_aload_n C dX6_addDraft_91 rfl ?_
        refine V_iconst (v := (0 : Int32)) C dX6_addDraft_92 (by decide) ?_
        refine V_put C fp_X6_18 dX6_addDraft_93 (by decide) sh_20 rfl ?_
        refine V_eqX (X1 := (ma (ma (ma (ma (ma X (23 + R) f) 47 (upd (X 47) R (nI mm))) 48 (upd (X 48) R v)) 49 (upd (X 49) R ln)) 20 (upd (X 20) 2 (0 : Int32)))) (by rw [ma_ne (show 20 ≠ 49 by omega), ma_ne (show 20 ≠ 48 by omega), ma_ne (show 20 ≠ 47 by omega), ma_ne (show 20 ≠ 23 + R by omega)]) ?_
        refine V_aload_n C dX6_addDraft_96 rfl ?_
        refine V_dup C dX6_addDraft_97 rfl ?_
        refine V_geti C fl_X6_9 dX6_addDraft_98 (by decide) sh_20 rfl ?_
        refine V_eqi (y := X 20 0) (by first | (rw [ma_eq]; done) | (rw [ma_eq]; rfl)) ?_
        refine V_eqi (y := nI R) hr0 ?_
        refine V_iconst (v := (1 : Int32)) C dX6_addDraft_101 (by decide) ?_
        refine V_iaddN (a := R) (b := 1) C dX6_addDraft_102 ?_
        refine V_put C fp_X6_9 dX6_addDraft_103 (by decide) sh_20 rfl ?_
        refine V_eqX (X1 := (ma (ma (ma (ma (ma X (23 + R) f) 47 (upd (X 47) R (nI mm))) 48 (upd (X 48) R v)) 49 (upd (X 49) R ln)) 20 (upd (upd (X 20) 2 (0 : Int32)) 0 (nI (R + 1))))) (ma_ma _ _ _ _) ?_
        refine V_aload_n C dX6_addDraft_106 rfl ?_
        refine V_dup C dX6_addDraft_107 rfl ?_
        refine V_geti C fl_X6_15 dX6_addDraft_108 (by decide) sh_20 rfl ?_
        refine V_eqi (y := X 20 1) (by first | (rw [ma_eq]; done) | (rw [ma_eq]; rfl)) ?_
        refine V_eqi (y := nI N1) hth ?_
        refine V_iconst (v := (1 : Int32)) C dX6_addDraft_111 (by decide) ?_
        refine V_iaddN (a := N1) (b := 1) C dX6_addDraft_112 ?_
        refine V_put C fp_X6_15 dX6_addDraft_113 (by decide) sh_20 rfl ?_
        refine V_eqX (X1 := (ma (ma (ma (ma (ma X (23 + R) f) 47 (upd (X 47) R (nI mm))) 48 (upd (X 48) R v)) 49 (upd (X 49) R ln)) 20 (upd (upd (upd (X 20) 2 (0 : Int32)) 0 (nI (R + 1))) 1 (nI (N1 + 1))))) (ma_ma _ _ _ _) ?_
        refine V_iload_n C dX6_addDraft_116 rfl ?_
        exact V_ireturnI C dX6_addDraft_117 ⟨rfl, f, (show j = D from by omega) ▸ hf, by rw [hm, show j = D by omega]⟩
      · refine V_iload C dX6_addDraft_20 rfl ?_
        refine V_if_eqN (a := j) (tgt := 44) C dX6_addDraft_22 (by decide) (by omega) (fun h22_2 => ?_) (fun h22_2 => ?_)
        · refine V_aload_n C dX6_addDraft_44 rfl ?_
          refine V_getr C fl_X6_27 dX6_addDraft_45 (by decide) sh_20 rfl ?_
          refine V_iload_n C dX6_addDraft_48 rfl ?_
          refine V_aaldN (o := R) (q := 23 + R) C dX6_addDraft_49 sh_22 (by decide) (by omega) (by decide) rfl ?_
          refine V_iload C dX6_addDraft_50 rfl ?_
          refine V_aload_n C dX6_addDraft_52 rfl ?_
          refine V_getr C fl_X6_21 dX6_addDraft_53 (by decide) sh_20 rfl ?_
          refine V_iload C dX6_addDraft_56 rfl ?_
          refine V_ialdN (p0 := 21) (o := j) (v := X 21 j) C dX6_addDraft_58 sh_21 (by decide) (by omega) (by decide) (by rw [ma_ne (show 21 ≠ 23 + R by omega)]) ?_
          have hq3 : dr j < 10 := (hP j (by omega)).2
          refine V_eqi (y := nI (dr j)) ((hP j (by omega)).1) ?_
          refine V_iastN (p0 := 23 + R) (o := mm) (X1 := (ma X (23 + R) (upd (f) mm (nI (dr j))))) C dX6_addDraft_59 (sh_nets (by omega)) (by omega) (by omega) (by decide) (by rw [ma_ma, ma_eq]) ?_
          refine V_iincN (a := mm) (ls1 := [some (.ref (w.2.1 20)), some (.int v), some (.int ln), some (.int (nI R)), some (.int (nI (mm + 1))), some (.int (nI j))]) C dX6_addDraft_60 rfl (by decide) rfl ?_
          refine V_iincN (a := j) (ls1 := [some (.ref (w.2.1 20)), some (.int v), some (.int ln), some (.int (nI R)), some (.int (nI (mm + 1))), some (.int (nI (j + 1)))]) C dX6_addDraft_63 rfl (by decide) rfl ?_
          refine V_goto (tgt := 11) C dX6_addDraft_66 (by decide) ?_
          exact ih11 (mm + 1) (j + 1) (upd (f) mm (nI (dr j))) (by omega) (by omega) (by rw [hm, sqn_y (by first | exact Or.inl (by assumption) | exact Or.inr (by assumption))]) (by subst hm; have g := SqR_y (b := 0) (dr := dr) (j := j) (by first | exact Or.inl (by assumption) | exact Or.inr (by assumption)) hf; rwa [Nat.zero_add] at g)
        · refine V_aload_n C dX6_addDraft_25 rfl ?_
          refine V_getr C fl_X6_21 dX6_addDraft_26 (by decide) sh_20 rfl ?_
          refine V_iload C dX6_addDraft_29 rfl ?_
          refine V_ialdN (p0 := 21) (o := j) (v := X 21 j) C dX6_addDraft_31 sh_21 (by decide) (by omega) (by decide) (by rw [ma_ne (show 21 ≠ 23 + R by omega)]) ?_
          have hq4 : dr j < 10 := (hP j (by omega)).2
          refine V_eqi (y := nI (dr j)) ((hP j (by omega)).1) ?_
          refine V_aload_n C dX6_addDraft_32 rfl ?_
          refine V_getr C fl_X6_21 dX6_addDraft_33 (by decide) sh_20 rfl ?_
          refine V_iload C dX6_addDraft_36 rfl ?_
          refine V_iconst (v := (1 : Int32)) C dX6_addDraft_38 (by decide) ?_
          refine V_isubN (a := j) (b := 1) C dX6_addDraft_39 (by omega) ?_
          refine V_ialdN (p0 := 21) (o := j - 1) (v := X 21 (j - 1)) C dX6_addDraft_40 sh_21 (by decide) (by omega) (by decide) (by rw [ma_ne (show 21 ≠ 23 + R by omega)]) ?_
          have hq5 : dr (j - 1) < 10 := (hP (j - 1) (by omega)).2
          refine V_eqi (y := nI (dr (j - 1))) ((hP (j - 1) (by omega)).1) ?_
          refine V_icmp_eqN (a := dr j) (b := dr (j - 1)) (tgt := 63) C dX6_addDraft_41 (by decide) (by omega) (by omega) (fun h41_6 => ?_) (fun h41_6 => ?_)
          · refine V_iincN (a := j) (ls1 := [some (.ref (w.2.1 20)), some (.int v), some (.int ln), some (.int (nI R)), some (.int (nI mm)), some (.int (nI (j + 1)))]) C dX6_addDraft_63 rfl (by decide) rfl ?_
            refine V_goto (tgt := 11) C dX6_addDraft_66 (by decide) ?_
            exact ih11 mm (j + 1) f (by omega) (by omega) (by rw [hm, sqn_n (fun q => q.elim (by assumption) (fun q => q (by assumption)))]) (SqR_n (fun q => q.elim (by assumption) (fun q => q (by assumption))) hf)
          · refine V_aload_n C dX6_addDraft_44 rfl ?_
            refine V_getr C fl_X6_27 dX6_addDraft_45 (by decide) sh_20 rfl ?_
            refine V_iload_n C dX6_addDraft_48 rfl ?_
            refine V_aaldN (o := R) (q := 23 + R) C dX6_addDraft_49 sh_22 (by decide) (by omega) (by decide) rfl ?_
            refine V_iload C dX6_addDraft_50 rfl ?_
            refine V_aload_n C dX6_addDraft_52 rfl ?_
            refine V_getr C fl_X6_21 dX6_addDraft_53 (by decide) sh_20 rfl ?_
            refine V_iload C dX6_addDraft_56 rfl ?_
            refine V_ialdN (p0 := 21) (o := j) (v := X 21 j) C dX6_addDraft_58 sh_21 (by decide) (by omega) (by decide) (by rw [ma_ne (show 21 ≠ 23 + R by omega)]) ?_
            have hq7 : dr j < 10 := (hP j (by omega)).2
            refine V_eqi (y := nI (dr j)) ((hP j (by omega)).1) ?_
            refine V_iastN (p0 := 23 + R) (o := mm) (X1 := (ma X (23 + R) (upd (f) mm (nI (dr j))))) C dX6_addDraft_59 (sh_nets (by omega)) (by omega) (by omega) (by decide) (by rw [ma_ma, ma_eq]) ?_
            refine V_iincN (a := mm) (ls1 := [some (.ref (w.2.1 20)), some (.int v), some (.int ln), some (.int (nI R)), some (.int (nI (mm + 1))), some (.int (nI j))]) C dX6_addDraft_60 rfl (by decide) rfl ?_
            refine V_iincN (a := j) (ls1 := [some (.ref (w.2.1 20)), some (.int v), some (.int ln), some (.int (nI R)), some (.int (nI (mm + 1))), some (.int (nI (j + 1)))]) C dX6_addDraft_63 rfl (by decide) rfl ?_
            refine V_goto (tgt := 11) C dX6_addDraft_66 (by decide) ?_
            exact ih11 (mm + 1) (j + 1) (upd (f) mm (nI (dr j))) (by omega) (by omega) (by rw [hm, sqn_y (by first | exact Or.inl (by assumption) | exact Or.inr (by assumption))]) (by subst hm; have g := SqR_y (b := 0) (dr := dr) (j := j) (by first | exact Or.inl (by assumption) | exact Or.inr (by assumption)) hf; rwa [Nat.zero_add] at g)
  refine V_eqX (X1 := (ma X (23 + R) (X (23 + R)))) (ma_id rfl) ?_
  exact L11 _ 0 0 (X (23 + R)) (Nat.lt_succ_self _) (by omega) rfl (fun x hx => absurd hx (Nat.not_lt_zero _))
