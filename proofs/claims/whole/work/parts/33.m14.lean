def q_X10_infers (rnd : Nat) (X : Mem) (R : Nat) (PP : Nat → Nat → Nat) (Z : Nat → Nat) (Th : Nat → Prop) : Mem → Prop := fun X' => OutM X X' ∧ SetRow (X' 111) (Nb R PP Z Th) ∧ X' 85 35 = nI (KF R PP Z Th) ∧ Rel (Nb R PP Z Th) (CuF R PP Z Th rnd) (X' 112)
set_option maxHeartbeats 4000000 in
set_option maxRecDepth 100000 in
theorem k_X10_infers (w : Wt) (l : Launch) (rnd : Nat) (X : Mem) (R : Nat) (PP : Nat → Nat → Nat) (Z : Nat → Nat) (Th : Nat → Prop) (hB : RBm X R PP Z Th) (hr2 : rnd ≤ 2) : CtU w l yX10_infers cX10_infers 6 none 4 91 [.ref (w.2.1 85), .int (nI rnd)] X (q_X10_infers rnd X R PP Z Th) := by
  have hR24 := hB.1
  refine CtU_of (by decide +kernel) (Nat.le_of_ble_eq_true rfl) (List.forall_mem_cons.mpr ⟨rfl, (List.forall_mem_cons.mpr ⟨rfl, (fun _ h => nomatch h)⟩)⟩) (ls := [some (.ref (w.2.1 85)), some (.int (nI rnd)), none, none, none, none]) rfl (args := (#[.ref (w.2.1 85), .int (nI rnd)] : Array Value)) rfl (own := RX10) rfl ?_
  intro p e s m below meth c C
  refine V_aload_n C dX10_infers_0 rfl ?_
  refine V_callVU C [] mi_X10_235 (k_X10_nears w l X R PP Z Th hB) dX10_infers_1 sh_85 (by decide) rfl rfl rfl (Nat.le_of_ble_eq_true rfl) (Nat.le_of_ble_eq_true rfl) (Nat.le_of_ble_eq_true rfl) ⟨Nat.le_refl _, Nat.le_refl _⟩ (fun X1 q1 => ?_)
  obtain ⟨hO0, hn0, hc0⟩ := nears_to q1
  refine V_iconst (v := (0 : Int32)) C dX10_infers_4 (by decide) ?_
  refine V_istore_n (ls1 := [some (.ref (w.2.1 85)), some (.int (nI rnd)), some (.int (0 : Int32)), none, none, none]) C dX10_infers_5 (by decide) rfl ?_
  have L6 : ∀ (fu : Nat) (k : Nat) (Y : Mem), rnd + 1 - k < fu → (k ≤ rnd + 1) → (OutM X Y) → (SetRow (Y 111) (Nb R PP Z Th)) → (Y 85 35 = nI (KF R PP Z Th)) → (¬ k = 0 → Rel (Nb R PP Z Th) (CuF R PP Z Th (k - 1)) (Y 112)) → V p l e ({ frames := 4, cells := 0, slots := 0, locals := 91 } : Room) s m (#[.ref (w.2.1 85), .int (nI rnd)] : Array Value) below meth c w 6 0 0 (EU w below s (#[.ref (w.2.1 85), .int (nI rnd)] : Array Value) 0 0 (q_X10_infers rnd X R PP Z Th)) 6 [some (.ref (w.2.1 85)), some (.int (nI rnd)), some (.int (nI k)), none, none, none] [] Y := by
    intro fu
    induction fu with
    | zero => intro k Y hm; exact absurd hm (Nat.not_lt_zero _)
    | succ fu ih6 =>
      intro k Y hm6 hk hO hn hc hR
      refine V_iload_n C dX10_infers_6 rfl ?_
      refine V_iload_n C dX10_infers_7 rfl ?_
      refine V_icmp_gtN (a := k) (b := rnd) (tgt := 108) C dX10_infers_8 (by decide) (by omega) (by omega) (fun h8_2 => ?_) (fun h8_2 => ?_)
      · exact V_returnU C dX10_infers_108 ⟨hO, hn, hc, (show k - 1 = rnd from by omega) ▸ hR (by omega)⟩
      · refine V_iconst (v := (0 : Int32)) C dX10_infers_11 (by decide) ?_
        refine V_istore_n (ls1 := [some (.ref (w.2.1 85)), some (.int (nI rnd)), some (.int (nI k)), some (.int (0 : Int32)), none, none]) C dX10_infers_12 (by decide) rfl ?_
        have L13 : ∀ (fu : Nat) (n : Nat) (g : Nat → Int32), 10 - n < fu → (n ≤ 10) → (∀ a, a < n → g a = nI (rkF R PP Z Th k a)) → V p l e ({ frames := 4, cells := 0, slots := 0, locals := 91 } : Room) s m (#[.ref (w.2.1 85), .int (nI rnd)] : Array Value) below meth c w 6 0 0 (EU w below s (#[.ref (w.2.1 85), .int (nI rnd)] : Array Value) 0 0 (q_X10_infers rnd X R PP Z Th)) 13 [some (.ref (w.2.1 85)), some (.int (nI rnd)), some (.int (nI k)), some (.int (nI n)), none, none] [] (ma Y 114 g) := by
          intro fu
          induction fu with
          | zero => intro n g hm; exact absurd hm (Nat.not_lt_zero _)
          | succ fu ih13 =>
            intro n g hm13 hn10 hg
            refine V_iload_n C dX10_infers_13 rfl ?_
            refine V_bipush (v := (10 : Int32)) C dX10_infers_14 (by decide) ?_
            refine V_icmp_geN (a := n) (b := 10) (tgt := 94) C dX10_infers_16 (by decide) (by omega) (by omega) (fun h16_3 => ?_) (fun h16_3 => ?_)
            · refine V_aload_n C dX10_infers_94 rfl ?_
              refine V_callVU C [] mi_X10_238 (k_X10_votes w l (ma Y 114 g) R PP Z Th (KF R PP Z Th) (rkF R PP Z Th k) (RBm_ma (by decide) (RBm_out hO hB)) hc (KF_is R PP Z Th).2 (fun a ha => ⟨by rw [ma_eq]; exact hg a (by omega), rkF_le⟩)) dX10_infers_95 sh_85 (by decide) rfl rfl rfl (Nat.le_of_ble_eq_true rfl) (Nat.le_of_ble_eq_true rfl) (Nat.le_of_ble_eq_true rfl) ⟨Nat.le_refl _, Nat.le_refl _⟩ (fun X4 q4 => ?_)
              obtain ⟨f4, eX4, hf4⟩ := q4; subst X4
              refine V_aload_n C dX10_infers_98 rfl ?_
              refine V_callVU C [] mi_X10_240 (k_X10_relates w l (ma (ma Y 114 g) 113 f4) (KF R PP Z Th) (vM (KF R PP Z Th) (rkF R PP Z Th k) PP Z Th R) (VF R PP Z Th k) (Nb R PP Z Th) hc (KF_is R PP Z Th).2 (by rw [ma_eq]; exact hf4) (VM_le hB) (vC_vM _ _ _ _ _ _) hn) dX10_infers_99 sh_85 (by decide) rfl rfl rfl (Nat.le_of_ble_eq_true rfl) (Nat.le_of_ble_eq_true rfl) (Nat.le_of_ble_eq_true rfl) ⟨Nat.le_refl _, Nat.le_refl _⟩ (fun X5 q5 => ?_)
              obtain ⟨f5, eX5, hf5⟩ := q5; subst X5
              refine V_iincN (a := k) (ls1 := [some (.ref (w.2.1 85)), some (.int (nI rnd)), some (.int (nI (k + 1))), some (.int (nI n)), none, none]) C dX10_infers_102 rfl (by decide) rfl ?_
              refine V_goto (tgt := 6) C dX10_infers_105 (by decide) ?_
              refine V_kill (i := 3) (ls1 := [some (.ref (w.2.1 85)), some (.int (nI rnd)), some (.int (nI (k + 1))), none, none, none]) rfl ?_
              exact ih6 (k + 1) (ma (ma (ma Y 114 g) 113 f4) 112 f5) (by omega) (by omega) (OutM_put3 hO) hn hc (fun _ => by rw [Nat.add_sub_cancel, ma_eq]; exact hf5)
            · refine V_iconst (v := (0 : Int32)) C dX10_infers_19 (by decide) ?_
              refine V_istore (ls1 := [some (.ref (w.2.1 85)), some (.int (nI rnd)), some (.int (nI k)), some (.int (nI n)), some (.int (0 : Int32)), none]) C dX10_infers_20 (by decide) rfl ?_
              refine V_iconst (v := (0 : Int32)) C dX10_infers_22 (by decide) ?_
              refine V_istore (ls1 := [some (.ref (w.2.1 85)), some (.int (nI rnd)), some (.int (nI k)), some (.int (nI n)), some (.int (0 : Int32)), some (.int (0 : Int32))]) C dX10_infers_23 (by decide) rfl ?_
              have L25 : ∀ (fu : Nat) (cu : Nat) (a0 : Nat), 10 - a0 < fu → (a0 ≤ 10) → (¬ k = 0 → cu = sumN (fun a => oneIf (CuF R PP Z Th (k - 1) n a))  a0) → V p l e ({ frames := 4, cells := 0, slots := 0, locals := 91 } : Room) s m (#[.ref (w.2.1 85), .int (nI rnd)] : Array Value) below meth c w 6 0 0 (EU w below s (#[.ref (w.2.1 85), .int (nI rnd)] : Array Value) 0 0 (q_X10_infers rnd X R PP Z Th)) 25 [some (.ref (w.2.1 85)), some (.int (nI rnd)), some (.int (nI k)), some (.int (nI n)), some (.int (nI cu)), some (.int (nI a0))] [] (ma Y 114 g) := by
                intro fu
                induction fu with
                | zero => intro cu a0 hm; exact absurd hm (Nat.not_lt_zero _)
                | succ fu ih25 =>
                  intro cu a0 hm25 ha0 hcu
                  refine V_iload C dX10_infers_25 rfl ?_
                  refine V_bipush (v := (10 : Int32)) C dX10_infers_27 (by decide) ?_
                  refine V_icmp_geN (a := a0) (b := 10) (tgt := 64) C dX10_infers_29 (by decide) (by omega) (by omega) (fun h29_6 => ?_) (fun h29_6 => ?_)
                  · refine V_aload_n C dX10_infers_64 rfl ?_
                    refine V_getr C fl_X10_99 dX10_infers_65 (by decide) sh_85 rfl ?_
                    refine V_iload_n C dX10_infers_68 rfl ?_
                    refine V_iload_n C dX10_infers_69 rfl ?_
                    refine V_if_neN (a := k) (tgt := 85) C dX10_infers_70 (by decide) (by omega) (fun h70_7 => ?_) (fun h70_7 => ?_)
                    · refine V_iload C dX10_infers_85 rfl ?_
                      refine V_iastN (p0 := 114) (o := n) (X1 := (ma Y 114 (upd (g) n (nI cu)))) C dX10_infers_87 sh_114 (by decide) (by omega) (by decide) (ma_ma _ _ _ _) ?_
                      refine V_iincN (a := n) (ls1 := [some (.ref (w.2.1 85)), some (.int (nI rnd)), some (.int (nI k)), some (.int (nI (n + 1))), some (.int (nI cu)), some (.int (nI a0))]) C dX10_infers_88 rfl (by decide) rfl ?_
                      refine V_goto (tgt := 13) C dX10_infers_91 (by decide) ?_
                      refine V_kill (i := 4) (ls1 := [some (.ref (w.2.1 85)), some (.int (nI rnd)), some (.int (nI k)), some (.int (nI (n + 1))), none, some (.int (nI a0))]) rfl ?_
                      refine V_kill (i := 5) (ls1 := [some (.ref (w.2.1 85)), some (.int (nI rnd)), some (.int (nI k)), some (.int (nI (n + 1))), none, none]) rfl ?_
                      exact ih13 (n + 1) (upd (g) n (nI cu)) (by omega) (by omega) (by intro a h1; rcases lt_succ_or.mp h1 with h1 | rfl; rw [upd_ne (by omega)]; exact hg a h1; rw [upd_eq]; rw [hcu (by assumption), show a0 = 10 from by omega, rkF_s (by assumption)])
                    · refine V_aload_n C dX10_infers_73 rfl ?_
                      refine V_getr C fl_X10_90 dX10_infers_74 (by decide) sh_85 rfl ?_
                      refine V_iload_n C dX10_infers_77 rfl ?_
                      refine V_ialdN (p0 := 111) (o := n) (v := Y 111 n) C dX10_infers_78 sh_111 (by decide) (by omega) (by decide) rfl ?_
                      obtain ⟨a8, ha8, ea8⟩ := hn n (by omega)
                      have ia8 : ix (nI a8) = a8 := ix_nI (by omega)
                      refine V_eqi ea8 ?_
                      refine V_callSI C [.int (nI a8)] ms_X10_226 (k_X10_count w l a8 (ma Y 114 g) (by omega)) dX10_infers_79 rfl rfl (Nat.le_of_ble_eq_true rfl) (Nat.le_of_ble_eq_true rfl) (Nat.le_of_ble_eq_true rfl) ⟨Nat.le_refl _, Nat.le_refl _⟩ (fun v9 X9 q9 => ?_)
                      obtain ⟨ev9, eX9⟩ := q9; subst X9; subst v9
                      have hle9 := cntB_le a8
                      refine V_goto (tgt := 87) C dX10_infers_82 (by decide) ?_
                      refine V_iastN (p0 := 114) (o := n) (X1 := (ma Y 114 (upd (g) n (nI (cntB a8))))) C dX10_infers_87 sh_114 (by decide) (by omega) (by decide) (ma_ma _ _ _ _) ?_
                      refine V_iincN (a := n) (ls1 := [some (.ref (w.2.1 85)), some (.int (nI rnd)), some (.int (nI k)), some (.int (nI (n + 1))), some (.int (nI cu)), some (.int (nI a0))]) C dX10_infers_88 rfl (by decide) rfl ?_
                      refine V_goto (tgt := 13) C dX10_infers_91 (by decide) ?_
                      refine V_kill (i := 4) (ls1 := [some (.ref (w.2.1 85)), some (.int (nI rnd)), some (.int (nI k)), some (.int (nI (n + 1))), none, some (.int (nI a0))]) rfl ?_
                      refine V_kill (i := 5) (ls1 := [some (.ref (w.2.1 85)), some (.int (nI rnd)), some (.int (nI k)), some (.int (nI (n + 1))), none, none]) rfl ?_
                      exact ih13 (n + 1) (upd (g) n (nI (cntB a8))) (by omega) (by omega) (by intro a h1; rcases lt_succ_or.mp h1 with h1 | rfl; rw [upd_ne (by omega)]; exact hg a h1; rw [upd_eq]; rw [rk_0 ha8 (by assumption)])
                  · refine V_iload C dX10_infers_32 rfl ?_
                    refine V_aload_n C dX10_infers_34 rfl ?_
                    refine V_getr C fl_X10_93 dX10_infers_35 (by decide) sh_85 rfl ?_
                    refine V_bipush (v := (10 : Int32)) C dX10_infers_38 (by decide) ?_
                    refine V_iload C dX10_infers_40 rfl ?_
                    refine V_imulN (a := 10) (b := a0) C dX10_infers_42 ?_
                    refine V_iload_n C dX10_infers_43 rfl ?_
                    refine V_iaddN (a := 10 * a0) (b := n) C dX10_infers_44 ?_
                    refine V_ialdN (p0 := 112) (o := 10 * a0 + n) (v := Y 112 (10 * a0 + n)) C dX10_infers_45 sh_112 (by decide) (by omega) (by decide) rfl ?_
                    refine V_iconst (v := (1 : Int32)) C dX10_infers_46 (by decide) ?_
                    refine V_icmp_ne (x := Y 112 (10 * a0 + n)) (y := (1 : Int32)) (tgt := 54) C dX10_infers_47 (by decide) (fun h47_10 => ?_) (fun h47_10 => ?_)
                    · refine V_iconst (v := (0 : Int32)) C dX10_infers_54 (by decide) ?_
                      refine V_iaddN (a := cu) (b := 0) C dX10_infers_55 ?_
                      refine V_istore (ls1 := [some (.ref (w.2.1 85)), some (.int (nI rnd)), some (.int (nI k)), some (.int (nI n)), some (.int (nI cu)), some (.int (nI a0))]) C dX10_infers_56 (by decide) rfl ?_
                      refine V_iincN (a := a0) (ls1 := [some (.ref (w.2.1 85)), some (.int (nI rnd)), some (.int (nI k)), some (.int (nI n)), some (.int (nI cu)), some (.int (nI (a0 + 1)))]) C dX10_infers_58 rfl (by decide) rfl ?_
                      refine V_goto (tgt := 25) C dX10_infers_61 (by decide) ?_
                      exact ih25 cu (a0 + 1) (by omega) (by omega) (fun h0 => by rw [hcu h0]; exact (cu_0 (fun _ _ h => CuF_Nb h) (hR h0) (by omega) (by omega) (by assumption)).symm)
                    · refine V_iconst (v := (1 : Int32)) C dX10_infers_50 (by decide) ?_
                      refine V_goto (tgt := 55) C dX10_infers_51 (by decide) ?_
                      refine V_iaddN (a := cu) (b := 1) C dX10_infers_55 ?_
                      refine V_istore (ls1 := [some (.ref (w.2.1 85)), some (.int (nI rnd)), some (.int (nI k)), some (.int (nI n)), some (.int (nI (cu + 1))), some (.int (nI a0))]) C dX10_infers_56 (by decide) rfl ?_
                      refine V_iincN (a := a0) (ls1 := [some (.ref (w.2.1 85)), some (.int (nI rnd)), some (.int (nI k)), some (.int (nI n)), some (.int (nI (cu + 1))), some (.int (nI (a0 + 1)))]) C dX10_infers_58 rfl (by decide) rfl ?_
                      refine V_goto (tgt := 25) C dX10_infers_61 (by decide) ?_
                      exact ih25 (cu + 1) (a0 + 1) (by omega) (by omega) (fun h0 => by rw [hcu h0]; exact (cu_1 (fun _ _ h => CuF_Nb h) (hR h0) (by omega) (by omega) (by assumption)).symm)
              exact L25 _ 0 0 (Nat.lt_succ_self _) (by omega) (fun _ => rfl)
        refine V_eqX (X1 := (ma Y 114 (Y 114))) (ma_id rfl) ?_
        exact L13 _ 0 (Y 114) (Nat.lt_succ_self _) (by omega) (fun a h => absurd h (Nat.not_lt_zero _))
  exact L6 _ 0 X1 (Nat.lt_succ_self _) (by omega) hO0 hn0 hc0 (fun h => absurd rfl h)
def q_X10_conesOf (net : Nat) (X : Mem) (Q W : Nat → Nat → Prop) : Int32 → Mem → Prop := fun v X' => SetIs v (Rch W net) ∧ X' = X
set_option maxHeartbeats 4000000 in
set_option maxRecDepth 100000 in
theorem k_X10_conesOf (w : Wt) (l : Launch) (net : Nat) (X : Mem) (Q W : Nat → Nat → Prop) (hR : Rel Q W (X 112)) (hWQ : ∀ a b, W a b → Q b a) (hW10 : ∀ a b, W a b → b < 10) (hn : net < 10) : CtI w l yX10_conesOf cX10_conesOf 6 (some .int) 1 20 [.ref (w.2.1 85), .int (nI net)] X (q_X10_conesOf net X Q W) := by
  refine CtI_of (by decide +kernel) (Nat.le_of_ble_eq_true rfl) (List.forall_mem_cons.mpr ⟨rfl, (List.forall_mem_cons.mpr ⟨rfl, (fun _ h => nomatch h)⟩)⟩) (ls := [some (.ref (w.2.1 85)), some (.int (nI net)), none, none, none, none]) rfl (args := (#[.ref (w.2.1 85), .int (nI net)] : Array Value)) rfl (own := RX10) rfl ?_
  intro p e s m below meth c C
  refine V_iconst (v := (1 : Int32)) C dX10_conesOf_0 (by decide) ?_
  refine V_iload_n C dX10_conesOf_1 rfl ?_
  refine V_ishl C dX10_conesOf_2 ?_
  refine V_eqi (y := nI (2 ^ net)) (shl1 (by omega)) ?_
  refine V_istore_n (ls1 := [some (.ref (w.2.1 85)), some (.int (nI net)), some (.int (nI (2 ^ net))), none, none, none]) C dX10_conesOf_3 (by decide) rfl ?_
  refine V_iconst (v := (0 : Int32)) C dX10_conesOf_4 (by decide) ?_
  refine V_istore_n (ls1 := [some (.ref (w.2.1 85)), some (.int (nI net)), some (.int (nI (2 ^ net))), some (.int (0 : Int32)), none, none]) C dX10_conesOf_5 (by decide) rfl ?_
  have L6 : ∀ (fu : Nat) (M : Nat) (H : Nat), 11 - cntB H < fu → (CoM W net H M) → V p l e ({ frames := 1, cells := 0, slots := 0, locals := 20 } : Room) s m (#[.ref (w.2.1 85), .int (nI net)] : Array Value) below meth c w 6 0 0 (EI w below s (#[.ref (w.2.1 85), .int (nI net)] : Array Value) 0 0 (q_X10_conesOf net X Q W)) 6 [some (.ref (w.2.1 85)), some (.int (nI net)), some (.int (nI M)), some (.int (nI H)), none, none] [] X := by
    intro fu
    induction fu with
    | zero => intro M H hm; exact absurd hm (Nat.not_lt_zero _)
    | succ fu ih6 =>
      intro M H hm6 hM
      have hM1 := hM.1
      have hH1 := hM.2.2.2.1
      refine V_iload_n C dX10_conesOf_6 rfl ?_
      refine V_iload_n C dX10_conesOf_7 rfl ?_
      refine V_icmp_eqN (a := M) (b := H) (tgt := 86) C dX10_conesOf_8 (by decide) (by omega) (by omega) (fun h8_1 => ?_) (fun h8_1 => ?_)
      · refine V_iload_n C dX10_conesOf_86 rfl ?_
        exact V_ireturnI C dX10_conesOf_87 ⟨CoM_end hW10 hM (by assumption), rfl⟩
      · refine V_iload_n C dX10_conesOf_11 rfl ?_
        refine V_istore_n (ls1 := [some (.ref (w.2.1 85)), some (.int (nI net)), some (.int (nI M)), some (.int (nI M)), none, none]) C dX10_conesOf_12 (by decide) rfl ?_
        refine V_iconst (v := (0 : Int32)) C dX10_conesOf_13 (by decide) ?_
        refine V_istore (ls1 := [some (.ref (w.2.1 85)), some (.int (nI net)), some (.int (nI M)), some (.int (nI M)), some (.int (0 : Int32)), none]) C dX10_conesOf_14 (by decide) rfl ?_
        have L16 : ∀ (fu : Nat) (M1 : Nat) (a : Nat), 10 - a < fu → (a ≤ 10) → (Sw2 W net M (10 * a) M1) → V p l e ({ frames := 1, cells := 0, slots := 0, locals := 20 } : Room) s m (#[.ref (w.2.1 85), .int (nI net)] : Array Value) below meth c w 6 0 0 (EI w below s (#[.ref (w.2.1 85), .int (nI net)] : Array Value) 0 0 (q_X10_conesOf net X Q W)) 16 [some (.ref (w.2.1 85)), some (.int (nI net)), some (.int (nI M1)), some (.int (nI M)), some (.int (nI a)), none] [] X := by
          intro fu
          induction fu with
          | zero => intro M1 a hm; exact absurd hm (Nat.not_lt_zero _)
          | succ fu ih16 =>
            intro M1 a hm16 ha hS
            refine V_iload C dX10_conesOf_16 rfl ?_
            refine V_bipush (v := (10 : Int32)) C dX10_conesOf_18 (by decide) ?_
            refine V_icmp_geN (a := a) (b := 10) (tgt := 83) C dX10_conesOf_20 (by decide) (by omega) (by omega) (fun h20_2 => ?_) (fun h20_2 => ?_)
            · refine V_goto (tgt := 6) C dX10_conesOf_83 (by decide) ?_
              refine V_kill (i := 4) (ls1 := [some (.ref (w.2.1 85)), some (.int (nI net)), some (.int (nI M1)), some (.int (nI M)), none, none]) rfl ?_
              exact ih6 M1 M (by have h1 := CoM_lt hM (by assumption); have h2 := cntB_le M; omega) (CoM_s hM ((show 10 * a = 100 from by omega) ▸ hS))
            · refine V_iconst (v := (0 : Int32)) C dX10_conesOf_23 (by decide) ?_
              refine V_istore (ls1 := [some (.ref (w.2.1 85)), some (.int (nI net)), some (.int (nI M1)), some (.int (nI M)), some (.int (nI a)), some (.int (0 : Int32))]) C dX10_conesOf_24 (by decide) rfl ?_
              have L26 : ∀ (fu : Nat) (M2 : Nat) (b : Nat), 10 - b < fu → (b ≤ 10) → (Sw2 W net M (10 * a + b) M2) → V p l e ({ frames := 1, cells := 0, slots := 0, locals := 20 } : Room) s m (#[.ref (w.2.1 85), .int (nI net)] : Array Value) below meth c w 6 0 0 (EI w below s (#[.ref (w.2.1 85), .int (nI net)] : Array Value) 0 0 (q_X10_conesOf net X Q W)) 26 [some (.ref (w.2.1 85)), some (.int (nI net)), some (.int (nI M2)), some (.int (nI M)), some (.int (nI a)), some (.int (nI b))] [] X := by
                intro fu
                induction fu with
                | zero => intro M2 b hm; exact absurd hm (Nat.not_lt_zero _)
                | succ fu ih26 =>
                  intro M2 b hm26 hb hT
                  have hM2 := hT.1
                  refine V_iload C dX10_conesOf_26 rfl ?_
                  refine V_bipush (v := (10 : Int32)) C dX10_conesOf_28 (by decide) ?_
                  refine V_icmp_geN (a := b) (b := 10) (tgt := 77) C dX10_conesOf_30 (by decide) (by omega) (by omega) (fun h30_3 => ?_) (fun h30_3 => ?_)
                  · refine V_iincN (a := a) (ls1 := [some (.ref (w.2.1 85)), some (.int (nI net)), some (.int (nI M2)), some (.int (nI M)), some (.int (nI (a + 1))), some (.int (nI b))]) C dX10_conesOf_77 rfl (by decide) rfl ?_
                    refine V_goto (tgt := 16) C dX10_conesOf_80 (by decide) ?_
                    refine V_kill (i := 5) (ls1 := [some (.ref (w.2.1 85)), some (.int (nI net)), some (.int (nI M2)), some (.int (nI M)), some (.int (nI (a + 1))), none]) rfl ?_
                    exact ih16 M2 (a + 1) (by omega) (by omega) ((show 10 * a + b = 10 * (a + 1) from by omega) ▸ hT)
                  · refine V_iload_n C dX10_conesOf_33 rfl ?_
                    refine V_iload_n C dX10_conesOf_34 rfl ?_
                    refine V_iload C dX10_conesOf_35 rfl ?_
                    refine V_ishr C dX10_conesOf_37 ?_
                    refine V_iconst (v := (1 : Int32)) C dX10_conesOf_38 (by decide) ?_
                    refine V_iand C dX10_conesOf_39 ?_
                    refine V_eqi (y := nI (M2 / 2 ^ b % 2)) (bit_val (by omega) (by omega)) ?_
                    refine V_iconst (v := (1 : Int32)) C dX10_conesOf_40 (by decide) ?_
                    refine V_icmp_neN (a := M2 / 2 ^ b % 2) (b := 1) (tgt := 68) C dX10_conesOf_41 (by decide) (by omega) (by omega) (fun h41_4 => ?_) (fun h41_4 => ?_)
                    · refine V_iconst (v := (0 : Int32)) C dX10_conesOf_68 (by decide) ?_
                      refine V_ior C dX10_conesOf_69 ?_
                      refine V_eqi (y := nI M2) (or_zero _) ?_
                      refine V_istore_n (ls1 := [some (.ref (w.2.1 85)), some (.int (nI net)), some (.int (nI M2)), some (.int (nI M)), some (.int (nI a)), some (.int (nI b))]) C dX10_conesOf_70 (by decide) rfl ?_
                      refine V_iincN (a := b) (ls1 := [some (.ref (w.2.1 85)), some (.int (nI net)), some (.int (nI M2)), some (.int (nI M)), some (.int (nI a)), some (.int (nI (b + 1)))]) C dX10_conesOf_71 rfl (by decide) rfl ?_
                      refine V_goto (tgt := 26) C dX10_conesOf_74 (by decide) ?_
                      exact ih26 M2 (b + 1) (by omega) (by omega) (Sw2_no hT (by omega) (by first | exact fun q => bt2 (by assumption) q.1 | exact fun q => absurd ((BetR_1 hWQ (hR a b (by omega) (by omega))).mpr q.2) (by assumption)))
                    · refine V_aload_n C dX10_conesOf_44 rfl ?_
                      refine V_getr C fl_X10_93 dX10_conesOf_45 (by decide) sh_85 rfl ?_
                      refine V_bipush (v := (10 : Int32)) C dX10_conesOf_48 (by decide) ?_
                      refine V_iload C dX10_conesOf_50 rfl ?_
                      refine V_imulN (a := 10) (b := a) C dX10_conesOf_52 ?_
                      refine V_iload C dX10_conesOf_53 rfl ?_
                      refine V_iaddN (a := 10 * a) (b := b) C dX10_conesOf_55 ?_
                      refine V_ialdN (p0 := 112) (o := 10 * a + b) (v := X 112 (10 * a + b)) C dX10_conesOf_56 sh_112 (by decide) (by omega) (by decide) rfl ?_
                      refine V_iconst (v := (1 : Int32)) C dX10_conesOf_57 (by decide) ?_
                      refine V_icmp_ne (x := X 112 (10 * a + b)) (y := (1 : Int32)) (tgt := 68) C dX10_conesOf_58 (by decide) (fun h58_5 => ?_) (fun h58_5 => ?_)
                      · refine V_iconst (v := (0 : Int32)) C dX10_conesOf_68 (by decide) ?_
                        refine V_ior C dX10_conesOf_69 ?_
                        refine V_eqi (y := nI M2) (or_zero _) ?_
                        refine V_istore_n (ls1 := [some (.ref (w.2.1 85)), some (.int (nI net)), some (.int (nI M2)), some (.int (nI M)), some (.int (nI a)), some (.int (nI b))]) C dX10_conesOf_70 (by decide) rfl ?_
                        refine V_iincN (a := b) (ls1 := [some (.ref (w.2.1 85)), some (.int (nI net)), some (.int (nI M2)), some (.int (nI M)), some (.int (nI a)), some (.int (nI (b + 1)))]) C dX10_conesOf_71 rfl (by decide) rfl ?_
                        refine V_goto (tgt := 26) C dX10_conesOf_74 (by decide) ?_
                        exact ih26 M2 (b + 1) (by omega) (by omega) (Sw2_no hT (by omega) (by first | exact fun q => bt2 (by assumption) q.1 | exact fun q => absurd ((BetR_1 hWQ (hR a b (by omega) (by omega))).mpr q.2) (by assumption)))
                      · refine V_iconst (v := (1 : Int32)) C dX10_conesOf_61 (by decide) ?_
                        refine V_iload C dX10_conesOf_62 rfl ?_
                        refine V_ishl C dX10_conesOf_64 ?_
                        refine V_eqi (y := nI (2 ^ a)) (shl1 (by omega)) ?_
                        refine V_goto (tgt := 69) C dX10_conesOf_65 (by decide) ?_
                        refine V_ior C dX10_conesOf_69 ?_
                        refine V_eqi (y := nI (M2 ||| 2 ^ a)) (nI_or _ _) ?_
                        refine V_istore_n (ls1 := [some (.ref (w.2.1 85)), some (.int (nI net)), some (.int (nI (M2 ||| 2 ^ a))), some (.int (nI M)), some (.int (nI a)), some (.int (nI b))]) C dX10_conesOf_70 (by decide) rfl ?_
                        refine V_iincN (a := b) (ls1 := [some (.ref (w.2.1 85)), some (.int (nI net)), some (.int (nI (M2 ||| 2 ^ a))), some (.int (nI M)), some (.int (nI a)), some (.int (nI (b + 1)))]) C dX10_conesOf_71 rfl (by decide) rfl ?_
                        refine V_goto (tgt := 26) C dX10_conesOf_74 (by decide) ?_
                        exact ih26 (M2 ||| 2 ^ a) (b + 1) (by omega) (by omega) (Sw2_yes hT (by omega) (by omega) (tb_iff.mpr (by assumption)) ((BetR_1 hWQ (hR a b (by omega) (by omega))).mp (by assumption)))
              exact L26 _ M1 0 (Nat.lt_succ_self _) (by omega) hS
        exact L16 _ M 0 (Nat.lt_succ_self _) (by omega) (Sw2_0 hM.1 hM.2.2.1)
  exact L6 _ (2 ^ net) 0 (Nat.lt_succ_self _) (CoM_0 hn)
