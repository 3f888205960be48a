def q_X9_withdraw (v : Int32) (X : Mem) (R N1 : Nat) : Int32 → Mem → Prop := fun r X' => (Btw v 0 (nI R - 1)) ∧ ∃ a, a < R ∧ v = nI a ∧ X 50 a = 0 ∧ r = nI N1 - 1 ∧ X' = ma (ma X 50 (upd (X 50) a 1)) 20 (upd (X 20) 1 (nI N1 - 1))
def r_X9_withdraw (v : Int32) (X : Mem) (R N1 : Nat) : String → Mem → Prop := fun E X' => X' = X ∧ Flt2 eIO eIS (Btw v 0 (nI R - 1)) (∀ a, a < R → v = nI a → X 50 a = 0) E
set_option maxHeartbeats 4000000 in
set_option maxRecDepth 100000 in
theorem k_X9_withdraw (w : Wt) (l : Launch) (v : Int32) (X : Mem) (R N1 : Nat) (hr0 : X 20 0 = nI R) (R24 : R ≤ 24) (hth : X 20 1 = nI N1) : CtXI w l yX9_withdraw cX9_withdraw 2 (some .int) 6 82 1 [.ref (w.2.1 0), .int v] X (q_X9_withdraw v X R N1) (r_X9_withdraw v X R N1) := by
  refine CtXI_of (by decide +kernel) (Nat.le_of_ble_eq_true rfl) (List.forall_mem_cons.mpr ⟨rfl, (List.forall_mem_cons.mpr ⟨rfl, (fun _ h => nomatch h)⟩)⟩) (ls := [some (.ref (w.2.1 0)), some (.int v)]) rfl (args := (#[.ref (w.2.1 0), .int v] : Array Value)) rfl (own := RX9) rfl ?_
  intro p e s m below meth c C ht hD
  refine V_iload_n C dX9_withdraw_0 rfl ?_
  refine V_if_lt (x := v) (tgt := 15) C dX9_withdraw_1 (by decide) (fun h1_1 => ?_) (fun h1_1 => ?_)
  · exact V_throwS C ht hD tw_165 (List.mem_of_getElem? (i := 6) rfl) (by decide +kernel) dX9_withdraw_15 dX9_withdraw_18 dX9_withdraw_19 dX9_withdraw_21 dX9_withdraw_24 ⟨by decide, by decide⟩ ⟨by decide, by decide⟩ ⟨by decide, by decide⟩ ⟨rfl, Or.inl ⟨rfl, obj_out (n := R) (by omega) (by first | exact Or.inl (by assumption) | exact Or.inr (by assumption))⟩⟩
  · refine V_iload_n C dX9_withdraw_4 rfl ?_
    refine V_aload_n C dX9_withdraw_5 rfl ?_
    refine V_getr C fl_X9_35 dX9_withdraw_6 (by decide) sh_0 rfl ?_
    refine V_geti C fl_X9_158 dX9_withdraw_9 (by decide) sh_20 rfl ?_
    refine V_eqi (y := nI R) hr0 ?_
    refine V_icmp_lt (x := v) (y := nI R) (tgt := 25) C dX9_withdraw_12 (by decide) (fun h12_2 => ?_) (fun h12_2 => ?_)
    · obtain ⟨hg, a, ha, ea⟩ := obj_in (n := R) (by omega) (by assumption) (by assumption)
      subst ea
      refine V_aload_n C dX9_withdraw_25 rfl ?_
      refine V_getr C fl_X9_35 dX9_withdraw_26 (by decide) sh_0 rfl ?_
      refine V_getr C fl_X9_170 dX9_withdraw_29 (by decide) sh_20 rfl ?_
      refine V_iload_n C dX9_withdraw_32 rfl ?_
      refine V_baldN (p0 := 50) (o := a) (v := X 50 a) C dX9_withdraw_33 sh_50 (by decide) (by omega) (by decide) rfl ?_
      refine V_if_eq (x := X 50 a) (tgt := 47) C dX9_withdraw_34 (by decide) (fun h34_3 => ?_) (fun h34_3 => ?_)
      · refine V_aload_n C dX9_withdraw_47 rfl ?_
        refine V_getr C fl_X9_35 dX9_withdraw_48 (by decide) sh_0 rfl ?_
        refine V_getr C fl_X9_170 dX9_withdraw_51 (by decide) sh_20 rfl ?_
        refine V_iload_n C dX9_withdraw_54 rfl ?_
        refine V_iconst (v := (1 : Int32)) C dX9_withdraw_55 (by decide) ?_
        refine V_bastN (p0 := 50) (o := a) (X1 := (ma X 50 (upd (X 50) a (1 : Int32)))) C dX9_withdraw_56 sh_50 (by decide) (by omega) (by decide) (Or.inr rfl) rfl ?_
        refine V_aload_n C dX9_withdraw_57 rfl ?_
        refine V_getr C fl_X9_35 dX9_withdraw_58 (by decide) sh_0 rfl ?_
        refine V_dup C dX9_withdraw_61 rfl ?_
        refine V_geti C fl_X9_175 dX9_withdraw_62 (by decide) sh_20 rfl ?_
        refine V_eqi (y := X 20 1) rfl ?_
        refine V_eqi (y := nI N1) hth ?_
        refine V_iconst (v := (1 : Int32)) C dX9_withdraw_65 (by decide) ?_
        refine V_isub C dX9_withdraw_66 ?_
        refine V_put C fp_X9_175 dX9_withdraw_67 (by decide) sh_20 rfl ?_
        refine V_eqX (X1 := (ma (ma X 50 (upd (X 50) a (1 : Int32))) 20 (upd (X 20) 1 ((nI N1) - (1 : Int32))))) rfl ?_
        refine V_aload_n C dX9_withdraw_70 rfl ?_
        refine V_getr C fl_X9_35 dX9_withdraw_71 (by decide) sh_0 rfl ?_
        refine V_geti C fl_X9_175 dX9_withdraw_74 (by decide) sh_20 rfl ?_
        refine V_eqi (y := (nI N1) - (1 : Int32)) rfl ?_
        exact V_ireturnX C dX9_withdraw_77 (by decide) (by decide) ⟨hg, a, ha, rfl, by assumption, rfl, rfl⟩
      · exact V_throwS C ht hD tw_81 (List.mem_of_getElem? (i := 7) rfl) (by decide +kernel) dX9_withdraw_37 dX9_withdraw_40 dX9_withdraw_41 dX9_withdraw_43 dX9_withdraw_46 ⟨by decide, by decide⟩ ⟨by decide, by decide⟩ ⟨by decide, by decide⟩ ⟨rfl, Or.inr ⟨rfl, hg, fun q => absurd (q a (by omega) rfl) (by assumption)⟩⟩
    · exact V_throwS C ht hD tw_165 (List.mem_of_getElem? (i := 6) rfl) (by decide +kernel) dX9_withdraw_15 dX9_withdraw_18 dX9_withdraw_19 dX9_withdraw_21 dX9_withdraw_24 ⟨by decide, by decide⟩ ⟨by decide, by decide⟩ ⟨by decide, by decide⟩ ⟨rfl, Or.inl ⟨rfl, obj_out (n := R) (by omega) (by first | exact Or.inl (by assumption) | exact Or.inr (by assumption))⟩⟩
def q_X8_tell (a : Nat) (b : Nat) (wt : Int32) (X : Mem) : Mem → Prop := fun X' => X' = (ma (ma X (53 + a) (upd (X (53 + a)) b wt)) (53 + b) (upd (X (53 + b)) a (turnS wt)))
set_option maxHeartbeats 4000000 in
set_option maxRecDepth 100000 in
theorem k_X8_tell (w : Wt) (l : Launch) (a : Nat) (b : Nat) (wt : Int32) (X : Mem) (ha : a < 10) (hb : b < 10) (hab : a ≠ b) : CtU w l yX8_tell cX8_tell 4 none 2 40 [.ref (w.2.1 51), .int (nI a), .int (nI b), .int wt] X (q_X8_tell a b wt X) := by
  refine CtU_of (by decide +kernel) (Nat.le_of_ble_eq_true rfl) (List.forall_mem_cons.mpr ⟨rfl, (List.forall_mem_cons.mpr ⟨rfl, (List.forall_mem_cons.mpr ⟨rfl, (List.forall_mem_cons.mpr ⟨rfl, (fun _ h => nomatch h)⟩)⟩)⟩)⟩) (ls := [some (.ref (w.2.1 51)), some (.int (nI a)), some (.int (nI b)), some (.int wt)]) rfl (args := (#[.ref (w.2.1 51), .int (nI a), .int (nI b), .int wt] : Array Value)) rfl (own := RX8) rfl ?_
  intro p e s m below meth c C
  refine V_aload_n C dX8_tell_0 rfl ?_
  refine V_getr C fl_X8_11 dX8_tell_1 (by decide) sh_51 rfl ?_
  refine V_iload_n C dX8_tell_4 rfl ?_
  refine V_aaldN (o := a) (q := 53 + a) C dX8_tell_5 sh_52 (by decide) (by omega) (by decide) rfl ?_
  refine V_iload_n C dX8_tell_6 rfl ?_
  refine V_iload_n C dX8_tell_7 rfl ?_
  refine V_iastN (p0 := 53 + a) (o := b) (X1 := (ma X (53 + a) (upd (X (53 + a)) b wt))) C dX8_tell_8 (sh_what (by omega)) (by omega) (by omega) (by decide) rfl ?_
  refine V_aload_n C dX8_tell_9 rfl ?_
  refine V_getr C fl_X8_11 dX8_tell_10 (by decide) sh_51 rfl ?_
  refine V_iload_n C dX8_tell_13 rfl ?_
  refine V_aaldN (o := b) (q := 53 + b) C dX8_tell_14 sh_52 (by decide) (by omega) (by decide) rfl ?_
  refine V_iload_n C dX8_tell_15 rfl ?_
  refine V_iload_n C dX8_tell_16 rfl ?_
  refine V_callSI C [.int wt] ms_X8_16 (k_X8_turned w l wt (ma X (53 + a) (upd (X (53 + a)) b wt)) ) dX8_tell_17 rfl rfl (Nat.le_of_ble_eq_true rfl) (Nat.le_of_ble_eq_true rfl) (Nat.le_of_ble_eq_true rfl) ⟨Nat.le_refl _, Nat.le_refl _⟩ (fun v1 X1 q1 => ?_)
  obtain ⟨ev1, eX1⟩ := q1; subst X1
  try simp (disch := decide) only [oC_ma, gC_ma, oM_ma, gM_ma, tC_ma, tM_ma, ma_eq, ma_ne] at ev1
  subst v1
  refine V_iastN (p0 := 53 + b) (o := a) (X1 := (ma (ma X (53 + a) (upd (X (53 + a)) b wt)) (53 + b) (upd (X (53 + b)) a (turnS wt)))) C dX8_tell_20 (sh_what (by omega)) (by omega) (by omega) (by decide) (by rw [ma_ne (show 53 + b ≠ 53 + a by omega)]) ?_
  exact V_returnU C dX8_tell_21 rfl
def q_X9_tie (v : Int32) (u : Int32) (wt : Int32) (X : Mem) : Int32 → Mem → Prop := fun r X' => ∃ a b, a < 10 ∧ b < 10 ∧ v = nI a ∧ u = nI b ∧ a ≠ b ∧ Btw wt 0 3 ∧ r = tC X a b ∧ X' = (ma (ma X (53 + a) (upd (X (53 + a)) b wt)) (53 + b) (upd (X (53 + b)) a (turnS wt)))
def r_X9_tie (v : Int32) (u : Int32) (wt : Int32) (X : Mem) : String → Mem → Prop := fun E X' => X' = X ∧ Flt2 eIO eIA (Btw v 0 9 ∧ Btw u 0 9) (¬ v = u ∧ Btw wt 0 3) E
set_option maxHeartbeats 4000000 in
set_option maxRecDepth 100000 in
theorem k_X9_tie (w : Wt) (l : Launch) (v : Int32) (u : Int32) (wt : Int32) (X : Mem) : CtXI w l yX9_tie cX9_tie 5 (some .int) 7 104 3 [.ref (w.2.1 0), .int v, .int u, .int wt] X (q_X9_tie v u wt X) (r_X9_tie v u wt X) := by
  refine CtXI_of (by decide +kernel) (Nat.le_of_ble_eq_true rfl) (List.forall_mem_cons.mpr ⟨rfl, (List.forall_mem_cons.mpr ⟨rfl, (List.forall_mem_cons.mpr ⟨rfl, (List.forall_mem_cons.mpr ⟨rfl, (fun _ h => nomatch h)⟩)⟩)⟩)⟩) (ls := [some (.ref (w.2.1 0)), some (.int v), some (.int u), some (.int wt), none]) rfl (args := (#[.ref (w.2.1 0), .int v, .int u, .int wt] : Array Value)) rfl (own := RX9) rfl ?_
  intro p e s m below meth c C ht hD
  refine V_iload_n C dX9_tie_0 rfl ?_
  refine V_xcallSUI C ht hD [.int v] ms_X9_92 pl_X9_92 (k_X9_needNet w l v X ) dX9_tie_1 rfl rfl (Nat.le_of_ble_eq_true rfl) (Nat.le_of_ble_eq_true rfl) (Nat.le_of_ble_eq_true rfl) ⟨by decide, by decide⟩ ⟨by decide, by decide⟩ (fun E X1 h => ⟨h.1, Or.inl ⟨h.2.1, fun q => h.2.2 q.1⟩⟩) (fun X1 q1 => ?_)
  obtain ⟨hg1, eX1⟩ := q1; subst X1
  refine V_iload_n C dX9_tie_4 rfl ?_
  refine V_xcallSUI C ht hD [.int u] ms_X9_92 pl_X9_92 (k_X9_needNet w l u X ) dX9_tie_5 rfl rfl (Nat.le_of_ble_eq_true rfl) (Nat.le_of_ble_eq_true rfl) (Nat.le_of_ble_eq_true rfl) ⟨by decide, by decide⟩ ⟨by decide, by decide⟩ (fun E X1 h => ⟨h.1, Or.inl ⟨h.2.1, fun q => h.2.2 q.2⟩⟩) (fun X2 q2 => ?_)
  obtain ⟨hg2, eX2⟩ := q2; subst X2
  obtain ⟨a, ha, ea⟩ := Btw_of (n := 9) (by decide) hg1
  subst v
  obtain ⟨b, hb, eb⟩ := Btw_of (n := 9) (by decide) hg2
  subst u
  refine V_iload_n C dX9_tie_8 rfl ?_
  refine V_iload_n C dX9_tie_9 rfl ?_
  refine V_icmp_neN (a := a) (b := b) (tgt := 23) C dX9_tie_10 (by decide) (by omega) (by omega) (fun h10_3 => ?_) (fun h10_3 => ?_)
  · refine V_iload_n C dX9_tie_23 rfl ?_
    refine V_iconst (v := (0 : Int32)) C dX9_tie_24 (by decide) ?_
    refine V_iconst (v := (3 : Int32)) C dX9_tie_25 (by decide) ?_
    refine V_xcallSUI C ht hD [.int wt, .int (0 : Int32), .int (3 : Int32)] ms_X9_104 pl_X9_104 (k_X9_needRange w l wt (0 : Int32) (3 : Int32) X ) dX9_tie_26 rfl rfl (Nat.le_of_ble_eq_true rfl) (Nat.le_of_ble_eq_true rfl) (Nat.le_of_ble_eq_true rfl) ⟨by decide, by decide⟩ ⟨by decide, by decide⟩ (fun E X1 h => ⟨h.1, Or.inr ⟨h.2.1, ⟨hg1, hg2⟩, fun q => h.2.2 q.2⟩⟩) (fun X4 q4 => ?_)
    obtain ⟨hg4, eX4⟩ := q4; subst X4
    refine V_aload_n C dX9_tie_29 rfl ?_
    refine V_getr C fl_X9_42 dX9_tie_30 (by decide) sh_0 rfl ?_
    refine V_iload_n C dX9_tie_33 rfl ?_
    refine V_iload_n C dX9_tie_34 rfl ?_
    refine V_callVI C [.int (nI a), .int (nI b)] mi_X9_183 (k_X8_between w l a b X (by omega) (by omega)) dX9_tie_35 sh_51 (by decide) rfl rfl rfl (Nat.le_of_ble_eq_true rfl) (Nat.le_of_ble_eq_true rfl) (Nat.le_of_ble_eq_true rfl) ⟨by decide, by decide⟩ (fun v5 X5 q5 => ?_)
    obtain ⟨ev5, eX5⟩ := q5; subst X5
    subst v5
    refine V_istore (ls1 := [some (.ref (w.2.1 0)), some (.int (nI a)), some (.int (nI b)), some (.int wt), some (.int (tC X a b))]) C dX9_tie_38 (by decide) rfl ?_
    refine V_aload_n C dX9_tie_40 rfl ?_
    refine V_getr C fl_X9_42 dX9_tie_41 (by decide) sh_0 rfl ?_
    refine V_iload_n C dX9_tie_44 rfl ?_
    refine V_iload_n C dX9_tie_45 rfl ?_
    refine V_iload_n C dX9_tie_46 rfl ?_
    refine V_callVU C [.int (nI a), .int (nI b), .int wt] mi_X9_186 (k_X8_tell w l a b wt X (by omega) (by omega) (by assumption)) dX9_tie_47 sh_51 (by decide) rfl rfl rfl (Nat.le_of_ble_eq_true rfl) (Nat.le_of_ble_eq_true rfl) (Nat.le_of_ble_eq_true rfl) ⟨by decide, by decide⟩ (fun X6 q6 => ?_)
    have eX6 : X6 = _ := q6; subst X6
    refine V_iload C dX9_tie_50 rfl ?_
    exact V_ireturnX C dX9_tie_52 (by decide) (by decide) ⟨a, b, by omega, by omega, rfl, rfl, by assumption, hg4, rfl, rfl⟩
  · exact V_throwS C ht hD tw_178 (List.mem_of_getElem? (i := 8) rfl) (by decide +kernel) dX9_tie_13 dX9_tie_16 dX9_tie_17 dX9_tie_19 dX9_tie_22 ⟨by decide, by decide⟩ ⟨by decide, by decide⟩ ⟨by decide, by decide⟩ ⟨rfl, Or.inr ⟨rfl, ⟨hg1, hg2⟩, fun q => q.1 (congrArg nI (by assumption))⟩⟩
