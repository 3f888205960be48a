def q_X3_forgetVouchers (X : Mem) : Mem → Prop := fun X' => ∃ pv nd, X' = ma (ma X 64 pv) 65 nd ∧ ∀ a, a < 10 → pv a = 0 ∧ nd a = 1023
set_option maxHeartbeats 4000000 in
set_option maxRecDepth 100000 in
theorem k_X3_forgetVouchers (w : Wt) (l : Launch) (X : Mem) : CtU w l yX3_forgetVouchers cX3_forgetVouchers 2 none 1 20 [.ref (w.2.1 63)] X (q_X3_forgetVouchers X) := by
  refine CtU_of (by decide +kernel) (Nat.le_of_ble_eq_true rfl) (List.forall_mem_cons.mpr ⟨rfl, (fun _ h => nomatch h)⟩) (ls := [some (.ref (w.2.1 63)), none]) rfl (args := (#[.ref (w.2.1 63)] : Array Value)) rfl (own := RX3) rfl ?_
  intro p e s m below meth c C
  refine V_iconst (v := (0 : Int32)) C dX3_forgetVouchers_0 (by decide) ?_
  refine V_istore_n (ls1 := [some (.ref (w.2.1 63)), some (.int (0 : Int32))]) C dX3_forgetVouchers_1 (by decide) rfl ?_
  have L2 : ∀ (fu : Nat) (i : Nat) (pv : Nat → Int32) (nd : Nat → Int32), 10 - i < fu → (i ≤ 10) → (∀ a, a < i → pv a = 0 ∧ nd a = 1023) → V p l e ({ frames := 1, cells := 0, slots := 0, locals := 20 } : Room) s m (#[.ref (w.2.1 63)] : Array Value) below meth c w 2 0 0 (EU w below s (#[.ref (w.2.1 63)] : Array Value) 0 0 (q_X3_forgetVouchers X)) 2 [some (.ref (w.2.1 63)), some (.int (nI i))] [] (ma (ma X 64 pv) 65 nd) := by
    intro fu
    induction fu with
    | zero => intro i pv nd hm; exact absurd hm (Nat.not_lt_zero _)
    | succ fu ih2 =>
      intro i pv nd hm2 hi hz
      refine V_iload_n C dX3_forgetVouchers_2 rfl ?_
      refine V_bipush (v := (10 : Int32)) C dX3_forgetVouchers_3 (by decide) ?_
      refine V_icmp_geN (a := i) (b := 10) (tgt := 30) C dX3_forgetVouchers_5 (by decide) (by omega) (by omega) (fun h5_1 => ?_) (fun h5_1 => ?_)
      · exact V_returnU C dX3_forgetVouchers_30 ⟨pv, nd, rfl, fun a h => hz a (by omega)⟩
      · refine V_aload_n C dX3_forgetVouchers_8 rfl ?_
        refine V_getr C fl_X3_9 dX3_forgetVouchers_9 (by decide) sh_63 rfl ?_
        refine V_iload_n C dX3_forgetVouchers_12 rfl ?_
        refine V_iconst (v := (0 : Int32)) C dX3_forgetVouchers_13 (by decide) ?_
        refine V_iastN (p0 := 64) (o := i) (X1 := (ma (ma X 64 (upd (pv) i (0 : Int32))) 65 nd)) C dX3_forgetVouchers_14 sh_64 (by decide) (by omega) (by decide) (ma_in1 (by decide)) ?_
        refine V_aload_n C dX3_forgetVouchers_15 rfl ?_
        refine V_getr C fl_X3_15 dX3_forgetVouchers_16 (by decide) sh_63 rfl ?_
        refine V_iload_n C dX3_forgetVouchers_19 rfl ?_
        refine V_sipush (v := (1023 : Int32)) C dX3_forgetVouchers_20 (by decide) ?_
        refine V_iastN (p0 := 65) (o := i) (X1 := (ma (ma X 64 (upd (pv) i (0 : Int32))) 65 (upd (nd) i (1023 : Int32)))) C dX3_forgetVouchers_23 sh_65 (by decide) (by omega) (by decide) (ma_ma _ _ _ _) ?_
        refine V_iincN (a := i) (ls1 := [some (.ref (w.2.1 63)), some (.int (nI (i + 1)))]) C dX3_forgetVouchers_24 rfl (by decide) rfl ?_
        refine V_goto (tgt := 2) C dX3_forgetVouchers_27 (by decide) ?_
        exact ih2 (i + 1) (upd (pv) i (0 : Int32)) (upd (nd) i (1023 : Int32)) (by omega) (by omega) (by intro a h1; rcases lt_succ_or.mp h1 with h1 | rfl; rw [upd_ne (by omega), upd_ne (by omega)]; exact hz a h1; rw [upd_eq, upd_eq]; exact ⟨rfl, rfl⟩)
  refine V_eqX (X1 := (ma (ma X 64 (X 64)) 65 (X 65))) ((ma_id rfl).trans (ma_id rfl)) ?_
  exact L2 _ 0 (X 64) (X 65) (Nat.lt_succ_self _) (by omega) (fun a h => absurd h (Nat.not_lt_zero _))
def q_X3_addVoucher (a : Nat) (b : Int32) (X : Mem) : Mem → Prop := fun X' => X' = ma (ma X 64 (upd (X 64) a (X 64 a ||| b))) 65 (upd (X 65) a (X 64 a ||| b))
set_option maxHeartbeats 4000000 in
set_option maxRecDepth 100000 in
theorem k_X3_addVoucher (w : Wt) (l : Launch) (a : Nat) (b : Int32) (X : Mem) (ha : a < 10) : CtU w l yX3_addVoucher cX3_addVoucher 3 none 1 20 [.ref (w.2.1 63), .int (nI a), .int b] X (q_X3_addVoucher a b X) := by
  refine CtU_of (by decide +kernel) (Nat.le_of_ble_eq_true rfl) (List.forall_mem_cons.mpr ⟨rfl, (List.forall_mem_cons.mpr ⟨rfl, (List.forall_mem_cons.mpr ⟨rfl, (fun _ h => nomatch h)⟩)⟩)⟩) (ls := [some (.ref (w.2.1 63)), some (.int (nI a)), some (.int b)]) rfl (args := (#[.ref (w.2.1 63), .int (nI a), .int b] : Array Value)) rfl (own := RX3) rfl ?_
  intro p e s m below meth c C
  refine V_aload_n C dX3_addVoucher_0 rfl ?_
  refine V_getr C fl_X3_9 dX3_addVoucher_1 (by decide) sh_63 rfl ?_
  refine V_iload_n C dX3_addVoucher_4 rfl ?_
  refine V_dup2 C dX3_addVoucher_5 rfl rfl ?_
  refine V_ialdN (p0 := 64) (o := a) (v := X 64 a) C dX3_addVoucher_6 sh_64 (by decide) (by omega) (by decide) rfl ?_
  refine V_iload_n C dX3_addVoucher_7 rfl ?_
  refine V_ior C dX3_addVoucher_8 ?_
  refine V_iastN (p0 := 64) (o := a) (X1 := (ma X 64 (upd (X 64) a ((X 64 a) ||| b)))) C dX3_addVoucher_9 sh_64 (by decide) (by omega) (by decide) rfl ?_
  refine V_aload_n C dX3_addVoucher_10 rfl ?_
  refine V_getr C fl_X3_15 dX3_addVoucher_11 (by decide) sh_63 rfl ?_
  refine V_iload_n C dX3_addVoucher_14 rfl ?_
  refine V_aload_n C dX3_addVoucher_15 rfl ?_
  refine V_getr C fl_X3_9 dX3_addVoucher_16 (by decide) sh_63 rfl ?_
  refine V_iload_n C dX3_addVoucher_19 rfl ?_
  refine V_ialdN (p0 := 64) (o := a) (v := (upd (X 64) a ((X 64 a) ||| b)) a) C dX3_addVoucher_20 sh_64 (by decide) (by omega) (by decide) rfl ?_
  refine V_iastN (p0 := 65) (o := a) (X1 := (ma (ma X 64 (upd (X 64) a ((X 64 a) ||| b))) 65 (upd (X 65) a ((upd (X 64) a ((X 64 a) ||| b)) a)))) C dX3_addVoucher_21 sh_65 (by decide) (by omega) (by decide) rfl ?_
  exact V_returnU C dX3_addVoucher_22 (by rw [upd_eq]; exact rfl)
def q_X9_readVouchers (X : Mem) (h n : Nat) : Mem → Prop := fun X' => ∃ V hv pv nd, X' = ma (ma (ma X 18 V) 64 pv) 65 nd ∧ IsV (oC X) (gC X) n (X 1 0) V ∧ VoR (oC X) V n hv pv ∧ ND hv pv nd
set_option maxHeartbeats 4000000 in
set_option maxRecDepth 100000 in
theorem k_X9_readVouchers (w : Wt) (l : Launch) (X : Mem) (h n : Nat) (hO : OInv (oC X) h n) (hG : GInv (gC X) h) (hn : X 6 0 = nI n) (hh : X 1 1 = nI h) : CtU w l yX9_readVouchers cX9_readVouchers 2 none 7 159 [.ref (w.2.1 0)] X (q_X9_readVouchers X h n) := by
  have n50 := hO.1
  have h8 := hG.2.1
  refine CtU_of (by decide +kernel) (Nat.le_of_ble_eq_true rfl) (List.forall_mem_cons.mpr ⟨rfl, (fun _ h => nomatch h)⟩) (ls := [some (.ref (w.2.1 0)), none]) rfl (args := (#[.ref (w.2.1 0)] : Array Value)) rfl (own := RX9) rfl ?_
  intro p e s m below meth c C
  refine V_aload_n C dX9_readVouchers_0 rfl ?_
  refine V_getr C fl_X9_28 dX9_readVouchers_1 (by decide) sh_0 rfl ?_
  refine V_callVU C [] mi_X9_190 (k_X2_judgeAll w l X h n hO hG hn hh) dX9_readVouchers_4 sh_17 (by decide) rfl rfl rfl (Nat.le_of_ble_eq_true rfl) (Nat.le_of_ble_eq_true rfl) (Nat.le_of_ble_eq_true rfl) ⟨Nat.le_refl _, Nat.le_refl _⟩ (fun X1 q1 => ?_)
  obtain ⟨V1, eX1, hV1⟩ := q1
  subst X1
  refine V_aload_n C dX9_readVouchers_7 rfl ?_
  refine V_getr C fl_X9_51 dX9_readVouchers_8 (by decide) sh_0 rfl ?_
  refine V_callVU C [] mi_X9_298 (k_X3_forgetVouchers w l (ma X 18 V1) ) dX9_readVouchers_11 sh_63 (by decide) rfl rfl rfl (Nat.le_of_ble_eq_true rfl) (Nat.le_of_ble_eq_true rfl) (Nat.le_of_ble_eq_true rfl) ⟨Nat.le_refl _, Nat.le_refl _⟩ (fun X2 q2 => ?_)
  obtain ⟨pv2, nd2, eX2, hz2⟩ := q2
  subst X2
  try simp (disch := decide) only [oC_ma, gC_ma, oM_ma, gM_ma, ma_eq, ma_ne] at hz2
  refine V_iconst (v := (0 : Int32)) C dX9_readVouchers_14 (by decide) ?_
  refine V_istore_n (ls1 := [some (.ref (w.2.1 0)), some (.int (0 : Int32))]) C dX9_readVouchers_15 (by decide) rfl ?_
  have L16 : ∀ (fu : Nat) (i : Nat) (hv : Nat → Int32) (pv : Nat → Int32) (nd : Nat → Int32), n - i < fu → (i ≤ n) → (VoR (oC X) V1 i hv pv) → (ND hv pv nd) → V p l e ({ frames := 7, cells := 0, slots := 0, locals := 159 } : Room) s m (#[.ref (w.2.1 0)] : Array Value) below meth c w 2 0 0 (EU w below s (#[.ref (w.2.1 0)] : Array Value) 0 0 (q_X9_readVouchers X h n)) 16 [some (.ref (w.2.1 0)), some (.int (nI i))] [] (ma (ma (ma X 18 V1) 64 pv) 65 nd) := by
    intro fu
    induction fu with
    | zero => intro i hv pv nd hm; exact absurd hm (Nat.not_lt_zero _)
    | succ fu ih16 =>
      intro i hv pv nd hm16 hi hz hnd
      refine V_iload_n C dX9_readVouchers_16 rfl ?_
      refine V_aload_n C dX9_readVouchers_17 rfl ?_
      refine V_getr C fl_X9_19 dX9_readVouchers_18 (by decide) sh_0 rfl ?_
      refine V_geti C fl_X9_189 dX9_readVouchers_21 (by decide) sh_6 rfl ?_
      refine V_eqi (y := X 6 0) rfl ?_
      refine V_eqi (y := nI n) hn ?_
      refine V_icmp_geN (a := i) (b := n) (tgt := 83) C dX9_readVouchers_24 (by decide) (by omega) (by omega) (fun h24_3 => ?_) (fun h24_3 => ?_)
      · exact V_returnU C dX9_readVouchers_83 ⟨V1, hv, pv, nd, rfl, hV1, VoR_to hz (by omega), hnd⟩
      · refine V_aload_n C dX9_readVouchers_27 rfl ?_
        refine V_getr C fl_X9_19 dX9_readVouchers_28 (by decide) sh_0 rfl ?_
        refine V_getr C fl_X9_139 dX9_readVouchers_31 (by decide) sh_6 rfl ?_
        refine V_iload_n C dX9_readVouchers_34 rfl ?_
        refine V_ialdN (p0 := 7) (o := i) (v := X 7 i) C dX9_readVouchers_35 sh_7 (by decide) (by omega) (by decide) rfl ?_
        refine V_iconst (v := (2 : Int32)) C dX9_readVouchers_36 (by decide) ?_
        refine V_icmp_ne (x := X 7 i) (y := (2 : Int32)) (tgt := 77) C dX9_readVouchers_37 (by decide) (fun h37_4 => ?_) (fun h37_4 => ?_)
        · refine V_iincN (a := i) (ls1 := [some (.ref (w.2.1 0)), some (.int (nI (i + 1)))]) C dX9_readVouchers_77 rfl (by decide) rfl ?_
          refine V_goto (tgt := 16) C dX9_readVouchers_80 (by decide) ?_
          exact ih16 (i + 1) hv pv nd (by omega) (by omega) (VoR_skip hz (by first | exact fun q => absurd q.1 (by assumption) | exact fun q => absurd q.2 (by assumption))) hnd
        · refine V_aload_n C dX9_readVouchers_40 rfl ?_
          refine V_getr C fl_X9_28 dX9_readVouchers_41 (by decide) sh_0 rfl ?_
          refine V_getr C fl_X9_193 dX9_readVouchers_44 (by decide) sh_17 rfl ?_
          refine V_iload_n C dX9_readVouchers_47 rfl ?_
          refine V_ialdN (p0 := 18) (o := i) (v := V1 i) C dX9_readVouchers_48 sh_18 (by decide) (by omega) (by decide) rfl ?_
          refine V_if_ne (x := V1 i) (tgt := 77) C dX9_readVouchers_49 (by decide) (fun h49_5 => ?_) (fun h49_5 => ?_)
          · refine V_iincN (a := i) (ls1 := [some (.ref (w.2.1 0)), some (.int (nI (i + 1)))]) C dX9_readVouchers_77 rfl (by decide) rfl ?_
            refine V_goto (tgt := 16) C dX9_readVouchers_80 (by decide) ?_
            exact ih16 (i + 1) hv pv nd (by omega) (by omega) (VoR_skip hz (by first | exact fun q => absurd q.1 (by assumption) | exact fun q => absurd q.2 (by assumption))) hnd
          · refine V_aload_n C dX9_readVouchers_52 rfl ?_
            refine V_getr C fl_X9_51 dX9_readVouchers_53 (by decide) sh_0 rfl ?_
            refine V_aload_n C dX9_readVouchers_56 rfl ?_
            refine V_getr C fl_X9_19 dX9_readVouchers_57 (by decide) sh_0 rfl ?_
            refine V_getr C fl_X9_301 dX9_readVouchers_60 (by decide) sh_6 rfl ?_
            refine V_iload_n C dX9_readVouchers_63 rfl ?_
            refine V_ialdN (p0 := 9) (o := i) (v := X 9 i) C dX9_readVouchers_64 sh_9 (by decide) (by omega) (by decide) rfl ?_
            obtain ⟨a6, ha6, ea6⟩ := (hO.2 i (by omega)).2.2.2.1 (by simp only [oC, kd]; rw [(by assumption : X 7 i = 2)]; decide)
            have ia6 : ix (nI a6) = a6 := ix_nI (by omega)
            refine V_eqi ea6 ?_
            refine V_aload_n C dX9_readVouchers_65 rfl ?_
            refine V_getr C fl_X9_19 dX9_readVouchers_66 (by decide) sh_0 rfl ?_
            refine V_getr C fl_X9_144 dX9_readVouchers_69 (by decide) sh_6 rfl ?_
            refine V_iload_n C dX9_readVouchers_72 rfl ?_
            refine V_ialdN (p0 := 12) (o := i) (v := X 12 i) C dX9_readVouchers_73 sh_12 (by decide) (by omega) (by decide) rfl ?_
            refine V_callVU C [.int (nI a6), .int (X 12 i)] mi_X9_304 (k_X3_addVoucher w l a6 (X 12 i) (ma (ma (ma X 18 V1) 64 pv) 65 nd) (by omega)) dX9_readVouchers_74 sh_63 (by decide) rfl rfl rfl (Nat.le_of_ble_eq_true rfl) (Nat.le_of_ble_eq_true rfl) (Nat.le_of_ble_eq_true rfl) ⟨Nat.le_refl _, Nat.le_refl _⟩ (fun X7 q7 => ?_)
            have eX7 : X7 = (ma (ma (ma X 18 V1) 64 (upd (pv) a6 (pv a6 ||| (X 12 i)))) 65 (upd (nd) a6 (pv a6 ||| (X 12 i)))) := q7.trans (ma_22 (by decide))
            clear q7; subst X7
            refine V_iincN (a := i) (ls1 := [some (.ref (w.2.1 0)), some (.int (nI (i + 1)))]) C dX9_readVouchers_77 rfl (by decide) rfl ?_
            refine V_goto (tgt := 16) C dX9_readVouchers_80 (by decide) ?_
            exact ih16 (i + 1) (upd hv a6 1) (upd (pv) a6 (pv a6 ||| (X 12 i))) (upd (nd) a6 (pv a6 ||| (X 12 i))) (by omega) (by omega) (VoR_add hz (by assumption) (by assumption) ea6 ea6 (by omega) (by omega)) (ND_add hnd)
  exact L16 _ 0 (fun _ => 0) pv2 nd2 (Nat.lt_succ_self _) (by omega) (fun a ha => ⟨rfl, (hz2 a ha).1⟩) (ND_0 hz2)











