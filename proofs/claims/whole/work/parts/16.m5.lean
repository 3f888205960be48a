def q_X3_forgetVouchers (X : Mem) : Mem → Prop := fun X' => ∃ pv nd, X' = ma (ma X 64 pv) 65 nd ∧ ∀ a, a < 10 → pv a = 0 ∧ nd a = 1023
set_option maxHeartbeats 4000000 in
set_option maxRecDepth 100000 in
theorem k_X3_forgetVouchers (w : Wt) (l : Launch) (X : Mem) : CtU w l yX3_forgetVouchers cX3_forgetVouchers 2 none 1 20 [.ref (w.2.1 63)] X (q_X3_forgetVouchers X) := by
  refine CtU_of (by decide +kernel) (Nat.le_of_ble_eq_true rfl) (List.forall_mem_cons.mpr ⟨rfl, (fun _ h => nomatch h)⟩) (ls := [some (.ref (w.2.1 63)), none]) rfl (args := (#[.ref (w.2.1 63)] : Array Value)) rfl (own := RX3) rfl ?_
  intro p e s m below meth c C
  refine V_iconst (v := (0 : Int32)) C dX3_forgetVouchers_0 (by decide) ?_
  refine V_istore_n (ls1 := [some (.ref (w.2.1 63)), some (.int (0 : Int32))]) C dX3_forgetVouchers_1 (by decide) rfl ?_
  have L2 : ∀ (fu : Nat) (i : Nat) (pv : Nat → Int32) (nd : Nat → Int32), 10 - i < fu → (i ≤ 10) → (∀ a, a < i → pv a = 0 ∧ nd a = 1023) → V p l e ({ frames := 1, cells := 0, slots := 0, locals := 20 } : Room) s m (#[.ref (w.2.1 63)] : Array Value) below meth c w 2 0 0 (EU w below s (#[.ref (w.2.1 63)] : Array Value) 0 0 (q_X3_forgetVouchers X)) 2 [some (.ref (w.2.1 63)), some (.int (nI i))] [] (ma (ma X 64 pv) 65 nd) := by
    intro fu
    induction fu with
    | zero => intro i pv nd hm; exact absurd hm (Nat.not_lt_zero _)
    | succ fu ih2 =>
      intro i pv nd hm2 hi hz
      refine V_iload_n C dX3_forgetVouchers_2 rfl ?_
      refine V_bipush (v := (10 : Int32)) C dX3_forgetVouchers_3 (by decide) ?_
      refine V_icmp_geN (a := i) (b := 10) (tgt := 30) C dX3_forgetVouchers_5 (by decide) (by omega) (by omega) (fun h5_1 => ?_) (fun h5_1 => ?_)
      · exact V_returnU C dX3_forgetVouchers_30 ⟨pv, nd, rfl, fun a h => hz a (by omega)⟩
      · refine V_aload_n C dX3_forgetVouchers_8 rfl ?_
        refine V_getr C fl_X3_9 dX3_forgetVouchers_9 (by decide) sh_63 rfl ?_
        refine V_iload_n C dX3_forgetVouchers_12 rfl ?_
        refine V_iconst (v := (0 : Int32)) C dX3_forgetVouchers_13 (by decide) ?_
        refine V_iastN (p0 := 64) (o := i) (X1 := (ma (ma X 64 (upd (pv) i (0 : Int32))) 65 nd)) C dX3_forgetVouchers_14 sh_64 (by decide) (by omega) (by decide) (ma_in1 (by decide)) ?_
        refine V_aload_n C dX3_forgetVouchers_15 rfl ?_
        refine V_getr C fl_X3_15 dX3_forgetVouchers_16 (by decide) sh_63 rfl ?_
        refine V_iload_n C dX3_forgetVouchers_19 rfl ?_
        refine V_sipush (v := (1023 : Int32)) C dX3_forgetVouchers_20 (by decide) ?_
        refine V_iastN (p0 := 65) (o := i) (X1 := (ma (ma X 64 (upd (pv) i (0 : Int32))) 65 (upd (nd) i (1023 : Int32)))) C dX3_forgetVouchers_23 sh_65 (by decide) (by omega) (by decide) (ma_ma _ _ _ _) ?_
        refine V_iincN (a := i) (ls1 := [some (.ref (w.2.1 63)), some (.int (nI (i + 1)))]) C dX3_forgetVouchers_24 rfl (by decide) rfl ?_
        refine V_goto (tgt := 2) C dX3_forgetVouchers_27 (by decide) ?_
        exact ih2 (i + 1) (upd (pv) i (0 : Int32)) (upd (nd) i (1023 : Int32)) (by omega) (by omega) (by intro a h1; rcases lt_succ_or.mp h1 with h1 | rfl; rw [upd_ne (by omega), upd_ne (by omega)]; exact hz a h1; rw [upd_eq, upd_eq]; exact ⟨rfl, rfl⟩)
  refine V_eqX (X1 := (ma (ma X 64 (X 64)) 65 (X 65))) ((ma_id rfl).trans (ma_id rfl)) ?_
  exact L2 _ 0 (X 64) (X 65) (Nat.lt_succ_self _) (by omega) (fun a h => absurd h (Nat.not_lt_zero _))
def q_X3_addVoucher (a : Nat) (b : Int32) (X : Mem) : Mem → Prop := fun X' => X' = ma (ma X 64 (upd (X 64) a (X 64 a ||| b))) 65 (upd (X 65) a (X 64 a ||| b))
set_option maxHeartbeats 4000000 in
set_option maxRecDepth 100000 in
theorem k_X3_addVoucher (w : Wt) (l : Launch) (a : Nat) (b : Int32) (X : Mem) (ha : a < 10) : CtU w l yX3_addVoucher cX3_addVoucher 3 none 1 20 [.ref (w.2.1 63), .int (nI a), .int b] X (q_X3_addVoucher a b X) := by
  refine CtU_of (by decide +kernel) (Nat.le_of_ble_eq_true rfl) (List.forall_mem_cons.mpr ⟨rfl, (List.forall_mem_cons.mpr ⟨rfl, (List.forall_mem_cons.mpr ⟨rfl, (fun _ h => nomatch h)⟩)⟩)⟩) (ls := [some (.ref (w.2.1 63)), some (.int (nI a)), some (.int b)]) rfl (args := (#[.ref (w.2.1 63), .int (nI a), .int b] : Array Value)) rfl (own := RX3) rfl ?_
  intro p e s m below meth c C
  refine V_aload_n C dX3_addVoucher_0 rfl ?_
  refine V_getr C fl_X3_9 dX3_addVoucher_1 (by decide) sh_63 rfl ?_
  refine V_iload_n C dX3_addVoucher_4 rfl ?_
  refine V_dup2 C dX3_addVoucher_5 rfl rfl ?_
  refine V_ialdN (p0 := 64) (o := a) (v := X 64 a) C dX3_addVoucher_6 sh_64 (by decide) (by omega) (by decide) rfl ?_
  refine V_iload_n C dX3_addVoucher_7 rfl ?_
  refine V_ior C dX3_addVoucher_8 ?_
  refine V_iastN (p0 := 64) (o := a) (X1 := (ma X 64 (upd (X 64) a ((X 64 a) ||| b)))) C dX3_addVoucher_9 sh_64 (by decide) (by omega) (by decide) rfl ?_
  refine V_aload_n C dX3_addVoucher_10 rfl ?_
  refine V_getr C fl_X3_15 dX3_addVoucher_11 (by decide) sh_63 rfl ?_
  refine V_iload_n C dX3_addVoucher_14 rfl ?_
  refine V_aload_n C dX3_addVoucher_15 rfl ?_
  refine V_getr C fl_X3_9 dX3_addVoucher_16 (by decide) sh_63 rfl ?_
  refine V_iload_n C dX3_addVoucher_19 rfl ?_
  refine V_ialdN (p0 := 64) (o := a) (v := (upd (X 64) a ((X 64 a) ||| b)) a) C dX3_addVoucher_20 sh_64 (by decide) (by omega) (by decide) rfl ?_
  refine V_iastN (p0 := 65) (o := a) (X1 := (ma (ma X 64 (upd (X 64) a ((X 64 a) ||| b))) 65 (upd (X 65) a ((upd (X 64) a ((X 64 a) ||| b)) a)))) C dX3_addVoucher_21 sh_65 (by decide) (by omega) (by decide) rfl ?_
  exact V_returnU C dX3_addVoucher_22 (by rw [upd_eq]; exact rfl)
def q_X9_readVouchers (X : Mem) (h n : Nat) : Mem → Prop := fun X' => ∃ V hv pv nd, X' = ma (ma (ma X 18 V) 64 pv) 65 nd ∧ IsV (oC X) (gC X) n (X 1 0) V ∧ VoR (oC X) V n hv pv ∧ ND hv pv nd
set_option maxHeartbeats 4000000 in
set_option maxRecDepth 100000 in
theorem k_X9_readVouchers (w : Wt) (l : Launch) (X : Mem) (h n : Nat) (hO : OInv (oC X) h n) (hG : GInv (gC X) h) (hn : X 6 0 = nI n) (hh : X 1 1 = nI h) : CtU w l yX9_readVouchers cX9_readVouchers 2 none 7 159 [.ref (w.2.1 0)] X (q_X9_readVouchers X h n) := by
  have n50 := hO.1
  have h8 := hG.2.1
  refine CtU_of (by decide +kernel) (Nat.le_of_ble_eq_true rfl) (List.forall_mem_cons.mpr ⟨rfl, (fun _ h => nomatch h)⟩) (ls := [some (.ref (w.2.1 0)), none]) rfl (args := (#[.ref (w.2.1 0)] : Array Value)) rfl (own := RX9) rfl ?_
  intro p e s m below meth c C
  refine V_aload_n C dX9_readVouchers_0 rfl ?_
  refine V_getr C fl_X9_28 dX9_readVouchers_1 (by decide) sh_0 rfl ?_
  refine V_callVU C [] mi_X9_190 (k_X2_judgeAll w l X h n hO hG hn hh) dX9_readVouchers_4 sh_17 (by decide) rfl rfl rfl (Nat.le_of_ble_eq_true rfl) (Nat.le_of_ble_eq_true rfl) (Nat.le_of_ble_eq_true rfl) ⟨Nat.le_refl _, Nat.le_refl _⟩ (fun X1 q1 => ?_)
  obtain ⟨V1, eX1, hV1⟩ := q1
  subst X1
  refine V_aload_n C dX9_readVouchers_7 rfl ?_
  refine V_getr C fl_X9_51 dX9_readVouchers_8 (by decide) sh_0 rfl ?_
  refine V_callVU C [] mi_X9_298 (k_X3_forgetVouchers w l (ma X 18 V1) ) dX9_readVouchers_11 sh_63 (by decide) rfl rfl rfl (Nat.le_of_ble_eq_true rfl) (Nat.le_of_ble_eq_true rfl) (Nat.le_of_ble_eq_true rfl) ⟨Nat.le_refl _, Nat.le_refl _⟩ (fun X2 q2 => ?_)
  obtain ⟨pv2, nd2, eX2, hz2⟩ := q2
  subst X2
  try simp (disch := decide) only [oC_ma, gC_ma, oM_ma, gM_ma, ma_eq, ma_ne] at hz2
  refine V_iconst (v := (0 : Int32)) C dX9_readVouchers_14 (by decide) ?_
  refine V_istore_n (ls1 := [some (.ref (w.2.1 0)), some (.int (0 : Int32))]) C dX9_readVouchers_15 (by decide) rfl ?_
  have L16 : ∀ (fu : Nat) (i : Nat) (hv : Nat → Int32) (pv : Nat → Int32) (nd : Nat → Int32), n - i < fu → (i ≤ n) → (VoR (oC X) V1 i hv pv) → (ND hv pv nd) → V p l e ({ frames := 7, cells := 0, slots := 0, locals := 159 } : Room) s m (#[.ref (w.2.1 0)] : Array Value) below meth c w 2 0 0 (EU w below s (#[.ref (w.2.1 0)] : Array Value) 0 0 (q_X9_readVouchers X h n)) 16 [some (.ref (w.2.1 0)), some (.int (nI i))] [] (ma (ma (ma X 18 V1) 64 pv) 65 nd) := by
    intro fu
    induction fu with
    | zero => intro i hv pv nd hm; exact absurd hm (Nat.not_lt_zero _)
    | succ fu ih16 =>
      intro i hv pv nd hm16 hi hz hnd
      refine V_iload_n C dX9_readVouchers_16 rfl ?_
      refine V_aload_n C dX9_readVouchers_17 rfl ?_
      refine V_getr C fl_X9_19 dX9_readVouchers_18 (by decide) sh_0 rfl ?_
      refine V_geti C fl_X9_189 dX9_readVouchers_21 (by decide) sh_6 rfl ?_
      refine V_eqi (y := X 6 0) rfl ?_
      refine V_eqi (y := nI n) hn ?_
      refine V_icmp_geN (a := i) (b := n) (tgt := 83) C dX9_readVouchers_24 (by decide) (by omega) (by omega) (fun h24_3 => ?_) (fun h24_3 => ?_)
      · exact V_returnU C dX9_readVouchers_83 ⟨V1, hv, pv, nd, rfl, hV1, VoR_to hz (by omega), hnd⟩
      · refine V_aload_n C dX9_readVouchers_27 rfl ?_
        refine V_getr C fl_X9_19 dX9_readVouchers_28 (by decide) sh_0 rfl ?_
        refine V_getr C fl_X9_139 dX9_readVouchers_31 (by decide) sh_6 rfl ?_
        refine V_iload_n C dX9_readVouchers_34 rfl ?_
        refine V_ialdN (p0 := 7) (o := i) (v := X 7 i) C dX9_readVouchers_35 sh_7 (by decide) (by omega) (by decide) rfl ?_
        refine V_iconst (v := (2 : Int32)) C dX9_readVouchers_36 (by decide) ?_
        refine V_icmp_ne (x := X 7 i) (y := (2 : Int32)) (tgt := 77) C dX9_readVouchers_37 (by decide) (fun h37_4 => ?_) (fun h37_4 => ?_)
        · refine V_iincN (a := i) (ls1 := [some (.ref (w.2.1 0)), some (.int (nI (i + 1)))]) C dX9_readVouchers_77 rfl (by decide) rfl ?_
          refine V_goto (tgt := 16) C dX9_readVouchers_80 (by decide) ?_
          exact ih16 (i + 1) hv pv nd (by omega) (by omega) (VoR_skip hz (by first | exact fun q => absurd q.1 (by assumption) | exact fun q => absurd q.2 (by assumption))) hnd
        · refine V_aload_n C dX9_readVouchers_40 rfl ?_
          refine V_getr C fl_X9_28 dX9_readVouchers_41 (by decide) sh_0 rfl ?_
          refine V_getr C fl_X9_193 dX9_readVouchers_44 (by decide) sh_17 rfl ?_
          refine V_iload_n C dX9_readVouchers_47 rfl ?_
          refine V_ialdN (p0 := 18) (o := i) (v := V1 i) C dX9_readVouchers_48 sh_18 (by decide) (by omega) (by decide) rfl ?_
          refine V_if_ne (x := V1 i) (tgt := 77) C dX9_readVouchers_49 (by decide) (fun h49_5 => ?_) (fun h49_5 => ?_)
          · refine V_iincN (a := i) (ls1 := [some (.ref (w.2.1 0)), some (.int (nI (i + 1)))]) C dX9_readVouchers_77 rfl (by decide) rfl ?_
            refine V_goto (tgt := 16) C dX9_readVouchers_80 (by decide) ?_
            exact ih16 (i + 1) hv pv nd (by omega) (by omega) (VoR_skip hz (by first | exact fun q => absurd q.1 (by assumption) | exact fun q => absurd q.2 (by assumption))) hnd
          · refine V_aload_n C dX9_readVouchers_52 rfl ?_
            refine V_getr C fl_X9_51 dX9_readVouchers_53 (by decide) sh_0 rfl ?_
            refine V_aload_n C dX9_readVouchers_56 rfl ?_
            refine V_getr C fl_X9_19 dX9_readVouchers_57 (by decide) sh_0 rfl ?_
            refine V_getr C fl_X9_301 dX9_readVouchers_60 (by decide) sh_6 rfl ?_
            refine V_iload_n C dX9_readVouchers_63 rfl ?_
            refine V_ialdN (p0 := 9) (o := i) (v := X 9 i) C dX9_readVouchers_64 sh_9 (by decide) (by omega) (by decide) rfl ?_
            obtain ⟨a6, ha6, ea6⟩ := (hO.2 i (by omega)).2.2.2.1 (by simp only [oC, kd]; rw [(by assumption : X 7 i = 2)]; decide)
            have ia6 : ix (nI a6) = a6 := ix_nI (by omega)
            refine V_eqi ea6 ?_
            refine V_aload_n C dX9_readVouchers_65 rfl ?_
            refine V_getr C fl_X9_19 dX9_readVouchers_66 (by decide) sh_0 rfl ?_
            refine V_getr C fl_X9_144 dX9_readVouchers_69 (by decide) sh_6 rfl ?_
            refine V_iload_n C dX9_readVouchers_72 rfl ?_
            refine V_ialdN (p0 := 12) (o := i) (v := X 12 i) C dX9_readVouchers_73 sh_12 (by decide) (by omega) (by decide) rfl ?_
            refine V_callVU C [.int (nI a6), .int (X 12 i)] mi_X9_304 (k_X3_addVoucher w l a6 (X 12 i) (ma (ma (ma X 18 V1) 64 pv) 65 nd) (by omega)) dX9_readVouchers_74 sh_63 (by decide) rfl rfl rfl (Nat.le_of_ble_eq_true rfl) (Nat.le_of_ble_eq_true rfl) (Nat.le_of_ble_eq_true rfl) ⟨Nat.le_refl _, Nat.le_refl _⟩ (fun X7 q7 => ?_)
            have eX7 : X7 = (ma (ma (ma X 18 V1) 64 (upd (pv) a6 (pv a6 ||| (X 12 i)))) 65 (upd (nd) a6 (pv a6 ||| (X 12 i)))) := q7.trans (ma_22 (by decide))
            clear q7; subst X7
            refine V_iincN (a := i) (ls1 := [some (.ref (w.2.1 0)), some (.int (nI (i + 1)))]) C dX9_readVouchers_77 rfl (by decide) rfl ?_
            refine V_goto (tgt := 16) C dX9_readVouchers_80 (by decide) ?_
            exact ih16 (i + 1) (upd hv a6 1) (upd (pv) a6 (pv a6 ||| (X 12 i))) (upd (nd) a6 (pv a6 ||| (X 12 i))) (by omega) (by omega) (VoR_add hz (by assumption) (by assumption) ea6 ea6 (by omega) (by omega)) (ND_add hnd)
  exact L16 _ 0 (fun _ => 0) pv2 nd2 (Nat.lt_succ_self _) (by omega) (fun a ha => ⟨rfl, (hz2 a ha).1⟩) (ND_0 hz2)
def q_X10_vouches (X : Mem) (h n : Nat) : Mem → Prop := fun X' => ∃ V hv pv, X' = ma (ma (ma X 107 V) 108 pv) 109 hv ∧ IsV (oM X) (gM X) n (X 85 1) V ∧ VoR (oM X) V n hv pv
set_option maxHeartbeats 4000000 in
set_option maxRecDepth 100000 in
theorem k_X10_vouches (w : Wt) (l : Launch) (X : Mem) (h n : Nat) (hO : OInv (oM X) h n) (hG : GInv (gM X) h) (hn : X 85 17 = nI n) (hh : X 85 5 = nI h) : CtU w l yX10_vouches cX10_vouches 2 none 5 112 [.ref (w.2.1 85)] X (q_X10_vouches X h n) := by
  have n50 := hO.1
  have h8 := hG.2.1
  refine CtU_of (by decide +kernel) (Nat.le_of_ble_eq_true rfl) (List.forall_mem_cons.mpr ⟨rfl, (fun _ h => nomatch h)⟩) (ls := [some (.ref (w.2.1 85)), none]) rfl (args := (#[.ref (w.2.1 85)] : Array Value)) rfl (own := RX10) rfl ?_
  intro p e s m below meth c C
  refine V_aload_n C dX10_vouches_0 rfl ?_
  refine V_callVU C [] mi_X10_176 (k_X10_judges w l X h n hO hG hn hh) dX10_vouches_1 sh_85 (by decide) rfl rfl rfl (Nat.le_of_ble_eq_true rfl) (Nat.le_of_ble_eq_true rfl) (Nat.le_of_ble_eq_true rfl) ⟨Nat.le_refl _, Nat.le_refl _⟩ (fun X1 q1 => ?_)
  obtain ⟨V1, eX1, hV1⟩ := q1
  subst X1
  refine V_iconst (v := (0 : Int32)) C dX10_vouches_4 (by decide) ?_
  refine V_istore_n (ls1 := [some (.ref (w.2.1 85)), some (.int (0 : Int32))]) C dX10_vouches_5 (by decide) rfl ?_
  have L6 : ∀ (fu : Nat) (j : Nat) (pv0 : Nat → Int32) (hv0 : Nat → Int32), 10 - j < fu → (j ≤ 10) → (∀ a, a < j → hv0 a = 0 ∧ pv0 a = 0) → V p l e ({ frames := 5, cells := 0, slots := 0, locals := 112 } : Room) s m (#[.ref (w.2.1 85)] : Array Value) below meth c w 2 0 0 (EU w below s (#[.ref (w.2.1 85)] : Array Value) 0 0 (q_X10_vouches X h n)) 6 [some (.ref (w.2.1 85)), some (.int (nI j))] [] (ma (ma (ma X 107 V1) 108 pv0) 109 hv0) := by
    intro fu
    induction fu with
    | zero => intro j pv0 hv0 hm; exact absurd hm (Nat.not_lt_zero _)
    | succ fu ih6 =>
      intro j pv0 hv0 hm6 hj hz0
      refine V_iload_n C dX10_vouches_6 rfl ?_
      refine V_bipush (v := (10 : Int32)) C dX10_vouches_7 (by decide) ?_
      refine V_icmp_geN (a := j) (b := 10) (tgt := 32) C dX10_vouches_9 (by decide) (by omega) (by omega) (fun h9_2 => ?_) (fun h9_2 => ?_)
      · refine V_iconst (v := (0 : Int32)) C dX10_vouches_32 (by decide) ?_
        refine V_istore_n (ls1 := [some (.ref (w.2.1 85)), some (.int (0 : Int32))]) C dX10_vouches_33 (by decide) rfl ?_
        have L34 : ∀ (fu : Nat) (i : Nat) (pv : Nat → Int32) (hv : Nat → Int32), n - i < fu → (i ≤ n) → (VoR (oM X) V1 i hv pv) → V p l e ({ frames := 5, cells := 0, slots := 0, locals := 112 } : Room) s m (#[.ref (w.2.1 85)] : Array Value) below meth c w 2 0 0 (EU w below s (#[.ref (w.2.1 85)] : Array Value) 0 0 (q_X10_vouches X h n)) 34 [some (.ref (w.2.1 85)), some (.int (nI i))] [] (ma (ma (ma X 107 V1) 108 pv) 109 hv) := by
          intro fu
          induction fu with
          | zero => intro i pv hv hm; exact absurd hm (Nat.not_lt_zero _)
          | succ fu ih34 =>
            intro i pv hv hm34 hi hz
            refine V_iload_n C dX10_vouches_34 rfl ?_
            refine V_aload_n C dX10_vouches_35 rfl ?_
            refine V_geti C fl_X10_112 dX10_vouches_36 (by decide) sh_85 rfl ?_
            refine V_eqi (y := X 85 17) rfl ?_
            refine V_eqi (y := nI n) hn ?_
            refine V_icmp_geN (a := i) (b := n) (tgt := 99) C dX10_vouches_39 (by decide) (by omega) (by omega) (fun h39_3 => ?_) (fun h39_3 => ?_)
            · exact V_returnU C dX10_vouches_99 ⟨V1, hv, pv, rfl, hV1, VoR_to hz (by omega)⟩
            · refine V_aload_n C dX10_vouches_42 rfl ?_
              refine V_getr C fl_X10_26 dX10_vouches_43 (by decide) sh_85 rfl ?_
              refine V_iload_n C dX10_vouches_46 rfl ?_
              refine V_ialdN (p0 := 90) (o := i) (v := X 90 i) C dX10_vouches_47 sh_90 (by decide) (by omega) (by decide) rfl ?_
              refine V_iconst (v := (2 : Int32)) C dX10_vouches_48 (by decide) ?_
              refine V_icmp_ne (x := X 90 i) (y := (2 : Int32)) (tgt := 93) C dX10_vouches_49 (by decide) (fun h49_4 => ?_) (fun h49_4 => ?_)
              · refine V_iincN (a := i) (ls1 := [some (.ref (w.2.1 85)), some (.int (nI (i + 1)))]) C dX10_vouches_93 rfl (by decide) rfl ?_
                refine V_goto (tgt := 34) C dX10_vouches_96 (by decide) ?_
                exact ih34 (i + 1) pv hv (by omega) (by omega) (VoR_skip hz (by first | exact fun q => absurd q.1 (by assumption) | exact fun q => absurd q.2 (by assumption)))
              · refine V_aload_n C dX10_vouches_52 rfl ?_
                refine V_getr C fl_X10_78 dX10_vouches_53 (by decide) sh_85 rfl ?_
                refine V_iload_n C dX10_vouches_56 rfl ?_
                refine V_ialdN (p0 := 107) (o := i) (v := V1 i) C dX10_vouches_57 sh_107 (by decide) (by omega) (by decide) rfl ?_
                refine V_if_ne (x := V1 i) (tgt := 93) C dX10_vouches_58 (by decide) (fun h58_5 => ?_) (fun h58_5 => ?_)
                · refine V_iincN (a := i) (ls1 := [some (.ref (w.2.1 85)), some (.int (nI (i + 1)))]) C dX10_vouches_93 rfl (by decide) rfl ?_
                  refine V_goto (tgt := 34) C dX10_vouches_96 (by decide) ?_
                  exact ih34 (i + 1) pv hv (by omega) (by omega) (VoR_skip hz (by first | exact fun q => absurd q.1 (by assumption) | exact fun q => absurd q.2 (by assumption)))
                · refine V_aload_n C dX10_vouches_61 rfl ?_
                  refine V_getr C fl_X10_81 dX10_vouches_62 (by decide) sh_85 rfl ?_
                  refine V_aload_n C dX10_vouches_65 rfl ?_
                  refine V_getr C fl_X10_32 dX10_vouches_66 (by decide) sh_85 rfl ?_
                  refine V_iload_n C dX10_vouches_69 rfl ?_
                  refine V_ialdN (p0 := 92) (o := i) (v := X 92 i) C dX10_vouches_70 sh_92 (by decide) (by omega) (by decide) rfl ?_
                  obtain ⟨a6, ha6, ea6⟩ := (hO.2 i (by omega)).2.2.2.1 (by simp only [oM, kd]; rw [(by assumption : X 90 i = 2)]; decide)
                  have ia6 : ix (nI a6) = a6 := ix_nI (by omega)
                  refine V_eqi ea6 ?_
                  refine V_dup2 C dX10_vouches_71 rfl rfl ?_
                  refine V_ialdN (p0 := 108) (o := a6) (v := pv a6) C dX10_vouches_72 sh_108 (by decide) (by omega) (by decide) rfl ?_
                  refine V_aload_n C dX10_vouches_73 rfl ?_
                  refine V_getr C fl_X10_41 dX10_vouches_74 (by decide) sh_85 rfl ?_
                  refine V_iload_n C dX10_vouches_77 rfl ?_
                  refine V_ialdN (p0 := 95) (o := i) (v := X 95 i) C dX10_vouches_78 sh_95 (by decide) (by omega) (by decide) rfl ?_
                  refine V_ior C dX10_vouches_79 ?_
                  refine V_iastN (p0 := 108) (o := a6) (X1 := (ma (ma (ma X 107 V1) 108 (upd (pv) a6 ((pv a6) ||| (X 95 i)))) 109 hv)) C dX10_vouches_80 sh_108 (by decide) (by omega) (by decide) (ma_in1 (by decide)) ?_
                  refine V_aload_n C dX10_vouches_81 rfl ?_
                  refine V_getr C fl_X10_84 dX10_vouches_82 (by decide) sh_85 rfl ?_
                  refine V_aload_n C dX10_vouches_85 rfl ?_
                  refine V_getr C fl_X10_32 dX10_vouches_86 (by decide) sh_85 rfl ?_
                  refine V_iload_n C dX10_vouches_89 rfl ?_
                  refine V_ialdN (p0 := 92) (o := i) (v := X 92 i) C dX10_vouches_90 sh_92 (by decide) (by omega) (by decide) rfl ?_
                  refine V_eqi ea6 ?_
                  refine V_iconst (v := (1 : Int32)) C dX10_vouches_91 (by decide) ?_
                  refine V_bastN (p0 := 109) (o := a6) (X1 := (ma (ma (ma X 107 V1) 108 (upd (pv) a6 ((pv a6) ||| (X 95 i)))) 109 (upd (hv) a6 (1 : Int32)))) C dX10_vouches_92 sh_109 (by decide) (by omega) (by decide) (Or.inr rfl) (ma_ma _ _ _ _) ?_
                  refine V_iincN (a := i) (ls1 := [some (.ref (w.2.1 85)), some (.int (nI (i + 1)))]) C dX10_vouches_93 rfl (by decide) rfl ?_
                  refine V_goto (tgt := 34) C dX10_vouches_96 (by decide) ?_
                  exact ih34 (i + 1) (upd (pv) a6 ((pv a6) ||| (X 95 i))) (upd (hv) a6 (1 : Int32)) (by omega) (by omega) (VoR_add hz (by assumption) (by assumption) ea6 ea6 (by omega) (by omega))
        exact L34 _ 0 pv0 hv0 (Nat.lt_succ_self _) (by omega) (fun a ha => hz0 a (by omega))
      · refine V_aload_n C dX10_vouches_12 rfl ?_
        refine V_getr C fl_X10_81 dX10_vouches_13 (by decide) sh_85 rfl ?_
        refine V_iload_n C dX10_vouches_16 rfl ?_
        refine V_iconst (v := (0 : Int32)) C dX10_vouches_17 (by decide) ?_
        refine V_iastN (p0 := 108) (o := j) (X1 := (ma (ma (ma X 107 V1) 108 (upd (pv0) j (0 : Int32))) 109 hv0)) C dX10_vouches_18 sh_108 (by decide) (by omega) (by decide) (ma_in1 (by decide)) ?_
        refine V_aload_n C dX10_vouches_19 rfl ?_
        refine V_getr C fl_X10_84 dX10_vouches_20 (by decide) sh_85 rfl ?_
        refine V_iload_n C dX10_vouches_23 rfl ?_
        refine V_iconst (v := (0 : Int32)) C dX10_vouches_24 (by decide) ?_
        refine V_bastN (p0 := 109) (o := j) (X1 := (ma (ma (ma X 107 V1) 108 (upd (pv0) j (0 : Int32))) 109 (upd (hv0) j (0 : Int32)))) C dX10_vouches_25 sh_109 (by decide) (by omega) (by decide) (Or.inl rfl) (ma_ma _ _ _ _) ?_
        refine V_iincN (a := j) (ls1 := [some (.ref (w.2.1 85)), some (.int (nI (j + 1)))]) C dX10_vouches_26 rfl (by decide) rfl ?_
        refine V_goto (tgt := 6) C dX10_vouches_29 (by decide) ?_
        exact ih6 (j + 1) (upd (pv0) j (0 : Int32)) (upd (hv0) j (0 : Int32)) (by omega) (by omega) (by intro a h1; rcases lt_succ_or.mp h1 with h1 | rfl; rw [upd_ne (by omega), upd_ne (by omega)]; exact hz0 a h1; rw [upd_eq, upd_eq]; exact ⟨rfl, rfl⟩)
  refine V_eqX (X1 := (ma (ma (ma X 107 V1) 108 (X 108)) 109 (X 109))) ((ma_id rfl).trans (ma_id rfl)) ?_
  exact L6 _ 0 (X 108) (X 109) (Nat.lt_succ_self _) (by omega) (fun a h => absurd h (Nat.not_lt_zero _))
def q_X10_isFor (a : Nat) (b : Nat) (X : Mem) : Int32 → Mem → Prop := fun r X' => bI ((ix (X 108 a)).testBit b = true) r ∧ X' = X
set_option maxHeartbeats 4000000 in
set_option maxRecDepth 100000 in
theorem k_X10_isFor (w : Wt) (l : Launch) (a : Nat) (b : Nat) (X : Mem) (hPV : PVInv (X 108)) (ha : a < 10) (hb : b < 10) : CtI w l yX10_isFor cX10_isFor 3 (some .boolean) 1 20 [.ref (w.2.1 85), .int (nI a), .int (nI b)] X (q_X10_isFor a b X) := by
  refine CtI_of (by decide +kernel) (Nat.le_of_ble_eq_true rfl) (List.forall_mem_cons.mpr ⟨rfl, (List.forall_mem_cons.mpr ⟨rfl, (List.forall_mem_cons.mpr ⟨rfl, (fun _ h => nomatch h)⟩)⟩)⟩) (ls := [some (.ref (w.2.1 85)), some (.int (nI a)), some (.int (nI b))]) rfl (args := (#[.ref (w.2.1 85), .int (nI a), .int (nI b)] : Array Value)) rfl (own := RX10) rfl ?_
  intro p e s m below meth c C
  refine V_aload_n C dX10_isFor_0 rfl ?_
  refine V_getr C fl_X10_81 dX10_isFor_1 (by decide) sh_85 rfl ?_
  refine V_iload_n C dX10_isFor_4 rfl ?_
  refine V_ialdN (p0 := 108) (o := a) (v := X 108 a) C dX10_isFor_5 sh_108 (by decide) (by omega) (by decide) rfl ?_
  obtain ⟨a1, ha1, ea1⟩ := hPV a ha
  have ia1 : ix (nI a1) = a1 := ix_nI (by omega)
  refine V_eqi ea1 ?_
  refine V_iload_n C dX10_isFor_6 rfl ?_
  refine V_ishr C dX10_isFor_7 ?_
  refine V_iconst (v := (1 : Int32)) C dX10_isFor_8 (by decide) ?_
  refine V_iand C dX10_isFor_9 ?_
  refine V_iconst (v := (1 : Int32)) C dX10_isFor_10 (by decide) ?_
  refine V_icmp_ne (x := ((nI a1) >>> ((nI b) &&& 31)) &&& (1 : Int32)) (y := (1 : Int32)) (tgt := 18) C dX10_isFor_11 (by decide) (fun h11_2 => ?_) (fun h11_2 => ?_)
  · refine V_iconst (v := (0 : Int32)) C dX10_isFor_18 (by decide) ?_
    exact V_zreturnI C dX10_isFor_19 (Or.inl rfl) ⟨bI.f (by rw [ea1, ia1]; exact fun q => absurd ((bit_in (by omega) (by omega)).mpr q) (by assumption)), rfl⟩
  · refine V_iconst (v := (1 : Int32)) C dX10_isFor_14 (by decide) ?_
    refine V_goto (tgt := 19) C dX10_isFor_15 (by decide) ?_
    exact V_zreturnI C dX10_isFor_19 (Or.inr rfl) ⟨bI.t (by rw [ea1, ia1]; exact (bit_in (by omega) (by omega)).mp (by assumption)), rfl⟩
def q_X10_denies (a : Nat) (b : Nat) (X : Mem) : Int32 → Mem → Prop := fun r X' => bI (¬ X 109 a = 0 ∧ ¬ (ix (X 108 a)).testBit b = true) r ∧ X' = X
set_option maxHeartbeats 4000000 in
set_option maxRecDepth 100000 in
theorem k_X10_denies (w : Wt) (l : Launch) (a : Nat) (b : Nat) (X : Mem) (hPV : PVInv (X 108)) (ha : a < 10) (hb : b < 10) : CtI w l yX10_denies cX10_denies 3 (some .boolean) 2 42 [.ref (w.2.1 85), .int (nI a), .int (nI b)] X (q_X10_denies a b X) := by
  refine CtI_of (by decide +kernel) (Nat.le_of_ble_eq_true rfl) (List.forall_mem_cons.mpr ⟨rfl, (List.forall_mem_cons.mpr ⟨rfl, (List.forall_mem_cons.mpr ⟨rfl, (fun _ h => nomatch h)⟩)⟩)⟩) (ls := [some (.ref (w.2.1 85)), some (.int (nI a)), some (.int (nI b))]) rfl (args := (#[.ref (w.2.1 85), .int (nI a), .int (nI b)] : Array Value)) rfl (own := RX10) rfl ?_
  intro p e s m below meth c C
  refine V_aload_n C dX10_denies_0 rfl ?_
  refine V_getr C fl_X10_84 dX10_denies_1 (by decide) sh_85 rfl ?_
  refine V_iload_n C dX10_denies_4 rfl ?_
  refine V_baldN (p0 := 109) (o := a) (v := X 109 a) C dX10_denies_5 sh_109 (by decide) (by omega) (by decide) rfl ?_
  refine V_if_eq (x := X 109 a) (tgt := 22) C dX10_denies_6 (by decide) (fun h6_1 => ?_) (fun h6_1 => ?_)
  · refine V_iconst (v := (0 : Int32)) C dX10_denies_22 (by decide) ?_
    exact V_zreturnI C dX10_denies_23 (Or.inl rfl) (by first | exact ⟨bI.f (fun q => absurd (by assumption) q.1), rfl⟩ | exact ⟨bI.f (fun q => absurd (by assumption) q.2), rfl⟩)
  · refine V_aload_n C dX10_denies_9 rfl ?_
    refine V_iload_n C dX10_denies_10 rfl ?_
    refine V_iload_n C dX10_denies_11 rfl ?_
    refine V_callVI C [.int (nI a), .int (nI b)] mi_X10_186 (k_X10_isFor w l a b X hPV (by omega) (by omega)) dX10_denies_12 sh_85 (by decide) rfl rfl rfl (Nat.le_of_ble_eq_true rfl) (Nat.le_of_ble_eq_true rfl) (Nat.le_of_ble_eq_true rfl) ⟨Nat.le_refl _, Nat.le_refl _⟩ (fun v2 X2 q2 => ?_)
    obtain ⟨hb2, eX2⟩ := q2; subst X2
    refine V_if_neB (tgt := 22) C hb2 dX10_denies_15 (by decide) (fun h15_3 => ?_) (fun h15_3 => ?_)
    · refine V_iconst (v := (0 : Int32)) C dX10_denies_22 (by decide) ?_
      exact V_zreturnI C dX10_denies_23 (Or.inl rfl) (by first | exact ⟨bI.f (fun q => absurd (by assumption) q.1), rfl⟩ | exact ⟨bI.f (fun q => absurd (by assumption) q.2), rfl⟩)
    · refine V_iconst (v := (1 : Int32)) C dX10_denies_18 (by decide) ?_
      refine V_goto (tgt := 23) C dX10_denies_19 (by decide) ?_
      exact V_zreturnI C dX10_denies_23 (Or.inr rfl) ⟨bI.t ⟨by assumption, by assumption⟩, rfl⟩
def q_X10_runsRound (a : Nat) (f : Nat) (z : Nat) (X : Mem) (N : Nat) (P : Nat → Nat) : Int32 → Mem → Prop := fun r X' => bI (Rnd P z) r ∧ X' = X
set_option maxHeartbeats 4000000 in
set_option maxRecDepth 100000 in
theorem k_X10_runsRound (w : Wt) (l : Launch) (a : Nat) (f : Nat) (z : Nat) (X : Mem) (N : Nat) (P : Nat → Nat) (hsh : sh a = .inl (0, N)) (hN : N ≤ 256) (ha : a < 117) (hP : PAt X a f P z) (hzN : f + z ≤ N) : CtI w l yX10_runsRound cX10_runsRound 6 (some .boolean) 1 20 [.ref (w.2.1 a), .int (nI f), .int (nI z)] X (q_X10_runsRound a f z X N P) := by
  refine CtI_of (by decide +kernel) (Nat.le_of_ble_eq_true rfl) (List.forall_mem_cons.mpr ⟨rfl, (List.forall_mem_cons.mpr ⟨rfl, (List.forall_mem_cons.mpr ⟨rfl, (fun _ h => nomatch h)⟩)⟩)⟩) (ls := [some (.ref (w.2.1 a)), some (.int (nI f)), some (.int (nI z)), none, none, none]) rfl (args := (#[.ref (w.2.1 a), .int (nI f), .int (nI z)] : Array Value)) rfl (own := RX10) rfl ?_
  intro p e s m below meth c C
  refine V_iconst (v := (0 : Int32)) C dX10_runsRound_0 (by decide) ?_
  refine V_istore_n (ls1 := [some (.ref (w.2.1 a)), some (.int (nI f)), some (.int (nI z)), some (.int (0 : Int32)), none, none]) C dX10_runsRound_1 (by decide) rfl ?_
  refine V_iconst (v := (0 : Int32)) C dX10_runsRound_2 (by decide) ?_
  refine V_istore (ls1 := [some (.ref (w.2.1 a)), some (.int (nI f)), some (.int (nI z)), some (.int (0 : Int32)), some (.int (0 : Int32)), none]) C dX10_runsRound_3 (by decide) rfl ?_
  refine V_iload_n C dX10_runsRound_5 rfl ?_
  refine V_istore (ls1 := [some (.ref (w.2.1 a)), some (.int (nI f)), some (.int (nI z)), some (.int (0 : Int32)), some (.int (0 : Int32)), some (.int (nI f))]) C dX10_runsRound_6 (by decide) rfl ?_
  have L8 : ∀ (fu : Nat) (k : Nat) (S : Nat) (is : Int32), f + z - k < fu → (f ≤ k) → (k ≤ f + z) → (Seen P (k - f) S) → (bI (Rnd P (k - f)) is) → V p l e ({ frames := 1, cells := 0, slots := 0, locals := 20 } : Room) s m (#[.ref (w.2.1 a), .int (nI f), .int (nI z)] : Array Value) below meth c w 6 0 0 (EI w below s (#[.ref (w.2.1 a), .int (nI f), .int (nI z)] : Array Value) 0 0 (q_X10_runsRound a f z X N P)) 8 [some (.ref (w.2.1 a)), some (.int (nI f)), some (.int (nI z)), some (.int (nI S)), some (.int is), some (.int (nI k))] [] X := by
    intro fu
    induction fu with
    | zero => intro k S is hm; exact absurd hm (Nat.not_lt_zero _)
    | succ fu ih8 =>
      intro k S is hm8 h1 h2 hS hb
      have hS1 := hS.1
      refine V_iload C dX10_runsRound_8 rfl ?_
      refine V_iload_n C dX10_runsRound_10 rfl ?_
      refine V_iload_n C dX10_runsRound_11 rfl ?_
      refine V_iaddN (a := f) (b := z) C dX10_runsRound_12 ?_
      refine V_icmp_geN (a := k) (b := f + z) (tgt := 55) C dX10_runsRound_13 (by decide) (by omega) (by omega) (fun h13_1 => ?_) (fun h13_1 => ?_)
      · refine V_iload C dX10_runsRound_55 rfl ?_
        exact V_zreturnI C dX10_runsRound_57 hb.z ⟨(show k - f = z from by omega) ▸ hb, rfl⟩
      · refine V_iload C dX10_runsRound_16 rfl ?_
        refine V_if_neB (tgt := 33) C hb dX10_runsRound_18 (by decide) (fun h18_2 => ?_) (fun h18_2 => ?_)
        · refine V_iconst (v := (1 : Int32)) C dX10_runsRound_33 (by decide) ?_
          refine V_goto (tgt := 38) C dX10_runsRound_34 (by decide) ?_
          refine V_istore (ls1 := [some (.ref (w.2.1 a)), some (.int (nI f)), some (.int (nI z)), some (.int (nI S)), some (.int (1 : Int32)), some (.int (nI k))]) C dX10_runsRound_38 (by decide) rfl ?_
          refine V_iload_n C dX10_runsRound_40 rfl ?_
          refine V_iconst (v := (1 : Int32)) C dX10_runsRound_41 (by decide) ?_
          refine V_aload_n C dX10_runsRound_42 rfl ?_
          refine V_iload C dX10_runsRound_43 rfl ?_
          refine V_ialdN (p0 := a) (o := k) (v := X a k) C dX10_runsRound_45 hsh ha (by omega) hN rfl ?_
          have hq3 : P (k - f) < 10 := (PAt_k hP (by omega) (by omega)).2
          refine V_eqi (y := nI (P (k - f))) ((PAt_k hP (by omega) (by omega)).1) ?_
          refine V_ishl C dX10_runsRound_46 ?_
          refine V_eqi (y := nI (2 ^ (P (k - f)))) (shl1 (by omega)) ?_
          refine V_ior C dX10_runsRound_47 ?_
          refine V_eqi (y := nI (S ||| (2 ^ (P (k - f))))) (nI_or _ _) ?_
          refine V_istore_n (ls1 := [some (.ref (w.2.1 a)), some (.int (nI f)), some (.int (nI z)), some (.int (nI (S ||| (2 ^ (P (k - f)))))), some (.int (1 : Int32)), some (.int (nI k))]) C dX10_runsRound_48 (by decide) rfl ?_
          refine V_iincN (a := k) (ls1 := [some (.ref (w.2.1 a)), some (.int (nI f)), some (.int (nI z)), some (.int (nI (S ||| (2 ^ (P (k - f)))))), some (.int (1 : Int32)), some (.int (nI (k + 1)))]) C dX10_runsRound_49 rfl (by decide) rfl ?_
          refine V_goto (tgt := 8) C dX10_runsRound_52 (by decide) ?_
          exact ih8 (k + 1) (S ||| (2 ^ (P (k - f)))) (1 : Int32) (by omega) (by omega) (by omega) (by rw [show k + 1 - f = (k - f) + 1 by omega]; exact Seen_succ hS (by assumption)) (by rw [show k + 1 - f = (k - f) + 1 by omega]; exact bI.t (Rnd_succ.mpr (by first | exact Or.inl (by assumption) | exact Or.inr ((hS.2 _).mp ((bit_in (by omega) (by omega)).mp (by assumption))))))
        · refine V_iload_n C dX10_runsRound_21 rfl ?_
          refine V_aload_n C dX10_runsRound_22 rfl ?_
          refine V_iload C dX10_runsRound_23 rfl ?_
          refine V_ialdN (p0 := a) (o := k) (v := X a k) C dX10_runsRound_25 hsh ha (by omega) hN rfl ?_
          have hq4 : P (k - f) < 10 := (PAt_k hP (by omega) (by omega)).2
          refine V_eqi (y := nI (P (k - f))) ((PAt_k hP (by omega) (by omega)).1) ?_
          refine V_ishr C dX10_runsRound_26 ?_
          refine V_iconst (v := (1 : Int32)) C dX10_runsRound_27 (by decide) ?_
          refine V_iand C dX10_runsRound_28 ?_
          refine V_iconst (v := (1 : Int32)) C dX10_runsRound_29 (by decide) ?_
          refine V_icmp_ne (x := ((nI S) >>> ((nI (P (k - f))) &&& 31)) &&& (1 : Int32)) (y := (1 : Int32)) (tgt := 37) C dX10_runsRound_30 (by decide) (fun h30_5 => ?_) (fun h30_5 => ?_)
          · refine V_iconst (v := (0 : Int32)) C dX10_runsRound_37 (by decide) ?_
            refine V_istore (ls1 := [some (.ref (w.2.1 a)), some (.int (nI f)), some (.int (nI z)), some (.int (nI S)), some (.int (0 : Int32)), some (.int (nI k))]) C dX10_runsRound_38 (by decide) rfl ?_
            refine V_iload_n C dX10_runsRound_40 rfl ?_
            refine V_iconst (v := (1 : Int32)) C dX10_runsRound_41 (by decide) ?_
            refine V_aload_n C dX10_runsRound_42 rfl ?_
            refine V_iload C dX10_runsRound_43 rfl ?_
            refine V_ialdN (p0 := a) (o := k) (v := X a k) C dX10_runsRound_45 hsh ha (by omega) hN rfl ?_
            have hq6 : P (k - f) < 10 := (PAt_k hP (by omega) (by omega)).2
            refine V_eqi (y := nI (P (k - f))) ((PAt_k hP (by omega) (by omega)).1) ?_
            refine V_ishl C dX10_runsRound_46 ?_
            refine V_eqi (y := nI (2 ^ (P (k - f)))) (shl1 (by omega)) ?_
            refine V_ior C dX10_runsRound_47 ?_
            refine V_eqi (y := nI (S ||| (2 ^ (P (k - f))))) (nI_or _ _) ?_
            refine V_istore_n (ls1 := [some (.ref (w.2.1 a)), some (.int (nI f)), some (.int (nI z)), some (.int (nI (S ||| (2 ^ (P (k - f)))))), some (.int (0 : Int32)), some (.int (nI k))]) C dX10_runsRound_48 (by decide) rfl ?_
            refine V_iincN (a := k) (ls1 := [some (.ref (w.2.1 a)), some (.int (nI f)), some (.int (nI z)), some (.int (nI (S ||| (2 ^ (P (k - f)))))), some (.int (0 : Int32)), some (.int (nI (k + 1)))]) C dX10_runsRound_49 rfl (by decide) rfl ?_
            refine V_goto (tgt := 8) C dX10_runsRound_52 (by decide) ?_
            exact ih8 (k + 1) (S ||| (2 ^ (P (k - f)))) (0 : Int32) (by omega) (by omega) (by omega) (by rw [show k + 1 - f = (k - f) + 1 by omega]; exact Seen_succ hS (by assumption)) (by rw [show k + 1 - f = (k - f) + 1 by omega]; exact bI.f (fun q => (Rnd_succ.mp q).elim (by assumption) (fun q => absurd ((bit_in (by omega) (by omega)).mpr ((hS.2 _).mpr q)) (by assumption))))
          · refine V_iconst (v := (1 : Int32)) C dX10_runsRound_33 (by decide) ?_
            refine V_goto (tgt := 38) C dX10_runsRound_34 (by decide) ?_
            refine V_istore (ls1 := [some (.ref (w.2.1 a)), some (.int (nI f)), some (.int (nI z)), some (.int (nI S)), some (.int (1 : Int32)), some (.int (nI k))]) C dX10_runsRound_38 (by decide) rfl ?_
            refine V_iload_n C dX10_runsRound_40 rfl ?_
            refine V_iconst (v := (1 : Int32)) C dX10_runsRound_41 (by decide) ?_
            refine V_aload_n C dX10_runsRound_42 rfl ?_
            refine V_iload C dX10_runsRound_43 rfl ?_
            refine V_ialdN (p0 := a) (o := k) (v := X a k) C dX10_runsRound_45 hsh ha (by omega) hN rfl ?_
            have hq7 : P (k - f) < 10 := (PAt_k hP (by omega) (by omega)).2
            refine V_eqi (y := nI (P (k - f))) ((PAt_k hP (by omega) (by omega)).1) ?_
            refine V_ishl C dX10_runsRound_46 ?_
            refine V_eqi (y := nI (2 ^ (P (k - f)))) (shl1 (by omega)) ?_
            refine V_ior C dX10_runsRound_47 ?_
            refine V_eqi (y := nI (S ||| (2 ^ (P (k - f))))) (nI_or _ _) ?_
            refine V_istore_n (ls1 := [some (.ref (w.2.1 a)), some (.int (nI f)), some (.int (nI z)), some (.int (nI (S ||| (2 ^ (P (k - f)))))), some (.int (1 : Int32)), some (.int (nI k))]) C dX10_runsRound_48 (by decide) rfl ?_
            refine V_iincN (a := k) (ls1 := [some (.ref (w.2.1 a)), some (.int (nI f)), some (.int (nI z)), some (.int (nI (S ||| (2 ^ (P (k - f)))))), some (.int (1 : Int32)), some (.int (nI (k + 1)))]) C dX10_runsRound_49 rfl (by decide) rfl ?_
            refine V_goto (tgt := 8) C dX10_runsRound_52 (by decide) ?_
            exact ih8 (k + 1) (S ||| (2 ^ (P (k - f)))) (1 : Int32) (by omega) (by omega) (by omega) (by rw [show k + 1 - f = (k - f) + 1 by omega]; exact Seen_succ hS (by assumption)) (by rw [show k + 1 - f = (k - f) + 1 by omega]; exact bI.t (Rnd_succ.mpr (by first | exact Or.inl (by assumption) | exact Or.inr ((hS.2 _).mp ((bit_in (by omega) (by omega)).mp (by assumption))))))
  exact L8 _ f 0 (0 : Int32) (Nat.lt_succ_self _) (by omega) (by omega) (by rw [Nat.sub_self]; exact Seen_0) (bI.f (by rw [Nat.sub_self]; exact fun ⟨_, _, h1, h2, _⟩ => absurd h2 (Nat.not_lt_zero _)))
def q_X10_counts_00 (a : Nat) (f : Nat) (z : Nat) (X : Mem) (N : Nat) (P : Nat → Nat) : Int32 → Mem → Prop := fun v X' => (∃ r, v = nI r ∧ NU (Go (X' 109) (X' 108) 0) (P) z r) ∧ X' = X
set_option maxHeartbeats 4000000 in
set_option maxRecDepth 100000 in
theorem k_X10_counts_00 (w : Wt) (l : Launch) (a : Nat) (f : Nat) (z : Nat) (X : Mem) (N : Nat) (P : Nat → Nat) (hsh : sh a = .inl (0, N)) (hN : N ≤ 256) (ha : a < 117) (hP : PAt X a f P z) (hzN : f + z ≤ N) (hPV : PVInv (X 108)) (hz : 1 ≤ z) : CtI w l yX10_counts cX10_counts 10 (some .int) 3 64 [.ref (w.2.1 85), .ref (w.2.1 a), .int (nI f), .int (nI z), .int (0 : Int32), .int (0 : Int32)] X (q_X10_counts_00 a f z X N P) := by
  have zz : f + z ≤ 256 := Nat.le_trans hzN hN
  refine CtI_of (by decide +kernel) (Nat.le_of_ble_eq_true rfl) (List.forall_mem_cons.mpr ⟨rfl, (List.forall_mem_cons.mpr ⟨rfl, (List.forall_mem_cons.mpr ⟨rfl, (List.forall_mem_cons.mpr ⟨rfl, (List.forall_mem_cons.mpr ⟨rfl, (List.forall_mem_cons.mpr ⟨rfl, (fun _ h => nomatch h)⟩)⟩)⟩)⟩)⟩)⟩) (ls := [some (.ref (w.2.1 85)), some (.ref (w.2.1 a)), some (.int (nI f)), some (.int (nI z)), some (.int (0 : Int32)), some (.int (0 : Int32)), none, none, none, none]) rfl (args := (#[.ref (w.2.1 85), .ref (w.2.1 a), .int (nI f), .int (nI z), .int (0 : Int32), .int (0 : Int32)] : Array Value)) rfl (own := RX10) rfl ?_
  intro p e s m below meth c C
  refine V_iconst (v := (1 : Int32)) C dX10_counts_0 (by decide) ?_
  refine V_istore (ls1 := [some (.ref (w.2.1 85)), some (.ref (w.2.1 a)), some (.int (nI f)), some (.int (nI z)), some (.int (0 : Int32)), some (.int (0 : Int32)), some (.int (1 : Int32)), none, none, none]) C dX10_counts_1 (by decide) rfl ?_
  refine V_iconst (v := (1 : Int32)) C dX10_counts_3 (by decide) ?_
  refine V_istore (ls1 := [some (.ref (w.2.1 85)), some (.ref (w.2.1 a)), some (.int (nI f)), some (.int (nI z)), some (.int (0 : Int32)), some (.int (0 : Int32)), some (.int (1 : Int32)), some (.int (1 : Int32)), none, none]) C dX10_counts_4 (by decide) rfl ?_
  have L6 : ∀ (fu : Nat) (r : Nat) (g : Int32), (if g = 0 then 0 else 1) + (z - r) < fu → (1 ≤ r) → (r ≤ z) → (∀ k, 1 ≤ k → k < r → Go (X 109) (X 108) 0 ((P) (k - 1)) ((P) k)) → ((g = 0 ∧ r < z ∧ ¬ Go (X 109) (X 108) 0 ((P) (r - 1)) ((P) r)) ∨ g = 1) → V p l e ({ frames := 3, cells := 0, slots := 0, locals := 64 } : Room) s m (#[.ref (w.2.1 85), .ref (w.2.1 a), .int (nI f), .int (nI z), .int (0 : Int32), .int (0 : Int32)] : Array Value) below meth c w 10 0 0 (EI w below s (#[.ref (w.2.1 85), .ref (w.2.1 a), .int (nI f), .int (nI z), .int (0 : Int32), .int (0 : Int32)] : Array Value) 0 0 (q_X10_counts_00 a f z X N P)) 6 [some (.ref (w.2.1 85)), some (.ref (w.2.1 a)), some (.int (nI f)), some (.int (nI z)), some (.int (0 : Int32)), some (.int (0 : Int32)), some (.int (nI r)), some (.int g), none, none] [] X := by
    intro fu
    induction fu with
    | zero => intro r g hm; exact absurd hm (Nat.not_lt_zero _)
    | succ fu ih6 =>
      intro r g hm6 h1 h2 hg hgo
      refine V_iload C dX10_counts_6 rfl ?_
      refine V_if_eq (x := g) (tgt := 121) C dX10_counts_8 (by decide) (fun h8_1 => ?_) (fun h8_1 => ?_)
      · refine V_iload C dX10_counts_121 rfl ?_
        exact V_ireturnI C dX10_counts_123 (by first | exact ⟨⟨r, rfl, h1, h2, hg, fun h => absurd h (by omega)⟩, rfl⟩ | exact ⟨⟨r, rfl, h1, h2, hg, fun _ => (hgo.elim (fun q => q.2.2) (fun q => absurd ((by assumption : g = 0).symm.trans q) (by decide)))⟩, rfl⟩)
      · refine V_iload C dX10_counts_11 rfl ?_
        refine V_iload_n C dX10_counts_13 rfl ?_
        refine V_icmp_geN (a := r) (b := z) (tgt := 121) C dX10_counts_14 (by decide) (by omega) (by omega) (fun h14_2 => ?_) (fun h14_2 => ?_)
        · refine V_iload C dX10_counts_121 rfl ?_
          exact V_ireturnI C dX10_counts_123 (by first | exact ⟨⟨r, rfl, h1, h2, hg, fun h => absurd h (by omega)⟩, rfl⟩ | exact ⟨⟨r, rfl, h1, h2, hg, fun _ => (hgo.elim (fun q => q.2.2) (fun q => absurd ((by assumption : g = 0).symm.trans q) (by decide)))⟩, rfl⟩)
        · refine V_iload C dX10_counts_17 rfl ?_
          refine V_if_eq (x := (0 : Int32)) (tgt := 33) C dX10_counts_19 (by decide) (fun _ => ?_) (fun h => absurd h (by decide))
          refine V_aload_n C dX10_counts_33 rfl ?_
          refine V_iload_n C dX10_counts_34 rfl ?_
          refine V_iload C dX10_counts_35 rfl ?_
          refine V_iaddN (a := f) (b := r) C dX10_counts_37 ?_
          refine V_iconst (v := (1 : Int32)) C dX10_counts_38 (by decide) ?_
          refine V_isubN (a := f + r) (b := 1) C dX10_counts_39 (by omega) ?_
          refine V_ialdN (p0 := a) (o := (f + r) - 1) (v := X a ((f + r) - 1)) C dX10_counts_40 hsh ha (by omega) hN rfl ?_
          have hq4 : P (r - 1) < 10 := (PAt_i hP (k := (f + r) - 1) (i := r - 1) (by omega) (by omega)).2
          refine V_eqi (y := nI (P (r - 1))) ((PAt_i hP (k := (f + r) - 1) (i := r - 1) (by omega) (by omega)).1) ?_
          refine V_istore (ls1 := [some (.ref (w.2.1 85)), some (.ref (w.2.1 a)), some (.int (nI f)), some (.int (nI z)), some (.int (0 : Int32)), some (.int (0 : Int32)), some (.int (nI r)), some (.int g), some (.int (nI (P (r - 1)))), none]) C dX10_counts_41 (by decide) rfl ?_
          refine V_iload C dX10_counts_43 rfl ?_
          refine V_if_eq (x := (0 : Int32)) (tgt := 61) C dX10_counts_45 (by decide) (fun _ => ?_) (fun h => absurd h (by decide))
          refine V_aload_n C dX10_counts_61 rfl ?_
          refine V_iload_n C dX10_counts_62 rfl ?_
          refine V_iload C dX10_counts_63 rfl ?_
          refine V_iaddN (a := f) (b := r) C dX10_counts_65 ?_
          refine V_ialdN (p0 := a) (o := f + r) (v := X a (f + r)) C dX10_counts_66 hsh ha (by omega) hN rfl ?_
          have hq6 : P r < 10 := (PAt_i hP (k := f + r) (i := r) (by omega) (by omega)).2
          refine V_eqi (y := nI (P r)) ((PAt_i hP (k := f + r) (i := r) (by omega) (by omega)).1) ?_
          refine V_istore (ls1 := [some (.ref (w.2.1 85)), some (.ref (w.2.1 a)), some (.int (nI f)), some (.int (nI z)), some (.int (0 : Int32)), some (.int (0 : Int32)), some (.int (nI r)), some (.int g), some (.int (nI (P (r - 1)))), some (.int (nI (P r)))]) C dX10_counts_67 (by decide) rfl ?_
          refine V_iload C dX10_counts_69 rfl ?_
          refine V_if_eq (x := (0 : Int32)) (tgt := 85) C dX10_counts_71 (by decide) (fun _ => ?_) (fun h => absurd h (by decide))
          refine V_aload_n C dX10_counts_85 rfl ?_
          refine V_iload C dX10_counts_86 rfl ?_
          refine V_iload C dX10_counts_88 rfl ?_
          refine V_callVI C [.int (nI (P (r - 1))), .int (nI (P r))] mi_X10_189 (k_X10_denies w l (P (r - 1)) (P r) X hPV (by omega) (by omega)) dX10_counts_90 sh_85 (by decide) rfl rfl rfl (Nat.le_of_ble_eq_true rfl) (Nat.le_of_ble_eq_true rfl) (Nat.le_of_ble_eq_true rfl) ⟨Nat.le_refl _, Nat.le_refl _⟩ (fun v8 X8 q8 => ?_)
          obtain ⟨hb8, eX8⟩ := q8; subst X8
          refine V_if_neB (tgt := 100) C hb8 dX10_counts_93 (by decide) (fun h93_9 => ?_) (fun h93_9 => ?_)
          · refine V_iconst (v := (0 : Int32)) C dX10_counts_100 (by decide) ?_
            refine V_istore (ls1 := [some (.ref (w.2.1 85)), some (.ref (w.2.1 a)), some (.int (nI f)), some (.int (nI z)), some (.int (0 : Int32)), some (.int (0 : Int32)), some (.int (nI r)), some (.int (0 : Int32)), some (.int (nI (P (r - 1)))), some (.int (nI (P r)))]) C dX10_counts_101 (by decide) rfl ?_
            refine V_iload C dX10_counts_103 rfl ?_
            refine V_iload C dX10_counts_105 rfl ?_
            refine V_if_eq (x := (0 : Int32)) (tgt := 114) C dX10_counts_107 (by decide) (fun _ => ?_) (fun h => absurd h (by decide))
            refine V_iconst (v := (0 : Int32)) C dX10_counts_114 (by decide) ?_
            refine V_iaddN (a := r) (b := 0) C dX10_counts_115 ?_
            refine V_istore (ls1 := [some (.ref (w.2.1 85)), some (.ref (w.2.1 a)), some (.int (nI f)), some (.int (nI z)), some (.int (0 : Int32)), some (.int (0 : Int32)), some (.int (nI r)), some (.int (0 : Int32)), some (.int (nI (P (r - 1)))), some (.int (nI (P r)))]) C dX10_counts_116 (by decide) rfl ?_
            refine V_goto (tgt := 6) C dX10_counts_118 (by decide) ?_
            refine V_kill (i := 8) (ls1 := [some (.ref (w.2.1 85)), some (.ref (w.2.1 a)), some (.int (nI f)), some (.int (nI z)), some (.int (0 : Int32)), some (.int (0 : Int32)), some (.int (nI r)), some (.int (0 : Int32)), none, some (.int (nI (P r)))]) rfl ?_
            refine V_kill (i := 9) (ls1 := [some (.ref (w.2.1 85)), some (.ref (w.2.1 a)), some (.int (nI f)), some (.int (nI z)), some (.int (0 : Int32)), some (.int (0 : Int32)), some (.int (nI r)), some (.int (0 : Int32)), none, none]) rfl ?_
            exact ih6 r (0 : Int32) (cm2 hm6 (by assumption) (by first | rfl | exact (bI.eq0 (by assumption)).mpr (by assumption))) (by omega) (by omega) hg (Or.inl ⟨by first | rfl | exact (bI.eq0 (by assumption)).mpr (by assumption), by omega, by exact fun q => absurd (by assumption) (Go_deny.mp q)⟩)
          · refine V_iconst (v := (1 : Int32)) C dX10_counts_96 (by decide) ?_
            refine V_goto (tgt := 101) C dX10_counts_97 (by decide) ?_
            refine V_istore (ls1 := [some (.ref (w.2.1 85)), some (.ref (w.2.1 a)), some (.int (nI f)), some (.int (nI z)), some (.int (0 : Int32)), some (.int (0 : Int32)), some (.int (nI r)), some (.int (1 : Int32)), some (.int (nI (P (r - 1)))), some (.int (nI (P r)))]) C dX10_counts_101 (by decide) rfl ?_
            refine V_iload C dX10_counts_103 rfl ?_
            refine V_iload C dX10_counts_105 rfl ?_
            refine V_if_eq (x := (1 : Int32)) (tgt := 114) C dX10_counts_107 (by decide) (fun h => absurd h (by decide)) (fun _ => ?_)
            refine V_iconst (v := (1 : Int32)) C dX10_counts_110 (by decide) ?_
            refine V_goto (tgt := 115) C dX10_counts_111 (by decide) ?_
            refine V_iaddN (a := r) (b := 1) C dX10_counts_115 ?_
            refine V_istore (ls1 := [some (.ref (w.2.1 85)), some (.ref (w.2.1 a)), some (.int (nI f)), some (.int (nI z)), some (.int (0 : Int32)), some (.int (0 : Int32)), some (.int (nI (r + 1))), some (.int (1 : Int32)), some (.int (nI (P (r - 1)))), some (.int (nI (P r)))]) C dX10_counts_116 (by decide) rfl ?_
            refine V_goto (tgt := 6) C dX10_counts_118 (by decide) ?_
            refine V_kill (i := 8) (ls1 := [some (.ref (w.2.1 85)), some (.ref (w.2.1 a)), some (.int (nI f)), some (.int (nI z)), some (.int (0 : Int32)), some (.int (0 : Int32)), some (.int (nI (r + 1))), some (.int (1 : Int32)), none, some (.int (nI (P r)))]) rfl ?_
            refine V_kill (i := 9) (ls1 := [some (.ref (w.2.1 85)), some (.ref (w.2.1 a)), some (.int (nI f)), some (.int (nI z)), some (.int (0 : Int32)), some (.int (0 : Int32)), some (.int (nI (r + 1))), some (.int (1 : Int32)), none, none]) rfl ?_
            exact ih6 (r + 1) (1 : Int32) (cm1 hm6 (by assumption) (by omega)) (by omega) (by omega) (by intro k g1 g2; rcases lt_succ_or.mp g2 with g2 | rfl; exact hg k g1 g2; exact Go_deny.mpr (by assumption)) (Or.inr (by first | rfl | exact bI.one (by assumption) (by assumption)))
  exact L6 _ 1 (1 : Int32) (Nat.lt_succ_self _) (by omega) (by omega) (fun k h1 h2 => absurd h2 (by omega)) (Or.inr rfl)
def q_X10_counts_01 (a : Nat) (f : Nat) (z : Nat) (X : Mem) (N : Nat) (P : Nat → Nat) : Int32 → Mem → Prop := fun v X' => (∃ r, v = nI r ∧ NU (Go (X' 109) (X' 108) 1) (P) z r) ∧ X' = X
set_option maxHeartbeats 4000000 in
set_option maxRecDepth 100000 in
theorem k_X10_counts_01 (w : Wt) (l : Launch) (a : Nat) (f : Nat) (z : Nat) (X : Mem) (N : Nat) (P : Nat → Nat) (hsh : sh a = .inl (0, N)) (hN : N ≤ 256) (ha : a < 117) (hP : PAt X a f P z) (hzN : f + z ≤ N) (hPV : PVInv (X 108)) (hz : 1 ≤ z) : CtI w l yX10_counts cX10_counts 10 (some .int) 3 64 [.ref (w.2.1 85), .ref (w.2.1 a), .int (nI f), .int (nI z), .int (0 : Int32), .int (1 : Int32)] X (q_X10_counts_01 a f z X N P) := by
  have zz : f + z ≤ 256 := Nat.le_trans hzN hN
  refine CtI_of (by decide +kernel) (Nat.le_of_ble_eq_true rfl) (List.forall_mem_cons.mpr ⟨rfl, (List.forall_mem_cons.mpr ⟨rfl, (List.forall_mem_cons.mpr ⟨rfl, (List.forall_mem_cons.mpr ⟨rfl, (List.forall_mem_cons.mpr ⟨rfl, (List.forall_mem_cons.mpr ⟨rfl, (fun _ h => nomatch h)⟩)⟩)⟩)⟩)⟩)⟩) (ls := [some (.ref (w.2.1 85)), some (.ref (w.2.1 a)), some (.int (nI f)), some (.int (nI z)), some (.int (0 : Int32)), some (.int (1 : Int32)), none, none, none, none]) rfl (args := (#[.ref (w.2.1 85), .ref (w.2.1 a), .int (nI f), .int (nI z), .int (0 : Int32), .int (1 : Int32)] : Array Value)) rfl (own := RX10) rfl ?_
  intro p e s m below meth c C
  refine V_iconst (v := (1 : Int32)) C dX10_counts_0 (by decide) ?_
  refine V_istore (ls1 := [some (.ref (w.2.1 85)), some (.ref (w.2.1 a)), some (.int (nI f)), some (.int (nI z)), some (.int (0 : Int32)), some (.int (1 : Int32)), some (.int (1 : Int32)), none, none, none]) C dX10_counts_1 (by decide) rfl ?_
  refine V_iconst (v := (1 : Int32)) C dX10_counts_3 (by decide) ?_
  refine V_istore (ls1 := [some (.ref (w.2.1 85)), some (.ref (w.2.1 a)), some (.int (nI f)), some (.int (nI z)), some (.int (0 : Int32)), some (.int (1 : Int32)), some (.int (1 : Int32)), some (.int (1 : Int32)), none, none]) C dX10_counts_4 (by decide) rfl ?_
  have L6 : ∀ (fu : Nat) (r : Nat) (g : Int32), (if g = 0 then 0 else 1) + (z - r) < fu → (1 ≤ r) → (r ≤ z) → (∀ k, 1 ≤ k → k < r → Go (X 109) (X 108) 1 ((P) (k - 1)) ((P) k)) → ((g = 0 ∧ r < z ∧ ¬ Go (X 109) (X 108) 1 ((P) (r - 1)) ((P) r)) ∨ g = 1) → V p l e ({ frames := 3, cells := 0, slots := 0, locals := 64 } : Room) s m (#[.ref (w.2.1 85), .ref (w.2.1 a), .int (nI f), .int (nI z), .int (0 : Int32), .int (1 : Int32)] : Array Value) below meth c w 10 0 0 (EI w below s (#[.ref (w.2.1 85), .ref (w.2.1 a), .int (nI f), .int (nI z), .int (0 : Int32), .int (1 : Int32)] : Array Value) 0 0 (q_X10_counts_01 a f z X N P)) 6 [some (.ref (w.2.1 85)), some (.ref (w.2.1 a)), some (.int (nI f)), some (.int (nI z)), some (.int (0 : Int32)), some (.int (1 : Int32)), some (.int (nI r)), some (.int g), none, none] [] X := by
    intro fu
    induction fu with
    | zero => intro r g hm; exact absurd hm (Nat.not_lt_zero _)
    | succ fu ih6 =>
      intro r g hm6 h1 h2 hg hgo
      refine V_iload C dX10_counts_6 rfl ?_
      refine V_if_eq (x := g) (tgt := 121) C dX10_counts_8 (by decide) (fun h8_1 => ?_) (fun h8_1 => ?_)
      · refine V_iload C dX10_counts_121 rfl ?_
        exact V_ireturnI C dX10_counts_123 (by first | exact ⟨⟨r, rfl, h1, h2, hg, fun h => absurd h (by omega)⟩, rfl⟩ | exact ⟨⟨r, rfl, h1, h2, hg, fun _ => (hgo.elim (fun q => q.2.2) (fun q => absurd ((by assumption : g = 0).symm.trans q) (by decide)))⟩, rfl⟩)
      · refine V_iload C dX10_counts_11 rfl ?_
        refine V_iload_n C dX10_counts_13 rfl ?_
        refine V_icmp_geN (a := r) (b := z) (tgt := 121) C dX10_counts_14 (by decide) (by omega) (by omega) (fun h14_2 => ?_) (fun h14_2 => ?_)
        · refine V_iload C dX10_counts_121 rfl ?_
          exact V_ireturnI C dX10_counts_123 (by first | exact ⟨⟨r, rfl, h1, h2, hg, fun h => absurd h (by omega)⟩, rfl⟩ | exact ⟨⟨r, rfl, h1, h2, hg, fun _ => (hgo.elim (fun q => q.2.2) (fun q => absurd ((by assumption : g = 0).symm.trans q) (by decide)))⟩, rfl⟩)
        · refine V_iload C dX10_counts_17 rfl ?_
          refine V_if_eq (x := (0 : Int32)) (tgt := 33) C dX10_counts_19 (by decide) (fun _ => ?_) (fun h => absurd h (by decide))
          refine V_aload_n C dX10_counts_33 rfl ?_
          refine V_iload_n C dX10_counts_34 rfl ?_
          refine V_iload C dX10_counts_35 rfl ?_
          refine V_iaddN (a := f) (b := r) C dX10_counts_37 ?_
          refine V_iconst (v := (1 : Int32)) C dX10_counts_38 (by decide) ?_
          refine V_isubN (a := f + r) (b := 1) C dX10_counts_39 (by omega) ?_
          refine V_ialdN (p0 := a) (o := (f + r) - 1) (v := X a ((f + r) - 1)) C dX10_counts_40 hsh ha (by omega) hN rfl ?_
          have hq4 : P (r - 1) < 10 := (PAt_i hP (k := (f + r) - 1) (i := r - 1) (by omega) (by omega)).2
          refine V_eqi (y := nI (P (r - 1))) ((PAt_i hP (k := (f + r) - 1) (i := r - 1) (by omega) (by omega)).1) ?_
          refine V_istore (ls1 := [some (.ref (w.2.1 85)), some (.ref (w.2.1 a)), some (.int (nI f)), some (.int (nI z)), some (.int (0 : Int32)), some (.int (1 : Int32)), some (.int (nI r)), some (.int g), some (.int (nI (P (r - 1)))), none]) C dX10_counts_41 (by decide) rfl ?_
          refine V_iload C dX10_counts_43 rfl ?_
          refine V_if_eq (x := (0 : Int32)) (tgt := 61) C dX10_counts_45 (by decide) (fun _ => ?_) (fun h => absurd h (by decide))
          refine V_aload_n C dX10_counts_61 rfl ?_
          refine V_iload_n C dX10_counts_62 rfl ?_
          refine V_iload C dX10_counts_63 rfl ?_
          refine V_iaddN (a := f) (b := r) C dX10_counts_65 ?_
          refine V_ialdN (p0 := a) (o := f + r) (v := X a (f + r)) C dX10_counts_66 hsh ha (by omega) hN rfl ?_
          have hq6 : P r < 10 := (PAt_i hP (k := f + r) (i := r) (by omega) (by omega)).2
          refine V_eqi (y := nI (P r)) ((PAt_i hP (k := f + r) (i := r) (by omega) (by omega)).1) ?_
          refine V_istore (ls1 := [some (.ref (w.2.1 85)), some (.ref (w.2.1 a)), some (.int (nI f)), some (.int (nI z)), some (.int (0 : Int32)), some (.int (1 : Int32)), some (.int (nI r)), some (.int g), some (.int (nI (P (r - 1)))), some (.int (nI (P r)))]) C dX10_counts_67 (by decide) rfl ?_
          refine V_iload C dX10_counts_69 rfl ?_
          refine V_if_eq (x := (1 : Int32)) (tgt := 85) C dX10_counts_71 (by decide) (fun h => absurd h (by decide)) (fun _ => ?_)
          refine V_aload_n C dX10_counts_74 rfl ?_
          refine V_iload C dX10_counts_75 rfl ?_
          refine V_iload C dX10_counts_77 rfl ?_
          refine V_callVI C [.int (nI (P (r - 1))), .int (nI (P r))] mi_X10_186 (k_X10_isFor w l (P (r - 1)) (P r) X hPV (by omega) (by omega)) dX10_counts_79 sh_85 (by decide) rfl rfl rfl (Nat.le_of_ble_eq_true rfl) (Nat.le_of_ble_eq_true rfl) (Nat.le_of_ble_eq_true rfl) ⟨Nat.le_refl _, Nat.le_refl _⟩ (fun v8 X8 q8 => ?_)
          obtain ⟨hb8, eX8⟩ := q8; subst X8
          refine V_goto (tgt := 101) C dX10_counts_82 (by decide) ?_
          refine V_istore (ls1 := [some (.ref (w.2.1 85)), some (.ref (w.2.1 a)), some (.int (nI f)), some (.int (nI z)), some (.int (0 : Int32)), some (.int (1 : Int32)), some (.int (nI r)), some (.int v8), some (.int (nI (P (r - 1)))), some (.int (nI (P r)))]) C dX10_counts_101 (by decide) rfl ?_
          refine V_iload C dX10_counts_103 rfl ?_
          refine V_iload C dX10_counts_105 rfl ?_
          refine V_if_eqB (tgt := 114) C hb8 dX10_counts_107 (by decide) (fun h107_9 => ?_) (fun h107_9 => ?_)
          · refine V_iconst (v := (0 : Int32)) C dX10_counts_114 (by decide) ?_
            refine V_iaddN (a := r) (b := 0) C dX10_counts_115 ?_
            refine V_istore (ls1 := [some (.ref (w.2.1 85)), some (.ref (w.2.1 a)), some (.int (nI f)), some (.int (nI z)), some (.int (0 : Int32)), some (.int (1 : Int32)), some (.int (nI r)), some (.int v8), some (.int (nI (P (r - 1)))), some (.int (nI (P r)))]) C dX10_counts_116 (by decide) rfl ?_
            refine V_goto (tgt := 6) C dX10_counts_118 (by decide) ?_
            refine V_kill (i := 8) (ls1 := [some (.ref (w.2.1 85)), some (.ref (w.2.1 a)), some (.int (nI f)), some (.int (nI z)), some (.int (0 : Int32)), some (.int (1 : Int32)), some (.int (nI r)), some (.int v8), none, some (.int (nI (P r)))]) rfl ?_
            refine V_kill (i := 9) (ls1 := [some (.ref (w.2.1 85)), some (.ref (w.2.1 a)), some (.int (nI f)), some (.int (nI z)), some (.int (0 : Int32)), some (.int (1 : Int32)), some (.int (nI r)), some (.int v8), none, none]) rfl ?_
            exact ih6 r v8 (cm2 hm6 (by assumption) (by first | rfl | exact (bI.eq0 (by assumption)).mpr (by assumption))) (by omega) (by omega) hg (Or.inl ⟨by first | rfl | exact (bI.eq0 (by assumption)).mpr (by assumption), by omega, by exact fun q => absurd (Go_sure.mp q) (by assumption)⟩)
          · refine V_iconst (v := (1 : Int32)) C dX10_counts_110 (by decide) ?_
            refine V_goto (tgt := 115) C dX10_counts_111 (by decide) ?_
            refine V_iaddN (a := r) (b := 1) C dX10_counts_115 ?_
            refine V_istore (ls1 := [some (.ref (w.2.1 85)), some (.ref (w.2.1 a)), some (.int (nI f)), some (.int (nI z)), some (.int (0 : Int32)), some (.int (1 : Int32)), some (.int (nI (r + 1))), some (.int v8), some (.int (nI (P (r - 1)))), some (.int (nI (P r)))]) C dX10_counts_116 (by decide) rfl ?_
            refine V_goto (tgt := 6) C dX10_counts_118 (by decide) ?_
            refine V_kill (i := 8) (ls1 := [some (.ref (w.2.1 85)), some (.ref (w.2.1 a)), some (.int (nI f)), some (.int (nI z)), some (.int (0 : Int32)), some (.int (1 : Int32)), some (.int (nI (r + 1))), some (.int v8), none, some (.int (nI (P r)))]) rfl ?_
            refine V_kill (i := 9) (ls1 := [some (.ref (w.2.1 85)), some (.ref (w.2.1 a)), some (.int (nI f)), some (.int (nI z)), some (.int (0 : Int32)), some (.int (1 : Int32)), some (.int (nI (r + 1))), some (.int v8), none, none]) rfl ?_
            exact ih6 (r + 1) v8 (cm1 hm6 (by assumption) (by omega)) (by omega) (by omega) (by intro k g1 g2; rcases lt_succ_or.mp g2 with g2 | rfl; exact hg k g1 g2; exact Go_sure.mpr (by assumption)) (Or.inr (by first | rfl | exact bI.one (by assumption) (by assumption)))
  exact L6 _ 1 (1 : Int32) (Nat.lt_succ_self _) (by omega) (by omega) (fun k h1 h2 => absurd h2 (by omega)) (Or.inr rfl)
def q_X10_counts_10 (a : Nat) (f : Nat) (z : Nat) (X : Mem) (N : Nat) (P : Nat → Nat) : Int32 → Mem → Prop := fun v X' => (∃ r, v = nI r ∧ NU (Go (X' 109) (X' 108) 0) (rev P z) z r) ∧ X' = X
set_option maxHeartbeats 4000000 in
set_option maxRecDepth 100000 in
theorem k_X10_counts_10 (w : Wt) (l : Launch) (a : Nat) (f : Nat) (z : Nat) (X : Mem) (N : Nat) (P : Nat → Nat) (hsh : sh a = .inl (0, N)) (hN : N ≤ 256) (ha : a < 117) (hP : PAt X a f P z) (hzN : f + z ≤ N) (hPV : PVInv (X 108)) (hz : 1 ≤ z) : CtI w l yX10_counts cX10_counts 10 (some .int) 3 64 [.ref (w.2.1 85), .ref (w.2.1 a), .int (nI f), .int (nI z), .int (1 : Int32), .int (0 : Int32)] X (q_X10_counts_10 a f z X N P) := by
  have zz : f + z ≤ 256 := Nat.le_trans hzN hN
  refine CtI_of (by decide +kernel) (Nat.le_of_ble_eq_true rfl) (List.forall_mem_cons.mpr ⟨rfl, (List.forall_mem_cons.mpr ⟨rfl, (List.forall_mem_cons.mpr ⟨rfl, (List.forall_mem_cons.mpr ⟨rfl, (List.forall_mem_cons.mpr ⟨rfl, (List.forall_mem_cons.mpr ⟨rfl, (fun _ h => nomatch h)⟩)⟩)⟩)⟩)⟩)⟩) (ls := [some (.ref (w.2.1 85)), some (.ref (w.2.1 a)), some (.int (nI f)), some (.int (nI z)), some (.int (1 : Int32)), some (.int (0 : Int32)), none, none, none, none]) rfl (args := (#[.ref (w.2.1 85), .ref (w.2.1 a), .int (nI f), .int (nI z), .int (1 : Int32), .int (0 : Int32)] : Array Value)) rfl (own := RX10) rfl ?_
  intro p e s m below meth c C
  refine V_iconst (v := (1 : Int32)) C dX10_counts_0 (by decide) ?_
  refine V_istore (ls1 := [some (.ref (w.2.1 85)), some (.ref (w.2.1 a)), some (.int (nI f)), some (.int (nI z)), some (.int (1 : Int32)), some (.int (0 : Int32)), some (.int (1 : Int32)), none, none, none]) C dX10_counts_1 (by decide) rfl ?_
  refine V_iconst (v := (1 : Int32)) C dX10_counts_3 (by decide) ?_
  refine V_istore (ls1 := [some (.ref (w.2.1 85)), some (.ref (w.2.1 a)), some (.int (nI f)), some (.int (nI z)), some (.int (1 : Int32)), some (.int (0 : Int32)), some (.int (1 : Int32)), some (.int (1 : Int32)), none, none]) C dX10_counts_4 (by decide) rfl ?_
  have L6 : ∀ (fu : Nat) (r : Nat) (g : Int32), (if g = 0 then 0 else 1) + (z - r) < fu → (1 ≤ r) → (r ≤ z) → (∀ k, 1 ≤ k → k < r → Go (X 109) (X 108) 0 ((rev P z) (k - 1)) ((rev P z) k)) → ((g = 0 ∧ r < z ∧ ¬ Go (X 109) (X 108) 0 ((rev P z) (r - 1)) ((rev P z) r)) ∨ g = 1) → V p l e ({ frames := 3, cells := 0, slots := 0, locals := 64 } : Room) s m (#[.ref (w.2.1 85), .ref (w.2.1 a), .int (nI f), .int (nI z), .int (1 : Int32), .int (0 : Int32)] : Array Value) below meth c w 10 0 0 (EI w below s (#[.ref (w.2.1 85), .ref (w.2.1 a), .int (nI f), .int (nI z), .int (1 : Int32), .int (0 : Int32)] : Array Value) 0 0 (q_X10_counts_10 a f z X N P)) 6 [some (.ref (w.2.1 85)), some (.ref (w.2.1 a)), some (.int (nI f)), some (.int (nI z)), some (.int (1 : Int32)), some (.int (0 : Int32)), some (.int (nI r)), some (.int g), none, none] [] X := by
    intro fu
    induction fu with
    | zero => intro r g hm; exact absurd hm (Nat.not_lt_zero _)
    | succ fu ih6 =>
      intro r g hm6 h1 h2 hg hgo
      refine V_iload C dX10_counts_6 rfl ?_
      refine V_if_eq (x := g) (tgt := 121) C dX10_counts_8 (by decide) (fun h8_1 => ?_) (fun h8_1 => ?_)
      · refine V_iload C dX10_counts_121 rfl ?_
        exact V_ireturnI C dX10_counts_123 (by first | exact ⟨⟨r, rfl, h1, h2, hg, fun h => absurd h (by omega)⟩, rfl⟩ | exact ⟨⟨r, rfl, h1, h2, hg, fun _ => (hgo.elim (fun q => q.2.2) (fun q => absurd ((by assumption : g = 0).symm.trans q) (by decide)))⟩, rfl⟩)
      · refine V_iload C dX10_counts_11 rfl ?_
        refine V_iload_n C dX10_counts_13 rfl ?_
        refine V_icmp_geN (a := r) (b := z) (tgt := 121) C dX10_counts_14 (by decide) (by omega) (by omega) (fun h14_2 => ?_) (fun h14_2 => ?_)
        · refine V_iload C dX10_counts_121 rfl ?_
          exact V_ireturnI C dX10_counts_123 (by first | exact ⟨⟨r, rfl, h1, h2, hg, fun h => absurd h (by omega)⟩, rfl⟩ | exact ⟨⟨r, rfl, h1, h2, hg, fun _ => (hgo.elim (fun q => q.2.2) (fun q => absurd ((by assumption : g = 0).symm.trans q) (by decide)))⟩, rfl⟩)
        · refine V_iload C dX10_counts_17 rfl ?_
          refine V_if_eq (x := (1 : Int32)) (tgt := 33) C dX10_counts_19 (by decide) (fun h => absurd h (by decide)) (fun _ => ?_)
          refine V_aload_n C dX10_counts_22 rfl ?_
          refine V_iload_n C dX10_counts_23 rfl ?_
          refine V_iload_n C dX10_counts_24 rfl ?_
          refine V_iaddN (a := f) (b := z) C dX10_counts_25 ?_
          refine V_iload C dX10_counts_26 rfl ?_
          refine V_isubN (a := f + z) (b := r) C dX10_counts_28 (by omega) ?_
          refine V_ialdN (p0 := a) (o := (f + z) - r) (v := X a ((f + z) - r)) C dX10_counts_29 hsh ha (by omega) hN rfl ?_
          have hq4 : P (z - r) < 10 := (PAt_i hP (k := (f + z) - r) (i := z - r) (by omega) (by omega)).2
          refine V_eqi (y := nI (P (z - r))) ((PAt_i hP (k := (f + z) - r) (i := z - r) (by omega) (by omega)).1) ?_
          refine V_goto (tgt := 41) C dX10_counts_30 (by decide) ?_
          refine V_istore (ls1 := [some (.ref (w.2.1 85)), some (.ref (w.2.1 a)), some (.int (nI f)), some (.int (nI z)), some (.int (1 : Int32)), some (.int (0 : Int32)), some (.int (nI r)), some (.int g), some (.int (nI (P (z - r)))), none]) C dX10_counts_41 (by decide) rfl ?_
          refine V_iload C dX10_counts_43 rfl ?_
          refine V_if_eq (x := (1 : Int32)) (tgt := 61) C dX10_counts_45 (by decide) (fun h => absurd h (by decide)) (fun _ => ?_)
          refine V_aload_n C dX10_counts_48 rfl ?_
          refine V_iload_n C dX10_counts_49 rfl ?_
          refine V_iload_n C dX10_counts_50 rfl ?_
          refine V_iaddN (a := f) (b := z) C dX10_counts_51 ?_
          refine V_iload C dX10_counts_52 rfl ?_
          refine V_isubN (a := f + z) (b := r) C dX10_counts_54 (by omega) ?_
          refine V_iconst (v := (1 : Int32)) C dX10_counts_55 (by decide) ?_
          refine V_isubN (a := (f + z) - r) (b := 1) C dX10_counts_56 (by omega) ?_
          refine V_ialdN (p0 := a) (o := ((f + z) - r) - 1) (v := X a (((f + z) - r) - 1)) C dX10_counts_57 hsh ha (by omega) hN rfl ?_
          have hq6 : P (z - r - 1) < 10 := (PAt_i hP (k := ((f + z) - r) - 1) (i := z - r - 1) (by omega) (by omega)).2
          refine V_eqi (y := nI (P (z - r - 1))) ((PAt_i hP (k := ((f + z) - r) - 1) (i := z - r - 1) (by omega) (by omega)).1) ?_
          refine V_goto (tgt := 67) C dX10_counts_58 (by decide) ?_
          refine V_istore (ls1 := [some (.ref (w.2.1 85)), some (.ref (w.2.1 a)), some (.int (nI f)), some (.int (nI z)), some (.int (1 : Int32)), some (.int (0 : Int32)), some (.int (nI r)), some (.int g), some (.int (nI (P (z - r)))), some (.int (nI (P (z - r - 1))))]) C dX10_counts_67 (by decide) rfl ?_
          refine V_iload C dX10_counts_69 rfl ?_
          refine V_if_eq (x := (0 : Int32)) (tgt := 85) C dX10_counts_71 (by decide) (fun _ => ?_) (fun h => absurd h (by decide))
          refine V_aload_n C dX10_counts_85 rfl ?_
          refine V_iload C dX10_counts_86 rfl ?_
          refine V_iload C dX10_counts_88 rfl ?_
          refine V_callVI C [.int (nI (P (z - r))), .int (nI (P (z - r - 1)))] mi_X10_189 (k_X10_denies w l (P (z - r)) (P (z - r - 1)) X hPV (by omega) (by omega)) dX10_counts_90 sh_85 (by decide) rfl rfl rfl (Nat.le_of_ble_eq_true rfl) (Nat.le_of_ble_eq_true rfl) (Nat.le_of_ble_eq_true rfl) ⟨Nat.le_refl _, Nat.le_refl _⟩ (fun v8 X8 q8 => ?_)
          obtain ⟨hb8, eX8⟩ := q8; subst X8
          refine V_if_neB (tgt := 100) C hb8 dX10_counts_93 (by decide) (fun h93_9 => ?_) (fun h93_9 => ?_)
          · refine V_iconst (v := (0 : Int32)) C dX10_counts_100 (by decide) ?_
            refine V_istore (ls1 := [some (.ref (w.2.1 85)), some (.ref (w.2.1 a)), some (.int (nI f)), some (.int (nI z)), some (.int (1 : Int32)), some (.int (0 : Int32)), some (.int (nI r)), some (.int (0 : Int32)), some (.int (nI (P (z - r)))), some (.int (nI (P (z - r - 1))))]) C dX10_counts_101 (by decide) rfl ?_
            refine V_iload C dX10_counts_103 rfl ?_
            refine V_iload C dX10_counts_105 rfl ?_
            refine V_if_eq (x := (0 : Int32)) (tgt := 114) C dX10_counts_107 (by decide) (fun _ => ?_) (fun h => absurd h (by decide))
            refine V_iconst (v := (0 : Int32)) C dX10_counts_114 (by decide) ?_
            refine V_iaddN (a := r) (b := 0) C dX10_counts_115 ?_
            refine V_istore (ls1 := [some (.ref (w.2.1 85)), some (.ref (w.2.1 a)), some (.int (nI f)), some (.int (nI z)), some (.int (1 : Int32)), some (.int (0 : Int32)), some (.int (nI r)), some (.int (0 : Int32)), some (.int (nI (P (z - r)))), some (.int (nI (P (z - r - 1))))]) C dX10_counts_116 (by decide) rfl ?_
            refine V_goto (tgt := 6) C dX10_counts_118 (by decide) ?_
            refine V_kill (i := 8) (ls1 := [some (.ref (w.2.1 85)), some (.ref (w.2.1 a)), some (.int (nI f)), some (.int (nI z)), some (.int (1 : Int32)), some (.int (0 : Int32)), some (.int (nI r)), some (.int (0 : Int32)), none, some (.int (nI (P (z - r - 1))))]) rfl ?_
            refine V_kill (i := 9) (ls1 := [some (.ref (w.2.1 85)), some (.ref (w.2.1 a)), some (.int (nI f)), some (.int (nI z)), some (.int (1 : Int32)), some (.int (0 : Int32)), some (.int (nI r)), some (.int (0 : Int32)), none, none]) rfl ?_
            exact ih6 r (0 : Int32) (cm2 hm6 (by assumption) (by first | rfl | exact (bI.eq0 (by assumption)).mpr (by assumption))) (by omega) (by omega) hg (Or.inl ⟨by first | rfl | exact (bI.eq0 (by assumption)).mpr (by assumption), by omega, by rw [rev_a (by omega) (by omega), rev_b (by omega)]; exact fun q => absurd (by assumption) (Go_deny.mp q)⟩)
          · refine V_iconst (v := (1 : Int32)) C dX10_counts_96 (by decide) ?_
            refine V_goto (tgt := 101) C dX10_counts_97 (by decide) ?_
            refine V_istore (ls1 := [some (.ref (w.2.1 85)), some (.ref (w.2.1 a)), some (.int (nI f)), some (.int (nI z)), some (.int (1 : Int32)), some (.int (0 : Int32)), some (.int (nI r)), some (.int (1 : Int32)), some (.int (nI (P (z - r)))), some (.int (nI (P (z - r - 1))))]) C dX10_counts_101 (by decide) rfl ?_
            refine V_iload C dX10_counts_103 rfl ?_
            refine V_iload C dX10_counts_105 rfl ?_
            refine V_if_eq (x := (1 : Int32)) (tgt := 114) C dX10_counts_107 (by decide) (fun h => absurd h (by decide)) (fun _ => ?_)
            refine V_iconst (v := (1 : Int32)) C dX10_counts_110 (by decide) ?_
            refine V_goto (tgt := 115) C dX10_counts_111 (by decide) ?_
            refine V_iaddN (a := r) (b := 1) C dX10_counts_115 ?_
            refine V_istore (ls1 := [some (.ref (w.2.1 85)), some (.ref (w.2.1 a)), some (.int (nI f)), some (.int (nI z)), some (.int (1 : Int32)), some (.int (0 : Int32)), some (.int (nI (r + 1))), some (.int (1 : Int32)), some (.int (nI (P (z - r)))), some (.int (nI (P (z - r - 1))))]) C dX10_counts_116 (by decide) rfl ?_
            refine V_goto (tgt := 6) C dX10_counts_118 (by decide) ?_
            refine V_kill (i := 8) (ls1 := [some (.ref (w.2.1 85)), some (.ref (w.2.1 a)), some (.int (nI f)), some (.int (nI z)), some (.int (1 : Int32)), some (.int (0 : Int32)), some (.int (nI (r + 1))), some (.int (1 : Int32)), none, some (.int (nI (P (z - r - 1))))]) rfl ?_
            refine V_kill (i := 9) (ls1 := [some (.ref (w.2.1 85)), some (.ref (w.2.1 a)), some (.int (nI f)), some (.int (nI z)), some (.int (1 : Int32)), some (.int (0 : Int32)), some (.int (nI (r + 1))), some (.int (1 : Int32)), none, none]) rfl ?_
            exact ih6 (r + 1) (1 : Int32) (cm1 hm6 (by assumption) (by omega)) (by omega) (by omega) (by intro k g1 g2; rcases lt_succ_or.mp g2 with g2 | rfl; exact hg k g1 g2; rw [rev_a (by omega) (by omega), rev_b (by omega)]; exact Go_deny.mpr (by assumption)) (Or.inr (by first | rfl | exact bI.one (by assumption) (by assumption)))
  exact L6 _ 1 (1 : Int32) (Nat.lt_succ_self _) (by omega) (by omega) (fun k h1 h2 => absurd h2 (by omega)) (Or.inr rfl)
def q_X10_counts_11 (a : Nat) (f : Nat) (z : Nat) (X : Mem) (N : Nat) (P : Nat → Nat) : Int32 → Mem → Prop := fun v X' => (∃ r, v = nI r ∧ NU (Go (X' 109) (X' 108) 1) (rev P z) z r) ∧ X' = X
set_option maxHeartbeats 4000000 in
set_option maxRecDepth 100000 in
theorem k_X10_counts_11 (w : Wt) (l : Launch) (a : Nat) (f : Nat) (z : Nat) (X : Mem) (N : Nat) (P : Nat → Nat) (hsh : sh a = .inl (0, N)) (hN : N ≤ 256) (ha : a < 117) (hP : PAt X a f P z) (hzN : f + z ≤ N) (hPV : PVInv (X 108)) (hz : 1 ≤ z) : CtI w l yX10_counts cX10_counts 10 (some .int) 3 64 [.ref (w.2.1 85), .ref (w.2.1 a), .int (nI f), .int (nI z), .int (1 : Int32), .int (1 : Int32)] X (q_X10_counts_11 a f z X N P) := by
  have zz : f + z ≤ 256 := Nat.le_trans hzN hN
  refine CtI_of (by decide +kernel) (Nat.le_of_ble_eq_true rfl) (List.forall_mem_cons.mpr ⟨rfl, (List.forall_mem_cons.mpr ⟨rfl, (List.forall_mem_cons.mpr ⟨rfl, (List.forall_mem_cons.mpr ⟨rfl, (List.forall_mem_cons.mpr ⟨rfl, (List.forall_mem_cons.mpr ⟨rfl, (fun _ h => nomatch h)⟩)⟩)⟩)⟩)⟩)⟩) (ls := [some (.ref (w.2.1 85)), some (.ref (w.2.1 a)), some (.int (nI f)), some (.int (nI z)), some (.int (1 : Int32)), some (.int (1 : Int32)), none, none, none, none]) rfl (args := (#[.ref (w.2.1 85), .ref (w.2.1 a), .int (nI f), .int (nI z), .int (1 : Int32), .int (1 : Int32)] : Array Value)) rfl (own := RX10) rfl ?_
  intro p e s m below meth c C
  refine V_iconst (v := (1 : Int32)) C dX10_counts_0 (by decide) ?_
  refine V_istore (ls1 := [some (.ref (w.2.1 85)), some (.ref (w.2.1 a)), some (.int (nI f)), some (.int (nI z)), some (.int (1 : Int32)), some (.int (1 : Int32)), some (.int (1 : Int32)), none, none, none]) C dX10_counts_1 (by decide) rfl ?_
  refine V_iconst (v := (1 : Int32)) C dX10_counts_3 (by decide) ?_
  refine V_istore (ls1 := [some (.ref (w.2.1 85)), some (.ref (w.2.1 a)), some (.int (nI f)), some (.int (nI z)), some (.int (1 : Int32)), some (.int (1 : Int32)), some (.int (1 : Int32)), some (.int (1 : Int32)), none, none]) C dX10_counts_4 (by decide) rfl ?_
  have L6 : ∀ (fu : Nat) (r : Nat) (g : Int32), (if g = 0 then 0 else 1) + (z - r) < fu → (1 ≤ r) → (r ≤ z) → (∀ k, 1 ≤ k → k < r → Go (X 109) (X 108) 1 ((rev P z) (k - 1)) ((rev P z) k)) → ((g = 0 ∧ r < z ∧ ¬ Go (X 109) (X 108) 1 ((rev P z) (r - 1)) ((rev P z) r)) ∨ g = 1) → V p l e ({ frames := 3, cells := 0, slots := 0, locals := 64 } : Room) s m (#[.ref (w.2.1 85), .ref (w.2.1 a), .int (nI f), .int (nI z), .int (1 : Int32), .int (1 : Int32)] : Array Value) below meth c w 10 0 0 (EI w below s (#[.ref (w.2.1 85), .ref (w.2.1 a), .int (nI f), .int (nI z), .int (1 : Int32), .int (1 : Int32)] : Array Value) 0 0 (q_X10_counts_11 a f z X N P)) 6 [some (.ref (w.2.1 85)), some (.ref (w.2.1 a)), some (.int (nI f)), some (.int (nI z)), some (.int (1 : Int32)), some (.int (1 : Int32)), some (.int (nI r)), some (.int g), none, none] [] X := by
    intro fu
    induction fu with
    | zero => intro r g hm; exact absurd hm (Nat.not_lt_zero _)
    | succ fu ih6 =>
      intro r g hm6 h1 h2 hg hgo
      refine V_iload C dX10_counts_6 rfl ?_
      refine V_if_eq (x := g) (tgt := 121) C dX10_counts_8 (by decide) (fun h8_1 => ?_) (fun h8_1 => ?_)
      · refine V_iload C dX10_counts_121 rfl ?_
        exact V_ireturnI C dX10_counts_123 (by first | exact ⟨⟨r, rfl, h1, h2, hg, fun h => absurd h (by omega)⟩, rfl⟩ | exact ⟨⟨r, rfl, h1, h2, hg, fun _ => (hgo.elim (fun q => q.2.2) (fun q => absurd ((by assumption : g = 0).symm.trans q) (by decide)))⟩, rfl⟩)
      · refine V_iload C dX10_counts_11 rfl ?_
        refine V_iload_n C dX10_counts_13 rfl ?_
        refine V_icmp_geN (a := r) (b := z) (tgt := 121) C dX10_counts_14 (by decide) (by omega) (by omega) (fun h14_2 => ?_) (fun h14_2 => ?_)
        · refine V_iload C dX10_counts_121 rfl ?_
          exact V_ireturnI C dX10_counts_123 (by first | exact ⟨⟨r, rfl, h1, h2, hg, fun h => absurd h (by omega)⟩, rfl⟩ | exact ⟨⟨r, rfl, h1, h2, hg, fun _ => (hgo.elim (fun q => q.2.2) (fun q => absurd ((by assumption : g = 0).symm.trans q) (by decide)))⟩, rfl⟩)
        · refine V_iload C dX10_counts_17 rfl ?_
          refine V_if_eq (x := (1 : Int32)) (tgt := 33) C dX10_counts_19 (by decide) (fun h => absurd h (by decide)) (fun _ => ?_)
          refine V_aload_n C dX10_counts_22 rfl ?_
          refine V_iload_n C dX10_counts_23 rfl ?_
          refine V_iload_n C dX10_counts_24 rfl ?_
          refine V_iaddN (a := f) (b := z) C dX10_counts_25 ?_
          refine V_iload C dX10_counts_26 rfl ?_
          refine V_isubN (a := f + z) (b := r) C dX10_counts_28 (by omega) ?_
          refine V_ialdN (p0 := a) (o := (f + z) - r) (v := X a ((f + z) - r)) C dX10_counts_29 hsh ha (by omega) hN rfl ?_
          have hq4 : P (z - r) < 10 := (PAt_i hP (k := (f + z) - r) (i := z - r) (by omega) (by omega)).2
          refine V_eqi (y := nI (P (z - r))) ((PAt_i hP (k := (f + z) - r) (i := z - r) (by omega) (by omega)).1) ?_
          refine V_goto (tgt := 41) C dX10_counts_30 (by decide) ?_
          refine V_istore (ls1 := [some (.ref (w.2.1 85)), some (.ref (w.2.1 a)), some (.int (nI f)), some (.int (nI z)), some (.int (1 : Int32)), some (.int (1 : Int32)), some (.int (nI r)), some (.int g), some (.int (nI (P (z - r)))), none]) C dX10_counts_41 (by decide) rfl ?_
          refine V_iload C dX10_counts_43 rfl ?_
          refine V_if_eq (x := (1 : Int32)) (tgt := 61) C dX10_counts_45 (by decide) (fun h => absurd h (by decide)) (fun _ => ?_)
          refine V_aload_n C dX10_counts_48 rfl ?_
          refine V_iload_n C dX10_counts_49 rfl ?_
          refine V_iload_n C dX10_counts_50 rfl ?_
          refine V_iaddN (a := f) (b := z) C dX10_counts_51 ?_
          refine V_iload C dX10_counts_52 rfl ?_
          refine V_isubN (a := f + z) (b := r) C dX10_counts_54 (by omega) ?_
          refine V_iconst (v := (1 : Int32)) C dX10_counts_55 (by decide) ?_
          refine V_isubN (a := (f + z) - r) (b := 1) C dX10_counts_56 (by omega) ?_
          refine V_ialdN (p0 := a) (o := ((f + z) - r) - 1) (v := X a (((f + z) - r) - 1)) C dX10_counts_57 hsh ha (by omega) hN rfl ?_
          have hq6 : P (z - r - 1) < 10 := (PAt_i hP (k := ((f + z) - r) - 1) (i := z - r - 1) (by omega) (by omega)).2
          refine V_eqi (y := nI (P (z - r - 1))) ((PAt_i hP (k := ((f + z) - r) - 1) (i := z - r - 1) (by omega) (by omega)).1) ?_
          refine V_goto (tgt := 67) C dX10_counts_58 (by decide) ?_
          refine V_istore (ls1 := [some (.ref (w.2.1 85)), some (.ref (w.2.1 a)), some (.int (nI f)), some (.int (nI z)), some (.int (1 : Int32)), some (.int (1 : Int32)), some (.int (nI r)), some (.int g), some (.int (nI (P (z - r)))), some (.int (nI (P (z - r - 1))))]) C dX10_counts_67 (by decide) rfl ?_
          refine V_iload C dX10_counts_69 rfl ?_
          refine V_if_eq (x := (1 : Int32)) (tgt := 85) C dX10_counts_71 (by decide) (fun h => absurd h (by decide)) (fun _ => ?_)
          refine V_aload_n C dX10_counts_74 rfl ?_
          refine V_iload C dX10_counts_75 rfl ?_
          refine V_iload C dX10_counts_77 rfl ?_
          refine V_callVI C [.int (nI (P (z - r))), .int (nI (P (z - r - 1)))] mi_X10_186 (k_X10_isFor w l (P (z - r)) (P (z - r - 1)) X hPV (by omega) (by omega)) dX10_counts_79 sh_85 (by decide) rfl rfl rfl (Nat.le_of_ble_eq_true rfl) (Nat.le_of_ble_eq_true rfl) (Nat.le_of_ble_eq_true rfl) ⟨Nat.le_refl _, Nat.le_refl _⟩ (fun v8 X8 q8 => ?_)
          obtain ⟨hb8, eX8⟩ := q8; subst X8
          refine V_goto (tgt := 101) C dX10_counts_82 (by decide) ?_
          refine V_istore (ls1 := [some (.ref (w.2.1 85)), some (.ref (w.2.1 a)), some (.int (nI f)), some (.int (nI z)), some (.int (1 : Int32)), some (.int (1 : Int32)), some (.int (nI r)), some (.int v8), some (.int (nI (P (z - r)))), some (.int (nI (P (z - r - 1))))]) C dX10_counts_101 (by decide) rfl ?_
          refine V_iload C dX10_counts_103 rfl ?_
          refine V_iload C dX10_counts_105 rfl ?_
          refine V_if_eqB (tgt := 114) C hb8 dX10_counts_107 (by decide) (fun h107_9 => ?_) (fun h107_9 => ?_)
          · refine V_iconst (v := (0 : Int32)) C dX10_counts_114 (by decide) ?_
            refine V_iaddN (a := r) (b := 0) C dX10_counts_115 ?_
            refine V_istore (ls1 := [some (.ref (w.2.1 85)), some (.ref (w.2.1 a)), some (.int (nI f)), some (.int (nI z)), some (.int (1 : Int32)), some (.int (1 : Int32)), some (.int (nI r)), some (.int v8), some (.int (nI (P (z - r)))), some (.int (nI (P (z - r - 1))))]) C dX10_counts_116 (by decide) rfl ?_
            refine V_goto (tgt := 6) C dX10_counts_118 (by decide) ?_
            refine V_kill (i := 8) (ls1 := [some (.ref (w.2.1 85)), some (.ref (w.2.1 a)), some (.int (nI f)), some (.int (nI z)), some (.int (1 : Int32)), some (.int (1 : Int32)), some (.int (nI r)), some (.int v8), none, some (.int (nI (P (z - r - 1))))]) rfl ?_
            refine V_kill (i := 9) (ls1 := [some (.ref (w.2.1 85)), some (.ref (w.2.1 a)), some (.int (nI f)), some (.int (nI z)), some (.int (1 : Int32)), some (.int (1 : Int32)), some (.int (nI r)), some (.int v8), none, none]) rfl ?_
            exact ih6 r v8 (cm2 hm6 (by assumption) (by first | rfl | exact (bI.eq0 (by assumption)).mpr (by assumption))) (by omega) (by omega) hg (Or.inl ⟨by first | rfl | exact (bI.eq0 (by assumption)).mpr (by assumption), by omega, by rw [rev_a (by omega) (by omega), rev_b (by omega)]; exact fun q => absurd (Go_sure.mp q) (by assumption)⟩)
          · refine V_iconst (v := (1 : Int32)) C dX10_counts_110 (by decide) ?_
            refine V_goto (tgt := 115) C dX10_counts_111 (by decide) ?_
            refine V_iaddN (a := r) (b := 1) C dX10_counts_115 ?_
            refine V_istore (ls1 := [some (.ref (w.2.1 85)), some (.ref (w.2.1 a)), some (.int (nI f)), some (.int (nI z)), some (.int (1 : Int32)), some (.int (1 : Int32)), some (.int (nI (r + 1))), some (.int v8), some (.int (nI (P (z - r)))), some (.int (nI (P (z - r - 1))))]) C dX10_counts_116 (by decide) rfl ?_
            refine V_goto (tgt := 6) C dX10_counts_118 (by decide) ?_
            refine V_kill (i := 8) (ls1 := [some (.ref (w.2.1 85)), some (.ref (w.2.1 a)), some (.int (nI f)), some (.int (nI z)), some (.int (1 : Int32)), some (.int (1 : Int32)), some (.int (nI (r + 1))), some (.int v8), none, some (.int (nI (P (z - r - 1))))]) rfl ?_
            refine V_kill (i := 9) (ls1 := [some (.ref (w.2.1 85)), some (.ref (w.2.1 a)), some (.int (nI f)), some (.int (nI z)), some (.int (1 : Int32)), some (.int (1 : Int32)), some (.int (nI (r + 1))), some (.int v8), none, none]) rfl ?_
            exact ih6 (r + 1) v8 (cm1 hm6 (by assumption) (by omega)) (by omega) (by omega) (by intro k g1 g2; rcases lt_succ_or.mp g2 with g2 | rfl; exact hg k g1 g2; rw [rev_a (by omega) (by omega), rev_b (by omega)]; exact Go_sure.mpr (by assumption)) (Or.inr (by first | rfl | exact bI.one (by assumption) (by assumption)))
  exact L6 _ 1 (1 : Int32) (Nat.lt_succ_self _) (by omega) (by omega) (fun k h1 h2 => absurd h2 (by omega)) (Or.inr rfl)
def q_X10_judge_1 (a : Nat) (f : Nat) (z : Nat) (X : Mem) (N : Nat) (P : Nat → Nat) : Int32 → Mem → Prop := fun r X' => JU (X 109) (X 108) P z r ∧ X' = X
set_option maxHeartbeats 4000000 in
set_option maxRecDepth 100000 in
theorem k_X10_judge_1 (w : Wt) (l : Launch) (a : Nat) (f : Nat) (z : Nat) (X : Mem) (N : Nat) (P : Nat → Nat) (hsh : sh a = .inl (0, N)) (hN : N ≤ 256) (ha : a < 117) (hP : PAt X a f P z) (hzN : f + z ≤ N) (hPV : PVInv (X 108)) (hz : 1 ≤ z) : CtI w l yX10_judge cX10_judge 7 (some .int) 4 93 [.ref (w.2.1 85), .ref (w.2.1 a), .int (nI f), .int (nI z), .int (1 : Int32)] X (q_X10_judge_1 a f z X N P) := by
  have zz : f + z ≤ 256 := Nat.le_trans hzN hN
  refine CtI_of (by decide +kernel) (Nat.le_of_ble_eq_true rfl) (List.forall_mem_cons.mpr ⟨rfl, (List.forall_mem_cons.mpr ⟨rfl, (List.forall_mem_cons.mpr ⟨rfl, (List.forall_mem_cons.mpr ⟨rfl, (List.forall_mem_cons.mpr ⟨rfl, (fun _ h => nomatch h)⟩)⟩)⟩)⟩)⟩) (ls := [some (.ref (w.2.1 85)), some (.ref (w.2.1 a)), some (.int (nI f)), some (.int (nI z)), some (.int (1 : Int32)), none, none]) rfl (args := (#[.ref (w.2.1 85), .ref (w.2.1 a), .int (nI f), .int (nI z), .int (1 : Int32)] : Array Value)) rfl (own := RX10) rfl ?_
  intro p e s m below meth c C
  refine V_aload_n C dX10_judge_0 rfl ?_
  refine V_iload_n C dX10_judge_1 rfl ?_
  refine V_iload_n C dX10_judge_2 rfl ?_
  refine V_callSI C [.ref (w.2.1 a), .int (nI f), .int (nI z)] ms_X10_192 (k_X10_runsRound w l a f z X N P hsh hN ha hP hzN) dX10_judge_3 rfl rfl (Nat.le_of_ble_eq_true rfl) (Nat.le_of_ble_eq_true rfl) (Nat.le_of_ble_eq_true rfl) ⟨Nat.le_refl _, Nat.le_refl _⟩ (fun v1 X1 q1 => ?_)
  obtain ⟨hb1, eX1⟩ := q1; subst X1
  refine V_if_eqB (tgt := 11) C hb1 dX10_judge_6 (by decide) (fun h6_2 => ?_) (fun h6_2 => ?_)
  · refine V_aload_n C dX10_judge_11 rfl ?_
    refine V_aload_n C dX10_judge_12 rfl ?_
    refine V_iload_n C dX10_judge_13 rfl ?_
    refine V_iload_n C dX10_judge_14 rfl ?_
    refine V_iconst (v := (0 : Int32)) C dX10_judge_15 (by decide) ?_
    refine V_iconst (v := (0 : Int32)) C dX10_judge_16 (by decide) ?_
    refine V_callVI C [.ref (w.2.1 a), .int (nI f), .int (nI z), .int (0 : Int32), .int (0 : Int32)] mi_X10_196 (k_X10_counts_00 w l a f z X N P hsh hN ha hP hzN hPV hz) dX10_judge_17 sh_85 (by decide) rfl rfl rfl (Nat.le_of_ble_eq_true rfl) (Nat.le_of_ble_eq_true rfl) (Nat.le_of_ble_eq_true rfl) ⟨Nat.le_refl _, Nat.le_refl _⟩ (fun v3 X3 q3 => ?_)
    obtain ⟨⟨a3, ev3, ha3⟩, eX3⟩ := q3; subst v3; subst X3
    have hl3 := ha3.2.1
    have hm3 := ha3.1
    refine V_iload C dX10_judge_20 rfl ?_
    refine V_if_eq (x := (1 : Int32)) (tgt := 29) C dX10_judge_22 (by decide) (fun h => absurd h (by decide)) (fun _ => ?_)
    refine V_iconst (v := (0 : Int32)) C dX10_judge_25 (by decide) ?_
    refine V_goto (tgt := 38) C dX10_judge_26 (by decide) ?_
    refine V_iaddN (a := a3) (b := 0) C dX10_judge_38 ?_
    refine V_istore (ls1 := [some (.ref (w.2.1 85)), some (.ref (w.2.1 a)), some (.int (nI f)), some (.int (nI z)), some (.int (1 : Int32)), some (.int (nI a3)), none]) C dX10_judge_39 (by decide) rfl ?_
    refine V_aload_n C dX10_judge_41 rfl ?_
    refine V_aload_n C dX10_judge_42 rfl ?_
    refine V_iload_n C dX10_judge_43 rfl ?_
    refine V_iload_n C dX10_judge_44 rfl ?_
    refine V_iconst (v := (0 : Int32)) C dX10_judge_45 (by decide) ?_
    refine V_iconst (v := (1 : Int32)) C dX10_judge_46 (by decide) ?_
    refine V_callVI C [.ref (w.2.1 a), .int (nI f), .int (nI z), .int (0 : Int32), .int (1 : Int32)] mi_X10_196 (k_X10_counts_01 w l a f z X N P hsh hN ha hP hzN hPV hz) dX10_judge_47 sh_85 (by decide) rfl rfl rfl (Nat.le_of_ble_eq_true rfl) (Nat.le_of_ble_eq_true rfl) (Nat.le_of_ble_eq_true rfl) ⟨Nat.le_refl _, Nat.le_refl _⟩ (fun v5 X5 q5 => ?_)
    obtain ⟨⟨a5, ev5, ha5⟩, eX5⟩ := q5; subst v5; subst X5
    have hl5 := ha5.2.1
    have hm5 := ha5.1
    refine V_iload C dX10_judge_50 rfl ?_
    refine V_if_eq (x := (1 : Int32)) (tgt := 59) C dX10_judge_52 (by decide) (fun h => absurd h (by decide)) (fun _ => ?_)
    refine V_iconst (v := (0 : Int32)) C dX10_judge_55 (by decide) ?_
    refine V_goto (tgt := 68) C dX10_judge_56 (by decide) ?_
    refine V_iaddN (a := a5) (b := 0) C dX10_judge_68 ?_
    refine V_istore (ls1 := [some (.ref (w.2.1 85)), some (.ref (w.2.1 a)), some (.int (nI f)), some (.int (nI z)), some (.int (1 : Int32)), some (.int (nI a3)), some (.int (nI a5))]) C dX10_judge_69 (by decide) rfl ?_
    refine V_iload C dX10_judge_71 rfl ?_
    refine V_iload_n C dX10_judge_73 rfl ?_
    refine V_icmp_geN (a := a3) (b := z) (tgt := 81) C dX10_judge_74 (by decide) (by omega) (by omega) (fun h74_7 => ?_) (fun h74_7 => ?_)
    · refine V_iload C dX10_judge_81 rfl ?_
      refine V_iload_n C dX10_judge_83 rfl ?_
      refine V_icmp_ltN (a := a5) (b := z) (tgt := 91) C dX10_judge_84 (by decide) (by omega) (by omega) (fun h84_8 => ?_) (fun h84_8 => ?_)
      · refine V_iconst (v := (0 : Int32)) C dX10_judge_91 (by decide) ?_
        exact V_ireturnI C dX10_judge_92 ⟨JU_of3 (by assumption) (by assumption) (by assumption) (by omega) (by omega), rfl⟩
      · refine V_iconst (v := (1 : Int32)) C dX10_judge_87 (by decide) ?_
        refine V_goto (tgt := 92) C dX10_judge_88 (by decide) ?_
        exact V_ireturnI C dX10_judge_92 ⟨JU_of2 (by assumption) (by assumption) (by assumption) (by omega) (by omega), rfl⟩
    · refine V_iconst (v := (2 : Int32)) C dX10_judge_77 (by decide) ?_
      refine V_goto (tgt := 92) C dX10_judge_78 (by decide) ?_
      exact V_ireturnI C dX10_judge_92 ⟨JU_of hz (by assumption) (by assumption) (by omega), rfl⟩
  · refine V_iconst (v := (2 : Int32)) C dX10_judge_9 (by decide) ?_
    exact V_ireturnI C dX10_judge_10 ⟨Or.inl ⟨by assumption, rfl⟩, rfl⟩
def q_X10_judge_0 (a : Nat) (f : Nat) (z : Nat) (X : Mem) (N : Nat) (P : Nat → Nat) : Int32 → Mem → Prop := fun r X' => JD (X 109) (X 108) P z r ∧ X' = X
set_option maxHeartbeats 4000000 in
set_option maxRecDepth 100000 in
theorem k_X10_judge_0 (w : Wt) (l : Launch) (a : Nat) (f : Nat) (z : Nat) (X : Mem) (N : Nat) (P : Nat → Nat) (hsh : sh a = .inl (0, N)) (hN : N ≤ 256) (ha : a < 117) (hP : PAt X a f P z) (hzN : f + z ≤ N) (hPV : PVInv (X 108)) (hz : 1 ≤ z) : CtI w l yX10_judge cX10_judge 7 (some .int) 4 93 [.ref (w.2.1 85), .ref (w.2.1 a), .int (nI f), .int (nI z), .int (0 : Int32)] X (q_X10_judge_0 a f z X N P) := by
  have zz : f + z ≤ 256 := Nat.le_trans hzN hN
  refine CtI_of (by decide +kernel) (Nat.le_of_ble_eq_true rfl) (List.forall_mem_cons.mpr ⟨rfl, (List.forall_mem_cons.mpr ⟨rfl, (List.forall_mem_cons.mpr ⟨rfl, (List.forall_mem_cons.mpr ⟨rfl, (List.forall_mem_cons.mpr ⟨rfl, (fun _ h => nomatch h)⟩)⟩)⟩)⟩)⟩) (ls := [some (.ref (w.2.1 85)), some (.ref (w.2.1 a)), some (.int (nI f)), some (.int (nI z)), some (.int (0 : Int32)), none, none]) rfl (args := (#[.ref (w.2.1 85), .ref (w.2.1 a), .int (nI f), .int (nI z), .int (0 : Int32)] : Array Value)) rfl (own := RX10) rfl ?_
  intro p e s m below meth c C
  refine V_aload_n C dX10_judge_0 rfl ?_
  refine V_iload_n C dX10_judge_1 rfl ?_
  refine V_iload_n C dX10_judge_2 rfl ?_
  refine V_callSI C [.ref (w.2.1 a), .int (nI f), .int (nI z)] ms_X10_192 (k_X10_runsRound w l a f z X N P hsh hN ha hP hzN) dX10_judge_3 rfl rfl (Nat.le_of_ble_eq_true rfl) (Nat.le_of_ble_eq_true rfl) (Nat.le_of_ble_eq_true rfl) ⟨Nat.le_refl _, Nat.le_refl _⟩ (fun v1 X1 q1 => ?_)
  obtain ⟨hb1, eX1⟩ := q1; subst X1
  refine V_if_eqB (tgt := 11) C hb1 dX10_judge_6 (by decide) (fun h6_2 => ?_) (fun h6_2 => ?_)
  · refine V_aload_n C dX10_judge_11 rfl ?_
    refine V_aload_n C dX10_judge_12 rfl ?_
    refine V_iload_n C dX10_judge_13 rfl ?_
    refine V_iload_n C dX10_judge_14 rfl ?_
    refine V_iconst (v := (0 : Int32)) C dX10_judge_15 (by decide) ?_
    refine V_iconst (v := (0 : Int32)) C dX10_judge_16 (by decide) ?_
    refine V_callVI C [.ref (w.2.1 a), .int (nI f), .int (nI z), .int (0 : Int32), .int (0 : Int32)] mi_X10_196 (k_X10_counts_00 w l a f z X N P hsh hN ha hP hzN hPV hz) dX10_judge_17 sh_85 (by decide) rfl rfl rfl (Nat.le_of_ble_eq_true rfl) (Nat.le_of_ble_eq_true rfl) (Nat.le_of_ble_eq_true rfl) ⟨Nat.le_refl _, Nat.le_refl _⟩ (fun v3 X3 q3 => ?_)
    obtain ⟨⟨a3, ev3, ha3⟩, eX3⟩ := q3; subst v3; subst X3
    have hl3 := ha3.2.1
    have hm3 := ha3.1
    refine V_iload C dX10_judge_20 rfl ?_
    refine V_if_eq (x := (0 : Int32)) (tgt := 29) C dX10_judge_22 (by decide) (fun _ => ?_) (fun h => absurd h (by decide))
    refine V_aload_n C dX10_judge_29 rfl ?_
    refine V_aload_n C dX10_judge_30 rfl ?_
    refine V_iload_n C dX10_judge_31 rfl ?_
    refine V_iload_n C dX10_judge_32 rfl ?_
    refine V_iconst (v := (1 : Int32)) C dX10_judge_33 (by decide) ?_
    refine V_iconst (v := (0 : Int32)) C dX10_judge_34 (by decide) ?_
    refine V_callVI C [.ref (w.2.1 a), .int (nI f), .int (nI z), .int (1 : Int32), .int (0 : Int32)] mi_X10_196 (k_X10_counts_10 w l a f z X N P hsh hN ha hP hzN hPV hz) dX10_judge_35 sh_85 (by decide) rfl rfl rfl (Nat.le_of_ble_eq_true rfl) (Nat.le_of_ble_eq_true rfl) (Nat.le_of_ble_eq_true rfl) ⟨Nat.le_refl _, Nat.le_refl _⟩ (fun v5 X5 q5 => ?_)
    obtain ⟨⟨a5, ev5, ha5⟩, eX5⟩ := q5; subst v5; subst X5
    have hl5 := ha5.2.1
    have hm5 := ha5.1
    refine V_iaddN (a := a3) (b := a5) C dX10_judge_38 ?_
    refine V_istore (ls1 := [some (.ref (w.2.1 85)), some (.ref (w.2.1 a)), some (.int (nI f)), some (.int (nI z)), some (.int (0 : Int32)), some (.int (nI (a3 + a5))), none]) C dX10_judge_39 (by decide) rfl ?_
    refine V_aload_n C dX10_judge_41 rfl ?_
    refine V_aload_n C dX10_judge_42 rfl ?_
    refine V_iload_n C dX10_judge_43 rfl ?_
    refine V_iload_n C dX10_judge_44 rfl ?_
    refine V_iconst (v := (0 : Int32)) C dX10_judge_45 (by decide) ?_
    refine V_iconst (v := (1 : Int32)) C dX10_judge_46 (by decide) ?_
    refine V_callVI C [.ref (w.2.1 a), .int (nI f), .int (nI z), .int (0 : Int32), .int (1 : Int32)] mi_X10_196 (k_X10_counts_01 w l a f z X N P hsh hN ha hP hzN hPV hz) dX10_judge_47 sh_85 (by decide) rfl rfl rfl (Nat.le_of_ble_eq_true rfl) (Nat.le_of_ble_eq_true rfl) (Nat.le_of_ble_eq_true rfl) ⟨Nat.le_refl _, Nat.le_refl _⟩ (fun v6 X6 q6 => ?_)
    obtain ⟨⟨a6, ev6, ha6⟩, eX6⟩ := q6; subst v6; subst X6
    have hl6 := ha6.2.1
    have hm6 := ha6.1
    refine V_iload C dX10_judge_50 rfl ?_
    refine V_if_eq (x := (0 : Int32)) (tgt := 59) C dX10_judge_52 (by decide) (fun _ => ?_) (fun h => absurd h (by decide))
    refine V_aload_n C dX10_judge_59 rfl ?_
    refine V_aload_n C dX10_judge_60 rfl ?_
    refine V_iload_n C dX10_judge_61 rfl ?_
    refine V_iload_n C dX10_judge_62 rfl ?_
    refine V_iconst (v := (1 : Int32)) C dX10_judge_63 (by decide) ?_
    refine V_iconst (v := (1 : Int32)) C dX10_judge_64 (by decide) ?_
    refine V_callVI C [.ref (w.2.1 a), .int (nI f), .int (nI z), .int (1 : Int32), .int (1 : Int32)] mi_X10_196 (k_X10_counts_11 w l a f z X N P hsh hN ha hP hzN hPV hz) dX10_judge_65 sh_85 (by decide) rfl rfl rfl (Nat.le_of_ble_eq_true rfl) (Nat.le_of_ble_eq_true rfl) (Nat.le_of_ble_eq_true rfl) ⟨Nat.le_refl _, Nat.le_refl _⟩ (fun v8 X8 q8 => ?_)
    obtain ⟨⟨a8, ev8, ha8⟩, eX8⟩ := q8; subst v8; subst X8
    have hl8 := ha8.2.1
    have hm8 := ha8.1
    refine V_iaddN (a := a6) (b := a8) C dX10_judge_68 ?_
    refine V_istore (ls1 := [some (.ref (w.2.1 85)), some (.ref (w.2.1 a)), some (.int (nI f)), some (.int (nI z)), some (.int (0 : Int32)), some (.int (nI (a3 + a5))), some (.int (nI (a6 + a8)))]) C dX10_judge_69 (by decide) rfl ?_
    refine V_iload C dX10_judge_71 rfl ?_
    refine V_iload_n C dX10_judge_73 rfl ?_
    refine V_icmp_geN (a := a3 + a5) (b := z) (tgt := 81) C dX10_judge_74 (by decide) (by omega) (by omega) (fun h74_9 => ?_) (fun h74_9 => ?_)
    · refine V_iload C dX10_judge_81 rfl ?_
      refine V_iload_n C dX10_judge_83 rfl ?_
      refine V_icmp_ltN (a := a6 + a8) (b := z) (tgt := 91) C dX10_judge_84 (by decide) (by omega) (by omega) (fun h84_10 => ?_) (fun h84_10 => ?_)
      · refine V_iconst (v := (0 : Int32)) C dX10_judge_91 (by decide) ?_
        exact V_ireturnI C dX10_judge_92 ⟨JD_of3 (by assumption) (by assumption) (by assumption) (by assumption) (by assumption) (by omega) (by omega), rfl⟩
      · refine V_iconst (v := (1 : Int32)) C dX10_judge_87 (by decide) ?_
        refine V_goto (tgt := 92) C dX10_judge_88 (by decide) ?_
        exact V_ireturnI C dX10_judge_92 ⟨JD_of2 (by assumption) (by assumption) (by assumption) (by assumption) (by assumption) (by omega) (by omega), rfl⟩
    · refine V_iconst (v := (2 : Int32)) C dX10_judge_77 (by decide) ?_
      refine V_goto (tgt := 92) C dX10_judge_78 (by decide) ?_
      exact V_ireturnI C dX10_judge_92 ⟨JD_of hz (by assumption) (by assumption) (by assumption) (by omega), rfl⟩
  · refine V_iconst (v := (2 : Int32)) C dX10_judge_9 (by decide) ?_
    exact V_ireturnI C dX10_judge_10 ⟨Or.inl ⟨by assumption, rfl⟩, rfl⟩
def q_X10_refuses (a : Nat) (f : Nat) (z : Nat) (d : Nat) (X : Mem) (N : Nat) (P : Nat → Nat) : Int32 → Mem → Prop := fun r X' => bI (Rf (tM X) (X 109) (X 108) P z) r ∧ X' = X
set_option maxHeartbeats 4000000 in
set_option maxRecDepth 100000 in
theorem k_X10_refuses (w : Wt) (l : Launch) (a : Nat) (f : Nat) (z : Nat) (d : Nat) (X : Mem) (N : Nat) (P : Nat → Nat) (hsh : sh a = .inl (0, N)) (hN : N ≤ 256) (ha : a < 117) (hP : PAt X a f P z) (hzN : f + z ≤ N) (hPV : PVInv (X 108)) (hz : 1 ≤ z) (hd : P z = d) (hd10 : d < 10) : CtI w l yX10_refuses cX10_refuses 6 (some .boolean) 5 119 [.ref (w.2.1 85), .ref (w.2.1 a), .int (nI f), .int (nI z), .int (nI d)] X (q_X10_refuses a f z d X N P) := by
  have zz : f + z ≤ 256 := Nat.le_trans hzN hN
  refine CtI_of (by decide +kernel) (Nat.le_of_ble_eq_true rfl) (List.forall_mem_cons.mpr ⟨rfl, (List.forall_mem_cons.mpr ⟨rfl, (List.forall_mem_cons.mpr ⟨rfl, (List.forall_mem_cons.mpr ⟨rfl, (List.forall_mem_cons.mpr ⟨rfl, (fun _ h => nomatch h)⟩)⟩)⟩)⟩)⟩) (ls := [some (.ref (w.2.1 85)), some (.ref (w.2.1 a)), some (.int (nI f)), some (.int (nI z)), some (.int (nI d)), none]) rfl (args := (#[.ref (w.2.1 85), .ref (w.2.1 a), .int (nI f), .int (nI z), .int (nI d)] : Array Value)) rfl (own := RX10) rfl ?_
  intro p e s m below meth c C
  refine V_aload_n C dX10_refuses_0 rfl ?_
  refine V_getr C fl_X10_75 dX10_refuses_1 (by decide) sh_85 rfl ?_
  refine V_bipush (v := (10 : Int32)) C dX10_refuses_4 (by decide) ?_
  refine V_aload_n C dX10_refuses_6 rfl ?_
  refine V_iload_n C dX10_refuses_7 rfl ?_
  refine V_iload_n C dX10_refuses_8 rfl ?_
  refine V_iaddN (a := f) (b := z) C dX10_refuses_9 ?_
  refine V_iconst (v := (1 : Int32)) C dX10_refuses_10 (by decide) ?_
  refine V_isubN (a := f + z) (b := 1) C dX10_refuses_11 (by omega) ?_
  refine V_ialdN (p0 := a) (o := (f + z) - 1) (v := X a ((f + z) - 1)) C dX10_refuses_12 hsh ha (by omega) hN rfl ?_
  have hq1 : P (z - 1) < 10 := (PAt_i hP (k := (f + z) - 1) (i := z - 1) (by omega) (by omega)).2
  refine V_eqi (y := nI (P (z - 1))) ((PAt_i hP (k := (f + z) - 1) (i := z - 1) (by omega) (by omega)).1) ?_
  refine V_imulN (a := 10) (b := P (z - 1)) C dX10_refuses_13 ?_
  refine V_iload C dX10_refuses_14 rfl ?_
  refine V_iaddN (a := 10 * (P (z - 1))) (b := d) C dX10_refuses_16 ?_
  refine V_ialdN (p0 := 106) (o := 10 * (P (z - 1)) + d) (v := X 106 (10 * (P (z - 1)) + d)) C dX10_refuses_17 sh_106 (by decide) (by omega) (by decide) rfl ?_
  refine V_iconst (v := (2 : Int32)) C dX10_refuses_18 (by decide) ?_
  refine V_icmp_ne (x := X 106 (10 * (P (z - 1)) + d)) (y := (2 : Int32)) (tgt := 26) C dX10_refuses_19 (by decide) (fun h19_2 => ?_) (fun h19_2 => ?_)
  · refine V_iconst (v := (0 : Int32)) C dX10_refuses_26 (by decide) ?_
    refine V_istore (ls1 := [some (.ref (w.2.1 85)), some (.ref (w.2.1 a)), some (.int (nI f)), some (.int (nI z)), some (.int (nI d)), some (.int (0 : Int32))]) C dX10_refuses_27 (by decide) rfl ?_
    refine V_aload_n C dX10_refuses_29 rfl ?_
    refine V_aload_n C dX10_refuses_30 rfl ?_
    refine V_iload_n C dX10_refuses_31 rfl ?_
    refine V_iload_n C dX10_refuses_32 rfl ?_
    refine V_iload C dX10_refuses_33 rfl ?_
    refine V_if_ne (x := (0 : Int32)) (tgt := 42) C dX10_refuses_35 (by decide) (fun h => absurd h (by decide)) (fun _ => ?_)
    refine V_iconst (v := (1 : Int32)) C dX10_refuses_38 (by decide) ?_
    refine V_goto (tgt := 43) C dX10_refuses_39 (by decide) ?_
    refine V_callVI C [.ref (w.2.1 a), .int (nI f), .int (nI z), .int (1 : Int32)] mi_X10_206 (k_X10_judge_1 w l a f z X N P hsh hN ha hP hzN hPV hz) dX10_refuses_43 sh_85 (by decide) rfl rfl rfl (Nat.le_of_ble_eq_true rfl) (Nat.le_of_ble_eq_true rfl) (Nat.le_of_ble_eq_true rfl) ⟨Nat.le_refl _, Nat.le_refl _⟩ (fun v4 X4 q4 => ?_)
    obtain ⟨hv4, eX4⟩ := q4; subst X4
    refine V_iconst (v := (2 : Int32)) C dX10_refuses_46 (by decide) ?_
    refine V_icmp_ne (x := v4) (y := (2 : Int32)) (tgt := 54) C dX10_refuses_47 (by decide) (fun h47_5 => ?_) (fun h47_5 => ?_)
    · refine V_iconst (v := (0 : Int32)) C dX10_refuses_54 (by decide) ?_
      exact V_zreturnI C dX10_refuses_55 (Or.inl rfl) (by subst hd; first | exact ⟨bI.f (fun q => absurd ((Rf_d (by assumption) (by assumption)).mp q) (by assumption)), rfl⟩ | exact ⟨bI.f (fun q => absurd ((Rf_u (by assumption) (by assumption)).mp q) (by assumption)), rfl⟩)
    · refine V_iconst (v := (1 : Int32)) C dX10_refuses_50 (by decide) ?_
      refine V_goto (tgt := 55) C dX10_refuses_51 (by decide) ?_
      exact V_zreturnI C dX10_refuses_55 (Or.inr rfl) (by subst hd; first | exact ⟨bI.t ((Rf_d (by assumption) (by assumption)).mpr (by assumption)), rfl⟩ | exact ⟨bI.t ((Rf_u (by assumption) (by assumption)).mpr (by assumption)), rfl⟩)
  · refine V_iconst (v := (1 : Int32)) C dX10_refuses_22 (by decide) ?_
    refine V_goto (tgt := 27) C dX10_refuses_23 (by decide) ?_
    refine V_istore (ls1 := [some (.ref (w.2.1 85)), some (.ref (w.2.1 a)), some (.int (nI f)), some (.int (nI z)), some (.int (nI d)), some (.int (1 : Int32))]) C dX10_refuses_27 (by decide) rfl ?_
    refine V_aload_n C dX10_refuses_29 rfl ?_
    refine V_aload_n C dX10_refuses_30 rfl ?_
    refine V_iload_n C dX10_refuses_31 rfl ?_
    refine V_iload_n C dX10_refuses_32 rfl ?_
    refine V_iload C dX10_refuses_33 rfl ?_
    refine V_if_ne (x := (1 : Int32)) (tgt := 42) C dX10_refuses_35 (by decide) (fun _ => ?_) (fun h => absurd h (by decide))
    refine V_iconst (v := (0 : Int32)) C dX10_refuses_42 (by decide) ?_
    refine V_callVI C [.ref (w.2.1 a), .int (nI f), .int (nI z), .int (0 : Int32)] mi_X10_206 (k_X10_judge_0 w l a f z X N P hsh hN ha hP hzN hPV hz) dX10_refuses_43 sh_85 (by decide) rfl rfl rfl (Nat.le_of_ble_eq_true rfl) (Nat.le_of_ble_eq_true rfl) (Nat.le_of_ble_eq_true rfl) ⟨Nat.le_refl _, Nat.le_refl _⟩ (fun v7 X7 q7 => ?_)
    obtain ⟨hv7, eX7⟩ := q7; subst X7
    refine V_iconst (v := (2 : Int32)) C dX10_refuses_46 (by decide) ?_
    refine V_icmp_ne (x := v7) (y := (2 : Int32)) (tgt := 54) C dX10_refuses_47 (by decide) (fun h47_8 => ?_) (fun h47_8 => ?_)
    · refine V_iconst (v := (0 : Int32)) C dX10_refuses_54 (by decide) ?_
      exact V_zreturnI C dX10_refuses_55 (Or.inl rfl) (by subst hd; first | exact ⟨bI.f (fun q => absurd ((Rf_d (by assumption) (by assumption)).mp q) (by assumption)), rfl⟩ | exact ⟨bI.f (fun q => absurd ((Rf_u (by assumption) (by assumption)).mp q) (by assumption)), rfl⟩)
    · refine V_iconst (v := (1 : Int32)) C dX10_refuses_50 (by decide) ?_
      refine V_goto (tgt := 55) C dX10_refuses_51 (by decide) ?_
      exact V_zreturnI C dX10_refuses_55 (Or.inr rfl) (by subst hd; first | exact ⟨bI.t ((Rf_d (by assumption) (by assumption)).mpr (by assumption)), rfl⟩ | exact ⟨bI.t ((Rf_u (by assumption) (by assumption)).mpr (by assumption)), rfl⟩)
