def q_X4_add (v : Int32) (X : Mem) (h : Nat) : Int32 → Mem → Prop := fun r X' => r = nI h ∧ X' = (ma (ma (ma X 2 (upd (X 2) h v)) 4 (upd (X 4) h (X 1 0 + 30))) 1 (upd (X 1) 1 (nI (h + 1))))
set_option maxHeartbeats 4000000 in
set_option maxRecDepth 100000 in
theorem k_X4_add (w : Wt) (l : Launch) (v : Int32) (X : Mem) (h : Nat) (hh : X 1 1 = nI h) (h7 : h < 8) : CtI w l yX4_add cX4_add 3 (some .int) 1 20 [.ref (w.2.1 1), .int v] X (q_X4_add v X h) := by
  refine CtI_of (by decide +kernel) (Nat.le_of_ble_eq_true rfl) (List.forall_mem_cons.mpr ⟨rfl, (List.forall_mem_cons.mpr ⟨rfl, (fun _ h => nomatch h)⟩)⟩) (ls := [some (.ref (w.2.1 1)), some (.int v), none]) rfl (args := (#[.ref (w.2.1 1), .int v] : Array Value)) rfl (own := RX4) rfl ?_
  intro p e s m below meth c C
  refine V_aload_n C dX4_add_0 rfl ?_
  refine V_geti C fl_X4_15 dX4_add_1 (by decide) sh_1 rfl ?_
  refine V_eqi (y := nI h) hh ?_
  refine V_istore_n (ls1 := [some (.ref (w.2.1 1)), some (.int v), some (.int (nI h))]) C dX4_add_4 (by decide) rfl ?_
  refine V_aload_n C dX4_add_5 rfl ?_
  refine V_getr C fl_X4_18 dX4_add_6 (by decide) sh_1 rfl ?_
  refine V_iload_n C dX4_add_9 rfl ?_
  refine V_iload_n C dX4_add_10 rfl ?_
  refine V_iastN (p0 := 2) (o := h) (X1 := (ma X 2 (upd (X 2) h v))) C dX4_add_11 sh_2 (by decide) (by omega) (by decide) rfl ?_
  refine V_aload_n C dX4_add_12 rfl ?_
  refine V_getr C fl_X4_25 dX4_add_13 (by decide) sh_1 rfl ?_
  refine V_iload_n C dX4_add_16 rfl ?_
  refine V_aload_n C dX4_add_17 rfl ?_
  refine V_geti C fl_X4_9 dX4_add_18 (by decide) sh_1 rfl ?_
  refine V_eqi (y := X 1 0) rfl ?_
  refine V_bipush (v := (30 : Int32)) C dX4_add_21 (by decide) ?_
  refine V_iadd C dX4_add_23 ?_
  refine V_iastN (p0 := 4) (o := h) (X1 := (ma (ma X 2 (upd (X 2) h v)) 4 (upd (X 4) h ((X 1 0) + (30 : Int32))))) C dX4_add_24 sh_4 (by decide) (by omega) (by decide) rfl ?_
  refine V_aload_n C dX4_add_25 rfl ?_
  refine V_dup C dX4_add_26 rfl ?_
  refine V_geti C fl_X4_15 dX4_add_27 (by decide) sh_1 rfl ?_
  refine V_eqi (y := X 1 1) rfl ?_
  refine V_eqi (y := nI h) hh ?_
  refine V_iconst (v := (1 : Int32)) C dX4_add_30 (by decide) ?_
  refine V_iaddN (a := h) (b := 1) C dX4_add_31 ?_
  refine V_put C fp_X4_15 dX4_add_32 (by decide) sh_1 rfl ?_
  refine V_eqX (X1 := (ma (ma (ma X 2 (upd (X 2) h v)) 4 (upd (X 4) h ((X 1 0) + (30 : Int32)))) 1 (upd (X 1) 1 (nI (h + 1))))) rfl ?_
  refine V_iload_n C dX4_add_35 rfl ?_
  exact V_ireturnI C dX4_add_36 ⟨rfl, rfl⟩
def q_X9_holder (v : Int32) (X : Mem) (h : Nat) : Int32 → Mem → Prop := fun r X' => r = nI h ∧ (Btw v 0 (nI (h - 1)) ∧ h < 8) ∧ X' = (ma (ma (ma X 2 (upd (X 2) h v)) 4 (upd (X 4) h (X 1 0 + 30))) 1 (upd (X 1) 1 (nI (h + 1))))
def r_X9_holder (v : Int32) (X : Mem) (h : Nat) : String → Mem → Prop := fun E X' => X' = X ∧ Flt2 eIO eIS (Btw v 0 (nI (h - 1))) (h < 8) E
set_option maxHeartbeats 4000000 in
set_option maxRecDepth 100000 in
theorem k_X9_holder (w : Wt) (l : Launch) (v : Int32) (X : Mem) (h : Nat) (hh : X 1 1 = nI h) (h1 : 1 ≤ h) (h8 : h ≤ 8) : CtXI w l yX9_holder cX9_holder 2 (some .int) 7 103 2 [.ref (w.2.1 0), .int v] X (q_X9_holder v X h) (r_X9_holder v X h) := by
  refine CtXI_of (by decide +kernel) (Nat.le_of_ble_eq_true rfl) (List.forall_mem_cons.mpr ⟨rfl, (List.forall_mem_cons.mpr ⟨rfl, (fun _ h => nomatch h)⟩)⟩) (ls := [some (.ref (w.2.1 0)), some (.int v)]) rfl (args := (#[.ref (w.2.1 0), .int v] : Array Value)) rfl (own := RX9) rfl ?_
  intro p e s m below meth c C ht hD
  refine V_aload_n C dX9_holder_0 rfl ?_
  refine V_iload_n C dX9_holder_1 rfl ?_
  refine V_xcallVUI C ht hD [.int v] mi_X9_73 pl_X9_73 (k_X9_needHolder w l v X h hh h1 h8) dX9_holder_2 sh_0 (by decide) rfl rfl rfl (Nat.le_of_ble_eq_true rfl) (Nat.le_of_ble_eq_true rfl) (Nat.le_of_ble_eq_true rfl) ⟨by decide, by decide⟩ ⟨by decide, by decide⟩ (fun E X1 h => ⟨h.1, Or.inl ⟨h.2.1, h.2.2⟩⟩) (fun X1 q1 => ?_)
  obtain ⟨hg1, eX1⟩ := q1; subst X1
  refine V_aload_n C dX9_holder_5 rfl ?_
  refine V_getr C fl_X9_10 dX9_holder_6 (by decide) sh_0 rfl ?_
  refine V_geti C fl_X9_77 dX9_holder_9 (by decide) sh_1 rfl ?_
  refine V_eqi (y := nI h) hh ?_
  refine V_bipush (v := (8 : Int32)) C dX9_holder_12 (by decide) ?_
  refine V_icmp_ltN (a := h) (b := 8) (tgt := 27) C dX9_holder_14 (by decide) (by omega) (by omega) (fun h14_2 => ?_) (fun h14_2 => ?_)
  · refine V_aload_n C dX9_holder_27 rfl ?_
    refine V_getr C fl_X9_10 dX9_holder_28 (by decide) sh_0 rfl ?_
    refine V_iload_n C dX9_holder_31 rfl ?_
    refine V_callVI C [.int v] mi_X9_88 (k_X4_add w l v X h hh (by omega)) dX9_holder_32 sh_1 (by decide) rfl rfl rfl (Nat.le_of_ble_eq_true rfl) (Nat.le_of_ble_eq_true rfl) (Nat.le_of_ble_eq_true rfl) ⟨by decide, by decide⟩ (fun v3 X3 q3 => ?_)
    obtain ⟨ev3, eX3⟩ := q3; subst X3; subst v3
    exact V_ireturnX C dX9_holder_35 (by decide) (by decide) ⟨rfl, ⟨hg1, by omega⟩, rfl⟩
  · exact V_throwS C ht hD tw_81 (List.mem_of_getElem? (i := 0) rfl) (by decide +kernel) dX9_holder_17 dX9_holder_20 dX9_holder_21 dX9_holder_23 dX9_holder_26 ⟨by decide, by decide⟩ ⟨by decide, by decide⟩ ⟨by decide, by decide⟩ ⟨rfl, Or.inr ⟨rfl, hg1, by omega⟩⟩
def q_X9_belong (nt : Int32) (v : Int32) (X : Mem) (h : Nat) : Int32 → Mem → Prop := fun r X' => (Btw nt 0 9 ∧ Btw v 0 (nI (h - 1))) ∧ ∃ a, a < 10 ∧ nt = nI a ∧ r = X 5 a ∧ X' = ma X 5 (upd (X 5) a v)
def r_X9_belong (nt : Int32) (v : Int32) (X : Mem) (h : Nat) : String → Mem → Prop := fun E X' => X' = X ∧ E = eIO ∧ ¬ (Btw nt 0 9 ∧ Btw v 0 (nI (h - 1)))
set_option maxHeartbeats 4000000 in
set_option maxRecDepth 100000 in
theorem k_X9_belong (w : Wt) (l : Launch) (nt : Int32) (v : Int32) (X : Mem) (h : Nat) (hh : X 1 1 = nI h) (h1 : 1 ≤ h) (h8 : h ≤ 8) : CtXI w l yX9_belong cX9_belong 4 (some .int) 7 103 2 [.ref (w.2.1 0), .int nt, .int v] X (q_X9_belong nt v X h) (r_X9_belong nt v X h) := by
  refine CtXI_of (by decide +kernel) (Nat.le_of_ble_eq_true rfl) (List.forall_mem_cons.mpr ⟨rfl, (List.forall_mem_cons.mpr ⟨rfl, (List.forall_mem_cons.mpr ⟨rfl, (fun _ h => nomatch h)⟩)⟩)⟩) (ls := [some (.ref (w.2.1 0)), some (.int nt), some (.int v), none]) rfl (args := (#[.ref (w.2.1 0), .int nt, .int v] : Array Value)) rfl (own := RX9) rfl ?_
  intro p e s m below meth c C ht hD
  refine V_iload_n C dX9_belong_0 rfl ?_
  refine V_xcallSUI C ht hD [.int nt] ms_X9_92 pl_X9_92 (k_X9_needNet w l nt X ) dX9_belong_1 rfl rfl (Nat.le_of_ble_eq_true rfl) (Nat.le_of_ble_eq_true rfl) (Nat.le_of_ble_eq_true rfl) ⟨by decide, by decide⟩ ⟨by decide, by decide⟩ (fun E X1 h => ⟨h.1, h.2.1, fun q => h.2.2 q.1⟩) (fun X1 q1 => ?_)
  obtain ⟨hg1, eX1⟩ := q1; subst X1
  refine V_aload_n C dX9_belong_4 rfl ?_
  refine V_iload_n C dX9_belong_5 rfl ?_
  refine V_xcallVUI C ht hD [.int v] mi_X9_73 pl_X9_73 (k_X9_needHolder w l v X h hh h1 h8) dX9_belong_6 sh_0 (by decide) rfl rfl rfl (Nat.le_of_ble_eq_true rfl) (Nat.le_of_ble_eq_true rfl) (Nat.le_of_ble_eq_true rfl) ⟨by decide, by decide⟩ ⟨by decide, by decide⟩ (fun E X1 h => ⟨h.1, h.2.1, fun q => h.2.2 q.2⟩) (fun X2 q2 => ?_)
  obtain ⟨hg2, eX2⟩ := q2; subst X2
  obtain ⟨a, ha, ea⟩ := Btw_of (n := 9) (by decide) hg1
  subst nt
  refine V_aload_n C dX9_belong_9 rfl ?_
  refine V_getr C fl_X9_10 dX9_belong_10 (by decide) sh_0 rfl ?_
  refine V_getr C fl_X9_95 dX9_belong_13 (by decide) sh_1 rfl ?_
  refine V_iload_n C dX9_belong_16 rfl ?_
  refine V_ialdN (p0 := 5) (o := a) (v := X 5 a) C dX9_belong_17 sh_5 (by decide) (by omega) (by decide) rfl ?_
  refine V_istore_n (ls1 := [some (.ref (w.2.1 0)), some (.int (nI a)), some (.int v), some (.int (X 5 a))]) C dX9_belong_18 (by decide) rfl ?_
  refine V_aload_n C dX9_belong_19 rfl ?_
  refine V_getr C fl_X9_10 dX9_belong_20 (by decide) sh_0 rfl ?_
  refine V_getr C fl_X9_95 dX9_belong_23 (by decide) sh_1 rfl ?_
  refine V_iload_n C dX9_belong_26 rfl ?_
  refine V_iload_n C dX9_belong_27 rfl ?_
  refine V_iastN (p0 := 5) (o := a) (X1 := (ma X 5 (upd (X 5) a v))) C dX9_belong_28 sh_5 (by decide) (by omega) (by decide) rfl ?_
  refine V_iload_n C dX9_belong_29 rfl ?_
  exact V_ireturnX C dX9_belong_30 (by decide) (by decide) ⟨⟨hg1, hg2⟩, a, by omega, rfl, rfl, rfl⟩
def q_X9_pass (v : Int32) (X : Mem) (D : Nat) : Int32 → Mem → Prop := fun r X' => Btw v 1 100 ∧ ∃ d, d < 101 ∧ v = nI d ∧ D + d ≤ 10000 ∧ r = nI (D + d) ∧ X' = ma X 1 (upd (X 1) 0 (nI (D + d)))
def r_X9_pass (v : Int32) (X : Mem) (D : Nat) : String → Mem → Prop := fun E X' => X' = X ∧ Flt2 eIA eIS (Btw v 1 100) (∀ d, d < 101 → v = nI d → D + d ≤ 10000) E
set_option maxHeartbeats 4000000 in
set_option maxRecDepth 100000 in
theorem k_X9_pass (w : Wt) (l : Launch) (v : Int32) (X : Mem) (D : Nat) (hday : X 1 0 = nI D) (hd1 : D ≤ 10000) : CtXI w l yX9_pass cX9_pass 2 (some .int) 7 104 2 [.ref (w.2.1 0), .int v] X (q_X9_pass v X D) (r_X9_pass v X D) := by
  refine CtXI_of (by decide +kernel) (Nat.le_of_ble_eq_true rfl) (List.forall_mem_cons.mpr ⟨rfl, (List.forall_mem_cons.mpr ⟨rfl, (fun _ h => nomatch h)⟩)⟩) (ls := [some (.ref (w.2.1 0)), some (.int v)]) rfl (args := (#[.ref (w.2.1 0), .int v] : Array Value)) rfl (own := RX9) rfl ?_
  intro p e s m below meth c C ht hD
  refine V_iload_n C dX9_pass_0 rfl ?_
  refine V_iconst (v := (1 : Int32)) C dX9_pass_1 (by decide) ?_
  refine V_bipush (v := (100 : Int32)) C dX9_pass_2 (by decide) ?_
  refine V_xcallSUI C ht hD [.int v, .int (1 : Int32), .int (100 : Int32)] ms_X9_104 pl_X9_104 (k_X9_needRange w l v (1 : Int32) (100 : Int32) X ) dX9_pass_4 rfl rfl (Nat.le_of_ble_eq_true rfl) (Nat.le_of_ble_eq_true rfl) (Nat.le_of_ble_eq_true rfl) ⟨by decide, by decide⟩ ⟨by decide, by decide⟩ (fun E X1 h => ⟨h.1, Or.inl ⟨h.2.1, h.2.2⟩⟩) (fun X1 q1 => ?_)
  obtain ⟨hg1, eX1⟩ := q1; subst X1
  obtain ⟨d, hd, ed⟩ := Btw_1 hg1
  subst v
  refine V_aload_n C dX9_pass_7 rfl ?_
  refine V_getr C fl_X9_10 dX9_pass_8 (by decide) sh_0 rfl ?_
  refine V_geti C fl_X9_111 dX9_pass_11 (by decide) sh_1 rfl ?_
  refine V_eqi (y := nI D) hday ?_
  refine V_iload_n C dX9_pass_14 rfl ?_
  refine V_iaddN (a := D) (b := d) C dX9_pass_15 ?_
  refine V_sipush (v := (10000 : Int32)) C dX9_pass_16 (by decide) ?_
  refine V_icmp_leN (a := D + d) (b := 10000) (tgt := 32) C dX9_pass_19 (by decide) (by omega) (by omega) (fun h19_2 => ?_) (fun h19_2 => ?_)
  · refine V_aload_n C dX9_pass_32 rfl ?_
    refine V_getr C fl_X9_10 dX9_pass_33 (by decide) sh_0 rfl ?_
    refine V_dup C dX9_pass_36 rfl ?_
    refine V_geti C fl_X9_111 dX9_pass_37 (by decide) sh_1 rfl ?_
    refine V_eqi (y := nI D) hday ?_
    refine V_iload_n C dX9_pass_40 rfl ?_
    refine V_iaddN (a := D) (b := d) C dX9_pass_41 ?_
    refine V_put C fp_X9_111 dX9_pass_42 (by decide) sh_1 rfl ?_
    refine V_aload_n C dX9_pass_45 rfl ?_
    refine V_getr C fl_X9_10 dX9_pass_46 (by decide) sh_0 rfl ?_
    refine V_geti C fl_X9_111 dX9_pass_49 (by decide) sh_1 rfl ?_
    refine V_eqi (y := nI (D + d)) rfl ?_
    exact V_ireturnX C dX9_pass_52 (by decide) (by decide) ⟨hg1, d, by omega, rfl, by omega, rfl, rfl⟩
  · exact V_throwS C ht hD tw_81 (List.mem_of_getElem? (i := 2) rfl) (by decide +kernel) dX9_pass_22 dX9_pass_25 dX9_pass_26 dX9_pass_28 dX9_pass_31 ⟨by decide, by decide⟩ ⟨by decide, by decide⟩ ⟨by decide, by decide⟩ ⟨rfl, Or.inr ⟨rfl, hg1, fun q => absurd (q d (by omega) rfl) (by omega)⟩⟩
def q_X9_revoke (v : Int32) (X : Mem) (n : Nat) : Int32 → Mem → Prop := fun r X' => Btw v 0 (nI n - 1) ∧ ∃ o, o < n ∧ v = nI o ∧ bI (X 15 o = 0) r ∧ X' = ma X 15 (upd (X 15) o 1)
def r_X9_revoke (v : Int32) (X : Mem) (n : Nat) : String → Mem → Prop := fun E X' => X' = X ∧ E = eIO ∧ ¬ (Btw v 0 (nI n - 1))
set_option maxHeartbeats 4000000 in
set_option maxRecDepth 100000 in
theorem k_X9_revoke (w : Wt) (l : Launch) (v : Int32) (X : Mem) (n : Nat) (hn : X 6 0 = nI n) (n50 : n ≤ 50) : CtXI w l yX9_revoke cX9_revoke 3 (some .boolean) 7 103 1 [.ref (w.2.1 0), .int v] X (q_X9_revoke v X n) (r_X9_revoke v X n) := by
  refine CtXI_of (by decide +kernel) (Nat.le_of_ble_eq_true rfl) (List.forall_mem_cons.mpr ⟨rfl, (List.forall_mem_cons.mpr ⟨rfl, (fun _ h => nomatch h)⟩)⟩) (ls := [some (.ref (w.2.1 0)), some (.int v), none]) rfl (args := (#[.ref (w.2.1 0), .int v] : Array Value)) rfl (own := RX9) rfl ?_
  intro p e s m below meth c C ht hD
  refine V_aload_n C dX9_revoke_0 rfl ?_
  refine V_iload_n C dX9_revoke_1 rfl ?_
  refine V_xcallVUI C ht hD [.int v] mi_X9_132 pl_X9_132 (k_X9_needObject w l v X n hn n50) dX9_revoke_2 sh_0 (by decide) rfl rfl rfl (Nat.le_of_ble_eq_true rfl) (Nat.le_of_ble_eq_true rfl) (Nat.le_of_ble_eq_true rfl) ⟨by decide, by decide⟩ ⟨by decide, by decide⟩ (fun E X1 h => h) (fun X1 q1 => ?_)
  obtain ⟨hg1, eX1⟩ := q1; subst X1
  obtain ⟨o, ho, eo⟩ := hg1.2
  subst v
  refine V_aload_n C dX9_revoke_5 rfl ?_
  refine V_getr C fl_X9_19 dX9_revoke_6 (by decide) sh_0 rfl ?_
  refine V_getr C fl_X9_135 dX9_revoke_9 (by decide) sh_6 rfl ?_
  refine V_iload_n C dX9_revoke_12 rfl ?_
  refine V_baldN (p0 := 15) (o := o) (v := X 15 o) C dX9_revoke_13 sh_15 (by decide) (by omega) (by decide) rfl ?_
  refine V_if_ne (x := X 15 o) (tgt := 21) C dX9_revoke_14 (by decide) (fun h14_2 => ?_) (fun h14_2 => ?_)
  · refine V_iconst (v := (0 : Int32)) C dX9_revoke_21 (by decide) ?_
    refine V_istore_n (ls1 := [some (.ref (w.2.1 0)), some (.int (nI o)), some (.int (0 : Int32))]) C dX9_revoke_22 (by decide) rfl ?_
    refine V_aload_n C dX9_revoke_23 rfl ?_
    refine V_getr C fl_X9_19 dX9_revoke_24 (by decide) sh_0 rfl ?_
    refine V_getr C fl_X9_135 dX9_revoke_27 (by decide) sh_6 rfl ?_
    refine V_iload_n C dX9_revoke_30 rfl ?_
    refine V_iconst (v := (1 : Int32)) C dX9_revoke_31 (by decide) ?_
    refine V_bastN (p0 := 15) (o := o) (X1 := (ma X 15 (upd (X 15) o (1 : Int32)))) C dX9_revoke_32 sh_15 (by decide) (by omega) (by decide) (Or.inr rfl) rfl ?_
    refine V_iload_n C dX9_revoke_33 rfl ?_
    exact V_zreturnX C dX9_revoke_34 (Or.inl rfl) (by decide) (by decide) ⟨hg1.1, o, by omega, rfl, bI.f (by assumption), rfl⟩
  · refine V_iconst (v := (1 : Int32)) C dX9_revoke_17 (by decide) ?_
    refine V_goto (tgt := 22) C dX9_revoke_18 (by decide) ?_
    refine V_istore_n (ls1 := [some (.ref (w.2.1 0)), some (.int (nI o)), some (.int (1 : Int32))]) C dX9_revoke_22 (by decide) rfl ?_
    refine V_aload_n C dX9_revoke_23 rfl ?_
    refine V_getr C fl_X9_19 dX9_revoke_24 (by decide) sh_0 rfl ?_
    refine V_getr C fl_X9_135 dX9_revoke_27 (by decide) sh_6 rfl ?_
    refine V_iload_n C dX9_revoke_30 rfl ?_
    refine V_iconst (v := (1 : Int32)) C dX9_revoke_31 (by decide) ?_
    refine V_bastN (p0 := 15) (o := o) (X1 := (ma X 15 (upd (X 15) o (1 : Int32)))) C dX9_revoke_32 sh_15 (by decide) (by omega) (by decide) (Or.inr rfl) rfl ?_
    refine V_iload_n C dX9_revoke_33 rfl ?_
    exact V_zreturnX C dX9_revoke_34 (Or.inr rfl) (by decide) (by decide) ⟨hg1.1, o, by omega, rfl, bI.t (by assumption), rfl⟩
def q_X9_sign (v : Int32) (X : Mem) (h n : Nat) : Int32 → Mem → Prop := fun r X' => Btw v 0 (nI n - 1) ∧ ∃ o a, o < n ∧ a < h ∧ v = nI o ∧ X 8 o = nI a ∧ r = sigS (oC X) o (X 3 a) ∧ X' = ma X 14 (upd (X 14) o (sigS (oC X) o (X 3 a)))
def r_X9_sign (v : Int32) (X : Mem) (h n : Nat) : String → Mem → Prop := fun E X' => X' = X ∧ E = eIO ∧ ¬ (Btw v 0 (nI n - 1))
set_option maxHeartbeats 4000000 in
set_option maxRecDepth 100000 in
theorem k_X9_sign (w : Wt) (l : Launch) (v : Int32) (X : Mem) (h n : Nat) (hO : OInv (oC X) h n) (h8 : h ≤ 8) (hn : X 6 0 = nI n) (n50 : n ≤ 50) : CtXI w l yX9_sign cX9_sign 2 (some .int) 7 103 1 [.ref (w.2.1 0), .int v] X (q_X9_sign v X h n) (r_X9_sign v X h n) := by
  refine CtXI_of (by decide +kernel) (Nat.le_of_ble_eq_true rfl) (List.forall_mem_cons.mpr ⟨rfl, (List.forall_mem_cons.mpr ⟨rfl, (fun _ h => nomatch h)⟩)⟩) (ls := [some (.ref (w.2.1 0)), some (.int v)]) rfl (args := (#[.ref (w.2.1 0), .int v] : Array Value)) rfl (own := RX9) rfl ?_
  intro p e s m below meth c C ht hD
  refine V_aload_n C dX9_sign_0 rfl ?_
  refine V_iload_n C dX9_sign_1 rfl ?_
  refine V_xcallVUI C ht hD [.int v] mi_X9_132 pl_X9_132 (k_X9_needObject w l v X n hn n50) dX9_sign_2 sh_0 (by decide) rfl rfl rfl (Nat.le_of_ble_eq_true rfl) (Nat.le_of_ble_eq_true rfl) (Nat.le_of_ble_eq_true rfl) ⟨by decide, by decide⟩ ⟨by decide, by decide⟩ (fun E X1 h => h) (fun X1 q1 => ?_)
  obtain ⟨hg1, eX1⟩ := q1; subst X1
  obtain ⟨o, ho, eo⟩ := hg1.2
  subst eo
  obtain ⟨a, ha, ea⟩ := (hO.2 o ho).1
  refine V_aload_n C dX9_sign_5 rfl ?_
  refine V_iload_n C dX9_sign_6 rfl ?_
  refine V_callVI C [.int (nI o)] mi_X9_147 (k_X9_putSignature w l o X a (by omega) ea (by omega)) dX9_sign_7 sh_0 (by decide) rfl rfl rfl (Nat.le_of_ble_eq_true rfl) (Nat.le_of_ble_eq_true rfl) (Nat.le_of_ble_eq_true rfl) ⟨by decide, by decide⟩ (fun v2 X2 q2 => ?_)
  obtain ⟨ev2, eX2⟩ := q2; subst X2; subst v2
  exact V_ireturnX C dX9_sign_10 (by decide) (by decide) ⟨hg1.1, o, a, by omega, by omega, rfl, ea, rfl, rfl⟩
def q_X9_hop (v : Int32) (X : Mem) (D : Nat) : Int32 → Mem → Prop := fun r X' => (Btw v 0 9 ∧ D < 6) ∧ ∃ a, a < 10 ∧ v = nI a ∧ r = nI (D + 1) ∧ X' = ma (ma X 21 (upd (X 21) D v)) 20 (upd (X 20) 2 (nI (D + 1)))
def r_X9_hop (v : Int32) (X : Mem) (D : Nat) : String → Mem → Prop := fun E X' => X' = X ∧ Flt2 eIO eIS (Btw v 0 9) (D < 6) E
set_option maxHeartbeats 4000000 in
set_option maxRecDepth 100000 in
theorem k_X9_hop (w : Wt) (l : Launch) (v : Int32) (X : Mem) (D : Nat) (hd : X 20 2 = nI D) (hd6 : D ≤ 6) : CtXI w l yX9_hop cX9_hop 2 (some .int) 7 102 2 [.ref (w.2.1 0), .int v] X (q_X9_hop v X D) (r_X9_hop v X D) := by
  refine CtXI_of (by decide +kernel) (Nat.le_of_ble_eq_true rfl) (List.forall_mem_cons.mpr ⟨rfl, (List.forall_mem_cons.mpr ⟨rfl, (fun _ h => nomatch h)⟩)⟩) (ls := [some (.ref (w.2.1 0)), some (.int v)]) rfl (args := (#[.ref (w.2.1 0), .int v] : Array Value)) rfl (own := RX9) rfl ?_
  intro p e s m below meth c C ht hD
  refine V_iload_n C dX9_hop_0 rfl ?_
  refine V_xcallSUI C ht hD [.int v] ms_X9_92 pl_X9_92 (k_X9_needNet w l v X ) dX9_hop_1 rfl rfl (Nat.le_of_ble_eq_true rfl) (Nat.le_of_ble_eq_true rfl) (Nat.le_of_ble_eq_true rfl) ⟨by decide, by decide⟩ ⟨by decide, by decide⟩ (fun E X1 h => ⟨h.1, Or.inl ⟨h.2.1, h.2.2⟩⟩) (fun X1 q1 => ?_)
  obtain ⟨hg1, eX1⟩ := q1; subst X1
  refine V_aload_n C dX9_hop_4 rfl ?_
  refine V_getr C fl_X9_35 dX9_hop_5 (by decide) sh_0 rfl ?_
  refine V_geti C fl_X9_150 dX9_hop_8 (by decide) sh_20 rfl ?_
  refine V_eqi (y := nI D) hd ?_
  refine V_bipush (v := (6 : Int32)) C dX9_hop_11 (by decide) ?_
  refine V_icmp_ltN (a := D) (b := 6) (tgt := 26) C dX9_hop_13 (by decide) (by omega) (by omega) (fun h13_2 => ?_) (fun h13_2 => ?_)
  · refine V_aload_n C dX9_hop_26 rfl ?_
    refine V_getr C fl_X9_35 dX9_hop_27 (by decide) sh_0 rfl ?_
    refine V_getr C fl_X9_155 dX9_hop_30 (by decide) sh_20 rfl ?_
    refine V_aload_n C dX9_hop_33 rfl ?_
    refine V_getr C fl_X9_35 dX9_hop_34 (by decide) sh_0 rfl ?_
    refine V_geti C fl_X9_150 dX9_hop_37 (by decide) sh_20 rfl ?_
    refine V_eqi (y := nI D) hd ?_
    refine V_iload_n C dX9_hop_40 rfl ?_
    refine V_iastN (p0 := 21) (o := D) (X1 := (ma X 21 (upd (X 21) D v))) C dX9_hop_41 sh_21 (by decide) (by omega) (by decide) rfl ?_
    refine V_aload_n C dX9_hop_42 rfl ?_
    refine V_getr C fl_X9_35 dX9_hop_43 (by decide) sh_0 rfl ?_
    refine V_dup C dX9_hop_46 rfl ?_
    refine V_geti C fl_X9_150 dX9_hop_47 (by decide) sh_20 rfl ?_
    refine V_eqi (y := X 20 2) rfl ?_
    refine V_eqi (y := nI D) hd ?_
    refine V_iconst (v := (1 : Int32)) C dX9_hop_50 (by decide) ?_
    refine V_iaddN (a := D) (b := 1) C dX9_hop_51 ?_
    refine V_put C fp_X9_150 dX9_hop_52 (by decide) sh_20 rfl ?_
    refine V_eqX (X1 := (ma (ma X 21 (upd (X 21) D v)) 20 (upd (X 20) 2 (nI (D + 1))))) rfl ?_
    refine V_aload_n C dX9_hop_55 rfl ?_
    refine V_getr C fl_X9_35 dX9_hop_56 (by decide) sh_0 rfl ?_
    refine V_geti C fl_X9_150 dX9_hop_59 (by decide) sh_20 rfl ?_
    refine V_eqi (y := nI (D + 1)) rfl ?_
    exact V_ireturnX C dX9_hop_62 (by decide) (by decide) (by obtain ⟨a, ha, ea⟩ := Btw_of (n := 9) (by decide) hg1; exact ⟨⟨hg1, by omega⟩, a, by omega, ea, rfl, rfl⟩)
  · exact V_throwS C ht hD tw_81 (List.mem_of_getElem? (i := 4) rfl) (by decide +kernel) dX9_hop_16 dX9_hop_19 dX9_hop_20 dX9_hop_22 dX9_hop_25 ⟨by decide, by decide⟩ ⟨by decide, by decide⟩ ⟨by decide, by decide⟩ ⟨rfl, Or.inr ⟨rfl, hg1, by omega⟩⟩
