def q_X9_roll (v : Int32) (X : Mem) (h : Nat) : Int32 → Mem → Prop := fun r X' => Btw v 0 (nI (h - 1)) ∧ ∃ a k, a < h ∧ v = nI a ∧ X 3 a = nI k ∧ k < 100 ∧ r = nI (k + 1) ∧ X' = ma X 3 (upd (X 3) a (nI (k + 1)))
def r_X9_roll (v : Int32) (X : Mem) (h : Nat) : String → Mem → Prop := fun E X' => X' = X ∧ Flt2 eIO eIS (Btw v 0 (nI (h - 1))) (∀ a k, a < h → v = nI a → X 3 a = nI k → k ≤ 100 → k < 100) E
set_option maxHeartbeats 4000000 in
set_option maxRecDepth 100000 in
theorem k_X9_roll (w : Wt) (l : Launch) (v : Int32) (X : Mem) (h : Nat) (hh : X 1 1 = nI h) (h1 : 1 ≤ h) (h8 : h ≤ 8) (hk : ∀ b, b < 8 → ∃ a, a ≤ 100 ∧ X 3 b = nI a) : CtXI w l yX9_roll cX9_roll 2 (some .int) 7 103 2 [.ref (w.2.1 0), .int v] X (q_X9_roll v X h) (r_X9_roll v X h) := by
  refine CtXI_of (by decide +kernel) (Nat.le_of_ble_eq_true rfl) (List.forall_mem_cons.mpr ⟨rfl, (List.forall_mem_cons.mpr ⟨rfl, (fun _ h => nomatch h)⟩)⟩) (ls := [some (.ref (w.2.1 0)), some (.int v)]) rfl (args := (#[.ref (w.2.1 0), .int v] : Array Value)) rfl (own := RX9) rfl ?_
  intro p e s m below meth c C ht hD
  refine V_aload_n C dX9_roll_0 rfl ?_
  refine V_iload_n C dX9_roll_1 rfl ?_
  refine V_xcallVUI C ht hD [.int v] mi_X9_73 pl_X9_73 (k_X9_needHolder w l v X h hh h1 h8) dX9_roll_2 sh_0 (by decide) rfl rfl rfl (Nat.le_of_ble_eq_true rfl) (Nat.le_of_ble_eq_true rfl) (Nat.le_of_ble_eq_true rfl) ⟨by decide, by decide⟩ ⟨by decide, by decide⟩ (fun E X1 h => ⟨h.1, Or.inl ⟨h.2.1, h.2.2⟩⟩) (fun X1 q1 => ?_)
  obtain ⟨hg1, eX1⟩ := q1; subst X1
  obtain ⟨a, ha, ea⟩ := Btw_hd h1 (by omega) hg1
  subst v
  refine V_aload_n C dX9_roll_5 rfl ?_
  refine V_getr C fl_X9_10 dX9_roll_6 (by decide) sh_0 rfl ?_
  refine V_getr C fl_X9_99 dX9_roll_9 (by decide) sh_1 rfl ?_
  refine V_iload_n C dX9_roll_12 rfl ?_
  refine V_ialdN (p0 := 3) (o := a) (v := X 3 a) C dX9_roll_13 sh_3 (by decide) (by omega) (by decide) rfl ?_
  obtain ⟨a2, ha2, ea2⟩ := hk a (by omega)
  have ia2 : ix (nI a2) = a2 := ix_nI (by omega)
  refine V_eqi ea2 ?_
  refine V_bipush (v := (100 : Int32)) C dX9_roll_14 (by decide) ?_
  refine V_icmp_ltN (a := a2) (b := 100) (tgt := 29) C dX9_roll_16 (by decide) (by omega) (by omega) (fun h16_3 => ?_) (fun h16_3 => ?_)
  · refine V_aload_n C dX9_roll_29 rfl ?_
    refine V_getr C fl_X9_10 dX9_roll_30 (by decide) sh_0 rfl ?_
    refine V_getr C fl_X9_99 dX9_roll_33 (by decide) sh_1 rfl ?_
    refine V_iload_n C dX9_roll_36 rfl ?_
    refine V_dup2 C dX9_roll_37 rfl rfl ?_
    refine V_ialdN (p0 := 3) (o := a) (v := X 3 a) C dX9_roll_38 sh_3 (by decide) (by omega) (by decide) rfl ?_
    refine V_eqi ea2 ?_
    refine V_iconst (v := (1 : Int32)) C dX9_roll_39 (by decide) ?_
    refine V_iaddN (a := a2) (b := 1) C dX9_roll_40 ?_
    refine V_iastN (p0 := 3) (o := a) (X1 := (ma X 3 (upd (X 3) a (nI (a2 + 1))))) C dX9_roll_41 sh_3 (by decide) (by omega) (by decide) rfl ?_
    refine V_aload_n C dX9_roll_42 rfl ?_
    refine V_getr C fl_X9_10 dX9_roll_43 (by decide) sh_0 rfl ?_
    refine V_getr C fl_X9_99 dX9_roll_46 (by decide) sh_1 rfl ?_
    refine V_iload_n C dX9_roll_49 rfl ?_
    refine V_ialdN (p0 := 3) (o := a) (v := (upd (X 3) a (nI (a2 + 1))) a) C dX9_roll_50 sh_3 (by decide) (by omega) (by decide) rfl ?_
    refine V_eqi (y := nI (a2 + 1)) (upd_eq _ _ _) ?_
    exact V_ireturnX C dX9_roll_51 (by decide) (by decide) ⟨hg1, a, a2, by omega, rfl, ea2, by omega, rfl, rfl⟩
  · exact V_throwS C ht hD tw_81 (List.mem_of_getElem? (i := 1) rfl) (by decide +kernel) dX9_roll_19 dX9_roll_22 dX9_roll_23 dX9_roll_25 dX9_roll_28 ⟨by decide, by decide⟩ ⟨by decide, by decide⟩ ⟨by decide, by decide⟩ ⟨rfl, Or.inr ⟨rfl, hg1, fun q => absurd (q a a2 (by omega) rfl ea2 ha2) (by omega)⟩⟩
def q_X9_hear (v : Int32) (ln : Int32) (X : Mem) (R N1 D : Nat) (dr : Nat → Nat) : Int32 → Mem → Prop := fun r X' => (Blk v ln ∧ 1 ≤ D ∧ R < 24) ∧ r = nI R ∧ ∃ f, SqR f 0 dr D ∧ X' = (ma (ma (ma (ma (ma X (23 + R) f) 47 (upd (X 47) R (nI (sqn dr D)))) 48 (upd (X 48) R v)) 49 (upd (X 49) R ln)) 20 (upd (upd (upd (X 20) 2 0) 0 (nI (R + 1))) 1 (nI (N1 + 1))))
def r_X9_hear (v : Int32) (ln : Int32) (X : Mem) (R N1 D : Nat) (dr : Nat → Nat) : String → Mem → Prop := fun E X' => X' = X ∧ Flt2 eIA eIS (Blk v ln) (1 ≤ D ∧ R < 24) E
set_option maxHeartbeats 4000000 in
set_option maxRecDepth 100000 in
theorem k_X9_hear (w : Wt) (l : Launch) (v : Int32) (ln : Int32) (X : Mem) (R N1 D : Nat) (dr : Nat → Nat) (hr0 : X 20 0 = nI R) (R24 : R ≤ 24) (hth : X 20 1 = nI N1) (hd : X 20 2 = nI D) (hd6 : D ≤ 6) (hP : PA X 21 dr D) : CtXI w l yX9_hear cX9_hear 3 (some .int) 8 125 4 [.ref (w.2.1 0), .int v, .int ln] X (q_X9_hear v ln X R N1 D dr) (r_X9_hear v ln X R N1 D dr) := by
  refine CtXI_of (by decide +kernel) (Nat.le_of_ble_eq_true rfl) (List.forall_mem_cons.mpr ⟨rfl, (List.forall_mem_cons.mpr ⟨rfl, (List.forall_mem_cons.mpr ⟨rfl, (fun _ h => nomatch h)⟩)⟩)⟩) (ls := [some (.ref (w.2.1 0)), some (.int v), some (.int ln)]) rfl (args := (#[.ref (w.2.1 0), .int v, .int ln] : Array Value)) rfl (own := RX9) rfl ?_
  intro p e s m below meth c C ht hD
  refine V_iload_n C dX9_hear_0 rfl ?_
  refine V_iload_n C dX9_hear_1 rfl ?_
  refine V_xcallSUI C ht hD [.int v, .int ln] ms_X9_119 pl_X9_119 (k_X9_needBlock w l v ln X ) dX9_hear_2 rfl rfl (Nat.le_of_ble_eq_true rfl) (Nat.le_of_ble_eq_true rfl) (Nat.le_of_ble_eq_true rfl) ⟨by decide, by decide⟩ ⟨by decide, by decide⟩ (fun E X1 h => ⟨h.1, Or.inl ⟨h.2.1, h.2.2⟩⟩) (fun X1 q1 => ?_)
  obtain ⟨hg1, eX1⟩ := q1; subst X1
  refine V_aload_n C dX9_hear_5 rfl ?_
  refine V_getr C fl_X9_35 dX9_hear_6 (by decide) sh_0 rfl ?_
  refine V_geti C fl_X9_150 dX9_hear_9 (by decide) sh_20 rfl ?_
  refine V_eqi (y := nI D) hd ?_
  refine V_if_eqN (a := D) (tgt := 27) C dX9_hear_12 (by decide) (by omega) (fun h12_2 => ?_) (fun h12_2 => ?_)
  · exact V_throwS C ht hD tw_81 (List.mem_of_getElem? (i := 5) rfl) (by decide +kernel) dX9_hear_27 dX9_hear_30 dX9_hear_31 dX9_hear_33 dX9_hear_36 ⟨by decide, by decide⟩ ⟨by decide, by decide⟩ ⟨by decide, by decide⟩ ⟨rfl, Or.inr ⟨rfl, hg1, by omega⟩⟩
  · refine V_aload_n C dX9_hear_15 rfl ?_
    refine V_getr C fl_X9_35 dX9_hear_16 (by decide) sh_0 rfl ?_
    refine V_geti C fl_X9_158 dX9_hear_19 (by decide) sh_20 rfl ?_
    refine V_eqi (y := nI R) hr0 ?_
    refine V_bipush (v := (24 : Int32)) C dX9_hear_22 (by decide) ?_
    refine V_icmp_ltN (a := R) (b := 24) (tgt := 37) C dX9_hear_24 (by decide) (by omega) (by omega) (fun h24_3 => ?_) (fun h24_3 => ?_)
    · refine V_aload_n C dX9_hear_37 rfl ?_
      refine V_getr C fl_X9_35 dX9_hear_38 (by decide) sh_0 rfl ?_
      refine V_iload_n C dX9_hear_41 rfl ?_
      refine V_iload_n C dX9_hear_42 rfl ?_
      refine V_callVI C [.int v, .int ln] mi_X9_161 (k_X6_addDraft w l v ln X R N1 D dr hr0 (by omega) hth hd hd6 hP) dX9_hear_43 sh_20 (by decide) rfl rfl rfl (Nat.le_of_ble_eq_true rfl) (Nat.le_of_ble_eq_true rfl) (Nat.le_of_ble_eq_true rfl) ⟨by decide, by decide⟩ (fun v4 X4 q4 => ?_)
      obtain ⟨ev4, f4, hf4, eX4⟩ := q4; subst v4
      exact V_ireturnX C dX9_hear_46 (by decide) (by decide) ⟨⟨hg1, by omega, by omega⟩, rfl, f4, hf4, eX4⟩
    · exact V_throwS C ht hD tw_81 (List.mem_of_getElem? (i := 5) rfl) (by decide +kernel) dX9_hear_27 dX9_hear_30 dX9_hear_31 dX9_hear_33 dX9_hear_36 ⟨by decide, by decide⟩ ⟨by decide, by decide⟩ ⟨by decide, by decide⟩ ⟨rfl, Or.inr ⟨rfl, hg1, by omega⟩⟩
def q_X9_needRouteThere (v : Int32) (X : Mem) (R : Nat) (PP : Nat → Nat → Nat) (Z : Nat → Nat) (Th : Nat → Prop) : Mem → Prop := fun X' => IsRt R Th v ∧ X' = X
def r_X9_needRouteThere (v : Int32) (X : Mem) (R : Nat) (PP : Nat → Nat → Nat) (Z : Nat → Nat) (Th : Nat → Prop) : String → Mem → Prop := fun E X' => X' = X ∧ E = eIO ∧ ¬ (IsRt R Th v)
set_option maxHeartbeats 4000000 in
set_option maxRecDepth 100000 in
theorem k_X9_needRouteThere (w : Wt) (l : Launch) (v : Int32) (X : Mem) (R : Nat) (PP : Nat → Nat → Nat) (Z : Nat → Nat) (Th : Nat → Prop) (hB : RBc X R PP Z Th) : CtXU w l yX9_needRouteThere cX9_needRouteThere 2 none 6 82 1 [.ref (w.2.1 0), .int v] X (q_X9_needRouteThere v X R PP Z Th) (r_X9_needRouteThere v X R PP Z Th) := by
  have hR24 := hB.1
  refine CtXU_of (by decide +kernel) (Nat.le_of_ble_eq_true rfl) (List.forall_mem_cons.mpr ⟨rfl, (List.forall_mem_cons.mpr ⟨rfl, (fun _ h => nomatch h)⟩)⟩) (ls := [some (.ref (w.2.1 0)), some (.int v)]) rfl (args := (#[.ref (w.2.1 0), .int v] : Array Value)) rfl (own := RX9) rfl ?_
  intro p e s m below meth c C ht hD
  refine V_iload_n C dX9_needRouteThere_0 rfl ?_
  refine V_if_lt (x := v) (tgt := 27) C dX9_needRouteThere_1 (by decide) (fun h1_1 => ?_) (fun h1_1 => ?_)
  · exact V_throwW C ht hD tw_165 (List.mem_of_getElem? (i := 13) rfl) (by decide +kernel) dX9_needRouteThere_27 dX9_needRouteThere_30 dX9_needRouteThere_31 dX9_needRouteThere_34 dX9_needRouteThere_37 ⟨by decide, by decide⟩ ⟨by decide, by decide⟩ ⟨by decide, by decide⟩ ⟨rfl, rfl, by first | exact IsRt_n hR24 (Or.inl (by assumption)) | exact IsRt_n hR24 (Or.inr (by assumption)) | exact fun q => absurd ((hB.2.2 a ha).2.2.2.2.mpr (IsRt_at hR24 ha q)) (by assumption)⟩
  · refine V_iload_n C dX9_needRouteThere_4 rfl ?_
    refine V_aload_n C dX9_needRouteThere_5 rfl ?_
    refine V_getr C fl_X9_35 dX9_needRouteThere_6 (by decide) sh_0 rfl ?_
    refine V_geti C fl_X9_158 dX9_needRouteThere_9 (by decide) sh_20 rfl ?_
    refine V_eqi (y := nI R) hB.2.1 ?_
    refine V_icmp_ge (x := v) (y := nI R) (tgt := 27) C dX9_needRouteThere_12 (by decide) (fun h12_2 => ?_) (fun h12_2 => ?_)
    · exact V_throwW C ht hD tw_165 (List.mem_of_getElem? (i := 13) rfl) (by decide +kernel) dX9_needRouteThere_27 dX9_needRouteThere_30 dX9_needRouteThere_31 dX9_needRouteThere_34 dX9_needRouteThere_37 ⟨by decide, by decide⟩ ⟨by decide, by decide⟩ ⟨by decide, by decide⟩ ⟨rfl, rfl, by first | exact IsRt_n hR24 (Or.inl (by assumption)) | exact IsRt_n hR24 (Or.inr (by assumption)) | exact fun q => absurd ((hB.2.2 a ha).2.2.2.2.mpr (IsRt_at hR24 ha q)) (by assumption)⟩
    · obtain ⟨a, ha, ea⟩ := rt_in hR24 (by assumption) (by assumption)
      subst ea
      refine V_aload_n C dX9_needRouteThere_15 rfl ?_
      refine V_getr C fl_X9_35 dX9_needRouteThere_16 (by decide) sh_0 rfl ?_
      refine V_getr C fl_X9_170 dX9_needRouteThere_19 (by decide) sh_20 rfl ?_
      refine V_iload_n C dX9_needRouteThere_22 rfl ?_
      refine V_baldN (p0 := 50) (o := a) (v := X 50 a) C dX9_needRouteThere_23 sh_50 (by decide) (by omega) (by decide) rfl ?_
      refine V_if_eq (x := X 50 a) (tgt := 38) C dX9_needRouteThere_24 (by decide) (fun h24_3 => ?_) (fun h24_3 => ?_)
      · exact V_returnX C dX9_needRouteThere_38 (by decide) (by decide) ⟨⟨a, ha, rfl, (hB.2.2 a ha).2.2.2.2.mp (by assumption)⟩, rfl⟩
      · exact V_throwW C ht hD tw_165 (List.mem_of_getElem? (i := 13) rfl) (by decide +kernel) dX9_needRouteThere_27 dX9_needRouteThere_30 dX9_needRouteThere_31 dX9_needRouteThere_34 dX9_needRouteThere_37 ⟨by decide, by decide⟩ ⟨by decide, by decide⟩ ⟨by decide, by decide⟩ ⟨rfl, rfl, by first | exact IsRt_n hR24 (Or.inl (by assumption)) | exact IsRt_n hR24 (Or.inr (by assumption)) | exact fun q => absurd ((hB.2.2 a ha).2.2.2.2.mpr (IsRt_at hR24 ha q)) (by assumption)⟩
def q_X9_path (v : Int32) (up : Int32) (X : Mem) (h n : Nat) (R : Nat) (PP : Nat → Nat → Nat) (Z : Nat → Nat) (Th : Nat → Prop) : Int32 → Mem → Prop := fun r X' => ∃ a, (a < R ∧ v = nI a ∧ Th a) ∧ ∃ V hv pv nd, X' = ma (ma (ma X 18 V) 64 pv) 65 nd ∧ (IsV (oC X) (gC X) n (X 1 0) V ∧ VoR (oC X) V n hv pv) ∧ ((¬ up = 0 ∧ JU hv pv (PP a) (Z a) r) ∨ (up = 0 ∧ JD hv pv (PP a) (Z a) r))
def r_X9_path (v : Int32) (up : Int32) (X : Mem) (h n : Nat) (R : Nat) (PP : Nat → Nat → Nat) (Z : Nat → Nat) (Th : Nat → Prop) : String → Mem → Prop := fun E X' => X' = X ∧ E = eIO ∧ ¬ IsRt R Th v
set_option maxHeartbeats 4000000 in
set_option maxRecDepth 100000 in
theorem k_X9_path (w : Wt) (l : Launch) (v : Int32) (up : Int32) (X : Mem) (h n : Nat) (R : Nat) (PP : Nat → Nat → Nat) (Z : Nat → Nat) (Th : Nat → Prop) (hO : OInv (oC X) h n) (hG : GInv (gC X) h) (hn : X 6 0 = nI n) (hh : X 1 1 = nI h) (hB : RBc X R PP Z Th) : CtXI w l yX9_path cX9_path 5 (some .int) 8 180 1 [.ref (w.2.1 0), .int v, .int up] X (q_X9_path v up X h n R PP Z Th) (r_X9_path v up X h n R PP Z Th) := by
  have n50 := hO.1
  have h1 := hG.1
  have h8 := hG.2.1
  have hR24 := hB.1
  refine CtXI_of (by decide +kernel) (Nat.le_of_ble_eq_true rfl) (List.forall_mem_cons.mpr ⟨rfl, (List.forall_mem_cons.mpr ⟨rfl, (List.forall_mem_cons.mpr ⟨rfl, (fun _ h => nomatch h)⟩)⟩)⟩) (ls := [some (.ref (w.2.1 0)), some (.int v), some (.int up), none, none]) rfl (args := (#[.ref (w.2.1 0), .int v, .int up] : Array Value)) rfl (own := RX9) rfl ?_
  intro p e s m below meth c C ht hD
  refine V_aload_n C dX9_path_0 rfl ?_
  refine V_iload_n C dX9_path_1 rfl ?_
  refine V_xcallVUI C ht hD [.int v] mi_X9_207 pl_X9_207 (k_X9_needRouteThere w l v X R PP Z Th hB) dX9_path_2 sh_0 (by decide) rfl rfl rfl (Nat.le_of_ble_eq_true rfl) (Nat.le_of_ble_eq_true rfl) (Nat.le_of_ble_eq_true rfl) ⟨by decide, by decide⟩ ⟨by decide, by decide⟩ (fun E X1 h => ⟨h.1, h.2.1, h.2.2⟩) (fun X1 q1 => ?_)
  obtain ⟨hg1, eX1⟩ := q1; subst X1
  obtain ⟨a, ha, ea, hta⟩ := hg1
  subst ea
  refine V_aload_n C dX9_path_5 rfl ?_
  refine V_callVU C [] mi_X9_210 (k_X9_readVouchers w l X h n hO hG hn hh) dX9_path_6 sh_0 (by decide) rfl rfl rfl (Nat.le_of_ble_eq_true rfl) (Nat.le_of_ble_eq_true rfl) (Nat.le_of_ble_eq_true rfl) ⟨by decide, by decide⟩ (fun X2 q2 => ?_)
  obtain ⟨V2, hv2, pv2, nd2, eX2, hVo2⟩ := q2
  subst X2
  refine V_aload_n C dX9_path_9 rfl ?_
  refine V_getr C fl_X9_35 dX9_path_10 (by decide) sh_0 rfl ?_
  refine V_getr C fl_X9_213 dX9_path_13 (by decide) sh_20 rfl ?_
  refine V_iload_n C dX9_path_16 rfl ?_
  refine V_aaldN (o := a) (q := 23 + a) C dX9_path_17 sh_22 (by decide) (by omega) (by decide) rfl ?_
  refine V_astore_n (ls1 := [some (.ref (w.2.1 0)), some (.int (nI a)), some (.int up), some (.ref (w.2.1 (23 + a))), none]) C dX9_path_18 (by decide) rfl ?_
  refine V_aload_n C dX9_path_19 rfl ?_
  refine V_getr C fl_X9_35 dX9_path_20 (by decide) sh_0 rfl ?_
  refine V_getr C fl_X9_217 dX9_path_23 (by decide) sh_20 rfl ?_
  refine V_iload_n C dX9_path_26 rfl ?_
  refine V_ialdN (p0 := 47) (o := a) (v := X 47 a) C dX9_path_27 sh_47 (by decide) (by omega) (by decide) rfl ?_
  have hq3 : 1 ≤ Z a ∧ Z a ≤ 6 := ⟨(hB.2.2 a (by omega)).1, (hB.2.2 a (by omega)).2.1⟩
  refine V_eqi (y := nI (Z a)) ((hB.2.2 a (by omega)).2.2.1) ?_
  refine V_istore (ls1 := [some (.ref (w.2.1 0)), some (.int (nI a)), some (.int up), some (.ref (w.2.1 (23 + a))), some (.int (nI (Z a)))]) C dX9_path_28 (by decide) rfl ?_
  refine V_iload_n C dX9_path_30 rfl ?_
  refine V_if_eq (x := up) (tgt := 47) C dX9_path_31 (by decide) (fun h31_4 => ?_) (fun h31_4 => ?_)
  · refine V_aload_n C dX9_path_47 rfl ?_
    refine V_getr C fl_X9_51 dX9_path_48 (by decide) sh_0 rfl ?_
    refine V_aload_n C dX9_path_51 rfl ?_
    refine V_iload C dX9_path_52 rfl ?_
    refine V_callVI C [.ref (w.2.1 (23 + a)), .int (nI (Z a))] mi_X9_224 (k_X3_judgeDown w l (23 + a) (Z a) (ma (ma (ma X 18 V2) 64 pv2) 65 nd2) 6 (PP a) hv2 (sh_nets (by omega)) (by decide) (by omega) (fun j hj => ((RBc_ma (by decide) (RBc_ma (by decide) (RBc_ma (by decide) hB))).2.2 a (by omega)).2.2.2.1 j (by omega)) (by omega) (by rw [ma_ne (by decide), ma_eq]; exact VoR_inv hO (Nat.le_refl _) hVo2.2.1) (show ND hv2 pv2 nd2 from hVo2.2.2) (by omega)) dX9_path_54 sh_63 (by decide) rfl rfl rfl (Nat.le_of_ble_eq_true rfl) (Nat.le_of_ble_eq_true rfl) (Nat.le_of_ble_eq_true rfl) ⟨by decide, by decide⟩ (fun v5 X5 q5 => ?_)
    obtain ⟨hv5, eX5⟩ := q5; subst X5
    try simp (disch := decide) only [oC_ma, gC_ma, oM_ma, gM_ma, tC_ma, tM_ma, ma_eq, ma_ne] at hv5
    exact V_ireturnX C dX9_path_57 (by decide) (by decide) ⟨a, ⟨ha, rfl, hta⟩, V2, hv2, pv2, nd2, rfl, ⟨hVo2.1, hVo2.2.1⟩, by first | exact Or.inl ⟨by assumption, by assumption⟩ | exact Or.inr ⟨by assumption, by assumption⟩⟩
  · refine V_aload_n C dX9_path_34 rfl ?_
    refine V_getr C fl_X9_51 dX9_path_35 (by decide) sh_0 rfl ?_
    refine V_aload_n C dX9_path_38 rfl ?_
    refine V_iload C dX9_path_39 rfl ?_
    refine V_callVI C [.ref (w.2.1 (23 + a)), .int (nI (Z a))] mi_X9_220 (k_X3_judgeUp w l (23 + a) (Z a) (ma (ma (ma X 18 V2) 64 pv2) 65 nd2) 6 (PP a) hv2 (sh_nets (by omega)) (by decide) (by omega) (fun j hj => ((RBc_ma (by decide) (RBc_ma (by decide) (RBc_ma (by decide) hB))).2.2 a (by omega)).2.2.2.1 j (by omega)) (by omega) (by rw [ma_ne (by decide), ma_eq]; exact VoR_inv hO (Nat.le_refl _) hVo2.2.1) (show ND hv2 pv2 nd2 from hVo2.2.2) (by omega)) dX9_path_41 sh_63 (by decide) rfl rfl rfl (Nat.le_of_ble_eq_true rfl) (Nat.le_of_ble_eq_true rfl) (Nat.le_of_ble_eq_true rfl) ⟨by decide, by decide⟩ (fun v6 X6 q6 => ?_)
    obtain ⟨hv6, eX6⟩ := q6; subst X6
    try simp (disch := decide) only [oC_ma, gC_ma, oM_ma, gM_ma, tC_ma, tM_ma, ma_eq, ma_ne] at hv6
    refine V_goto (tgt := 57) C dX9_path_44 (by decide) ?_
    exact V_ireturnX C dX9_path_57 (by decide) (by decide) ⟨a, ⟨ha, rfl, hta⟩, V2, hv2, pv2, nd2, rfl, ⟨hVo2.1, hVo2.2.1⟩, by first | exact Or.inl ⟨by assumption, by assumption⟩ | exact Or.inr ⟨by assumption, by assumption⟩⟩
def q_X9_leak (v : Int32) (X : Mem) (R : Nat) (PP : Nat → Nat → Nat) (Z : Nat → Nat) (Th : Nat → Prop) : Int32 → Mem → Prop := fun r X' => ∃ a, (a < R ∧ v = nI a ∧ Th a) ∧ FirstR (LkAt (tC X) (PP a)) (PP a) 1 (Z a - 1) r ∧ X' = X
def r_X9_leak (v : Int32) (X : Mem) (R : Nat) (PP : Nat → Nat → Nat) (Z : Nat → Nat) (Th : Nat → Prop) : String → Mem → Prop := fun E X' => X' = X ∧ E = eIO ∧ ¬ IsRt R Th v
set_option maxHeartbeats 4000000 in
set_option maxRecDepth 100000 in
theorem k_X9_leak (w : Wt) (l : Launch) (v : Int32) (X : Mem) (R : Nat) (PP : Nat → Nat → Nat) (Z : Nat → Nat) (Th : Nat → Prop) (hB : RBc X R PP Z Th) : CtXI w l yX9_leak cX9_leak 4 (some .int) 7 103 1 [.ref (w.2.1 0), .int v] X (q_X9_leak v X R PP Z Th) (r_X9_leak v X R PP Z Th) := by
  have hR24 := hB.1
  refine CtXI_of (by decide +kernel) (Nat.le_of_ble_eq_true rfl) (List.forall_mem_cons.mpr ⟨rfl, (List.forall_mem_cons.mpr ⟨rfl, (fun _ h => nomatch h)⟩)⟩) (ls := [some (.ref (w.2.1 0)), some (.int v), none, none]) rfl (args := (#[.ref (w.2.1 0), .int v] : Array Value)) rfl (own := RX9) rfl ?_
  intro p e s m below meth c C ht hD
  refine V_aload_n C dX9_leak_0 rfl ?_
  refine V_iload_n C dX9_leak_1 rfl ?_
  refine V_xcallVUI C ht hD [.int v] mi_X9_207 pl_X9_207 (k_X9_needRouteThere w l v X R PP Z Th hB) dX9_leak_2 sh_0 (by decide) rfl rfl rfl (Nat.le_of_ble_eq_true rfl) (Nat.le_of_ble_eq_true rfl) (Nat.le_of_ble_eq_true rfl) ⟨by decide, by decide⟩ ⟨by decide, by decide⟩ (fun E X1 h => ⟨h.1, h.2.1, h.2.2⟩) (fun X1 q1 => ?_)
  obtain ⟨hg1, eX1⟩ := q1; subst X1
  obtain ⟨a, ha, ea, hta⟩ := hg1
  subst ea
  refine V_aload_n C dX9_leak_5 rfl ?_
  refine V_getr C fl_X9_35 dX9_leak_6 (by decide) sh_0 rfl ?_
  refine V_getr C fl_X9_213 dX9_leak_9 (by decide) sh_20 rfl ?_
  refine V_iload_n C dX9_leak_12 rfl ?_
  refine V_aaldN (o := a) (q := 23 + a) C dX9_leak_13 sh_22 (by decide) (by omega) (by decide) rfl ?_
  refine V_astore_n (ls1 := [some (.ref (w.2.1 0)), some (.int (nI a)), some (.ref (w.2.1 (23 + a))), none]) C dX9_leak_14 (by decide) rfl ?_
  refine V_iconst (v := (1 : Int32)) C dX9_leak_15 (by decide) ?_
  refine V_istore_n (ls1 := [some (.ref (w.2.1 0)), some (.int (nI a)), some (.ref (w.2.1 (23 + a))), some (.int (1 : Int32))]) C dX9_leak_16 (by decide) rfl ?_
  have L17 : ∀ (fu : Nat) (k : Nat), Z a - k < fu → (1 ≤ k) → (k ≤ Z a) → (∀ j, 1 ≤ j → j < k → ¬ LkAt (tC X) (PP a) j) → V p l e ({ frames := 7, cells := 1, slots := 6 * 1, locals := 103 } : Room) s m (#[.ref (w.2.1 0), .int (nI a)] : Array Value) below meth c w 4 1 6 (XI w below s (#[.ref (w.2.1 0), .int (nI a)] : Array Value) 1 (q_X9_leak (nI a) X R PP Z Th) (r_X9_leak (nI a) X R PP Z Th)) 17 [some (.ref (w.2.1 0)), some (.int (nI a)), some (.ref (w.2.1 (23 + a))), some (.int (nI k))] [] X := by
    intro fu
    induction fu with
    | zero => intro k hm; exact absurd hm (Nat.not_lt_zero _)
    | succ fu ih17 =>
      intro k hm17 h1 h2 hno
      refine V_iload_n C dX9_leak_17 rfl ?_
      refine V_aload_n C dX9_leak_18 rfl ?_
      refine V_getr C fl_X9_35 dX9_leak_19 (by decide) sh_0 rfl ?_
      refine V_getr C fl_X9_217 dX9_leak_22 (by decide) sh_20 rfl ?_
      refine V_iload_n C dX9_leak_25 rfl ?_
      refine V_ialdN (p0 := 47) (o := a) (v := X 47 a) C dX9_leak_26 sh_47 (by decide) (by omega) (by decide) rfl ?_
      have hq2 : 1 ≤ Z a ∧ Z a ≤ 6 := ⟨(hB.2.2 a (by omega)).1, (hB.2.2 a (by omega)).2.1⟩
      refine V_eqi (y := nI (Z a)) ((hB.2.2 a (by omega)).2.2.1) ?_
      refine V_iconst (v := (1 : Int32)) C dX9_leak_27 (by decide) ?_
      refine V_isubN (a := Z a) (b := 1) C dX9_leak_28 (by omega) ?_
      refine V_icmp_geN (a := k) (b := (Z a) - 1) (tgt := 65) C dX9_leak_29 (by decide) (by omega) (by omega) (fun h29_3 => ?_) (fun h29_3 => ?_)
      · refine V_iconst (v := (-1 : Int32)) C dX9_leak_65 (by decide) ?_
        exact V_ireturnX C dX9_leak_66 (by decide) (by decide) ⟨a, ⟨ha, rfl, hta⟩, Or.inr ⟨fun j g1 g2 => hno j g1 (by omega), rfl⟩, rfl⟩
      · refine V_aload_n C dX9_leak_32 rfl ?_
        refine V_getr C fl_X9_42 dX9_leak_33 (by decide) sh_0 rfl ?_
        refine V_aload_n C dX9_leak_36 rfl ?_
        refine V_iload_n C dX9_leak_37 rfl ?_
        refine V_iconst (v := (1 : Int32)) C dX9_leak_38 (by decide) ?_
        refine V_isubN (a := k) (b := 1) C dX9_leak_39 (by omega) ?_
        refine V_ialdN (p0 := 23 + a) (o := k - 1) (v := X (23 + a) (k - 1)) C dX9_leak_40 (sh_nets (by omega)) (by omega) (by omega) (by decide) rfl ?_
        have hq4 : PP a (k - 1) < 10 := ((hB.2.2 a (by omega)).2.2.2.1 (k - 1) (by omega)).2
        refine V_eqi (y := nI (PP a (k - 1))) (((hB.2.2 a (by omega)).2.2.2.1 (k - 1) (by omega)).1) ?_
        refine V_aload_n C dX9_leak_41 rfl ?_
        refine V_iload_n C dX9_leak_42 rfl ?_
        refine V_ialdN (p0 := 23 + a) (o := k) (v := X (23 + a) k) C dX9_leak_43 (sh_nets (by omega)) (by omega) (by omega) (by decide) rfl ?_
        have hq5 : PP a k < 10 := ((hB.2.2 a (by omega)).2.2.2.1 k (by omega)).2
        refine V_eqi (y := nI (PP a k)) (((hB.2.2 a (by omega)).2.2.2.1 k (by omega)).1) ?_
        refine V_aload_n C dX9_leak_44 rfl ?_
        refine V_iload_n C dX9_leak_45 rfl ?_
        refine V_iconst (v := (1 : Int32)) C dX9_leak_46 (by decide) ?_
        refine V_iaddN (a := k) (b := 1) C dX9_leak_47 ?_
        refine V_ialdN (p0 := 23 + a) (o := k + 1) (v := X (23 + a) (k + 1)) C dX9_leak_48 (sh_nets (by omega)) (by omega) (by omega) (by decide) rfl ?_
        have hq6 : PP a (k + 1) < 10 := ((hB.2.2 a (by omega)).2.2.2.1 (k + 1) (by omega)).2
        refine V_eqi (y := nI (PP a (k + 1))) (((hB.2.2 a (by omega)).2.2.2.1 (k + 1) (by omega)).1) ?_
        refine V_callVI C [.int (nI (PP a (k - 1))), .int (nI (PP a k)), .int (nI (PP a (k + 1)))] mi_X9_227 (k_X8_leaksAt w l (PP a (k - 1)) (PP a k) (PP a (k + 1)) X (by omega) (by omega) (by omega)) dX9_leak_49 sh_51 (by decide) rfl rfl rfl (Nat.le_of_ble_eq_true rfl) (Nat.le_of_ble_eq_true rfl) (Nat.le_of_ble_eq_true rfl) ⟨by decide, by decide⟩ (fun v7 X7 q7 => ?_)
        obtain ⟨hb7, eX7⟩ := q7; subst X7
        refine V_if_eqB (tgt := 59) C hb7 dX9_leak_52 (by decide) (fun h52_8 => ?_) (fun h52_8 => ?_)
        · refine V_iincN (a := k) (ls1 := [some (.ref (w.2.1 0)), some (.int (nI a)), some (.ref (w.2.1 (23 + a))), some (.int (nI (k + 1)))]) C dX9_leak_59 rfl (by decide) rfl ?_
          refine V_goto (tgt := 17) C dX9_leak_62 (by decide) ?_
          exact ih17 (k + 1) (by omega) (by omega) (by omega) (no_succ hno (by assumption))
        · refine V_aload_n C dX9_leak_55 rfl ?_
          refine V_iload_n C dX9_leak_56 rfl ?_
          refine V_ialdN (p0 := 23 + a) (o := k) (v := X (23 + a) k) C dX9_leak_57 (sh_nets (by omega)) (by omega) (by omega) (by decide) rfl ?_
          have hq9 : PP a k < 10 := ((hB.2.2 a (by omega)).2.2.2.1 k (by omega)).2
          refine V_eqi (y := nI (PP a k)) (((hB.2.2 a (by omega)).2.2.2.1 k (by omega)).1) ?_
          exact V_ireturnX C dX9_leak_58 (by decide) (by decide) ⟨a, ⟨ha, rfl, hta⟩, Or.inl ⟨k, h1, by omega, by assumption, hno, rfl⟩, rfl⟩
  exact L17 _ 1 (Nat.lt_succ_self _) (by omega) ((hB.2.2 a (by omega)).1) (fun j g1 g2 => absurd g1 (by omega))
def q_X9_stopped (v : Int32) (fl : Int32) (X : Mem) (h n : Nat) (R : Nat) (PP : Nat → Nat → Nat) (Z : Nat → Nat) (Th : Nat → Prop) : Int32 → Mem → Prop := fun r X' => ∃ a, (a < R ∧ v = nI a ∧ Th a) ∧ Btw fl 0 1023 ∧ ∃ F, F < 1024 ∧ fl = nI F ∧ ∃ V hv pv nd, X' = ma (ma (ma X 18 V) 64 pv) 65 nd ∧ (IsV (oC X) (gC X) n (X 1 0) V ∧ VoR (oC X) V n hv pv) ∧ FirstR (SpAt F (StR (oC X) V n (nI (PP a 0)) (X 48 a) (X 49 a) 2) (tC X) hv pv (PP a)) (PP a) 1 (Z a) r
def r_X9_stopped (v : Int32) (fl : Int32) (X : Mem) (h n : Nat) (R : Nat) (PP : Nat → Nat → Nat) (Z : Nat → Nat) (Th : Nat → Prop) : String → Mem → Prop := fun E X' => X' = X ∧ Flt2 eIO eIA (IsRt R Th v) (Btw fl 0 1023) E
set_option maxHeartbeats 4000000 in
set_option maxRecDepth 100000 in
theorem k_X9_stopped (w : Wt) (l : Launch) (v : Int32) (fl : Int32) (X : Mem) (h n : Nat) (R : Nat) (PP : Nat → Nat → Nat) (Z : Nat → Nat) (Th : Nat → Prop) (hO : OInv (oC X) h n) (hG : GInv (gC X) h) (hn : X 6 0 = nI n) (hh : X 1 1 = nI h) (hB : RBc X R PP Z Th) : CtXI w l yX9_stopped cX9_stopped 6 (some .int) 8 180 2 [.ref (w.2.1 0), .int v, .int fl] X (q_X9_stopped v fl X h n R PP Z Th) (r_X9_stopped v fl X h n R PP Z Th) := by
  have n50 := hO.1
  have h1 := hG.1
  have h8 := hG.2.1
  have hR24 := hB.1
  refine CtXI_of (by decide +kernel) (Nat.le_of_ble_eq_true rfl) (List.forall_mem_cons.mpr ⟨rfl, (List.forall_mem_cons.mpr ⟨rfl, (List.forall_mem_cons.mpr ⟨rfl, (fun _ h => nomatch h)⟩)⟩)⟩) (ls := [some (.ref (w.2.1 0)), some (.int v), some (.int fl), none, none, none]) rfl (args := (#[.ref (w.2.1 0), .int v, .int fl] : Array Value)) rfl (own := RX9) rfl ?_
  intro p e s m below meth c C ht hD
  refine V_aload_n C dX9_stopped_0 rfl ?_
  refine V_iload_n C dX9_stopped_1 rfl ?_
  refine V_xcallVUI C ht hD [.int v] mi_X9_207 pl_X9_207 (k_X9_needRouteThere w l v X R PP Z Th hB) dX9_stopped_2 sh_0 (by decide) rfl rfl rfl (Nat.le_of_ble_eq_true rfl) (Nat.le_of_ble_eq_true rfl) (Nat.le_of_ble_eq_true rfl) ⟨by decide, by decide⟩ ⟨by decide, by decide⟩ (fun E X1 h => ⟨h.1, Or.inl ⟨h.2.1, h.2.2⟩⟩) (fun X1 q1 => ?_)
  obtain ⟨hg1, eX1⟩ := q1; subst X1
  obtain ⟨a, ha, ea, hta⟩ := hg1
  subst ea
  refine V_iload_n C dX9_stopped_5 rfl ?_
  refine V_iconst (v := (0 : Int32)) C dX9_stopped_6 (by decide) ?_
  refine V_sipush (v := (1023 : Int32)) C dX9_stopped_7 (by decide) ?_
  refine V_xcallSUI C ht hD [.int fl, .int (0 : Int32), .int (1023 : Int32)] ms_X9_104 pl_X9_104 (k_X9_needRange w l fl (0 : Int32) (1023 : Int32) X ) dX9_stopped_10 rfl rfl (Nat.le_of_ble_eq_true rfl) (Nat.le_of_ble_eq_true rfl) (Nat.le_of_ble_eq_true rfl) ⟨by decide, by decide⟩ ⟨by decide, by decide⟩ (fun E X1 h => ⟨h.1, Or.inr ⟨h.2.1, ⟨a, ha, rfl, hta⟩, h.2.2⟩⟩) (fun X2 q2 => ?_)
  obtain ⟨hg2, eX2⟩ := q2; subst X2
  obtain ⟨F, hF, eF⟩ := Btw_of (n := 1023) (by decide) hg2
  subst eF
  have hZa := (hB.2.2 a (by omega)).1
  refine V_aload_n C dX9_stopped_13 rfl ?_
  refine V_callVU C [] mi_X9_210 (k_X9_readVouchers w l X h n hO hG hn hh) dX9_stopped_14 sh_0 (by decide) rfl rfl rfl (Nat.le_of_ble_eq_true rfl) (Nat.le_of_ble_eq_true rfl) (Nat.le_of_ble_eq_true rfl) ⟨by decide, by decide⟩ (fun X3 q3 => ?_)
  obtain ⟨V3, hv3, pv3, nd3, eX3, hVo3⟩ := q3
  subst X3
  refine V_aload_n C dX9_stopped_17 rfl ?_
  refine V_getr C fl_X9_35 dX9_stopped_18 (by decide) sh_0 rfl ?_
  refine V_getr C fl_X9_213 dX9_stopped_21 (by decide) sh_20 rfl ?_
  refine V_iload_n C dX9_stopped_24 rfl ?_
  refine V_aaldN (o := a) (q := 23 + a) C dX9_stopped_25 sh_22 (by decide) (by omega) (by decide) rfl ?_
  refine V_astore_n (ls1 := [some (.ref (w.2.1 0)), some (.int (nI a)), some (.int (nI F)), some (.ref (w.2.1 (23 + a))), none, none]) C dX9_stopped_26 (by decide) rfl ?_
  refine V_aload_n C dX9_stopped_27 rfl ?_
  refine V_getr C fl_X9_28 dX9_stopped_28 (by decide) sh_0 rfl ?_
  refine V_aload_n C dX9_stopped_31 rfl ?_
  refine V_iconst (v := (0 : Int32)) C dX9_stopped_32 (by decide) ?_
  refine V_ialdN (p0 := 23 + a) (o := 0) (v := X (23 + a) 0) C dX9_stopped_33 (sh_nets (by omega)) (by omega) (by omega) (by decide) (by rw [ma_ne (show 23 + a ≠ 65 by omega), ma_ne (show 23 + a ≠ 64 by omega), ma_ne (show 23 + a ≠ 18 by omega)]) ?_
  have hq4 : PP a 0 < 10 := ((hB.2.2 a (by omega)).2.2.2.1 0 (by omega)).2
  refine V_eqi (y := nI (PP a 0)) (((hB.2.2 a (by omega)).2.2.2.1 0 (by omega)).1) ?_
  refine V_aload_n C dX9_stopped_34 rfl ?_
  refine V_getr C fl_X9_35 dX9_stopped_35 (by decide) sh_0 rfl ?_
  refine V_getr C fl_X9_230 dX9_stopped_38 (by decide) sh_20 rfl ?_
  refine V_iload_n C dX9_stopped_41 rfl ?_
  refine V_ialdN (p0 := 48) (o := a) (v := X 48 a) C dX9_stopped_42 sh_48 (by decide) (by omega) (by decide) rfl ?_
  refine V_aload_n C dX9_stopped_43 rfl ?_
  refine V_getr C fl_X9_35 dX9_stopped_44 (by decide) sh_0 rfl ?_
  refine V_getr C fl_X9_233 dX9_stopped_47 (by decide) sh_20 rfl ?_
  refine V_iload_n C dX9_stopped_50 rfl ?_
  refine V_ialdN (p0 := 49) (o := a) (v := X 49 a) C dX9_stopped_51 sh_49 (by decide) (by omega) (by decide) rfl ?_
  refine V_callVI C [.int (nI (PP a 0)), .int (X 48 a), .int (X 49 a)] mi_X9_203 (k_X2_originState w l (nI (PP a 0)) (X 48 a) (X 49 a) (ma (ma (ma X 18 V3) 64 pv3) 65 nd3) n hn n50) dX9_stopped_52 sh_17 (by decide) rfl rfl rfl (Nat.le_of_ble_eq_true rfl) (Nat.le_of_ble_eq_true rfl) (Nat.le_of_ble_eq_true rfl) ⟨by decide, by decide⟩ (fun v5 X5 q5 => ?_)
  obtain ⟨hv5, eX5⟩ := q5; subst X5
  try simp (disch := decide) only [oC_ma, gC_ma, oM_ma, gM_ma, tC_ma, tM_ma, ma_eq, ma_ne] at hv5
  have L69 : ∀ (fu : Nat) (k : Nat) (bd : Int32), Z a - k < fu → (1 ≤ k) → (k ≤ Z a) → (bI (StR (oC X) V3 n (nI (PP a 0)) (X 48 a) (X 49 a) 2) bd) → (∀ j, 1 ≤ j → j < k → ¬ SpAt F (StR (oC X) V3 n (nI (PP a 0)) (X 48 a) (X 49 a) 2) (tC X) hv3 pv3 (PP a) j) → V p l e ({ frames := 8, cells := 2, slots := 6 * 2, locals := 180 } : Room) s m (#[.ref (w.2.1 0), .int (nI a), .int (nI F)] : Array Value) below meth c w 6 2 12 (XI w below s (#[.ref (w.2.1 0), .int (nI a), .int (nI F)] : Array Value) 2 (q_X9_stopped (nI a) (nI F) X h n R PP Z Th) (r_X9_stopped (nI a) (nI F) X h n R PP Z Th)) 69 [some (.ref (w.2.1 0)), some (.int (nI a)), some (.int (nI F)), some (.ref (w.2.1 (23 + a))), some (.int bd), some (.int (nI k))] [] (ma (ma (ma X 18 V3) 64 pv3) 65 nd3) := by
    intro fu
    induction fu with
    | zero => intro k bd hm; exact absurd hm (Nat.not_lt_zero _)
    | succ fu ih69 =>
      intro k bd hm69 h1 h2 hb hno
      refine V_iload C dX9_stopped_69 rfl ?_
      refine V_aload_n C dX9_stopped_71 rfl ?_
      refine V_getr C fl_X9_35 dX9_stopped_72 (by decide) sh_0 rfl ?_
      refine V_getr C fl_X9_217 dX9_stopped_75 (by decide) sh_20 rfl ?_
      refine V_iload_n C dX9_stopped_78 rfl ?_
      refine V_ialdN (p0 := 47) (o := a) (v := X 47 a) C dX9_stopped_79 sh_47 (by decide) (by omega) (by decide) rfl ?_
      have hq6 : 1 ≤ Z a ∧ Z a ≤ 6 := ⟨(hB.2.2 a (by omega)).1, (hB.2.2 a (by omega)).2.1⟩
      refine V_eqi (y := nI (Z a)) ((hB.2.2 a (by omega)).2.2.1) ?_
      refine V_icmp_geN (a := k) (b := Z a) (tgt := 123) C dX9_stopped_80 (by decide) (by omega) (by omega) (fun h80_7 => ?_) (fun h80_7 => ?_)
      · refine V_iconst (v := (-1 : Int32)) C dX9_stopped_123 (by decide) ?_
        exact V_ireturnX C dX9_stopped_124 (by decide) (by decide) ⟨a, ⟨ha, rfl, hta⟩, hg2, F, hF, rfl, V3, hv3, pv3, nd3, rfl, ⟨hVo3.1, hVo3.2.1⟩, Or.inr ⟨fun j g1 g2 => hno j g1 (by omega), rfl⟩⟩
      · refine V_iload_n C dX9_stopped_83 rfl ?_
        refine V_aload_n C dX9_stopped_84 rfl ?_
        refine V_iload C dX9_stopped_85 rfl ?_
        refine V_ialdN (p0 := 23 + a) (o := k) (v := X (23 + a) k) C dX9_stopped_87 (sh_nets (by omega)) (by omega) (by omega) (by decide) (by rw [ma_ne (show 23 + a ≠ 65 by omega), ma_ne (show 23 + a ≠ 64 by omega), ma_ne (show 23 + a ≠ 18 by omega)]) ?_
        have hq8 : PP a k < 10 := ((hB.2.2 a (by omega)).2.2.2.1 k (by omega)).2
        refine V_eqi (y := nI (PP a k)) (((hB.2.2 a (by omega)).2.2.2.1 k (by omega)).1) ?_
        refine V_callSI C [.int (nI F), .int (nI (PP a k))] ms_X9_236 (k_X9_isIn w l F (PP a k) (ma (ma (ma X 18 V3) 64 pv3) 65 nd3) (by omega) (by omega)) dX9_stopped_88 rfl rfl (Nat.le_of_ble_eq_true rfl) (Nat.le_of_ble_eq_true rfl) (Nat.le_of_ble_eq_true rfl) ⟨by decide, by decide⟩ (fun v9 X9 q9 => ?_)
        obtain ⟨hb9, eX9⟩ := q9; subst X9
        try simp (disch := decide) only [oC_ma, gC_ma, oM_ma, gM_ma, tC_ma, tM_ma, ma_eq, ma_ne] at hb9
        refine V_if_eqB (tgt := 117) C hb9 dX9_stopped_91 (by decide) (fun h91_10 => ?_) (fun h91_10 => ?_)
        · refine V_iincN (a := k) (ls1 := [some (.ref (w.2.1 0)), some (.int (nI a)), some (.int (nI F)), some (.ref (w.2.1 (23 + a))), some (.int bd), some (.int (nI (k + 1)))]) C dX9_stopped_117 rfl (by decide) rfl ?_
          refine V_goto (tgt := 69) C dX9_stopped_120 (by decide) ?_
          exact ih69 (k + 1) bd (by omega) (by omega) (by omega) (by omega) (no_succ hno (by first | exact fun q => absurd q.1 (by assumption) | exact fun q => q.2.elim (by assumption) (by assumption)))
        · refine V_iload C dX9_stopped_94 rfl ?_
          refine V_if_neB (tgt := 112) C hb dX9_stopped_96 (by decide) (fun h96_11 => ?_) (fun h96_11 => ?_)
          · refine V_aload_n C dX9_stopped_112 rfl ?_
            refine V_iload C dX9_stopped_113 rfl ?_
            refine V_ialdN (p0 := 23 + a) (o := k) (v := X (23 + a) k) C dX9_stopped_115 (sh_nets (by omega)) (by omega) (by omega) (by decide) (by rw [ma_ne (show 23 + a ≠ 65 by omega), ma_ne (show 23 + a ≠ 64 by omega), ma_ne (show 23 + a ≠ 18 by omega)]) ?_
            have hq12 : PP a k < 10 := ((hB.2.2 a (by omega)).2.2.2.1 k (by omega)).2
            refine V_eqi (y := nI (PP a k)) (((hB.2.2 a (by omega)).2.2.2.1 k (by omega)).1) ?_
            exact V_ireturnX C dX9_stopped_116 (by decide) (by decide) ⟨a, ⟨ha, rfl, hta⟩, hg2, F, hF, rfl, V3, hv3, pv3, nd3, rfl, ⟨hVo3.1, hVo3.2.1⟩, Or.inl ⟨k, h1, by omega, ⟨by assumption, by first | exact Or.inl (by assumption) | exact Or.inr (by assumption)⟩, hno, rfl⟩⟩
          · refine V_aload_n C dX9_stopped_99 rfl ?_
            refine V_getr C fl_X9_51 dX9_stopped_100 (by decide) sh_0 rfl ?_
            refine V_aload_n C dX9_stopped_103 rfl ?_
            refine V_iload C dX9_stopped_104 rfl ?_
            refine V_callVI C [.ref (w.2.1 (23 + a)), .int (nI k)] mi_X9_240 (k_X3_isRefusedAt w l (23 + a) k (ma (ma (ma X 18 V3) 64 pv3) 65 nd3) 6 (PP a) hv3 (sh_nets (by omega)) (by decide) (by omega) (fun j hj => ((RBc_ma (by decide) (RBc_ma (by decide) (RBc_ma (by decide) hB))).2.2 a (by omega)).2.2.2.1 j (by omega)) (by omega) (by rw [ma_ne (by decide), ma_eq]; exact VoR_inv hO (Nat.le_refl _) hVo3.2.1) (show ND hv3 pv3 nd3 from hVo3.2.2) (by omega)) dX9_stopped_106 sh_63 (by decide) rfl rfl rfl (Nat.le_of_ble_eq_true rfl) (Nat.le_of_ble_eq_true rfl) (Nat.le_of_ble_eq_true rfl) ⟨by decide, by decide⟩ (fun v13 X13 q13 => ?_)
            obtain ⟨hb13, eX13⟩ := q13; subst X13
            try simp (disch := decide) only [oC_ma, gC_ma, oM_ma, gM_ma, tC_ma, tM_ma, ma_eq, ma_ne] at hb13
            refine V_if_eqB (tgt := 117) C hb13 dX9_stopped_109 (by decide) (fun h109_14 => ?_) (fun h109_14 => ?_)
            · refine V_iincN (a := k) (ls1 := [some (.ref (w.2.1 0)), some (.int (nI a)), some (.int (nI F)), some (.ref (w.2.1 (23 + a))), some (.int bd), some (.int (nI (k + 1)))]) C dX9_stopped_117 rfl (by decide) rfl ?_
              refine V_goto (tgt := 69) C dX9_stopped_120 (by decide) ?_
              exact ih69 (k + 1) bd (by omega) (by omega) (by omega) (by omega) (no_succ hno (by first | exact fun q => absurd q.1 (by assumption) | exact fun q => q.2.elim (by assumption) (by assumption)))
            · refine V_aload_n C dX9_stopped_112 rfl ?_
              refine V_iload C dX9_stopped_113 rfl ?_
              refine V_ialdN (p0 := 23 + a) (o := k) (v := X (23 + a) k) C dX9_stopped_115 (sh_nets (by omega)) (by omega) (by omega) (by decide) (by rw [ma_ne (show 23 + a ≠ 65 by omega), ma_ne (show 23 + a ≠ 64 by omega), ma_ne (show 23 + a ≠ 18 by omega)]) ?_
              have hq15 : PP a k < 10 := ((hB.2.2 a (by omega)).2.2.2.1 k (by omega)).2
              refine V_eqi (y := nI (PP a k)) (((hB.2.2 a (by omega)).2.2.2.1 k (by omega)).1) ?_
              exact V_ireturnX C dX9_stopped_116 (by decide) (by decide) ⟨a, ⟨ha, rfl, hta⟩, hg2, F, hF, rfl, V3, hv3, pv3, nd3, rfl, ⟨hVo3.1, hVo3.2.1⟩, Or.inl ⟨k, h1, by omega, ⟨by assumption, by first | exact Or.inl (by assumption) | exact Or.inr (by assumption)⟩, hno, rfl⟩⟩
  refine V_iconst (v := (2 : Int32)) C dX9_stopped_55 (by decide) ?_
  refine V_icmp_ne (x := v5) (y := (2 : Int32)) (tgt := 63) C dX9_stopped_56 (by decide) (fun h56_16 => ?_) (fun h56_16 => ?_)
  · refine V_iconst (v := (0 : Int32)) C dX9_stopped_63 (by decide) ?_
    refine V_istore (ls1 := [some (.ref (w.2.1 0)), some (.int (nI a)), some (.int (nI F)), some (.ref (w.2.1 (23 + a))), some (.int (0 : Int32)), none]) C dX9_stopped_64 (by decide) rfl ?_
    refine V_iconst (v := (1 : Int32)) C dX9_stopped_66 (by decide) ?_
    refine V_istore (ls1 := [some (.ref (w.2.1 0)), some (.int (nI a)), some (.int (nI F)), some (.ref (w.2.1 (23 + a))), some (.int (0 : Int32)), some (.int (1 : Int32))]) C dX9_stopped_67 (by decide) rfl ?_
    exact L69 _ 1 (0 : Int32) (Nat.lt_succ_self _) (by omega) ((hB.2.2 a (by omega)).1) (bI.f (fun q => absurd (StR_one (fun _ _ => rfl) hv5 q) (by assumption))) (fun j g1 g2 => absurd g1 (by omega))
  · refine V_iconst (v := (1 : Int32)) C dX9_stopped_59 (by decide) ?_
    refine V_goto (tgt := 64) C dX9_stopped_60 (by decide) ?_
    refine V_istore (ls1 := [some (.ref (w.2.1 0)), some (.int (nI a)), some (.int (nI F)), some (.ref (w.2.1 (23 + a))), some (.int (1 : Int32)), none]) C dX9_stopped_64 (by decide) rfl ?_
    refine V_iconst (v := (1 : Int32)) C dX9_stopped_66 (by decide) ?_
    refine V_istore (ls1 := [some (.ref (w.2.1 0)), some (.int (nI a)), some (.int (nI F)), some (.ref (w.2.1 (23 + a))), some (.int (1 : Int32)), some (.int (1 : Int32))]) C dX9_stopped_67 (by decide) rfl ?_
    exact L69 _ 1 (1 : Int32) (Nat.lt_succ_self _) (by omega) ((hB.2.2 a (by omega)).1) (bI.t ((by assumption : v5 = 2) ▸ hv5)) (fun j g1 g2 => absurd g1 (by omega))
def q_X9_allowed (u : Int32) (v : Int32) (X : Mem) : Int32 → Mem → Prop := fun r X' => (Btw u 0 9 ∧ Btw v 0 9) ∧ ∃ a b, (a < 10 ∧ b < 10 ∧ u = nI a ∧ v = nI b) ∧ ∃ T, X' = ma X 67 T ∧ ((a = b ∧ r = 0) ∨ (a ≠ b ∧ r = nI (tot (wTo (tC X) b) 4 (fun _ => a) 1)))
def r_X9_allowed (u : Int32) (v : Int32) (X : Mem) : String → Mem → Prop := fun E X' => X' = X ∧ E = eIO ∧ ¬ (Btw u 0 9 ∧ Btw v 0 9)
set_option maxHeartbeats 4000000 in
set_option maxRecDepth 100000 in
theorem k_X9_allowed (w : Wt) (l : Launch) (u : Int32) (v : Int32) (X : Mem) : CtXI w l yX9_allowed cX9_allowed 3 (some .int) 19 562 2 [.ref (w.2.1 0), .int u, .int v] X (q_X9_allowed u v X) (r_X9_allowed u v X) := by
  refine CtXI_of (by decide +kernel) (Nat.le_of_ble_eq_true rfl) (List.forall_mem_cons.mpr ⟨rfl, (List.forall_mem_cons.mpr ⟨rfl, (List.forall_mem_cons.mpr ⟨rfl, (fun _ h => nomatch h)⟩)⟩)⟩) (ls := [some (.ref (w.2.1 0)), some (.int u), some (.int v)]) rfl (args := (#[.ref (w.2.1 0), .int u, .int v] : Array Value)) rfl (own := RX9) rfl ?_
  intro p e s m below meth c C ht hD
  refine V_iload_n C dX9_allowed_0 rfl ?_
  refine V_xcallSUI C ht hD [.int u] ms_X9_92 pl_X9_92 (k_X9_needNet w l u X ) dX9_allowed_1 rfl rfl (Nat.le_of_ble_eq_true rfl) (Nat.le_of_ble_eq_true rfl) (Nat.le_of_ble_eq_true rfl) ⟨by decide, by decide⟩ ⟨by decide, by decide⟩ (fun E X1 h => ⟨h.1, h.2.1, fun q => h.2.2 q.1⟩) (fun X1 q1 => ?_)
  obtain ⟨hg1, eX1⟩ := q1; subst X1
  refine V_iload_n C dX9_allowed_4 rfl ?_
  refine V_xcallSUI C ht hD [.int v] ms_X9_92 pl_X9_92 (k_X9_needNet w l v X ) dX9_allowed_5 rfl rfl (Nat.le_of_ble_eq_true rfl) (Nat.le_of_ble_eq_true rfl) (Nat.le_of_ble_eq_true rfl) ⟨by decide, by decide⟩ ⟨by decide, by decide⟩ (fun E X1 h => ⟨h.1, h.2.1, fun q => h.2.2 q.2⟩) (fun X2 q2 => ?_)
  obtain ⟨hg2, eX2⟩ := q2; subst X2
  obtain ⟨a, ha, ea⟩ := net_at hg1
  subst u
  obtain ⟨b, hb, eb⟩ := net_at hg2
  subst v
  refine V_iload_n C dX9_allowed_8 rfl ?_
  refine V_iload_n C dX9_allowed_9 rfl ?_
  refine V_icmp_neN (a := a) (b := b) (tgt := 17) C dX9_allowed_10 (by decide) (by omega) (by omega) (fun h10_3 => ?_) (fun h10_3 => ?_)
  · refine V_aload_n C dX9_allowed_17 rfl ?_
    refine V_getr C fl_X9_60 dX9_allowed_18 (by decide) sh_0 rfl ?_
    refine V_iload_n C dX9_allowed_21 rfl ?_
    refine V_iload_n C dX9_allowed_22 rfl ?_
    refine V_callVI C [.int (nI a), .int (nI b)] mi_X9_244 (k_X0_countTo w l a b X (by omega) (by omega)) dX9_allowed_23 sh_66 (by decide) rfl rfl rfl (Nat.le_of_ble_eq_true rfl) (show ((18)) + 1 ≤ 19 from by omega) (show 8 + (3 + 11) + ((540)) ≤ 562 from by omega) ⟨by decide, by decide⟩ (fun v4 X4 q4 => ?_)
    obtain ⟨T4, eX4, ev4⟩ := q4; subst X4; subst v4
    exact V_ireturnX C dX9_allowed_26 (by decide) (by decide) ⟨⟨hg1, hg2⟩, a, b, ⟨by omega, by omega, rfl, rfl⟩, T4, rfl, Or.inr ⟨by omega, rfl⟩⟩
  · refine V_iconst (v := (0 : Int32)) C dX9_allowed_13 (by decide) ?_
    refine V_goto (tgt := 26) C dX9_allowed_14 (by decide) ?_
    exact V_ireturnX C dX9_allowed_26 (by decide) (by decide) ⟨⟨hg1, hg2⟩, a, b, ⟨by omega, by omega, rfl, rfl⟩, X 67, (ma_self X 67).symm, Or.inl ⟨by omega, rfl⟩⟩
def q_X9_falseAlarms (X : Mem) (h n : Nat) : Int32 → Mem → Prop := fun r X' => ∃ V hv pv nd T, X' = ma (ma (ma (ma X 18 V) 64 pv) 65 nd) 67 T ∧ (IsV (oC X) (gC X) n (X 1 0) V ∧ VoR (oC X) V n hv pv) ∧ r = nI (sumN (fun f => tot (wRf (tC X) hv pv) 4 (fun _ => f) 1) 10)
set_option maxHeartbeats 4000000 in
set_option maxRecDepth 100000 in
theorem k_X9_falseAlarms (w : Wt) (l : Launch) (X : Mem) (h n : Nat) (hO : OInv (oC X) h n) (hG : GInv (gC X) h) (hn : X 6 0 = nI n) (hh : X 1 1 = nI h) : CtI w l yX9_falseAlarms cX9_falseAlarms 1 (some .int) 19 562 [.ref (w.2.1 0)] X (q_X9_falseAlarms X h n) := by
  have n50 := hO.1
  have h1 := hG.1
  have h8 := hG.2.1
  refine CtI_of (by decide +kernel) (Nat.le_of_ble_eq_true rfl) (List.forall_mem_cons.mpr ⟨rfl, (fun _ h => nomatch h)⟩) (ls := [some (.ref (w.2.1 0))]) rfl (args := (#[.ref (w.2.1 0)] : Array Value)) rfl (own := RX9) rfl ?_
  intro p e s m below meth c C
  refine V_aload_n C dX9_falseAlarms_0 rfl ?_
  refine V_callVU C [] mi_X9_210 (k_X9_readVouchers w l X h n hO hG hn hh) dX9_falseAlarms_1 sh_0 (by decide) rfl rfl rfl (Nat.le_of_ble_eq_true rfl) (Nat.le_of_ble_eq_true rfl) (Nat.le_of_ble_eq_true rfl) ⟨Nat.le_refl _, Nat.le_refl _⟩ (fun X1 q1 => ?_)
  obtain ⟨V1, hv1, pv1, nd1, eX1, hVo1⟩ := q1
  subst X1
  refine V_aload_n C dX9_falseAlarms_4 rfl ?_
  refine V_getr C fl_X9_60 dX9_falseAlarms_5 (by decide) sh_0 rfl ?_
  refine V_callVI C [] mi_X9_247 (k_X0_countRefused w l (ma (ma (ma X 18 V1) 64 pv1) 65 nd1) hv1 (by rw [ma_ne (by decide), ma_eq]; exact VoR_inv hO (Nat.le_refl _) hVo1.2.1) (show ND hv1 pv1 nd1 from hVo1.2.2)) dX9_falseAlarms_8 sh_66 (by decide) rfl rfl rfl (Nat.le_of_ble_eq_true rfl) (show ((18)) + 1 ≤ 19 from by omega) (show 8 + (3 + 11) + ((540)) ≤ 562 from by omega) ⟨Nat.le_refl _, Nat.le_refl _⟩ (fun v2 X2 q2 => ?_)
  obtain ⟨T2, eX2, ev2⟩ := q2; subst X2
  try simp (disch := decide) only [oC_ma, gC_ma, oM_ma, gM_ma, tC_ma, tM_ma, ma_eq, ma_ne] at ev2
  subst v2
  exact V_ireturnI C dX9_falseAlarms_11 ⟨V1, hv1, pv1, nd1, T2, rfl, ⟨hVo1.1, hVo1.2.1⟩, rfl⟩
def q_X9_clique (X : Mem) (R : Nat) (PP : Nat → Nat → Nat) (Z : Nat → Nat) (Th : Nat → Prop) : Int32 → Mem → Prop := fun r X' => OutI X X' ∧ r = nI (KF R PP Z Th)
set_option maxHeartbeats 4000000 in
set_option maxRecDepth 100000 in
theorem k_X9_clique (w : Wt) (l : Launch) (X : Mem) (R : Nat) (PP : Nat → Nat → Nat) (Z : Nat → Nat) (Th : Nat → Prop) (hB : RBc X R PP Z Th) : CtI w l yX9_clique cX9_clique 1 (some .int) 7 158 [.ref (w.2.1 0)] X (q_X9_clique X R PP Z Th) := by
  have hR24 := hB.1
  refine CtI_of (by decide +kernel) (Nat.le_of_ble_eq_true rfl) (List.forall_mem_cons.mpr ⟨rfl, (fun _ h => nomatch h)⟩) (ls := [some (.ref (w.2.1 0))]) rfl (args := (#[.ref (w.2.1 0)] : Array Value)) rfl (own := RX9) rfl ?_
  intro p e s m below meth c C
  refine V_aload_n C dX9_clique_0 rfl ?_
  refine V_getr C fl_X9_69 dX9_clique_1 (by decide) sh_0 rfl ?_
  refine V_callVU C [] mi_X9_251 (k_X5_infer w l X R PP Z Th hB) dX9_clique_4 sh_68 (by decide) rfl rfl rfl (Nat.le_of_ble_eq_true rfl) (Nat.le_of_ble_eq_true rfl) (Nat.le_of_ble_eq_true rfl) ⟨Nat.le_refl _, Nat.le_refl _⟩ (fun X1 q1 => ?_)
  obtain ⟨hO1, hI1⟩ := q1
  refine V_aload_n C dX9_clique_7 rfl ?_
  refine V_getr C fl_X9_69 dX9_clique_8 (by decide) sh_0 rfl ?_
  refine V_geti C fl_X9_254 dX9_clique_11 (by decide) sh_68 rfl ?_
  refine V_eqi (y := nI (KF R PP Z Th)) hI1.2.1 ?_
  exact V_ireturnI C dX9_clique_14 ⟨hO1, rfl⟩
def q_X9_inferred (u : Int32) (v : Int32) (rn : Int32) (X : Mem) (R : Nat) (PP : Nat → Nat → Nat) (Z : Nat → Nat) (Th : Nat → Prop) : Int32 → Mem → Prop := fun r X' => (Btw u 0 9 ∧ Btw v 0 9 ∧ Btw rn 0 2) ∧ ∃ a b c, (a < 10 ∧ b < 10 ∧ c < 3 ∧ u = nI a ∧ v = nI b ∧ rn = nI c) ∧ OutI X X' ∧ BetR (Nb R PP Z Th) (CuF R PP Z Th c) a b r
def r_X9_inferred (u : Int32) (v : Int32) (rn : Int32) (X : Mem) (R : Nat) (PP : Nat → Nat → Nat) (Z : Nat → Nat) (Th : Nat → Prop) : String → Mem → Prop := fun E X' => X' = X ∧ E = eIO ∧ ¬ (Btw u 0 9 ∧ Btw v 0 9 ∧ Btw rn 0 2)
set_option maxHeartbeats 4000000 in
set_option maxRecDepth 100000 in
theorem k_X9_inferred (w : Wt) (l : Launch) (u : Int32) (v : Int32) (rn : Int32) (X : Mem) (R : Nat) (PP : Nat → Nat → Nat) (Z : Nat → Nat) (Th : Nat → Prop) (hB : RBc X R PP Z Th) : CtXI w l yX9_inferred cX9_inferred 4 (some .int) 7 158 3 [.ref (w.2.1 0), .int u, .int v, .int rn] X (q_X9_inferred u v rn X R PP Z Th) (r_X9_inferred u v rn X R PP Z Th) := by
  have hR24 := hB.1
  refine CtXI_of (by decide +kernel) (Nat.le_of_ble_eq_true rfl) (List.forall_mem_cons.mpr ⟨rfl, (List.forall_mem_cons.mpr ⟨rfl, (List.forall_mem_cons.mpr ⟨rfl, (List.forall_mem_cons.mpr ⟨rfl, (fun _ h => nomatch h)⟩)⟩)⟩)⟩) (ls := [some (.ref (w.2.1 0)), some (.int u), some (.int v), some (.int rn)]) rfl (args := (#[.ref (w.2.1 0), .int u, .int v, .int rn] : Array Value)) rfl (own := RX9) rfl ?_
  intro p e s m below meth c C ht hD
  refine V_iload_n C dX9_inferred_0 rfl ?_
  refine V_xcallSUI C ht hD [.int u] ms_X9_92 pl_X9_92 (k_X9_needNet w l u X ) dX9_inferred_1 rfl rfl (Nat.le_of_ble_eq_true rfl) (Nat.le_of_ble_eq_true rfl) (Nat.le_of_ble_eq_true rfl) ⟨by decide, by decide⟩ ⟨by decide, by decide⟩ (fun E X1 h => ⟨h.1, h.2.1, fun q => h.2.2 q.1⟩) (fun X1 q1 => ?_)
  obtain ⟨hg1, eX1⟩ := q1; subst X1
  refine V_iload_n C dX9_inferred_4 rfl ?_
  refine V_xcallSUI C ht hD [.int v] ms_X9_92 pl_X9_92 (k_X9_needNet w l v X ) dX9_inferred_5 rfl rfl (Nat.le_of_ble_eq_true rfl) (Nat.le_of_ble_eq_true rfl) (Nat.le_of_ble_eq_true rfl) ⟨by decide, by decide⟩ ⟨by decide, by decide⟩ (fun E X1 h => ⟨h.1, h.2.1, fun q => h.2.2 q.2.1⟩) (fun X2 q2 => ?_)
  obtain ⟨hg2, eX2⟩ := q2; subst X2
  refine V_iload_n C dX9_inferred_8 rfl ?_
  refine V_if_lt (x := rn) (tgt := 17) C dX9_inferred_9 (by decide) (fun h9_3 => ?_) (fun h9_3 => ?_)
  · exact V_throwW C ht hD tw_165 (List.mem_of_getElem? (i := 9) rfl) (by decide +kernel) dX9_inferred_17 dX9_inferred_20 dX9_inferred_21 dX9_inferred_24 dX9_inferred_27 ⟨by decide, by decide⟩ ⟨by decide, by decide⟩ ⟨by decide, by decide⟩ ⟨rfl, rfl, fun q => by first | exact absurd (by assumption) ((Btw_i (m := 3) (by decide)).mp q.2.2).1 | exact absurd ((Btw_i (m := 3) (by decide)).mp q.2.2).2 (by assumption)⟩
  · refine V_iload_n C dX9_inferred_12 rfl ?_
    refine V_iconst (v := (3 : Int32)) C dX9_inferred_13 (by decide) ?_
    refine V_icmp_lt (x := rn) (y := (3 : Int32)) (tgt := 28) C dX9_inferred_14 (by decide) (fun h14_4 => ?_) (fun h14_4 => ?_)
    · have hg3 : Btw rn 0 2 := (Btw_i (m := 3) (by decide)).mpr ⟨by assumption, by assumption⟩
      obtain ⟨a, ha, ea⟩ := net_at hg1
      subst ea
      obtain ⟨b, hb, eb⟩ := net_at hg2
      subst eb
      obtain ⟨c0, hc0, ec0⟩ := Btw_of (n := 2) (by decide) hg3
      subst ec0
      refine V_aload_n C dX9_inferred_28 rfl ?_
      refine V_getr C fl_X9_69 dX9_inferred_29 (by decide) sh_0 rfl ?_
      refine V_callVU C [] mi_X9_251 (k_X5_infer w l X R PP Z Th hB) dX9_inferred_32 sh_68 (by decide) rfl rfl rfl (Nat.le_of_ble_eq_true rfl) (Nat.le_of_ble_eq_true rfl) (Nat.le_of_ble_eq_true rfl) ⟨by decide, by decide⟩ (fun X5 q5 => ?_)
      obtain ⟨hO5, hI5⟩ := q5
      refine V_aload_n C dX9_inferred_35 rfl ?_
      refine V_getr C fl_X9_69 dX9_inferred_36 (by decide) sh_0 rfl ?_
      refine V_iload_n C dX9_inferred_39 rfl ?_
      refine V_iload_n C dX9_inferred_40 rfl ?_
      refine V_iload_n C dX9_inferred_41 rfl ?_
      refine V_callVI C [.int (nI a), .int (nI b), .int (nI c0)] mi_X9_259 (k_X5_between w l a b c0 X5 (Nb R PP Z Th) (CuF R PP Z Th c0) hI5.1 (hI5.2.2 c0 (by omega)) (by omega) (by omega) (by omega)) dX9_inferred_42 sh_68 (by decide) rfl rfl rfl (Nat.le_of_ble_eq_true rfl) (Nat.le_of_ble_eq_true rfl) (Nat.le_of_ble_eq_true rfl) ⟨by decide, by decide⟩ (fun v6 X6 q6 => ?_)
      obtain ⟨hv6, eX6⟩ := q6; subst X6
      exact V_ireturnX C dX9_inferred_45 (by decide) (by decide) ⟨⟨hg1, hg2, hg3⟩, a, b, c0, ⟨by omega, by omega, by omega, rfl, rfl, rfl⟩, hO5, hv6⟩
    · exact V_throwW C ht hD tw_165 (List.mem_of_getElem? (i := 9) rfl) (by decide +kernel) dX9_inferred_17 dX9_inferred_20 dX9_inferred_21 dX9_inferred_24 dX9_inferred_27 ⟨by decide, by decide⟩ ⟨by decide, by decide⟩ ⟨by decide, by decide⟩ ⟨rfl, rfl, fun q => by first | exact absurd (by assumption) ((Btw_i (m := 3) (by decide)).mp q.2.2).1 | exact absurd ((Btw_i (m := 3) (by decide)).mp q.2.2).2 (by assumption)⟩
def q_X9_cone (v : Int32) (X : Mem) (R : Nat) (PP : Nat → Nat → Nat) (Z : Nat → Nat) (Th : Nat → Prop) : Int32 → Mem → Prop := fun r X' => Btw v 0 9 ∧ ∃ a, (a < 10 ∧ v = nI a) ∧ OutI X X' ∧ SetIs r (Rch (CuF R PP Z Th 2) a)
def r_X9_cone (v : Int32) (X : Mem) (R : Nat) (PP : Nat → Nat → Nat) (Z : Nat → Nat) (Th : Nat → Prop) : String → Mem → Prop := fun E X' => X' = X ∧ E = eIO ∧ ¬ (Btw v 0 9)
set_option maxHeartbeats 4000000 in
set_option maxRecDepth 100000 in
theorem k_X9_cone (w : Wt) (l : Launch) (v : Int32) (X : Mem) (R : Nat) (PP : Nat → Nat → Nat) (Z : Nat → Nat) (Th : Nat → Prop) (hB : RBc X R PP Z Th) : CtXI w l yX9_cone cX9_cone 2 (some .int) 7 158 1 [.ref (w.2.1 0), .int v] X (q_X9_cone v X R PP Z Th) (r_X9_cone v X R PP Z Th) := by
  have hR24 := hB.1
  refine CtXI_of (by decide +kernel) (Nat.le_of_ble_eq_true rfl) (List.forall_mem_cons.mpr ⟨rfl, (List.forall_mem_cons.mpr ⟨rfl, (fun _ h => nomatch h)⟩)⟩) (ls := [some (.ref (w.2.1 0)), some (.int v)]) rfl (args := (#[.ref (w.2.1 0), .int v] : Array Value)) rfl (own := RX9) rfl ?_
  intro p e s m below meth c C ht hD
  refine V_iload_n C dX9_cone_0 rfl ?_
  refine V_xcallSUI C ht hD [.int v] ms_X9_92 pl_X9_92 (k_X9_needNet w l v X ) dX9_cone_1 rfl rfl (Nat.le_of_ble_eq_true rfl) (Nat.le_of_ble_eq_true rfl) (Nat.le_of_ble_eq_true rfl) ⟨by decide, by decide⟩ ⟨by decide, by decide⟩ (fun E X1 h => ⟨h.1, h.2.1, h.2.2⟩) (fun X1 q1 => ?_)
  obtain ⟨hg1, eX1⟩ := q1; subst X1
  obtain ⟨a, ha, ea⟩ := net_at hg1
  subst v
  refine V_aload_n C dX9_cone_4 rfl ?_
  refine V_getr C fl_X9_69 dX9_cone_5 (by decide) sh_0 rfl ?_
  refine V_callVU C [] mi_X9_251 (k_X5_infer w l X R PP Z Th hB) dX9_cone_8 sh_68 (by decide) rfl rfl rfl (Nat.le_of_ble_eq_true rfl) (Nat.le_of_ble_eq_true rfl) (Nat.le_of_ble_eq_true rfl) ⟨by decide, by decide⟩ (fun X2 q2 => ?_)
  obtain ⟨hO2, hI2⟩ := q2
  refine V_aload_n C dX9_cone_11 rfl ?_
  refine V_getr C fl_X9_69 dX9_cone_12 (by decide) sh_0 rfl ?_
  refine V_iload_n C dX9_cone_15 rfl ?_
  refine V_callVI C [.int (nI a)] mi_X9_261 (k_X5_coneOf w l a X2 (CuF R PP Z Th 2) (hI2.2.2 2 (by decide)) (by omega)) dX9_cone_16 sh_68 (by decide) rfl rfl rfl (Nat.le_of_ble_eq_true rfl) (Nat.le_of_ble_eq_true rfl) (Nat.le_of_ble_eq_true rfl) ⟨by decide, by decide⟩ (fun v3 X3 q3 => ?_)
  obtain ⟨hv3, eX3⟩ := q3; subst X3
  exact V_ireturnX C dX9_cone_19 (by decide) (by decide) ⟨hg1, a, ⟨by omega, rfl⟩, hO2, hv3⟩
def q_X9_coneByPaths (v : Int32) (X : Mem) (R : Nat) (PP : Nat → Nat → Nat) (Z : Nat → Nat) (Th : Nat → Prop) : Int32 → Mem → Prop := fun r X' => Btw v 0 9 ∧ ∃ a, (a < 10 ∧ v = nI a) ∧ OutI X X' ∧ SetIs r (PCone (CuF R PP Z Th 2) PP Z Th R a)
def r_X9_coneByPaths (v : Int32) (X : Mem) (R : Nat) (PP : Nat → Nat → Nat) (Z : Nat → Nat) (Th : Nat → Prop) : String → Mem → Prop := fun E X' => X' = X ∧ E = eIO ∧ ¬ (Btw v 0 9)
set_option maxHeartbeats 4000000 in
set_option maxRecDepth 100000 in
theorem k_X9_coneByPaths (w : Wt) (l : Launch) (v : Int32) (X : Mem) (R : Nat) (PP : Nat → Nat → Nat) (Z : Nat → Nat) (Th : Nat → Prop) (hB : RBc X R PP Z Th) : CtXI w l yX9_coneByPaths cX9_coneByPaths 2 (some .int) 7 158 1 [.ref (w.2.1 0), .int v] X (q_X9_coneByPaths v X R PP Z Th) (r_X9_coneByPaths v X R PP Z Th) := by
  have hR24 := hB.1
  refine CtXI_of (by decide +kernel) (Nat.le_of_ble_eq_true rfl) (List.forall_mem_cons.mpr ⟨rfl, (List.forall_mem_cons.mpr ⟨rfl, (fun _ h => nomatch h)⟩)⟩) (ls := [some (.ref (w.2.1 0)), some (.int v)]) rfl (args := (#[.ref (w.2.1 0), .int v] : Array Value)) rfl (own := RX9) rfl ?_
  intro p e s m below meth c C ht hD
  refine V_iload_n C dX9_coneByPaths_0 rfl ?_
  refine V_xcallSUI C ht hD [.int v] ms_X9_92 pl_X9_92 (k_X9_needNet w l v X ) dX9_coneByPaths_1 rfl rfl (Nat.le_of_ble_eq_true rfl) (Nat.le_of_ble_eq_true rfl) (Nat.le_of_ble_eq_true rfl) ⟨by decide, by decide⟩ ⟨by decide, by decide⟩ (fun E X1 h => ⟨h.1, h.2.1, h.2.2⟩) (fun X1 q1 => ?_)
  obtain ⟨hg1, eX1⟩ := q1; subst X1
  obtain ⟨a, ha, ea⟩ := net_at hg1
  subst v
  refine V_aload_n C dX9_coneByPaths_4 rfl ?_
  refine V_getr C fl_X9_69 dX9_coneByPaths_5 (by decide) sh_0 rfl ?_
  refine V_callVU C [] mi_X9_251 (k_X5_infer w l X R PP Z Th hB) dX9_coneByPaths_8 sh_68 (by decide) rfl rfl rfl (Nat.le_of_ble_eq_true rfl) (Nat.le_of_ble_eq_true rfl) (Nat.le_of_ble_eq_true rfl) ⟨by decide, by decide⟩ (fun X2 q2 => ?_)
  obtain ⟨hO2, hI2⟩ := q2
  refine V_aload_n C dX9_coneByPaths_11 rfl ?_
  refine V_getr C fl_X9_69 dX9_coneByPaths_12 (by decide) sh_0 rfl ?_
  refine V_iload_n C dX9_coneByPaths_15 rfl ?_
  refine V_callVI C [.int (nI a)] mi_X9_264 (k_X5_pathConeOf w l a X2 (CuF R PP Z Th 2) R PP Z Th (RBc_outI hO2 hB) (hI2.2.2 2 (by decide)) (by omega)) dX9_coneByPaths_16 sh_68 (by decide) rfl rfl rfl (Nat.le_of_ble_eq_true rfl) (Nat.le_of_ble_eq_true rfl) (Nat.le_of_ble_eq_true rfl) ⟨by decide, by decide⟩ (fun v3 X3 q3 => ?_)
  obtain ⟨hv3, eX3⟩ := q3; subst X3
  exact V_ireturnX C dX9_coneByPaths_19 (by decide) (by decide) ⟨hg1, a, ⟨by omega, rfl⟩, hO2, hv3⟩
def q_X6_reaches (ad : Nat) (S : Nat) (X : Mem) (R : Nat) (PP : Nat → Nat → Nat) (Z : Nat → Nat) (Th : Nat → Prop) : Int32 → Mem → Prop := fun v X' => bI (ReA (X 48) (X 49) PP Th S ad R) v ∧ X' = X
set_option maxHeartbeats 4000000 in
set_option maxRecDepth 100000 in
theorem k_X6_reaches (w : Wt) (l : Launch) (ad : Nat) (S : Nat) (X : Mem) (R : Nat) (PP : Nat → Nat → Nat) (Z : Nat → Nat) (Th : Nat → Prop) (hB : RBc X R PP Z Th) (hS : S < 1024) : CtI w l yX6_reaches cX6_reaches 5 (some .boolean) 2 44 [.ref (w.2.1 20), .int (nI ad), .int (nI S)] X (q_X6_reaches ad S X R PP Z Th) := by
  have hR24 := hB.1
  refine CtI_of (by decide +kernel) (Nat.le_of_ble_eq_true rfl) (List.forall_mem_cons.mpr ⟨rfl, (List.forall_mem_cons.mpr ⟨rfl, (List.forall_mem_cons.mpr ⟨rfl, (fun _ h => nomatch h)⟩)⟩)⟩) (ls := [some (.ref (w.2.1 20)), some (.int (nI ad)), some (.int (nI S)), none, none]) rfl (args := (#[.ref (w.2.1 20), .int (nI ad), .int (nI S)] : Array Value)) rfl (own := RX6) rfl ?_
  intro p e s m below meth c C
  refine V_iconst (v := (0 : Int32)) C dX6_reaches_0 (by decide) ?_
  refine V_istore_n (ls1 := [some (.ref (w.2.1 20)), some (.int (nI ad)), some (.int (nI S)), some (.int (0 : Int32)), none]) C dX6_reaches_1 (by decide) rfl ?_
  refine V_iconst (v := (0 : Int32)) C dX6_reaches_2 (by decide) ?_
  refine V_istore (ls1 := [some (.ref (w.2.1 20)), some (.int (nI ad)), some (.int (nI S)), some (.int (0 : Int32)), some (.int (0 : Int32))]) C dX6_reaches_3 (by decide) rfl ?_
  have L5 : ∀ (fu : Nat) (r : Nat) (f : Int32), R - r < fu → (r ≤ R) → (bI (ReA (X 48) (X 49) PP Th S ad r) f) → V p l e ({ frames := 2, cells := 0, slots := 0, locals := 44 } : Room) s m (#[.ref (w.2.1 20), .int (nI ad), .int (nI S)] : Array Value) below meth c w 5 0 0 (EI w below s (#[.ref (w.2.1 20), .int (nI ad), .int (nI S)] : Array Value) 0 0 (q_X6_reaches ad S X R PP Z Th)) 5 [some (.ref (w.2.1 20)), some (.int (nI ad)), some (.int (nI S)), some (.int f), some (.int (nI r))] [] X := by
    intro fu
    induction fu with
    | zero => intro r f hm; exact absurd hm (Nat.not_lt_zero _)
    | succ fu ih5 =>
      intro r f hm5 hr hb
      refine V_iload C dX6_reaches_5 rfl ?_
      refine V_aload_n C dX6_reaches_7 rfl ?_
      refine V_geti C fl_X6_9 dX6_reaches_8 (by decide) sh_20 rfl ?_
      refine V_eqi (y := nI R) hB.2.1 ?_
      refine V_icmp_geN (a := r) (b := R) (tgt := 79) C dX6_reaches_11 (by decide) (by omega) (by omega) (fun h11_1 => ?_) (fun h11_1 => ?_)
      · refine V_iload_n C dX6_reaches_79 rfl ?_
        exact V_zreturnI C dX6_reaches_80 hb.z (by first | exact ⟨(show r = R from by omega) ▸ hb, rfl⟩ | exact ⟨hb.congr ⟨fun q => ReA_mono hr q, fun _ => by assumption⟩, rfl⟩)
      · refine V_iload_n C dX6_reaches_14 rfl ?_
        refine V_if_neB (tgt := 79) C hb dX6_reaches_15 (by decide) (fun h15_2 => ?_) (fun h15_2 => ?_)
        · refine V_iload_n C dX6_reaches_79 rfl ?_
          exact V_zreturnI C dX6_reaches_80 hb.z (by first | exact ⟨(show r = R from by omega) ▸ hb, rfl⟩ | exact ⟨hb.congr ⟨fun q => ReA_mono hr q, fun _ => by assumption⟩, rfl⟩)
        · refine V_aload_n C dX6_reaches_18 rfl ?_
          refine V_getr C fl_X6_39 dX6_reaches_19 (by decide) sh_20 rfl ?_
          refine V_iload C dX6_reaches_22 rfl ?_
          refine V_baldN (p0 := 50) (o := r) (v := X 50 r) C dX6_reaches_24 sh_50 (by decide) (by omega) (by decide) rfl ?_
          refine V_if_ne (x := X 50 r) (tgt := 71) C dX6_reaches_25 (by decide) (fun h25_3 => ?_) (fun h25_3 => ?_)
          · refine V_iconst (v := (0 : Int32)) C dX6_reaches_71 (by decide) ?_
            refine V_istore_n (ls1 := [some (.ref (w.2.1 20)), some (.int (nI ad)), some (.int (nI S)), some (.int (0 : Int32)), some (.int (nI r))]) C dX6_reaches_72 (by decide) rfl ?_
            refine V_iincN (a := r) (ls1 := [some (.ref (w.2.1 20)), some (.int (nI ad)), some (.int (nI S)), some (.int (0 : Int32)), some (.int (nI (r + 1)))]) C dX6_reaches_73 rfl (by decide) rfl ?_
            refine V_goto (tgt := 5) C dX6_reaches_76 (by decide) ?_
            exact ih5 (r + 1) (0 : Int32) (by omega) (by omega) (bI.f (ReA_n (by assumption) (by first | exact fun q => absurd ((hB.2.2 r (by omega)).2.2.2.2.mpr q.1) (by assumption) | exact fun q => absurd q.2.1 (by assumption) | exact fun q => absurd q.2.2 (by assumption))))
          · refine V_iload_n C dX6_reaches_28 rfl ?_
            refine V_aload_n C dX6_reaches_29 rfl ?_
            refine V_getr C fl_X6_27 dX6_reaches_30 (by decide) sh_20 rfl ?_
            refine V_iload C dX6_reaches_33 rfl ?_
            refine V_aaldN (o := r) (q := 23 + r) C dX6_reaches_35 sh_22 (by decide) (by omega) (by decide) rfl ?_
            refine V_iconst (v := (0 : Int32)) C dX6_reaches_36 (by decide) ?_
            refine V_ialdN (p0 := 23 + r) (o := 0) (v := X (23 + r) 0) C dX6_reaches_37 (sh_nets (by omega)) (by omega) (by omega) (by decide) rfl ?_
            have hq4 : PP r 0 < 10 := ((hB.2.2 r (by omega)).2.2.2.1 0 (by have := (hB.2.2 r (by omega)).1; omega)).2
            refine V_eqi (y := nI (PP r 0)) (((hB.2.2 r (by omega)).2.2.2.1 0 (by have := (hB.2.2 r (by omega)).1; omega)).1) ?_
            refine V_callSI C [.int (nI S), .int (nI (PP r 0))] ms_X6_47 (k_X9_isIn w l S (PP r 0) X (by omega) (by omega)) dX6_reaches_38 rfl rfl (Nat.le_of_ble_eq_true rfl) (Nat.le_of_ble_eq_true rfl) (Nat.le_of_ble_eq_true rfl) ⟨Nat.le_refl _, Nat.le_refl _⟩ (fun v5 X5 q5 => ?_)
            obtain ⟨hb5, eX5⟩ := q5; subst X5
            refine V_if_eqB (tgt := 71) C hb5 dX6_reaches_41 (by decide) (fun h41_6 => ?_) (fun h41_6 => ?_)
            · refine V_iconst (v := (0 : Int32)) C dX6_reaches_71 (by decide) ?_
              refine V_istore_n (ls1 := [some (.ref (w.2.1 20)), some (.int (nI ad)), some (.int (nI S)), some (.int (0 : Int32)), some (.int (nI r))]) C dX6_reaches_72 (by decide) rfl ?_
              refine V_iincN (a := r) (ls1 := [some (.ref (w.2.1 20)), some (.int (nI ad)), some (.int (nI S)), some (.int (0 : Int32)), some (.int (nI (r + 1)))]) C dX6_reaches_73 rfl (by decide) rfl ?_
              refine V_goto (tgt := 5) C dX6_reaches_76 (by decide) ?_
              exact ih5 (r + 1) (0 : Int32) (by omega) (by omega) (bI.f (ReA_n (by assumption) (by first | exact fun q => absurd ((hB.2.2 r (by omega)).2.2.2.2.mpr q.1) (by assumption) | exact fun q => absurd q.2.1 (by assumption) | exact fun q => absurd q.2.2 (by assumption))))
            · refine V_iload_n C dX6_reaches_44 rfl ?_
              refine V_bipush (v := (8 : Int32)) C dX6_reaches_45 (by decide) ?_
              refine V_aload_n C dX6_reaches_47 rfl ?_
              refine V_getr C fl_X6_33 dX6_reaches_48 (by decide) sh_20 rfl ?_
              refine V_iload C dX6_reaches_51 rfl ?_
              refine V_ialdN (p0 := 48) (o := r) (v := X 48 r) C dX6_reaches_53 sh_48 (by decide) (by omega) (by decide) rfl ?_
              refine V_aload_n C dX6_reaches_54 rfl ?_
              refine V_getr C fl_X6_36 dX6_reaches_55 (by decide) sh_20 rfl ?_
              refine V_iload C dX6_reaches_58 rfl ?_
              refine V_ialdN (p0 := 49) (o := r) (v := X 49 r) C dX6_reaches_60 sh_49 (by decide) (by omega) (by decide) rfl ?_
              refine V_callSI C [.int (nI ad), .int (8 : Int32), .int (X 48 r), .int (X 49 r)] ms_X6_54 (k_X1_liesIn w l (nI ad) (8 : Int32) (X 48 r) (X 49 r) X ) dX6_reaches_61 rfl rfl (Nat.le_of_ble_eq_true rfl) (Nat.le_of_ble_eq_true rfl) (Nat.le_of_ble_eq_true rfl) ⟨Nat.le_refl _, Nat.le_refl _⟩ (fun v7 X7 q7 => ?_)
              obtain ⟨hb7, eX7⟩ := q7; subst X7
              refine V_if_eqB (tgt := 71) C hb7 dX6_reaches_64 (by decide) (fun h64_8 => ?_) (fun h64_8 => ?_)
              · refine V_iconst (v := (0 : Int32)) C dX6_reaches_71 (by decide) ?_
                refine V_istore_n (ls1 := [some (.ref (w.2.1 20)), some (.int (nI ad)), some (.int (nI S)), some (.int (0 : Int32)), some (.int (nI r))]) C dX6_reaches_72 (by decide) rfl ?_
                refine V_iincN (a := r) (ls1 := [some (.ref (w.2.1 20)), some (.int (nI ad)), some (.int (nI S)), some (.int (0 : Int32)), some (.int (nI (r + 1)))]) C dX6_reaches_73 rfl (by decide) rfl ?_
                refine V_goto (tgt := 5) C dX6_reaches_76 (by decide) ?_
                exact ih5 (r + 1) (0 : Int32) (by omega) (by omega) (bI.f (ReA_n (by assumption) (by first | exact fun q => absurd ((hB.2.2 r (by omega)).2.2.2.2.mpr q.1) (by assumption) | exact fun q => absurd q.2.1 (by assumption) | exact fun q => absurd q.2.2 (by assumption))))
              · refine V_iconst (v := (1 : Int32)) C dX6_reaches_67 (by decide) ?_
                refine V_goto (tgt := 72) C dX6_reaches_68 (by decide) ?_
                refine V_istore_n (ls1 := [some (.ref (w.2.1 20)), some (.int (nI ad)), some (.int (nI S)), some (.int (1 : Int32)), some (.int (nI r))]) C dX6_reaches_72 (by decide) rfl ?_
                refine V_iincN (a := r) (ls1 := [some (.ref (w.2.1 20)), some (.int (nI ad)), some (.int (nI S)), some (.int (1 : Int32)), some (.int (nI (r + 1)))]) C dX6_reaches_73 rfl (by decide) rfl ?_
                refine V_goto (tgt := 5) C dX6_reaches_76 (by decide) ?_
                exact ih5 (r + 1) (1 : Int32) (by omega) (by omega) (bI.t (ReA_y ((hB.2.2 r (by omega)).2.2.2.2.mp (by assumption)) (by assumption) (by assumption)))
  exact L5 _ 0 (0 : Int32) (Nat.lt_succ_self _) (by omega) (bI.f ReA_0)
def q_X6_countAddressesFrom (S : Nat) (X : Mem) (R : Nat) (PP : Nat → Nat → Nat) (Z : Nat → Nat) (Th : Nat → Prop) : Int32 → Mem → Prop := fun v X' => v = nI (sumN (fun ad => oneIf (ReA (X 48) (X 49) PP Th S ad R)) 256) ∧ X' = X
set_option maxHeartbeats 4000000 in
set_option maxRecDepth 100000 in
theorem k_X6_countAddressesFrom (w : Wt) (l : Launch) (S : Nat) (X : Mem) (R : Nat) (PP : Nat → Nat → Nat) (Z : Nat → Nat) (Th : Nat → Prop) (hB : RBc X R PP Z Th) (hS : S < 1024) : CtI w l yX6_countAddressesFrom cX6_countAddressesFrom 4 (some .int) 3 68 [.ref (w.2.1 20), .int (nI S)] X (q_X6_countAddressesFrom S X R PP Z Th) := by
  have hR24 := hB.1
  refine CtI_of (by decide +kernel) (Nat.le_of_ble_eq_true rfl) (List.forall_mem_cons.mpr ⟨rfl, (List.forall_mem_cons.mpr ⟨rfl, (fun _ h => nomatch h)⟩)⟩) (ls := [some (.ref (w.2.1 20)), some (.int (nI S)), none, none]) rfl (args := (#[.ref (w.2.1 20), .int (nI S)] : Array Value)) rfl (own := RX6) rfl ?_
  intro p e s m below meth c C
  refine V_iconst (v := (0 : Int32)) C dX6_countAddressesFrom_0 (by decide) ?_
  refine V_istore_n (ls1 := [some (.ref (w.2.1 20)), some (.int (nI S)), some (.int (0 : Int32)), none]) C dX6_countAddressesFrom_1 (by decide) rfl ?_
  refine V_iconst (v := (0 : Int32)) C dX6_countAddressesFrom_2 (by decide) ?_
  refine V_istore_n (ls1 := [some (.ref (w.2.1 20)), some (.int (nI S)), some (.int (0 : Int32)), some (.int (0 : Int32))]) C dX6_countAddressesFrom_3 (by decide) rfl ?_
  have L4 : ∀ (fu : Nat) (k : Nat) (c0 : Nat), 256 - k < fu → (k ≤ 256) → (c0 = sumN (fun ad => oneIf (ReA (X 48) (X 49) PP Th S ad R)) k) → V p l e ({ frames := 3, cells := 0, slots := 0, locals := 68 } : Room) s m (#[.ref (w.2.1 20), .int (nI S)] : Array Value) below meth c w 4 0 0 (EI w below s (#[.ref (w.2.1 20), .int (nI S)] : Array Value) 0 0 (q_X6_countAddressesFrom S X R PP Z Th)) 4 [some (.ref (w.2.1 20)), some (.int (nI S)), some (.int (nI c0)), some (.int (nI k))] [] X := by
    intro fu
    induction fu with
    | zero => intro k c0 hm; exact absurd hm (Nat.not_lt_zero _)
    | succ fu ih4 =>
      intro k c0 hm4 hk hc
      refine V_iload_n C dX6_countAddressesFrom_4 rfl ?_
      refine V_sipush (v := (256 : Int32)) C dX6_countAddressesFrom_5 (by decide) ?_
      refine V_icmp_geN (a := k) (b := 256) (tgt := 29) C dX6_countAddressesFrom_8 (by decide) (by omega) (by omega) (fun h8_1 => ?_) (fun h8_1 => ?_)
      · refine V_iload_n C dX6_countAddressesFrom_29 rfl ?_
        exact V_ireturnI C dX6_countAddressesFrom_30 ⟨by rw [hc, show k = 256 by omega], rfl⟩
      · refine V_aload_n C dX6_countAddressesFrom_11 rfl ?_
        refine V_iload_n C dX6_countAddressesFrom_12 rfl ?_
        refine V_iload_n C dX6_countAddressesFrom_13 rfl ?_
        refine V_callVI C [.int (nI k), .int (nI S)] mi_X6_51 (k_X6_reaches w l k S X R PP Z Th hB (by omega)) dX6_countAddressesFrom_14 sh_20 (by decide) rfl rfl rfl (Nat.le_of_ble_eq_true rfl) (Nat.le_of_ble_eq_true rfl) (Nat.le_of_ble_eq_true rfl) ⟨Nat.le_refl _, Nat.le_refl _⟩ (fun v2 X2 q2 => ?_)
        obtain ⟨hb2, eX2⟩ := q2; subst X2
        refine V_if_eqB (tgt := 23) C hb2 dX6_countAddressesFrom_17 (by decide) (fun h17_3 => ?_) (fun h17_3 => ?_)
        · refine V_iincN (a := k) (ls1 := [some (.ref (w.2.1 20)), some (.int (nI S)), some (.int (nI c0)), some (.int (nI (k + 1)))]) C dX6_countAddressesFrom_23 rfl (by decide) rfl ?_
          refine V_goto (tgt := 4) C dX6_countAddressesFrom_26 (by decide) ?_
          exact ih4 (k + 1) c0 (by omega) (by omega) (by rw [hc]; exact (sum_n (p := fun ad => ReA (X 48) (X 49) PP Th S ad R) (by assumption)).symm)
        · refine V_iincN (a := c0) (ls1 := [some (.ref (w.2.1 20)), some (.int (nI S)), some (.int (nI (c0 + 1))), some (.int (nI k))]) C dX6_countAddressesFrom_20 rfl (by decide) rfl ?_
          refine V_iincN (a := k) (ls1 := [some (.ref (w.2.1 20)), some (.int (nI S)), some (.int (nI (c0 + 1))), some (.int (nI (k + 1)))]) C dX6_countAddressesFrom_23 rfl (by decide) rfl ?_
          refine V_goto (tgt := 4) C dX6_countAddressesFrom_26 (by decide) ?_
          exact ih4 (k + 1) (c0 + 1) (by omega) (by omega) (by rw [hc]; exact (sum_y (p := fun ad => ReA (X 48) (X 49) PP Th S ad R) (by assumption)).symm)
  exact L4 _ 0 0 (Nat.lt_succ_self _) (by omega) rfl
def q_X9_addresses (v : Int32) (X : Mem) (R : Nat) (PP : Nat → Nat → Nat) (Z : Nat → Nat) (Th : Nat → Prop) : Int32 → Mem → Prop := fun r X' => Btw v 0 9 ∧ ∃ a S, (a < 10 ∧ v = nI a) ∧ (S < 1024 ∧ ∀ b, S.testBit b = true ↔ Rch (CuF R PP Z Th 2) a b) ∧ OutI X X' ∧ r = nI (sumN (fun ad => oneIf (ReA (X 48) (X 49) PP Th S ad R)) 256)
def r_X9_addresses (v : Int32) (X : Mem) (R : Nat) (PP : Nat → Nat → Nat) (Z : Nat → Nat) (Th : Nat → Prop) : String → Mem → Prop := fun E X' => X' = X ∧ E = eIO ∧ ¬ (Btw v 0 9)
set_option maxHeartbeats 4000000 in
set_option maxRecDepth 100000 in
theorem k_X9_addresses (w : Wt) (l : Launch) (v : Int32) (X : Mem) (R : Nat) (PP : Nat → Nat → Nat) (Z : Nat → Nat) (Th : Nat → Prop) (hB : RBc X R PP Z Th) : CtXI w l yX9_addresses cX9_addresses 2 (some .int) 7 158 1 [.ref (w.2.1 0), .int v] X (q_X9_addresses v X R PP Z Th) (r_X9_addresses v X R PP Z Th) := by
  have hR24 := hB.1
  refine CtXI_of (by decide +kernel) (Nat.le_of_ble_eq_true rfl) (List.forall_mem_cons.mpr ⟨rfl, (List.forall_mem_cons.mpr ⟨rfl, (fun _ h => nomatch h)⟩)⟩) (ls := [some (.ref (w.2.1 0)), some (.int v)]) rfl (args := (#[.ref (w.2.1 0), .int v] : Array Value)) rfl (own := RX9) rfl ?_
  intro p e s m below meth c C ht hD
  refine V_iload_n C dX9_addresses_0 rfl ?_
  refine V_xcallSUI C ht hD [.int v] ms_X9_92 pl_X9_92 (k_X9_needNet w l v X ) dX9_addresses_1 rfl rfl (Nat.le_of_ble_eq_true rfl) (Nat.le_of_ble_eq_true rfl) (Nat.le_of_ble_eq_true rfl) ⟨by decide, by decide⟩ ⟨by decide, by decide⟩ (fun E X1 h => ⟨h.1, h.2.1, h.2.2⟩) (fun X1 q1 => ?_)
  obtain ⟨hg1, eX1⟩ := q1; subst X1
  obtain ⟨a, ha, ea⟩ := net_at hg1
  subst v
  refine V_aload_n C dX9_addresses_4 rfl ?_
  refine V_getr C fl_X9_69 dX9_addresses_5 (by decide) sh_0 rfl ?_
  refine V_callVU C [] mi_X9_251 (k_X5_infer w l X R PP Z Th hB) dX9_addresses_8 sh_68 (by decide) rfl rfl rfl (Nat.le_of_ble_eq_true rfl) (Nat.le_of_ble_eq_true rfl) (Nat.le_of_ble_eq_true rfl) ⟨by decide, by decide⟩ (fun X2 q2 => ?_)
  obtain ⟨hO2, hI2⟩ := q2
  refine V_aload_n C dX9_addresses_11 rfl ?_
  refine V_getr C fl_X9_35 dX9_addresses_12 (by decide) sh_0 rfl ?_
  refine V_aload_n C dX9_addresses_15 rfl ?_
  refine V_getr C fl_X9_69 dX9_addresses_16 (by decide) sh_0 rfl ?_
  refine V_iload_n C dX9_addresses_19 rfl ?_
  refine V_callVI C [.int (nI a)] mi_X9_261 (k_X5_coneOf w l a X2 (CuF R PP Z Th 2) (hI2.2.2 2 (by decide)) (by omega)) dX9_addresses_20 sh_68 (by decide) rfl rfl rfl (Nat.le_of_ble_eq_true rfl) (Nat.le_of_ble_eq_true rfl) (Nat.le_of_ble_eq_true rfl) ⟨by decide, by decide⟩ (fun v3 X3 q3 => ?_)
  obtain ⟨hv3, eX3⟩ := q3; subst X3
  obtain ⟨S, ⟨hS1, hS2⟩, eS⟩ := hv3
  refine V_eqi eS ?_
  refine V_callVI C [.int (nI S)] mi_X9_267 (k_X6_countAddressesFrom w l S X2 R PP Z Th (RBc_outI hO2 hB) hS1) dX9_addresses_23 sh_20 (by decide) rfl rfl rfl (Nat.le_of_ble_eq_true rfl) (Nat.le_of_ble_eq_true rfl) (Nat.le_of_ble_eq_true rfl) ⟨by decide, by decide⟩ (fun v4 X4 q4 => ?_)
  obtain ⟨ev4, eX4⟩ := q4; subst X4; subst v4
  exact V_ireturnX C dX9_addresses_26 (by decide) (by decide) ⟨hg1, a, S, ⟨by omega, rfl⟩, ⟨hS1, hS2⟩, hO2, by rw [hO2 48 (by decide), hO2 49 (by decide)]⟩
def q_X9_today (X : Mem) : Int32 → Mem → Prop := fun r X' => r = X 1 0 ∧ X' = X
set_option maxHeartbeats 4000000 in
set_option maxRecDepth 100000 in
theorem k_X9_today (w : Wt) (l : Launch) (X : Mem) : CtI w l yX9_today cX9_today 1 (some .int) 1 20 [.ref (w.2.1 0)] X (q_X9_today X) := by
  refine CtI_of (by decide +kernel) (Nat.le_of_ble_eq_true rfl) (List.forall_mem_cons.mpr ⟨rfl, (fun _ h => nomatch h)⟩) (ls := [some (.ref (w.2.1 0))]) rfl (args := (#[.ref (w.2.1 0)] : Array Value)) rfl (own := RX9) rfl ?_
  intro p e s m below meth c C
  refine V_aload_n C dX9_today_0 rfl ?_
  refine V_getr C fl_X9_10 dX9_today_1 (by decide) sh_0 rfl ?_
  refine V_geti C fl_X9_111 dX9_today_4 (by decide) sh_1 rfl ?_
  exact V_ireturnI C dX9_today_7 ⟨rfl, rfl⟩
def q_X9_routes (X : Mem) : Int32 → Mem → Prop := fun r X' => r = X 20 0 ∧ X' = X
set_option maxHeartbeats 4000000 in
set_option maxRecDepth 100000 in
theorem k_X9_routes (w : Wt) (l : Launch) (X : Mem) : CtI w l yX9_routes cX9_routes 1 (some .int) 1 20 [.ref (w.2.1 0)] X (q_X9_routes X) := by
  refine CtI_of (by decide +kernel) (Nat.le_of_ble_eq_true rfl) (List.forall_mem_cons.mpr ⟨rfl, (fun _ h => nomatch h)⟩) (ls := [some (.ref (w.2.1 0))]) rfl (args := (#[.ref (w.2.1 0)] : Array Value)) rfl (own := RX9) rfl ?_
  intro p e s m below meth c C
  refine V_aload_n C dX9_routes_0 rfl ?_
  refine V_getr C fl_X9_35 dX9_routes_1 (by decide) sh_0 rfl ?_
  refine V_geti C fl_X9_158 dX9_routes_4 (by decide) sh_20 rfl ?_
  exact V_ireturnI C dX9_routes_7 ⟨rfl, rfl⟩
