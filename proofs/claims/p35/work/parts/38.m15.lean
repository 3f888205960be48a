def q_X9_needNet (v : Int32) (X : Mem) : Mem → Prop := fun X' => Btw v 0 9 ∧ X' = X
def r_X9_needNet (v : Int32) (X : Mem) : String → Mem → Prop := fun E X' => X' = X ∧ E = eIO ∧ ¬ (Btw v 0 9)
set_option maxHeartbeats 4000000 in
set_option maxRecDepth 100000 in
theorem k_X9_needNet (w : Wt) (l : Launch) (v : Int32) (X : Mem) : CtXU w l yX9_needNet cX9_needNet 1 none 6 82 1 [.int v] X (q_X9_needNet v X) (r_X9_needNet v X) := by
  refine CtXU_of (by decide +kernel) (Nat.le_of_ble_eq_true rfl) (List.forall_mem_cons.mpr ⟨rfl, (fun _ h => nomatch h)⟩) (ls := [some (.int v)]) rfl (args := (#[.int v] : Array Value)) rfl (own := RX9) rfl ?_
  intro p e s m below meth c C ht hD
  refine V_iload_n C dX9_needNet_0 rfl ?_
  refine V_if_lt (x := v) (tgt := 10) C dX9_needNet_1 (by decide) (fun h1_1 => ?_) (fun h1_1 => ?_)
  · exact V_throwW C ht hD tw_165 (List.mem_of_getElem? (i := 11) rfl) (by decide +kernel) dX9_needNet_10 dX9_needNet_13 dX9_needNet_14 dX9_needNet_17 dX9_needNet_20 ⟨by decide, by decide⟩ ⟨by decide, by decide⟩ ⟨by decide, by decide⟩ ⟨rfl, rfl, fun q => (by first | exact absurd (by assumption) ((Btw_i (m := 10) (by decide)).mp q).1 | exact absurd ((Btw_i (m := 10) (by decide)).mp q).2 (by assumption))⟩
  · refine V_iload_n C dX9_needNet_4 rfl ?_
    refine V_bipush (v := (10 : Int32)) C dX9_needNet_5 (by decide) ?_
    refine V_icmp_lt (x := v) (y := (10 : Int32)) (tgt := 21) C dX9_needNet_7 (by decide) (fun h7_2 => ?_) (fun h7_2 => ?_)
    · exact V_returnX C dX9_needNet_21 (by decide) (by decide) ⟨(Btw_i (m := 10) (by decide)).mpr ⟨by assumption, by assumption⟩, rfl⟩
    · exact V_throwW C ht hD tw_165 (List.mem_of_getElem? (i := 11) rfl) (by decide +kernel) dX9_needNet_10 dX9_needNet_13 dX9_needNet_14 dX9_needNet_17 dX9_needNet_20 ⟨by decide, by decide⟩ ⟨by decide, by decide⟩ ⟨by decide, by decide⟩ ⟨rfl, rfl, fun q => (by first | exact absurd (by assumption) ((Btw_i (m := 10) (by decide)).mp q).1 | exact absurd ((Btw_i (m := 10) (by decide)).mp q).2 (by assumption))⟩
def q_X9_needRange (v : Int32) (lo : Int32) (hi : Int32) (X : Mem) : Mem → Prop := fun X' => Btw v lo hi ∧ X' = X
def r_X9_needRange (v : Int32) (lo : Int32) (hi : Int32) (X : Mem) : String → Mem → Prop := fun E X' => X' = X ∧ E = eIA ∧ ¬ (Btw v lo hi)
set_option maxHeartbeats 4000000 in
set_option maxRecDepth 100000 in
theorem k_X9_needRange (w : Wt) (l : Launch) (v : Int32) (lo : Int32) (hi : Int32) (X : Mem) : CtXU w l yX9_needRange cX9_needRange 3 none 6 82 1 [.int v, .int lo, .int hi] X (q_X9_needRange v lo hi X) (r_X9_needRange v lo hi X) := by
  refine CtXU_of (by decide +kernel) (Nat.le_of_ble_eq_true rfl) (List.forall_mem_cons.mpr ⟨rfl, (List.forall_mem_cons.mpr ⟨rfl, (List.forall_mem_cons.mpr ⟨rfl, (fun _ h => nomatch h)⟩)⟩)⟩) (ls := [some (.int v), some (.int lo), some (.int hi)]) rfl (args := (#[.int v, .int lo, .int hi] : Array Value)) rfl (own := RX9) rfl ?_
  intro p e s m below meth c C ht hD
  refine V_iload_n C dX9_needRange_0 rfl ?_
  refine V_iload_n C dX9_needRange_1 rfl ?_
  refine V_icmp_lt (x := v) (y := lo) (tgt := 10) C dX9_needRange_2 (by decide) (fun h2_1 => ?_) (fun h2_1 => ?_)
  · exact V_throwW C ht hD tw_178 (List.mem_of_getElem? (i := 14) rfl) (by decide +kernel) dX9_needRange_10 dX9_needRange_13 dX9_needRange_14 dX9_needRange_17 dX9_needRange_20 ⟨by decide, by decide⟩ ⟨by decide, by decide⟩ ⟨by decide, by decide⟩ ⟨rfl, rfl, fun q => (by first | exact absurd (by assumption) (Btw_r.mp q).1 | exact absurd (Btw_r.mp q).2 (by assumption))⟩
  · refine V_iload_n C dX9_needRange_5 rfl ?_
    refine V_iload_n C dX9_needRange_6 rfl ?_
    refine V_icmp_le (x := v) (y := hi) (tgt := 21) C dX9_needRange_7 (by decide) (fun h7_2 => ?_) (fun h7_2 => ?_)
    · exact V_returnX C dX9_needRange_21 (by decide) (by decide) ⟨Btw_r.mpr ⟨by assumption, by assumption⟩, rfl⟩
    · exact V_throwW C ht hD tw_178 (List.mem_of_getElem? (i := 14) rfl) (by decide +kernel) dX9_needRange_10 dX9_needRange_13 dX9_needRange_14 dX9_needRange_17 dX9_needRange_20 ⟨by decide, by decide⟩ ⟨by decide, by decide⟩ ⟨by decide, by decide⟩ ⟨rfl, rfl, fun q => (by first | exact absurd (by assumption) (Btw_r.mp q).1 | exact absurd (Btw_r.mp q).2 (by assumption))⟩
def q_X9_needHolder (v : Int32) (X : Mem) (h : Nat) : Mem → Prop := fun X' => Btw v 0 (nI (h - 1)) ∧ X' = X
def r_X9_needHolder (v : Int32) (X : Mem) (h : Nat) : String → Mem → Prop := fun E X' => X' = X ∧ E = eIO ∧ ¬ (Btw v 0 (nI (h - 1)))
set_option maxHeartbeats 4000000 in
set_option maxRecDepth 100000 in
theorem k_X9_needHolder (w : Wt) (l : Launch) (v : Int32) (X : Mem) (h : Nat) (hh : X 1 1 = nI h) (h1 : 1 ≤ h) (h8 : h ≤ 8) : CtXU w l yX9_needHolder cX9_needHolder 2 none 6 82 1 [.ref (w.2.1 0), .int v] X (q_X9_needHolder v X h) (r_X9_needHolder v X h) := by
  refine CtXU_of (by decide +kernel) (Nat.le_of_ble_eq_true rfl) (List.forall_mem_cons.mpr ⟨rfl, (List.forall_mem_cons.mpr ⟨rfl, (fun _ h => nomatch h)⟩)⟩) (ls := [some (.ref (w.2.1 0)), some (.int v)]) rfl (args := (#[.ref (w.2.1 0), .int v] : Array Value)) rfl (own := RX9) rfl ?_
  intro p e s m below meth c C ht hD
  refine V_iload_n C dX9_needHolder_0 rfl ?_
  refine V_if_lt (x := v) (tgt := 15) C dX9_needHolder_1 (by decide) (fun h1_1 => ?_) (fun h1_1 => ?_)
  · exact V_throwW C ht hD tw_165 (List.mem_of_getElem? (i := 10) rfl) (by decide +kernel) dX9_needHolder_15 dX9_needHolder_18 dX9_needHolder_19 dX9_needHolder_22 dX9_needHolder_25 ⟨by decide, by decide⟩ ⟨by decide, by decide⟩ ⟨by decide, by decide⟩ ⟨rfl, rfl, fun q => (by first | exact absurd (by assumption) ((Btw_h h1 (by omega)).mp q).1 | exact absurd ((Btw_h h1 (by omega)).mp q).2 (by assumption))⟩
  · refine V_iload_n C dX9_needHolder_4 rfl ?_
    refine V_aload_n C dX9_needHolder_5 rfl ?_
    refine V_getr C fl_X9_10 dX9_needHolder_6 (by decide) sh_0 rfl ?_
    refine V_geti C fl_X9_77 dX9_needHolder_9 (by decide) sh_1 rfl ?_
    refine V_eqi (y := nI h) hh ?_
    refine V_icmp_lt (x := v) (y := nI h) (tgt := 26) C dX9_needHolder_12 (by decide) (fun h12_2 => ?_) (fun h12_2 => ?_)
    · exact V_returnX C dX9_needHolder_26 (by decide) (by decide) ⟨(Btw_h h1 (by omega)).mpr ⟨by assumption, by assumption⟩, rfl⟩
    · exact V_throwW C ht hD tw_165 (List.mem_of_getElem? (i := 10) rfl) (by decide +kernel) dX9_needHolder_15 dX9_needHolder_18 dX9_needHolder_19 dX9_needHolder_22 dX9_needHolder_25 ⟨by decide, by decide⟩ ⟨by decide, by decide⟩ ⟨by decide, by decide⟩ ⟨rfl, rfl, fun q => (by first | exact absurd (by assumption) ((Btw_h h1 (by omega)).mp q).1 | exact absurd ((Btw_h h1 (by omega)).mp q).2 (by assumption))⟩
def q_X9_needObject (v : Int32) (X : Mem) (n : Nat) : Mem → Prop := fun X' => (Btw v 0 (nI n - 1) ∧ ∃ o, o < n ∧ v = nI o) ∧ X' = X
def r_X9_needObject (v : Int32) (X : Mem) (n : Nat) : String → Mem → Prop := fun E X' => X' = X ∧ E = eIO ∧ ¬ (Btw v 0 (nI n - 1))
set_option maxHeartbeats 4000000 in
set_option maxRecDepth 100000 in
theorem k_X9_needObject (w : Wt) (l : Launch) (v : Int32) (X : Mem) (n : Nat) (hn : X 6 0 = nI n) (n50 : n ≤ 50) : CtXU w l yX9_needObject cX9_needObject 2 none 6 82 1 [.ref (w.2.1 0), .int v] X (q_X9_needObject v X n) (r_X9_needObject v X n) := by
  refine CtXU_of (by decide +kernel) (Nat.le_of_ble_eq_true rfl) (List.forall_mem_cons.mpr ⟨rfl, (List.forall_mem_cons.mpr ⟨rfl, (fun _ h => nomatch h)⟩)⟩) (ls := [some (.ref (w.2.1 0)), some (.int v)]) rfl (args := (#[.ref (w.2.1 0), .int v] : Array Value)) rfl (own := RX9) rfl ?_
  intro p e s m below meth c C ht hD
  refine V_iload_n C dX9_needObject_0 rfl ?_
  refine V_if_lt (x := v) (tgt := 15) C dX9_needObject_1 (by decide) (fun h1_1 => ?_) (fun h1_1 => ?_)
  · exact V_throwW C ht hD tw_165 (List.mem_of_getElem? (i := 12) rfl) (by decide +kernel) dX9_needObject_15 dX9_needObject_18 dX9_needObject_19 dX9_needObject_22 dX9_needObject_25 ⟨by decide, by decide⟩ ⟨by decide, by decide⟩ ⟨by decide, by decide⟩ ⟨rfl, rfl, obj_out n50 (by first | exact Or.inl (by assumption) | exact Or.inr (by assumption))⟩
  · refine V_iload_n C dX9_needObject_4 rfl ?_
    refine V_aload_n C dX9_needObject_5 rfl ?_
    refine V_getr C fl_X9_19 dX9_needObject_6 (by decide) sh_0 rfl ?_
    refine V_geti C fl_X9_189 dX9_needObject_9 (by decide) sh_6 rfl ?_
    refine V_eqi (y := nI n) hn ?_
    refine V_icmp_lt (x := v) (y := nI n) (tgt := 26) C dX9_needObject_12 (by decide) (fun h12_2 => ?_) (fun h12_2 => ?_)
    · exact V_returnX C dX9_needObject_26 (by decide) (by decide) ⟨obj_in n50 (by assumption) (by assumption), rfl⟩
    · exact V_throwW C ht hD tw_165 (List.mem_of_getElem? (i := 12) rfl) (by decide +kernel) dX9_needObject_15 dX9_needObject_18 dX9_needObject_19 dX9_needObject_22 dX9_needObject_25 ⟨by decide, by decide⟩ ⟨by decide, by decide⟩ ⟨by decide, by decide⟩ ⟨rfl, rfl, obj_out n50 (by first | exact Or.inl (by assumption) | exact Or.inr (by assumption))⟩
def q_X9_needRoomForObject (X : Mem) (n : Nat) : Mem → Prop := fun X' => n < 50 ∧ X' = X
def r_X9_needRoomForObject (X : Mem) (n : Nat) : String → Mem → Prop := fun E X' => X' = X ∧ E = eIS ∧ ¬ (n < 50)
set_option maxHeartbeats 4000000 in
set_option maxRecDepth 100000 in
theorem k_X9_needRoomForObject (w : Wt) (l : Launch) (X : Mem) (n : Nat) (hn : X 6 0 = nI n) (n50 : n ≤ 50) : CtXU w l yX9_needRoomForObject cX9_needRoomForObject 1 none 6 82 1 [.ref (w.2.1 0)] X (q_X9_needRoomForObject X n) (r_X9_needRoomForObject X n) := by
  refine CtXU_of (by decide +kernel) (Nat.le_of_ble_eq_true rfl) (List.forall_mem_cons.mpr ⟨rfl, (fun _ h => nomatch h)⟩) (ls := [some (.ref (w.2.1 0))]) rfl (args := (#[.ref (w.2.1 0)] : Array Value)) rfl (own := RX9) rfl ?_
  intro p e s m below meth c C ht hD
  refine V_aload_n C dX9_needRoomForObject_0 rfl ?_
  refine V_getr C fl_X9_19 dX9_needRoomForObject_1 (by decide) sh_0 rfl ?_
  refine V_geti C fl_X9_189 dX9_needRoomForObject_4 (by decide) sh_6 rfl ?_
  refine V_eqi (y := nI n) hn ?_
  refine V_bipush (v := (50 : Int32)) C dX9_needRoomForObject_7 (by decide) ?_
  refine V_icmp_ltN (a := n) (b := 50) (tgt := 23) C dX9_needRoomForObject_9 (by decide) (by omega) (by omega) (fun h9_1 => ?_) (fun h9_1 => ?_)
  · exact V_returnX C dX9_needRoomForObject_23 (by decide) (by decide) ⟨by omega, rfl⟩
  · exact V_throwW C ht hD tw_81 (List.mem_of_getElem? (i := 16) rfl) (by decide +kernel) dX9_needRoomForObject_12 dX9_needRoomForObject_15 dX9_needRoomForObject_16 dX9_needRoomForObject_19 dX9_needRoomForObject_22 ⟨by decide, by decide⟩ ⟨by decide, by decide⟩ ⟨by decide, by decide⟩ ⟨rfl, rfl, by omega⟩
def q_X9_needBlock (v : Int32) (ln : Int32) (X : Mem) : Mem → Prop := fun X' => Blk v ln ∧ X' = X
def r_X9_needBlock (v : Int32) (ln : Int32) (X : Mem) : String → Mem → Prop := fun E X' => X' = X ∧ E = eIA ∧ ¬ (Blk v ln)
set_option maxHeartbeats 4000000 in
set_option maxRecDepth 100000 in
theorem k_X9_needBlock (w : Wt) (l : Launch) (v : Int32) (ln : Int32) (X : Mem) : CtXU w l yX9_needBlock cX9_needBlock 2 none 7 104 3 [.int v, .int ln] X (q_X9_needBlock v ln X) (r_X9_needBlock v ln X) := by
  refine CtXU_of (by decide +kernel) (Nat.le_of_ble_eq_true rfl) (List.forall_mem_cons.mpr ⟨rfl, (List.forall_mem_cons.mpr ⟨rfl, (fun _ h => nomatch h)⟩)⟩) (ls := [some (.int v), some (.int ln)]) rfl (args := (#[.int v, .int ln] : Array Value)) rfl (own := RX9) rfl ?_
  intro p e s m below meth c C ht hD
  refine V_iload_n C dX9_needBlock_0 rfl ?_
  refine V_iconst (v := (0 : Int32)) C dX9_needBlock_1 (by decide) ?_
  refine V_sipush (v := (255 : Int32)) C dX9_needBlock_2 (by decide) ?_
  refine V_xcallSUU C ht hD [.int v, .int (0 : Int32), .int (255 : Int32)] ms_X9_104 pl_X9_104 (k_X9_needRange w l v (0 : Int32) (255 : Int32) X ) dX9_needBlock_5 rfl rfl (Nat.le_of_ble_eq_true rfl) (Nat.le_of_ble_eq_true rfl) (Nat.le_of_ble_eq_true rfl) ⟨by decide, by decide⟩ ⟨by decide, by decide⟩ (fun E X1 h => ⟨h.1, h.2.1, fun q => h.2.2 q.1⟩) (fun X1 q1 => ?_)
  obtain ⟨hg1, eX1⟩ := q1; subst X1
  refine V_iload_n C dX9_needBlock_8 rfl ?_
  refine V_iconst (v := (0 : Int32)) C dX9_needBlock_9 (by decide) ?_
  refine V_bipush (v := (8 : Int32)) C dX9_needBlock_10 (by decide) ?_
  refine V_xcallSUU C ht hD [.int ln, .int (0 : Int32), .int (8 : Int32)] ms_X9_104 pl_X9_104 (k_X9_needRange w l ln (0 : Int32) (8 : Int32) X ) dX9_needBlock_12 rfl rfl (Nat.le_of_ble_eq_true rfl) (Nat.le_of_ble_eq_true rfl) (Nat.le_of_ble_eq_true rfl) ⟨by decide, by decide⟩ ⟨by decide, by decide⟩ (fun E X1 h => ⟨h.1, h.2.1, fun q => h.2.2 q.2.1⟩) (fun X2 q2 => ?_)
  obtain ⟨hg2, eX2⟩ := q2; subst X2
  obtain ⟨a0, ha0, ea0⟩ := Btw_of (n := 255) (by decide) hg1
  subst v
  obtain ⟨b0, hb0, eb0⟩ := Btw_of (n := 8) (by decide) hg2
  subst ln
  refine V_iload_n C dX9_needBlock_15 rfl ?_
  refine V_iload_n C dX9_needBlock_16 rfl ?_
  refine V_callSI C [.int (nI a0), .int (nI b0)] ms_X9_280 (k_X1_hasOthersThanFirstBits w l (nI a0) (nI b0) X ) dX9_needBlock_17 rfl rfl (Nat.le_of_ble_eq_true rfl) (Nat.le_of_ble_eq_true rfl) (Nat.le_of_ble_eq_true rfl) ⟨by decide, by decide⟩ (fun v3 X3 q3 => ?_)
  obtain ⟨hb3, eX3⟩ := q3; subst X3
  refine V_if_eqB (tgt := 34) C hb3 dX9_needBlock_20 (by decide) (fun h20_4 => ?_) (fun h20_4 => ?_)
  · exact V_returnX C dX9_needBlock_34 (by decide) (by decide) ⟨(Blk_n (by omega) (by omega) hg1 hg2).mpr ((blkD a0 (by omega) b0 (by omega)).mp (Classical.not_not.mp (by assumption))), rfl⟩
  · exact V_throwW C ht hD tw_178 (List.mem_of_getElem? (i := 15) rfl) (by decide +kernel) dX9_needBlock_23 dX9_needBlock_26 dX9_needBlock_27 dX9_needBlock_30 dX9_needBlock_33 ⟨by decide, by decide⟩ ⟨by decide, by decide⟩ ⟨by decide, by decide⟩ ⟨rfl, rfl, fun q => absurd ((blkD a0 (by omega) b0 (by omega)).mpr ((Blk_n (by omega) (by omega) hg1 hg2).mp q)) (by assumption)⟩
