def q_X10_isFine_0 (X : Mem) : Int32 → Mem → Prop := fun r X' => r = 1 ∧ X' = ma X 85 (upd (X 85) 0 (0 : Int32))
set_option maxHeartbeats 4000000 in
set_option maxRecDepth 100000 in
theorem k_X10_isFine_0 (w : Wt) (l : Launch) (X : Mem) : CtI w l yX10_isFine cX10_isFine 2 (some .boolean) 1 20 [.ref (w.2.1 85), .int (0 : Int32)] X (q_X10_isFine_0 X) := by
  refine CtI_of (by decide +kernel) (Nat.le_of_ble_eq_true rfl) (List.forall_mem_cons.mpr ⟨rfl, (List.forall_mem_cons.mpr ⟨rfl, (fun _ h => nomatch h)⟩)⟩) (ls := [some (.ref (w.2.1 85)), some (.int (0 : Int32))]) rfl (args := (#[.ref (w.2.1 85), .int (0 : Int32)] : Array Value)) rfl (own := RX10) rfl ?_
  intro p e s m below meth c C
  refine V_aload_n C dX10_isFine_0 rfl ?_
  refine V_iload_n C dX10_isFine_1 rfl ?_
  refine V_put C fp_X10_105 dX10_isFine_2 (by decide) sh_85 rfl ?_
  refine V_iload_n C dX10_isFine_5 rfl ?_
  refine V_if_ne (x := (0 : Int32)) (tgt := 13) C dX10_isFine_6 (by decide) (fun h => absurd h (by decide)) (fun _ => ?_)
  refine V_iconst (v := (1 : Int32)) C dX10_isFine_9 (by decide) ?_
  refine V_goto (tgt := 14) C dX10_isFine_10 (by decide) ?_
  exact V_zreturnI C dX10_isFine_14 (Or.inr rfl) ⟨rfl, rfl⟩
def q_X10_isFine_1 (X : Mem) : Int32 → Mem → Prop := fun r X' => r = 0 ∧ X' = ma X 85 (upd (X 85) 0 (1 : Int32))
set_option maxHeartbeats 4000000 in
set_option maxRecDepth 100000 in
theorem k_X10_isFine_1 (w : Wt) (l : Launch) (X : Mem) : CtI w l yX10_isFine cX10_isFine 2 (some .boolean) 1 20 [.ref (w.2.1 85), .int (1 : Int32)] X (q_X10_isFine_1 X) := by
  refine CtI_of (by decide +kernel) (Nat.le_of_ble_eq_true rfl) (List.forall_mem_cons.mpr ⟨rfl, (List.forall_mem_cons.mpr ⟨rfl, (fun _ h => nomatch h)⟩)⟩) (ls := [some (.ref (w.2.1 85)), some (.int (1 : Int32))]) rfl (args := (#[.ref (w.2.1 85), .int (1 : Int32)] : Array Value)) rfl (own := RX10) rfl ?_
  intro p e s m below meth c C
  refine V_aload_n C dX10_isFine_0 rfl ?_
  refine V_iload_n C dX10_isFine_1 rfl ?_
  refine V_put C fp_X10_105 dX10_isFine_2 (by decide) sh_85 rfl ?_
  refine V_iload_n C dX10_isFine_5 rfl ?_
  refine V_if_ne (x := (1 : Int32)) (tgt := 13) C dX10_isFine_6 (by decide) (fun _ => ?_) (fun h => absurd h (by decide))
  refine V_iconst (v := (0 : Int32)) C dX10_isFine_13 (by decide) ?_
  exact V_zreturnI C dX10_isFine_14 (Or.inl rfl) ⟨rfl, rfl⟩
def q_X10_isFine_2 (X : Mem) : Int32 → Mem → Prop := fun r X' => r = 0 ∧ X' = ma X 85 (upd (X 85) 0 (2 : Int32))
set_option maxHeartbeats 4000000 in
set_option maxRecDepth 100000 in
theorem k_X10_isFine_2 (w : Wt) (l : Launch) (X : Mem) : CtI w l yX10_isFine cX10_isFine 2 (some .boolean) 1 20 [.ref (w.2.1 85), .int (2 : Int32)] X (q_X10_isFine_2 X) := by
  refine CtI_of (by decide +kernel) (Nat.le_of_ble_eq_true rfl) (List.forall_mem_cons.mpr ⟨rfl, (List.forall_mem_cons.mpr ⟨rfl, (fun _ h => nomatch h)⟩)⟩) (ls := [some (.ref (w.2.1 85)), some (.int (2 : Int32))]) rfl (args := (#[.ref (w.2.1 85), .int (2 : Int32)] : Array Value)) rfl (own := RX10) rfl ?_
  intro p e s m below meth c C
  refine V_aload_n C dX10_isFine_0 rfl ?_
  refine V_iload_n C dX10_isFine_1 rfl ?_
  refine V_put C fp_X10_105 dX10_isFine_2 (by decide) sh_85 rfl ?_
  refine V_iload_n C dX10_isFine_5 rfl ?_
  refine V_if_ne (x := (2 : Int32)) (tgt := 13) C dX10_isFine_6 (by decide) (fun _ => ?_) (fun h => absurd h (by decide))
  refine V_iconst (v := (0 : Int32)) C dX10_isFine_13 (by decide) ?_
  exact V_zreturnI C dX10_isFine_14 (Or.inl rfl) ⟨rfl, rfl⟩
def q_X10_isFine_3 (X : Mem) : Int32 → Mem → Prop := fun r X' => r = 0 ∧ X' = ma X 85 (upd (X 85) 0 (3 : Int32))
set_option maxHeartbeats 4000000 in
set_option maxRecDepth 100000 in
theorem k_X10_isFine_3 (w : Wt) (l : Launch) (X : Mem) : CtI w l yX10_isFine cX10_isFine 2 (some .boolean) 1 20 [.ref (w.2.1 85), .int (3 : Int32)] X (q_X10_isFine_3 X) := by
  refine CtI_of (by decide +kernel) (Nat.le_of_ble_eq_true rfl) (List.forall_mem_cons.mpr ⟨rfl, (List.forall_mem_cons.mpr ⟨rfl, (fun _ h => nomatch h)⟩)⟩) (ls := [some (.ref (w.2.1 85)), some (.int (3 : Int32))]) rfl (args := (#[.ref (w.2.1 85), .int (3 : Int32)] : Array Value)) rfl (own := RX10) rfl ?_
  intro p e s m below meth c C
  refine V_aload_n C dX10_isFine_0 rfl ?_
  refine V_iload_n C dX10_isFine_1 rfl ?_
  refine V_put C fp_X10_105 dX10_isFine_2 (by decide) sh_85 rfl ?_
  refine V_iload_n C dX10_isFine_5 rfl ?_
  refine V_if_ne (x := (3 : Int32)) (tgt := 13) C dX10_isFine_6 (by decide) (fun _ => ?_) (fun h => absurd h (by decide))
  refine V_iconst (v := (0 : Int32)) C dX10_isFine_13 (by decide) ?_
  exact V_zreturnI C dX10_isFine_14 (Or.inl rfl) ⟨rfl, rfl⟩
def q_X10_isHolder (v : Int32) (X : Mem) (h : Nat) : Int32 → Mem → Prop := fun r X' => bI (Btw v 0 (nI (h - 1))) r ∧ X' = X
set_option maxHeartbeats 4000000 in
set_option maxRecDepth 100000 in
theorem k_X10_isHolder (w : Wt) (l : Launch) (v : Int32) (X : Mem) (h : Nat) (hh : X 85 5 = nI h) (h1 : 1 ≤ h) (h8 : h ≤ 8) : CtI w l yX10_isHolder cX10_isHolder 2 (some .boolean) 2 42 [.ref (w.2.1 85), .int v] X (q_X10_isHolder v X h) := by
  refine CtI_of (by decide +kernel) (Nat.le_of_ble_eq_true rfl) (List.forall_mem_cons.mpr ⟨rfl, (List.forall_mem_cons.mpr ⟨rfl, (fun _ h => nomatch h)⟩)⟩) (ls := [some (.ref (w.2.1 85)), some (.int v)]) rfl (args := (#[.ref (w.2.1 85), .int v] : Array Value)) rfl (own := RX10) rfl ?_
  intro p e s m below meth c C
  refine V_iload_n C dX10_isHolder_0 rfl ?_
  refine V_iconst (v := (0 : Int32)) C dX10_isHolder_1 (by decide) ?_
  refine V_aload_n C dX10_isHolder_2 rfl ?_
  refine V_geti C fl_X10_19 dX10_isHolder_3 (by decide) sh_85 rfl ?_
  refine V_eqi (y := nI h) hh ?_
  refine V_iconst (v := (1 : Int32)) C dX10_isHolder_6 (by decide) ?_
  refine V_isubN (a := h) (b := 1) C dX10_isHolder_7 (by omega) ?_
  refine V_callSI C [.int v, .int (0 : Int32), .int (nI (h - 1))] ms_X10_108 (k_X10_isBetween w l v (0 : Int32) (nI (h - 1)) X ) dX10_isHolder_8 rfl rfl (Nat.le_of_ble_eq_true rfl) (Nat.le_of_ble_eq_true rfl) (Nat.le_of_ble_eq_true rfl) ⟨Nat.le_refl _, Nat.le_refl _⟩ (fun v1 X1 q1 => ?_)
  obtain ⟨hb1, eX1⟩ := q1; subst X1
  exact V_zreturnI C dX10_isHolder_11 hb1.z ⟨hb1, rfl⟩
def q_X10_isNet (v : Int32) (X : Mem) : Int32 → Mem → Prop := fun r X' => bI (Btw v 0 9) r ∧ X' = X
set_option maxHeartbeats 4000000 in
set_option maxRecDepth 100000 in
theorem k_X10_isNet (w : Wt) (l : Launch) (v : Int32) (X : Mem) : CtI w l yX10_isNet cX10_isNet 1 (some .boolean) 2 42 [.int v] X (q_X10_isNet v X) := by
  refine CtI_of (by decide +kernel) (Nat.le_of_ble_eq_true rfl) (List.forall_mem_cons.mpr ⟨rfl, (fun _ h => nomatch h)⟩) (ls := [some (.int v)]) rfl (args := (#[.int v] : Array Value)) rfl (own := RX10) rfl ?_
  intro p e s m below meth c C
  refine V_iload_n C dX10_isNet_0 rfl ?_
  refine V_iconst (v := (0 : Int32)) C dX10_isNet_1 (by decide) ?_
  refine V_bipush (v := (9 : Int32)) C dX10_isNet_2 (by decide) ?_
  refine V_callSI C [.int v, .int (0 : Int32), .int (9 : Int32)] ms_X10_108 (k_X10_isBetween w l v (0 : Int32) (9 : Int32) X ) dX10_isNet_4 rfl rfl (Nat.le_of_ble_eq_true rfl) (Nat.le_of_ble_eq_true rfl) (Nat.le_of_ble_eq_true rfl) ⟨Nat.le_refl _, Nat.le_refl _⟩ (fun v1 X1 q1 => ?_)
  obtain ⟨hb1, eX1⟩ := q1; subst X1
  exact V_zreturnI C dX10_isNet_7 hb1.z ⟨hb1, rfl⟩
def q_X10_areDays (v : Int32) (X : Mem) : Int32 → Mem → Prop := fun r X' => bI (Btw v 0 1000) r ∧ X' = X
set_option maxHeartbeats 4000000 in
set_option maxRecDepth 100000 in
theorem k_X10_areDays (w : Wt) (l : Launch) (v : Int32) (X : Mem) : CtI w l yX10_areDays cX10_areDays 1 (some .boolean) 2 42 [.int v] X (q_X10_areDays v X) := by
  refine CtI_of (by decide +kernel) (Nat.le_of_ble_eq_true rfl) (List.forall_mem_cons.mpr ⟨rfl, (fun _ h => nomatch h)⟩) (ls := [some (.int v)]) rfl (args := (#[.int v] : Array Value)) rfl (own := RX10) rfl ?_
  intro p e s m below meth c C
  refine V_iload_n C dX10_areDays_0 rfl ?_
  refine V_iconst (v := (0 : Int32)) C dX10_areDays_1 (by decide) ?_
  refine V_sipush (v := (1000 : Int32)) C dX10_areDays_2 (by decide) ?_
  refine V_callSI C [.int v, .int (0 : Int32), .int (1000 : Int32)] ms_X10_108 (k_X10_isBetween w l v (0 : Int32) (1000 : Int32) X ) dX10_areDays_5 rfl rfl (Nat.le_of_ble_eq_true rfl) (Nat.le_of_ble_eq_true rfl) (Nat.le_of_ble_eq_true rfl) ⟨Nat.le_refl _, Nat.le_refl _⟩ (fun v1 X1 q1 => ?_)
  obtain ⟨hb1, eX1⟩ := q1; subst X1
  exact V_zreturnI C dX10_areDays_8 hb1.z ⟨hb1, rfl⟩
def q_X10_isObject (v : Int32) (X : Mem) (n : Nat) : Int32 → Mem → Prop := fun r X' => bI (Btw v 0 (nI n - 1)) r ∧ X' = X
set_option maxHeartbeats 4000000 in
set_option maxRecDepth 100000 in
theorem k_X10_isObject (w : Wt) (l : Launch) (v : Int32) (X : Mem) (n : Nat) (hn : X 85 17 = nI n) (n50 : n ≤ 50) : CtI w l yX10_isObject cX10_isObject 2 (some .boolean) 2 42 [.ref (w.2.1 85), .int v] X (q_X10_isObject v X n) := by
  refine CtI_of (by decide +kernel) (Nat.le_of_ble_eq_true rfl) (List.forall_mem_cons.mpr ⟨rfl, (List.forall_mem_cons.mpr ⟨rfl, (fun _ h => nomatch h)⟩)⟩) (ls := [some (.ref (w.2.1 85)), some (.int v)]) rfl (args := (#[.ref (w.2.1 85), .int v] : Array Value)) rfl (own := RX10) rfl ?_
  intro p e s m below meth c C
  refine V_iload_n C dX10_isObject_0 rfl ?_
  refine V_iconst (v := (0 : Int32)) C dX10_isObject_1 (by decide) ?_
  refine V_aload_n C dX10_isObject_2 rfl ?_
  refine V_geti C fl_X10_112 dX10_isObject_3 (by decide) sh_85 rfl ?_
  refine V_eqi (y := nI n) hn ?_
  refine V_iconst (v := (1 : Int32)) C dX10_isObject_6 (by decide) ?_
  refine V_isub C dX10_isObject_7 ?_
  refine V_callSI C [.int v, .int (0 : Int32), .int ((nI n) - (1 : Int32))] ms_X10_108 (k_X10_isBetween w l v (0 : Int32) ((nI n) - (1 : Int32)) X ) dX10_isObject_8 rfl rfl (Nat.le_of_ble_eq_true rfl) (Nat.le_of_ble_eq_true rfl) (Nat.le_of_ble_eq_true rfl) ⟨Nat.le_refl _, Nat.le_refl _⟩ (fun v1 X1 q1 => ?_)
  obtain ⟨hb1, eX1⟩ := q1; subst X1
  exact V_zreturnI C dX10_isObject_11 hb1.z ⟨hb1, rfl⟩
def q_X10_isBlock (v : Int32) (ln : Int32) (X : Mem) : Int32 → Mem → Prop := fun r X' => bI (Blk v ln) r ∧ X' = X
set_option maxHeartbeats 4000000 in
set_option maxRecDepth 100000 in
theorem k_X10_isBlock (w : Wt) (l : Launch) (v : Int32) (ln : Int32) (X : Mem) : CtI w l yX10_isBlock cX10_isBlock 2 (some .boolean) 2 42 [.int v, .int ln] X (q_X10_isBlock v ln X) := by
  refine CtI_of (by decide +kernel) (Nat.le_of_ble_eq_true rfl) (List.forall_mem_cons.mpr ⟨rfl, (List.forall_mem_cons.mpr ⟨rfl, (fun _ h => nomatch h)⟩)⟩) (ls := [some (.int v), some (.int ln)]) rfl (args := (#[.int v, .int ln] : Array Value)) rfl (own := RX10) rfl ?_
  intro p e s m below meth c C
  refine V_iload_n C dX10_isBlock_0 rfl ?_
  refine V_iconst (v := (0 : Int32)) C dX10_isBlock_1 (by decide) ?_
  refine V_sipush (v := (255 : Int32)) C dX10_isBlock_2 (by decide) ?_
  refine V_callSI C [.int v, .int (0 : Int32), .int (255 : Int32)] ms_X10_108 (k_X10_isBetween w l v (0 : Int32) (255 : Int32) X ) dX10_isBlock_5 rfl rfl (Nat.le_of_ble_eq_true rfl) (Nat.le_of_ble_eq_true rfl) (Nat.le_of_ble_eq_true rfl) ⟨Nat.le_refl _, Nat.le_refl _⟩ (fun v1 X1 q1 => ?_)
  obtain ⟨hb1, eX1⟩ := q1; subst X1
  refine V_if_eqB (tgt := 38) C hb1 dX10_isBlock_8 (by decide) (fun h8_2 => ?_) (fun h8_2 => ?_)
  · refine V_iconst (v := (0 : Int32)) C dX10_isBlock_38 (by decide) ?_
    exact V_zreturnI C dX10_isBlock_39 (Or.inl rfl) (by first | exact ⟨bI.f (fun q => absurd q.1 (by assumption)), rfl⟩ | exact ⟨bI.f (fun q => absurd q.2.1 (by assumption)), rfl⟩ | exact ⟨bI.f (fun q => absurd ((blkM a0 (by omega) b0 (by omega)).mpr ((Blk_n (by omega) (by omega) hg1 hg2).mp q)) (by assumption)), rfl⟩)
  · refine V_iload_n C dX10_isBlock_11 rfl ?_
    refine V_iconst (v := (0 : Int32)) C dX10_isBlock_12 (by decide) ?_
    refine V_bipush (v := (8 : Int32)) C dX10_isBlock_13 (by decide) ?_
    refine V_callSI C [.int ln, .int (0 : Int32), .int (8 : Int32)] ms_X10_108 (k_X10_isBetween w l ln (0 : Int32) (8 : Int32) X ) dX10_isBlock_15 rfl rfl (Nat.le_of_ble_eq_true rfl) (Nat.le_of_ble_eq_true rfl) (Nat.le_of_ble_eq_true rfl) ⟨Nat.le_refl _, Nat.le_refl _⟩ (fun v3 X3 q3 => ?_)
    obtain ⟨hb3, eX3⟩ := q3; subst X3
    refine V_if_eqB (tgt := 38) C hb3 dX10_isBlock_18 (by decide) (fun h18_4 => ?_) (fun h18_4 => ?_)
    · refine V_iconst (v := (0 : Int32)) C dX10_isBlock_38 (by decide) ?_
      exact V_zreturnI C dX10_isBlock_39 (Or.inl rfl) (by first | exact ⟨bI.f (fun q => absurd q.1 (by assumption)), rfl⟩ | exact ⟨bI.f (fun q => absurd q.2.1 (by assumption)), rfl⟩ | exact ⟨bI.f (fun q => absurd ((blkM a0 (by omega) b0 (by omega)).mpr ((Blk_n (by omega) (by omega) hg1 hg2).mp q)) (by assumption)), rfl⟩)
    · have hg1 : Btw v 0 255 := by assumption
      have hg2 : Btw ln 0 8 := by assumption
      obtain ⟨a0, ha0, ea0⟩ := Btw_of (n := 255) (by decide) hg1
      subst ea0
      obtain ⟨b0, hb0, eb0⟩ := Btw_of (n := 8) (by decide) hg2
      subst eb0
      refine V_iload_n C dX10_isBlock_21 rfl ?_
      refine V_iconst (v := (1 : Int32)) C dX10_isBlock_22 (by decide) ?_
      refine V_bipush (v := (8 : Int32)) C dX10_isBlock_23 (by decide) ?_
      refine V_iload_n C dX10_isBlock_25 rfl ?_
      refine V_isubN (a := 8) (b := b0) C dX10_isBlock_26 (by omega) ?_
      refine V_ishl C dX10_isBlock_27 ?_
      refine V_iconst (v := (1 : Int32)) C dX10_isBlock_28 (by decide) ?_
      refine V_isub C dX10_isBlock_29 ?_
      refine V_iand C dX10_isBlock_30 ?_
      refine V_if_ne (x := (nI a0) &&& (((1 : Int32) <<< ((nI (8 - b0)) &&& 31)) - (1 : Int32))) (tgt := 38) C dX10_isBlock_31 (by decide) (fun h31_5 => ?_) (fun h31_5 => ?_)
      · refine V_iconst (v := (0 : Int32)) C dX10_isBlock_38 (by decide) ?_
        exact V_zreturnI C dX10_isBlock_39 (Or.inl rfl) (by first | exact ⟨bI.f (fun q => absurd q.1 (by assumption)), rfl⟩ | exact ⟨bI.f (fun q => absurd q.2.1 (by assumption)), rfl⟩ | exact ⟨bI.f (fun q => absurd ((blkM a0 (by omega) b0 (by omega)).mpr ((Blk_n (by omega) (by omega) hg1 hg2).mp q)) (by assumption)), rfl⟩)
      · refine V_iconst (v := (1 : Int32)) C dX10_isBlock_34 (by decide) ?_
        refine V_goto (tgt := 39) C dX10_isBlock_35 (by decide) ?_
        exact V_zreturnI C dX10_isBlock_39 (Or.inr rfl) ⟨bI.t ((Blk_n (by omega) (by omega) hg1 hg2).mpr ((blkM a0 (by omega) b0 (by omega)).mp (by assumption))), rfl⟩
def q_X10_signs_a (o : Nat) (X : Mem) : Int32 → Mem → Prop := fun r X' => r = sigS (oM X) o (kyy (gM X) (ix (isr (oM X) o))) ∧ X' = X
set_option maxHeartbeats 4000000 in
set_option maxRecDepth 100000 in
theorem k_X10_signs_a (w : Wt) (l : Launch) (o : Nat) (X : Mem) (ho : o < 50) (hi : ∃ a, a < 8 ∧ isr (oM X) o = nI a) : CtI w l yX10_signs cX10_signs 3 (some .int) 2 41 [.ref (w.2.1 85), .int (nI o)] X (q_X10_signs_a o X) := by
  refine CtI_of (by decide +kernel) (Nat.le_of_ble_eq_true rfl) (List.forall_mem_cons.mpr ⟨rfl, (List.forall_mem_cons.mpr ⟨rfl, (fun _ h => nomatch h)⟩)⟩) (ls := [some (.ref (w.2.1 85)), some (.int (nI o)), none]) rfl (args := (#[.ref (w.2.1 85), .int (nI o)] : Array Value)) rfl (own := RX10) rfl ?_
  intro p e s m below meth c C
  refine V_iconst (v := (0 : Int32)) C dX10_signs_0 (by decide) ?_
  refine V_aload_n C dX10_signs_1 rfl ?_
  refine V_getr C fl_X10_26 dX10_signs_2 (by decide) sh_85 rfl ?_
  refine V_iload_n C dX10_signs_5 rfl ?_
  refine V_ialdN (p0 := 90) (o := o) (v := X 90 o) C dX10_signs_6 sh_90 (by decide) (by omega) (by decide) rfl ?_
  refine V_callSI C [.int (0 : Int32), .int (X 90 o)] ms_X10_129 (k_X10_mixes w l (0 : Int32) (X 90 o) X ) dX10_signs_7 rfl rfl (Nat.le_of_ble_eq_true rfl) (Nat.le_of_ble_eq_true rfl) (Nat.le_of_ble_eq_true rfl) ⟨Nat.le_refl _, Nat.le_refl _⟩ (fun v1 X1 q1 => ?_)
  obtain ⟨ev1, eX1⟩ := q1; subst X1
  subst v1
  refine V_aload_n C dX10_signs_10 rfl ?_
  refine V_getr C fl_X10_29 dX10_signs_11 (by decide) sh_85 rfl ?_
  refine V_iload_n C dX10_signs_14 rfl ?_
  refine V_ialdN (p0 := 91) (o := o) (v := X 91 o) C dX10_signs_15 sh_91 (by decide) (by omega) (by decide) rfl ?_
  refine V_callSI C [.int (mixS (0 : Int32) (X 90 o)), .int (X 91 o)] ms_X10_129 (k_X10_mixes w l (mixS (0 : Int32) (X 90 o)) (X 91 o) X ) dX10_signs_16 rfl rfl (Nat.le_of_ble_eq_true rfl) (Nat.le_of_ble_eq_true rfl) (Nat.le_of_ble_eq_true rfl) ⟨Nat.le_refl _, Nat.le_refl _⟩ (fun v2 X2 q2 => ?_)
  obtain ⟨ev2, eX2⟩ := q2; subst X2
  subst v2
  refine V_aload_n C dX10_signs_19 rfl ?_
  refine V_getr C fl_X10_32 dX10_signs_20 (by decide) sh_85 rfl ?_
  refine V_iload_n C dX10_signs_23 rfl ?_
  refine V_ialdN (p0 := 92) (o := o) (v := X 92 o) C dX10_signs_24 sh_92 (by decide) (by omega) (by decide) rfl ?_
  refine V_callSI C [.int (mixS (mixS (0 : Int32) (X 90 o)) (X 91 o)), .int (X 92 o)] ms_X10_129 (k_X10_mixes w l (mixS (mixS (0 : Int32) (X 90 o)) (X 91 o)) (X 92 o) X ) dX10_signs_25 rfl rfl (Nat.le_of_ble_eq_true rfl) (Nat.le_of_ble_eq_true rfl) (Nat.le_of_ble_eq_true rfl) ⟨Nat.le_refl _, Nat.le_refl _⟩ (fun v3 X3 q3 => ?_)
  obtain ⟨ev3, eX3⟩ := q3; subst X3
  subst v3
  refine V_istore_n (ls1 := [some (.ref (w.2.1 85)), some (.int (nI o)), some (.int (mixS (mixS (mixS (0 : Int32) (X 90 o)) (X 91 o)) (X 92 o)))]) C dX10_signs_28 (by decide) rfl ?_
  refine V_iload_n C dX10_signs_29 rfl ?_
  refine V_aload_n C dX10_signs_30 rfl ?_
  refine V_getr C fl_X10_35 dX10_signs_31 (by decide) sh_85 rfl ?_
  refine V_iload_n C dX10_signs_34 rfl ?_
  refine V_ialdN (p0 := 93) (o := o) (v := X 93 o) C dX10_signs_35 sh_93 (by decide) (by omega) (by decide) rfl ?_
  refine V_callSI C [.int (mixS (mixS (mixS (0 : Int32) (X 90 o)) (X 91 o)) (X 92 o)), .int (X 93 o)] ms_X10_129 (k_X10_mixes w l (mixS (mixS (mixS (0 : Int32) (X 90 o)) (X 91 o)) (X 92 o)) (X 93 o) X ) dX10_signs_36 rfl rfl (Nat.le_of_ble_eq_true rfl) (Nat.le_of_ble_eq_true rfl) (Nat.le_of_ble_eq_true rfl) ⟨Nat.le_refl _, Nat.le_refl _⟩ (fun v4 X4 q4 => ?_)
  obtain ⟨ev4, eX4⟩ := q4; subst X4
  subst v4
  refine V_aload_n C dX10_signs_39 rfl ?_
  refine V_getr C fl_X10_38 dX10_signs_40 (by decide) sh_85 rfl ?_
  refine V_iload_n C dX10_signs_43 rfl ?_
  refine V_ialdN (p0 := 94) (o := o) (v := X 94 o) C dX10_signs_44 sh_94 (by decide) (by omega) (by decide) rfl ?_
  refine V_callSI C [.int (mixS (mixS (mixS (mixS (0 : Int32) (X 90 o)) (X 91 o)) (X 92 o)) (X 93 o)), .int (X 94 o)] ms_X10_129 (k_X10_mixes w l (mixS (mixS (mixS (mixS (0 : Int32) (X 90 o)) (X 91 o)) (X 92 o)) (X 93 o)) (X 94 o) X ) dX10_signs_45 rfl rfl (Nat.le_of_ble_eq_true rfl) (Nat.le_of_ble_eq_true rfl) (Nat.le_of_ble_eq_true rfl) ⟨Nat.le_refl _, Nat.le_refl _⟩ (fun v5 X5 q5 => ?_)
  obtain ⟨ev5, eX5⟩ := q5; subst X5
  subst v5
  refine V_aload_n C dX10_signs_48 rfl ?_
  refine V_getr C fl_X10_41 dX10_signs_49 (by decide) sh_85 rfl ?_
  refine V_iload_n C dX10_signs_52 rfl ?_
  refine V_ialdN (p0 := 95) (o := o) (v := X 95 o) C dX10_signs_53 sh_95 (by decide) (by omega) (by decide) rfl ?_
  refine V_callSI C [.int (mixS (mixS (mixS (mixS (mixS (0 : Int32) (X 90 o)) (X 91 o)) (X 92 o)) (X 93 o)) (X 94 o)), .int (X 95 o)] ms_X10_129 (k_X10_mixes w l (mixS (mixS (mixS (mixS (mixS (0 : Int32) (X 90 o)) (X 91 o)) (X 92 o)) (X 93 o)) (X 94 o)) (X 95 o) X ) dX10_signs_54 rfl rfl (Nat.le_of_ble_eq_true rfl) (Nat.le_of_ble_eq_true rfl) (Nat.le_of_ble_eq_true rfl) ⟨Nat.le_refl _, Nat.le_refl _⟩ (fun v6 X6 q6 => ?_)
  obtain ⟨ev6, eX6⟩ := q6; subst X6
  subst v6
  refine V_aload_n C dX10_signs_57 rfl ?_
  refine V_getr C fl_X10_44 dX10_signs_58 (by decide) sh_85 rfl ?_
  refine V_iload_n C dX10_signs_61 rfl ?_
  refine V_ialdN (p0 := 96) (o := o) (v := X 96 o) C dX10_signs_62 sh_96 (by decide) (by omega) (by decide) rfl ?_
  refine V_callSI C [.int (mixS (mixS (mixS (mixS (mixS (mixS (0 : Int32) (X 90 o)) (X 91 o)) (X 92 o)) (X 93 o)) (X 94 o)) (X 95 o)), .int (X 96 o)] ms_X10_129 (k_X10_mixes w l (mixS (mixS (mixS (mixS (mixS (mixS (0 : Int32) (X 90 o)) (X 91 o)) (X 92 o)) (X 93 o)) (X 94 o)) (X 95 o)) (X 96 o) X ) dX10_signs_63 rfl rfl (Nat.le_of_ble_eq_true rfl) (Nat.le_of_ble_eq_true rfl) (Nat.le_of_ble_eq_true rfl) ⟨Nat.le_refl _, Nat.le_refl _⟩ (fun v7 X7 q7 => ?_)
  obtain ⟨ev7, eX7⟩ := q7; subst X7
  subst v7
  refine V_istore_n (ls1 := [some (.ref (w.2.1 85)), some (.int (nI o)), some (.int (mixS (mixS (mixS (mixS (mixS (mixS (mixS (0 : Int32) (X 90 o)) (X 91 o)) (X 92 o)) (X 93 o)) (X 94 o)) (X 95 o)) (X 96 o)))]) C dX10_signs_66 (by decide) rfl ?_
  refine V_bipush (v := (31 : Int32)) C dX10_signs_67 (by decide) ?_
  refine V_iload_n C dX10_signs_69 rfl ?_
  refine V_imul C dX10_signs_70 ?_
  refine V_sipush (v := (7919 : Int32)) C dX10_signs_71 (by decide) ?_
  refine V_bipush (v := (101 : Int32)) C dX10_signs_74 (by decide) ?_
  refine V_aload_n C dX10_signs_76 rfl ?_
  refine V_getr C fl_X10_29 dX10_signs_77 (by decide) sh_85 rfl ?_
  refine V_iload_n C dX10_signs_80 rfl ?_
  refine V_ialdN (p0 := 91) (o := o) (v := X 91 o) C dX10_signs_81 sh_91 (by decide) (by omega) (by decide) rfl ?_
  refine V_imul C dX10_signs_82 ?_
  refine V_bipush (v := (17 : Int32)) C dX10_signs_83 (by decide) ?_
  refine V_aload_n C dX10_signs_85 rfl ?_
  refine V_getr C fl_X10_13 dX10_signs_86 (by decide) sh_85 rfl ?_
  refine V_aload_n C dX10_signs_89 rfl ?_
  refine V_getr C fl_X10_29 dX10_signs_90 (by decide) sh_85 rfl ?_
  refine V_iload_n C dX10_signs_93 rfl ?_
  refine V_ialdN (p0 := 91) (o := o) (v := X 91 o) C dX10_signs_94 sh_91 (by decide) (by omega) (by decide) rfl ?_
  obtain ⟨a8, ha8, ea8⟩ := hi
  have ia8 : ix (nI a8) = a8 := ix_nI (by omega)
  refine V_eqi ea8 ?_
  refine V_ialdN (p0 := 87) (o := a8) (v := X 87 a8) C dX10_signs_95 sh_87 (by decide) (by omega) (by decide) rfl ?_
  refine V_imul C dX10_signs_96 ?_
  refine V_iadd C dX10_signs_97 ?_
  refine V_imul C dX10_signs_98 ?_
  refine V_iadd C dX10_signs_99 ?_
  refine V_ldc C kc_X10_128 dX10_signs_100 ?_
  refine V_irem C dX10_signs_102 (by decide) ?_
  exact V_ireturnI C dX10_signs_103 ⟨by rw [ea8, ia8]; rfl, rfl⟩
def q_X10_makes (k : Int32) (a : Nat) (wm : Int32) (vl : Int32) (ln : Int32) (ex : Int32) (dd : Int32) (X : Mem) (n : Nat) : Int32 → Mem → Prop := fun r X' => r = nI n ∧ X' = ma (ma (ma (ma (ma (ma (ma (ma (ma X 90 (upd (X 90) n k)) 91 (upd (X 91) n (nI a))) 92 (upd (X 92) n wm)) 93 (upd (X 93) n vl)) 94 (upd (X 94) n ln)) 95 (upd (X 95) n ex)) 96 (upd (X 96) n (X 85 1 + dd))) 97 (upd (X 97) n (sigS (oM (ma (ma (ma (ma (ma (ma (ma X 90 (upd (X 90) n k)) 91 (upd (X 91) n (nI a))) 92 (upd (X 92) n wm)) 93 (upd (X 93) n vl)) 94 (upd (X 94) n ln)) 95 (upd (X 95) n ex)) 96 (upd (X 96) n (X 85 1 + dd)))) n (kyy (gM (ma (ma (ma (ma (ma (ma (ma X 90 (upd (X 90) n k)) 91 (upd (X 91) n (nI a))) 92 (upd (X 92) n wm)) 93 (upd (X 93) n vl)) 94 (upd (X 94) n ln)) 95 (upd (X 95) n ex)) 96 (upd (X 96) n (X 85 1 + dd)))) (ix (isr (oM (ma (ma (ma (ma (ma (ma (ma X 90 (upd (X 90) n k)) 91 (upd (X 91) n (nI a))) 92 (upd (X 92) n wm)) 93 (upd (X 93) n vl)) 94 (upd (X 94) n ln)) 95 (upd (X 95) n ex)) 96 (upd (X 96) n (X 85 1 + dd)))) n)))))) 85 (upd (X 85) 17 (nI (n + 1)))
set_option maxHeartbeats 4000000 in
set_option maxRecDepth 100000 in
theorem k_X10_makes (w : Wt) (l : Launch) (k : Int32) (a : Nat) (wm : Int32) (vl : Int32) (ln : Int32) (ex : Int32) (dd : Int32) (X : Mem) (n : Nat) (hn : X 85 17 = nI n) (n50 : n < 50) (ha : a < 8) : CtI w l yX10_makes cX10_makes 8 (some .int) 3 63 [.ref (w.2.1 85), .int k, .int (nI a), .int wm, .int vl, .int ln, .int ex, .int dd] X (q_X10_makes k a wm vl ln ex dd X n) := by
  refine CtI_of (by decide +kernel) (Nat.le_of_ble_eq_true rfl) (List.forall_mem_cons.mpr ⟨rfl, (List.forall_mem_cons.mpr ⟨rfl, (List.forall_mem_cons.mpr ⟨rfl, (List.forall_mem_cons.mpr ⟨rfl, (List.forall_mem_cons.mpr ⟨rfl, (List.forall_mem_cons.mpr ⟨rfl, (List.forall_mem_cons.mpr ⟨rfl, (List.forall_mem_cons.mpr ⟨rfl, (fun _ h => nomatch h)⟩)⟩)⟩)⟩)⟩)⟩)⟩)⟩) (ls := [some (.ref (w.2.1 85)), some (.int k), some (.int (nI a)), some (.int wm), some (.int vl), some (.int ln), some (.int ex), some (.int dd)]) rfl (args := (#[.ref (w.2.1 85), .int k, .int (nI a), .int wm, .int vl, .int ln, .int ex, .int dd] : Array Value)) rfl (own := RX10) rfl ?_
  intro p e s m below meth c C
  refine V_aload_n C dX10_makes_0 rfl ?_
  refine V_getr C fl_X10_26 dX10_makes_1 (by decide) sh_85 rfl ?_
  refine V_aload_n C dX10_makes_4 rfl ?_
  refine V_geti C fl_X10_112 dX10_makes_5 (by decide) sh_85 rfl ?_
  refine V_eqi (y := nI n) hn ?_
  refine V_iload_n C dX10_makes_8 rfl ?_
  refine V_iastN (p0 := 90) (o := n) (X1 := (ma X 90 (upd (X 90) n k))) C dX10_makes_9 sh_90 (by decide) (by omega) (by decide) rfl ?_
  refine V_aload_n C dX10_makes_10 rfl ?_
  refine V_getr C fl_X10_29 dX10_makes_11 (by decide) sh_85 rfl ?_
  refine V_aload_n C dX10_makes_14 rfl ?_
  refine V_geti C fl_X10_112 dX10_makes_15 (by decide) sh_85 rfl ?_
  refine V_eqi (y := X 85 17) rfl ?_
  refine V_eqi (y := nI n) hn ?_
  refine V_iload_n C dX10_makes_18 rfl ?_
  refine V_iastN (p0 := 91) (o := n) (X1 := (ma (ma X 90 (upd (X 90) n k)) 91 (upd (X 91) n (nI a)))) C dX10_makes_19 sh_91 (by decide) (by omega) (by decide) rfl ?_
  refine V_aload_n C dX10_makes_20 rfl ?_
  refine V_getr C fl_X10_32 dX10_makes_21 (by decide) sh_85 rfl ?_
  refine V_aload_n C dX10_makes_24 rfl ?_
  refine V_geti C fl_X10_112 dX10_makes_25 (by decide) sh_85 rfl ?_
  refine V_eqi (y := X 85 17) rfl ?_
  refine V_eqi (y := nI n) hn ?_
  refine V_iload_n C dX10_makes_28 rfl ?_
  refine V_iastN (p0 := 92) (o := n) (X1 := (ma (ma (ma X 90 (upd (X 90) n k)) 91 (upd (X 91) n (nI a))) 92 (upd (X 92) n wm))) C dX10_makes_29 sh_92 (by decide) (by omega) (by decide) rfl ?_
  refine V_aload_n C dX10_makes_30 rfl ?_
  refine V_getr C fl_X10_35 dX10_makes_31 (by decide) sh_85 rfl ?_
  refine V_aload_n C dX10_makes_34 rfl ?_
  refine V_geti C fl_X10_112 dX10_makes_35 (by decide) sh_85 rfl ?_
  refine V_eqi (y := X 85 17) rfl ?_
  refine V_eqi (y := nI n) hn ?_
  refine V_iload C dX10_makes_38 rfl ?_
  refine V_iastN (p0 := 93) (o := n) (X1 := (ma (ma (ma (ma X 90 (upd (X 90) n k)) 91 (upd (X 91) n (nI a))) 92 (upd (X 92) n wm)) 93 (upd (X 93) n vl))) C dX10_makes_40 sh_93 (by decide) (by omega) (by decide) rfl ?_
  refine V_aload_n C dX10_makes_41 rfl ?_
  refine V_getr C fl_X10_38 dX10_makes_42 (by decide) sh_85 rfl ?_
  refine V_aload_n C dX10_makes_45 rfl ?_
  refine V_geti C fl_X10_112 dX10_makes_46 (by decide) sh_85 rfl ?_
  refine V_eqi (y := X 85 17) rfl ?_
  refine V_eqi (y := nI n) hn ?_
  refine V_iload C dX10_makes_49 rfl ?_
  refine V_iastN (p0 := 94) (o := n) (X1 := (ma (ma (ma (ma (ma X 90 (upd (X 90) n k)) 91 (upd (X 91) n (nI a))) 92 (upd (X 92) n wm)) 93 (upd (X 93) n vl)) 94 (upd (X 94) n ln))) C dX10_makes_51 sh_94 (by decide) (by omega) (by decide) rfl ?_
  refine V_aload_n C dX10_makes_52 rfl ?_
  refine V_getr C fl_X10_41 dX10_makes_53 (by decide) sh_85 rfl ?_
  refine V_aload_n C dX10_makes_56 rfl ?_
  refine V_geti C fl_X10_112 dX10_makes_57 (by decide) sh_85 rfl ?_
  refine V_eqi (y := X 85 17) rfl ?_
  refine V_eqi (y := nI n) hn ?_
  refine V_iload C dX10_makes_60 rfl ?_
  refine V_iastN (p0 := 95) (o := n) (X1 := (ma (ma (ma (ma (ma (ma X 90 (upd (X 90) n k)) 91 (upd (X 91) n (nI a))) 92 (upd (X 92) n wm)) 93 (upd (X 93) n vl)) 94 (upd (X 94) n ln)) 95 (upd (X 95) n ex))) C dX10_makes_62 sh_95 (by decide) (by omega) (by decide) rfl ?_
  refine V_aload_n C dX10_makes_63 rfl ?_
  refine V_getr C fl_X10_44 dX10_makes_64 (by decide) sh_85 rfl ?_
  refine V_aload_n C dX10_makes_67 rfl ?_
  refine V_geti C fl_X10_112 dX10_makes_68 (by decide) sh_85 rfl ?_
  refine V_eqi (y := X 85 17) rfl ?_
  refine V_eqi (y := nI n) hn ?_
  refine V_aload_n C dX10_makes_71 rfl ?_
  refine V_geti C fl_X10_122 dX10_makes_72 (by decide) sh_85 rfl ?_
  refine V_eqi (y := X 85 1) rfl ?_
  refine V_iload C dX10_makes_75 rfl ?_
  refine V_iadd C dX10_makes_77 ?_
  refine V_iastN (p0 := 96) (o := n) (X1 := (ma (ma (ma (ma (ma (ma (ma X 90 (upd (X 90) n k)) 91 (upd (X 91) n (nI a))) 92 (upd (X 92) n wm)) 93 (upd (X 93) n vl)) 94 (upd (X 94) n ln)) 95 (upd (X 95) n ex)) 96 (upd (X 96) n ((X 85 1) + dd)))) C dX10_makes_78 sh_96 (by decide) (by omega) (by decide) rfl ?_
  refine V_aload_n C dX10_makes_79 rfl ?_
  refine V_getr C fl_X10_47 dX10_makes_80 (by decide) sh_85 rfl ?_
  refine V_aload_n C dX10_makes_83 rfl ?_
  refine V_geti C fl_X10_112 dX10_makes_84 (by decide) sh_85 rfl ?_
  refine V_eqi (y := X 85 17) rfl ?_
  refine V_eqi (y := nI n) hn ?_
  refine V_aload_n C dX10_makes_87 rfl ?_
  refine V_aload_n C dX10_makes_88 rfl ?_
  refine V_geti C fl_X10_112 dX10_makes_89 (by decide) sh_85 rfl ?_
  refine V_eqi (y := X 85 17) rfl ?_
  refine V_eqi (y := nI n) hn ?_
  refine V_callVI C [.int (nI n)] mi_X10_133 (k_X10_signs_a w l n (ma (ma (ma (ma (ma (ma (ma X 90 (upd (X 90) n k)) 91 (upd (X 91) n (nI a))) 92 (upd (X 92) n wm)) 93 (upd (X 93) n vl)) 94 (upd (X 94) n ln)) 95 (upd (X 95) n ex)) 96 (upd (X 96) n ((X 85 1) + dd))) (by omega) ⟨a, ha, (by show upd (X 91) n (nI a) n = nI a; exact upd_eq _ _ _)⟩) dX10_makes_92 sh_85 (by decide) rfl rfl rfl (Nat.le_of_ble_eq_true rfl) (Nat.le_of_ble_eq_true rfl) (Nat.le_of_ble_eq_true rfl) ⟨Nat.le_refl _, Nat.le_refl _⟩ (fun v1 X1 q1 => ?_)
  obtain ⟨ev1, eX1⟩ := q1; subst X1; subst v1
  refine V_iastN (p0 := 97) (o := n) (X1 := (ma (ma (ma (ma (ma (ma (ma (ma X 90 (upd (X 90) n k)) 91 (upd (X 91) n (nI a))) 92 (upd (X 92) n wm)) 93 (upd (X 93) n vl)) 94 (upd (X 94) n ln)) 95 (upd (X 95) n ex)) 96 (upd (X 96) n ((X 85 1) + dd))) 97 (upd (X 97) n (sigS (oM (ma (ma (ma (ma (ma (ma (ma X 90 (upd (X 90) n k)) 91 (upd (X 91) n (nI a))) 92 (upd (X 92) n wm)) 93 (upd (X 93) n vl)) 94 (upd (X 94) n ln)) 95 (upd (X 95) n ex)) 96 (upd (X 96) n ((X 85 1) + dd)))) n (kyy (gM (ma (ma (ma (ma (ma (ma (ma X 90 (upd (X 90) n k)) 91 (upd (X 91) n (nI a))) 92 (upd (X 92) n wm)) 93 (upd (X 93) n vl)) 94 (upd (X 94) n ln)) 95 (upd (X 95) n ex)) 96 (upd (X 96) n ((X 85 1) + dd)))) (ix (isr (oM (ma (ma (ma (ma (ma (ma (ma X 90 (upd (X 90) n k)) 91 (upd (X 91) n (nI a))) 92 (upd (X 92) n wm)) 93 (upd (X 93) n vl)) 94 (upd (X 94) n ln)) 95 (upd (X 95) n ex)) 96 (upd (X 96) n ((X 85 1) + dd)))) n))))))) C dX10_makes_95 sh_97 (by decide) (by omega) (by decide) rfl ?_
  refine V_aload_n C dX10_makes_96 rfl ?_
  refine V_dup C dX10_makes_97 rfl ?_
  refine V_geti C fl_X10_112 dX10_makes_98 (by decide) sh_85 rfl ?_
  refine V_eqi (y := X 85 17) rfl ?_
  refine V_eqi (y := nI n) hn ?_
  refine V_iconst (v := (1 : Int32)) C dX10_makes_101 (by decide) ?_
  refine V_iaddN (a := n) (b := 1) C dX10_makes_102 ?_
  refine V_put C fp_X10_112 dX10_makes_103 (by decide) sh_85 rfl ?_
  refine V_eqX (X1 := (ma (ma (ma (ma (ma (ma (ma (ma (ma X 90 (upd (X 90) n k)) 91 (upd (X 91) n (nI a))) 92 (upd (X 92) n wm)) 93 (upd (X 93) n vl)) 94 (upd (X 94) n ln)) 95 (upd (X 95) n ex)) 96 (upd (X 96) n ((X 85 1) + dd))) 97 (upd (X 97) n (sigS (oM (ma (ma (ma (ma (ma (ma (ma X 90 (upd (X 90) n k)) 91 (upd (X 91) n (nI a))) 92 (upd (X 92) n wm)) 93 (upd (X 93) n vl)) 94 (upd (X 94) n ln)) 95 (upd (X 95) n ex)) 96 (upd (X 96) n ((X 85 1) + dd)))) n (kyy (gM (ma (ma (ma (ma (ma (ma (ma X 90 (upd (X 90) n k)) 91 (upd (X 91) n (nI a))) 92 (upd (X 92) n wm)) 93 (upd (X 93) n vl)) 94 (upd (X 94) n ln)) 95 (upd (X 95) n ex)) 96 (upd (X 96) n ((X 85 1) + dd)))) (ix (isr (oM (ma (ma (ma (ma (ma (ma (ma X 90 (upd (X 90) n k)) 91 (upd (X 91) n (nI a))) 92 (upd (X 92) n wm)) 93 (upd (X 93) n vl)) 94 (upd (X 94) n ln)) 95 (upd (X 95) n ex)) 96 (upd (X 96) n ((X 85 1) + dd)))) n)))))) 85 (upd (X 85) 17 (nI (n + 1))))) rfl ?_
  refine V_aload_n C dX10_makes_106 rfl ?_
  refine V_geti C fl_X10_112 dX10_makes_107 (by decide) sh_85 rfl ?_
  refine V_eqi (y := nI (n + 1)) rfl ?_
  refine V_iconst (v := (1 : Int32)) C dX10_makes_110 (by decide) ?_
  refine V_isubN (a := n + 1) (b := 1) C dX10_makes_111 (by omega) ?_
  exact V_ireturnI C dX10_makes_112 ⟨by rw [Nat.add_sub_cancel], rfl⟩
def q_X10_holder (v : Int32) (X : Mem) (h : Nat) : Int32 → Mem → Prop := fun r X' => (∃ c, Cd2 (Btw v 0 (nI (h - 1))) (h < 8) c ∧ r = 0 ∧ X' = ma X 85 (upd (X 85) 0 c)) ∨ (((Btw v 0 (nI (h - 1))) ∧ (h < 8)) ∧ r = nI h ∧ X' = (ma (ma (ma X 85 (upd (upd (X 85) 0 (0 : Int32)) 5 (nI (h + 1)))) 86 (upd (X 86) h v)) 88 (upd (X 88) h (X 85 1 + (30 : Int32)))))
set_option maxHeartbeats 4000000 in
set_option maxRecDepth 100000 in
theorem k_X10_holder (w : Wt) (l : Launch) (v : Int32) (X : Mem) (h : Nat) (hh : X 85 5 = nI h) (h1 : 1 ≤ h) (h8 : h ≤ 8) : CtI w l yX10_holder cX10_holder 2 (some .int) 3 63 [.ref (w.2.1 85), .int v] X (q_X10_holder v X h) := by
  refine CtI_of (by decide +kernel) (Nat.le_of_ble_eq_true rfl) (List.forall_mem_cons.mpr ⟨rfl, (List.forall_mem_cons.mpr ⟨rfl, (fun _ h => nomatch h)⟩)⟩) (ls := [some (.ref (w.2.1 85)), some (.int v)]) rfl (args := (#[.ref (w.2.1 85), .int v] : Array Value)) rfl (own := RX10) rfl ?_
  intro p e s m below meth c C
  refine V_aload_n C dX10_holder_0 rfl ?_
  refine V_aload_n C dX10_holder_1 rfl ?_
  refine V_iload_n C dX10_holder_2 rfl ?_
  refine V_callVI C [.int v] mi_X10_115 (k_X10_isHolder w l v X h hh h1 h8) dX10_holder_3 sh_85 (by decide) rfl rfl rfl (Nat.le_of_ble_eq_true rfl) (Nat.le_of_ble_eq_true rfl) (Nat.le_of_ble_eq_true rfl) ⟨Nat.le_refl _, Nat.le_refl _⟩ (fun v1 X1 q1 => ?_)
  obtain ⟨hb1, eX1⟩ := q1; subst X1
  refine V_if_neB (tgt := 13) C hb1 dX10_holder_6 (by decide) (fun h6_2 => ?_) (fun h6_2 => ?_)
  · refine V_aload_n C dX10_holder_13 rfl ?_
    refine V_geti C fl_X10_19 dX10_holder_14 (by decide) sh_85 rfl ?_
    refine V_eqi (y := nI h) hh ?_
    refine V_bipush (v := (8 : Int32)) C dX10_holder_17 (by decide) ?_
    refine V_icmp_neN (a := h) (b := 8) (tgt := 26) C dX10_holder_19 (by decide) (by omega) (by omega) (fun h19_3 => ?_) (fun h19_3 => ?_)
    · refine V_iconst (v := (0 : Int32)) C dX10_holder_26 (by decide) ?_
      refine V_callVI C [.int (0 : Int32)] mi_X10_119 (k_X10_isFine_0 w l X ) dX10_holder_27 sh_85 (by decide) rfl rfl rfl (Nat.le_of_ble_eq_true rfl) (Nat.le_of_ble_eq_true rfl) (Nat.le_of_ble_eq_true rfl) ⟨Nat.le_refl _, Nat.le_refl _⟩ (fun v4 X4 q4 => ?_)
      obtain ⟨ev4, eX4⟩ := q4; subst X4; subst v4
      refine V_if_ne (x := (1 : Int32)) (tgt := 35) C dX10_holder_30 (by decide) (fun _ => ?_) (fun h => absurd h (by decide))
      refine V_aload_n C dX10_holder_35 rfl ?_
      refine V_getr C fl_X10_7 dX10_holder_36 (by decide) sh_85 rfl ?_
      refine V_aload_n C dX10_holder_39 rfl ?_
      refine V_geti C fl_X10_19 dX10_holder_40 (by decide) sh_85 rfl ?_
      refine V_eqi (y := X 85 5) rfl ?_
      refine V_eqi (y := nI h) hh ?_
      refine V_iload_n C dX10_holder_43 rfl ?_
      refine V_iastN (p0 := 86) (o := h) (X1 := (ma (ma X 85 (upd (X 85) 0 (0 : Int32))) 86 (upd (X 86) h v))) C dX10_holder_44 sh_86 (by decide) (by omega) (by decide) rfl ?_
      refine V_aload_n C dX10_holder_45 rfl ?_
      refine V_getr C fl_X10_16 dX10_holder_46 (by decide) sh_85 rfl ?_
      refine V_aload_n C dX10_holder_49 rfl ?_
      refine V_geti C fl_X10_19 dX10_holder_50 (by decide) sh_85 rfl ?_
      refine V_eqi (y := X 85 5) rfl ?_
      refine V_eqi (y := nI h) hh ?_
      refine V_aload_n C dX10_holder_53 rfl ?_
      refine V_geti C fl_X10_122 dX10_holder_54 (by decide) sh_85 rfl ?_
      refine V_eqi (y := X 85 1) rfl ?_
      refine V_bipush (v := (30 : Int32)) C dX10_holder_57 (by decide) ?_
      refine V_iadd C dX10_holder_59 ?_
      refine V_iastN (p0 := 88) (o := h) (X1 := (ma (ma (ma X 85 (upd (X 85) 0 (0 : Int32))) 86 (upd (X 86) h v)) 88 (upd (X 88) h ((X 85 1) + (30 : Int32))))) C dX10_holder_60 sh_88 (by decide) (by omega) (by decide) rfl ?_
      refine V_aload_n C dX10_holder_61 rfl ?_
      refine V_dup C dX10_holder_62 rfl ?_
      refine V_geti C fl_X10_19 dX10_holder_63 (by decide) sh_85 rfl ?_
      refine V_eqi (y := X 85 5) rfl ?_
      refine V_eqi (y := nI h) hh ?_
      refine V_iconst (v := (1 : Int32)) C dX10_holder_66 (by decide) ?_
      refine V_iaddN (a := h) (b := 1) C dX10_holder_67 ?_
      refine V_put C fp_X10_19 dX10_holder_68 (by decide) sh_85 rfl ?_
      refine V_eqX (X1 := (ma (ma (ma X 85 (upd (upd (X 85) 0 (0 : Int32)) 5 (nI (h + 1)))) 86 (upd (X 86) h v)) 88 (upd (X 88) h ((X 85 1) + (30 : Int32))))) (ma_in2 (by decide) (by decide)) ?_
      refine V_aload_n C dX10_holder_71 rfl ?_
      refine V_geti C fl_X10_19 dX10_holder_72 (by decide) sh_85 rfl ?_
      refine V_eqi (y := nI (h + 1)) rfl ?_
      refine V_iconst (v := (1 : Int32)) C dX10_holder_75 (by decide) ?_
      refine V_isubN (a := h + 1) (b := 1) C dX10_holder_76 (by omega) ?_
      exact V_ireturnI C dX10_holder_77 (Or.inr ⟨⟨(by assumption), (by omega)⟩, by rw [Nat.add_sub_cancel], rfl⟩)
    · refine V_iconst (v := (2 : Int32)) C dX10_holder_22 (by decide) ?_
      refine V_goto (tgt := 27) C dX10_holder_23 (by decide) ?_
      refine V_callVI C [.int (2 : Int32)] mi_X10_119 (k_X10_isFine_2 w l X ) dX10_holder_27 sh_85 (by decide) rfl rfl rfl (Nat.le_of_ble_eq_true rfl) (Nat.le_of_ble_eq_true rfl) (Nat.le_of_ble_eq_true rfl) ⟨Nat.le_refl _, Nat.le_refl _⟩ (fun v6 X6 q6 => ?_)
      obtain ⟨ev6, eX6⟩ := q6; subst X6; subst v6
      refine V_if_ne (x := (0 : Int32)) (tgt := 35) C dX10_holder_30 (by decide) (fun h => absurd h (by decide)) (fun _ => ?_)
      refine V_iconst (v := (0 : Int32)) C dX10_holder_33 (by decide) ?_
      exact V_ireturnI C dX10_holder_34 (Or.inl ⟨2, Or.inr ⟨rfl, (by assumption), (by omega)⟩, rfl, rfl⟩)
  · refine V_iconst (v := (1 : Int32)) C dX10_holder_9 (by decide) ?_
    refine V_goto (tgt := 27) C dX10_holder_10 (by decide) ?_
    refine V_callVI C [.int (1 : Int32)] mi_X10_119 (k_X10_isFine_1 w l X ) dX10_holder_27 sh_85 (by decide) rfl rfl rfl (Nat.le_of_ble_eq_true rfl) (Nat.le_of_ble_eq_true rfl) (Nat.le_of_ble_eq_true rfl) ⟨Nat.le_refl _, Nat.le_refl _⟩ (fun v8 X8 q8 => ?_)
    obtain ⟨ev8, eX8⟩ := q8; subst X8; subst v8
    refine V_if_ne (x := (0 : Int32)) (tgt := 35) C dX10_holder_30 (by decide) (fun h => absurd h (by decide)) (fun _ => ?_)
    refine V_iconst (v := (0 : Int32)) C dX10_holder_33 (by decide) ?_
    exact V_ireturnI C dX10_holder_34 (Or.inl ⟨1, Or.inl ⟨rfl, (by first | exact fun q => absurd q (by assumption))⟩, rfl, rfl⟩)
def q_X10_belong (nt : Int32) (v : Int32) (X : Mem) (h : Nat) : Int32 → Mem → Prop := fun r X' => (∃ c, Cd1 (Btw nt 0 9 ∧ Btw v 0 (nI (h - 1))) c ∧ r = 0 ∧ X' = ma X 85 (upd (X 85) 0 c)) ∨ (((Btw nt 0 9 ∧ Btw v 0 (nI (h - 1)))) ∧ ∃ a, a < 10 ∧ nt = nI a ∧ r = X 89 a ∧ X' = ma (ma X 85 (upd (X 85) 0 (0 : Int32))) 89 (upd (X 89) a v))
set_option maxHeartbeats 4000000 in
set_option maxRecDepth 100000 in
theorem k_X10_belong (w : Wt) (l : Launch) (nt : Int32) (v : Int32) (X : Mem) (h : Nat) (hh : X 85 5 = nI h) (h1 : 1 ≤ h) (h8 : h ≤ 8) : CtI w l yX10_belong cX10_belong 4 (some .int) 3 63 [.ref (w.2.1 85), .int nt, .int v] X (q_X10_belong nt v X h) := by
  refine CtI_of (by decide +kernel) (Nat.le_of_ble_eq_true rfl) (List.forall_mem_cons.mpr ⟨rfl, (List.forall_mem_cons.mpr ⟨rfl, (List.forall_mem_cons.mpr ⟨rfl, (fun _ h => nomatch h)⟩)⟩)⟩) (ls := [some (.ref (w.2.1 85)), some (.int nt), some (.int v), none]) rfl (args := (#[.ref (w.2.1 85), .int nt, .int v] : Array Value)) rfl (own := RX10) rfl ?_
  intro p e s m below meth c C
  refine V_aload_n C dX10_belong_0 rfl ?_
  refine V_iload_n C dX10_belong_1 rfl ?_
  refine V_callSI C [.int nt] ms_X10_125 (k_X10_isNet w l nt X ) dX10_belong_2 rfl rfl (Nat.le_of_ble_eq_true rfl) (Nat.le_of_ble_eq_true rfl) (Nat.le_of_ble_eq_true rfl) ⟨Nat.le_refl _, Nat.le_refl _⟩ (fun v1 X1 q1 => ?_)
  obtain ⟨hb1, eX1⟩ := q1; subst X1
  refine V_if_eqB (tgt := 20) C hb1 dX10_belong_5 (by decide) (fun h5_2 => ?_) (fun h5_2 => ?_)
  · refine V_iconst (v := (1 : Int32)) C dX10_belong_20 (by decide) ?_
    refine V_callVI C [.int (1 : Int32)] mi_X10_119 (k_X10_isFine_1 w l X ) dX10_belong_21 sh_85 (by decide) rfl rfl rfl (Nat.le_of_ble_eq_true rfl) (Nat.le_of_ble_eq_true rfl) (Nat.le_of_ble_eq_true rfl) ⟨Nat.le_refl _, Nat.le_refl _⟩ (fun v3 X3 q3 => ?_)
    obtain ⟨ev3, eX3⟩ := q3; subst X3; subst v3
    refine V_if_ne (x := (0 : Int32)) (tgt := 29) C dX10_belong_24 (by decide) (fun h => absurd h (by decide)) (fun _ => ?_)
    refine V_iconst (v := (0 : Int32)) C dX10_belong_27 (by decide) ?_
    exact V_ireturnI C dX10_belong_28 (Or.inl ⟨1, ⟨rfl, (by first | exact fun q => absurd q.1 (by assumption) | exact fun q => absurd q.2 (by assumption))⟩, rfl, rfl⟩)
  · refine V_aload_n C dX10_belong_8 rfl ?_
    refine V_iload_n C dX10_belong_9 rfl ?_
    refine V_callVI C [.int v] mi_X10_115 (k_X10_isHolder w l v X h hh h1 h8) dX10_belong_10 sh_85 (by decide) rfl rfl rfl (Nat.le_of_ble_eq_true rfl) (Nat.le_of_ble_eq_true rfl) (Nat.le_of_ble_eq_true rfl) ⟨Nat.le_refl _, Nat.le_refl _⟩ (fun v5 X5 q5 => ?_)
    obtain ⟨hb5, eX5⟩ := q5; subst X5
    refine V_if_eqB (tgt := 20) C hb5 dX10_belong_13 (by decide) (fun h13_6 => ?_) (fun h13_6 => ?_)
    · refine V_iconst (v := (1 : Int32)) C dX10_belong_20 (by decide) ?_
      refine V_callVI C [.int (1 : Int32)] mi_X10_119 (k_X10_isFine_1 w l X ) dX10_belong_21 sh_85 (by decide) rfl rfl rfl (Nat.le_of_ble_eq_true rfl) (Nat.le_of_ble_eq_true rfl) (Nat.le_of_ble_eq_true rfl) ⟨Nat.le_refl _, Nat.le_refl _⟩ (fun v7 X7 q7 => ?_)
      obtain ⟨ev7, eX7⟩ := q7; subst X7; subst v7
      refine V_if_ne (x := (0 : Int32)) (tgt := 29) C dX10_belong_24 (by decide) (fun h => absurd h (by decide)) (fun _ => ?_)
      refine V_iconst (v := (0 : Int32)) C dX10_belong_27 (by decide) ?_
      exact V_ireturnI C dX10_belong_28 (Or.inl ⟨1, ⟨rfl, (by first | exact fun q => absurd q.1 (by assumption) | exact fun q => absurd q.2 (by assumption))⟩, rfl, rfl⟩)
    · refine V_iconst (v := (0 : Int32)) C dX10_belong_16 (by decide) ?_
      refine V_goto (tgt := 21) C dX10_belong_17 (by decide) ?_
      refine V_callVI C [.int (0 : Int32)] mi_X10_119 (k_X10_isFine_0 w l X ) dX10_belong_21 sh_85 (by decide) rfl rfl rfl (Nat.le_of_ble_eq_true rfl) (Nat.le_of_ble_eq_true rfl) (Nat.le_of_ble_eq_true rfl) ⟨Nat.le_refl _, Nat.le_refl _⟩ (fun v9 X9 q9 => ?_)
      obtain ⟨ev9, eX9⟩ := q9; subst X9; subst v9
      refine V_if_ne (x := (1 : Int32)) (tgt := 29) C dX10_belong_24 (by decide) (fun _ => ?_) (fun h => absurd h (by decide))
      have hg1 : Btw nt 0 9 := by assumption
      obtain ⟨a, ha, ea⟩ := net_at hg1
      subst ea
      refine V_aload_n C dX10_belong_29 rfl ?_
      refine V_getr C fl_X10_23 dX10_belong_30 (by decide) sh_85 rfl ?_
      refine V_iload_n C dX10_belong_33 rfl ?_
      refine V_ialdN (p0 := 89) (o := a) (v := X 89 a) C dX10_belong_34 sh_89 (by decide) (by omega) (by decide) rfl ?_
      refine V_istore_n (ls1 := [some (.ref (w.2.1 85)), some (.int (nI a)), some (.int v), some (.int (X 89 a))]) C dX10_belong_35 (by decide) rfl ?_
      refine V_aload_n C dX10_belong_36 rfl ?_
      refine V_getr C fl_X10_23 dX10_belong_37 (by decide) sh_85 rfl ?_
      refine V_iload_n C dX10_belong_40 rfl ?_
      refine V_iload_n C dX10_belong_41 rfl ?_
      refine V_iastN (p0 := 89) (o := a) (X1 := (ma (ma X 85 (upd (X 85) 0 (0 : Int32))) 89 (upd (X 89) a v))) C dX10_belong_42 sh_89 (by decide) (by omega) (by decide) rfl ?_
      refine V_iload_n C dX10_belong_43 rfl ?_
      exact V_ireturnI C dX10_belong_44 (Or.inr ⟨⟨by assumption, by assumption⟩, a, by omega, rfl, rfl, rfl⟩)
def q_X10_roll (v : Int32) (X : Mem) (h : Nat) : Int32 → Mem → Prop := fun r X' => (∃ c, Cd2 (Btw v 0 (nI (h - 1))) (∀ a k, a < h → v = nI a → X 87 a = nI k → k ≤ 100 → k < 100) c ∧ r = 0 ∧ X' = ma X 85 (upd (X 85) 0 c)) ∨ (((Btw v 0 (nI (h - 1))) ∧ (∀ a k, a < h → v = nI a → X 87 a = nI k → k ≤ 100 → k < 100)) ∧ ∃ a k, a < h ∧ v = nI a ∧ X 87 a = nI k ∧ r = nI (k + 1) ∧ X' = ma (ma X 85 (upd (X 85) 0 (0 : Int32))) 87 (upd (X 87) a (nI (k + 1))))
set_option maxHeartbeats 4000000 in
set_option maxRecDepth 100000 in
theorem k_X10_roll (w : Wt) (l : Launch) (v : Int32) (X : Mem) (h : Nat) (hh : X 85 5 = nI h) (h1 : 1 ≤ h) (h8 : h ≤ 8) (hk : ∀ b, b < 8 → ∃ a, a ≤ 100 ∧ X 87 b = nI a) : CtI w l yX10_roll cX10_roll 3 (some .int) 3 63 [.ref (w.2.1 85), .int v] X (q_X10_roll v X h) := by
  refine CtI_of (by decide +kernel) (Nat.le_of_ble_eq_true rfl) (List.forall_mem_cons.mpr ⟨rfl, (List.forall_mem_cons.mpr ⟨rfl, (fun _ h => nomatch h)⟩)⟩) (ls := [some (.ref (w.2.1 85)), some (.int v), none]) rfl (args := (#[.ref (w.2.1 85), .int v] : Array Value)) rfl (own := RX10) rfl ?_
  intro p e s m below meth c C
  refine V_aload_n C dX10_roll_0 rfl ?_
  refine V_iload_n C dX10_roll_1 rfl ?_
  refine V_callVI C [.int v] mi_X10_115 (k_X10_isHolder w l v X h hh h1 h8) dX10_roll_2 sh_85 (by decide) rfl rfl rfl (Nat.le_of_ble_eq_true rfl) (Nat.le_of_ble_eq_true rfl) (Nat.le_of_ble_eq_true rfl) ⟨Nat.le_refl _, Nat.le_refl _⟩ (fun v1 X1 q1 => ?_)
  obtain ⟨hb1, eX1⟩ := q1; subst X1
  refine V_istore_n (ls1 := [some (.ref (w.2.1 85)), some (.int v), some (.int v1)]) C dX10_roll_5 (by decide) rfl ?_
  refine V_aload_n C dX10_roll_6 rfl ?_
  refine V_iload_n C dX10_roll_7 rfl ?_
  refine V_if_neB (tgt := 15) C hb1 dX10_roll_8 (by decide) (fun h8_2 => ?_) (fun h8_2 => ?_)
  · have hg1 : Btw v 0 (nI (h - 1)) := by assumption
    obtain ⟨a, ha, ea⟩ := Btw_hd h1 (by omega) hg1
    subst ea
    refine V_aload_n C dX10_roll_15 rfl ?_
    refine V_getr C fl_X10_13 dX10_roll_16 (by decide) sh_85 rfl ?_
    refine V_iload_n C dX10_roll_19 rfl ?_
    refine V_ialdN (p0 := 87) (o := a) (v := X 87 a) C dX10_roll_20 sh_87 (by decide) (by omega) (by decide) rfl ?_
    obtain ⟨a3, ha3, ea3⟩ := hk a (by omega)
    have ia3 : ix (nI a3) = a3 := ix_nI (by omega)
    refine V_eqi ea3 ?_
    refine V_bipush (v := (100 : Int32)) C dX10_roll_21 (by decide) ?_
    refine V_icmp_neN (a := a3) (b := 100) (tgt := 30) C dX10_roll_23 (by decide) (by omega) (by omega) (fun h23_4 => ?_) (fun h23_4 => ?_)
    · refine V_iconst (v := (0 : Int32)) C dX10_roll_30 (by decide) ?_
      refine V_callVI C [.int (0 : Int32)] mi_X10_119 (k_X10_isFine_0 w l X ) dX10_roll_31 sh_85 (by decide) rfl rfl rfl (Nat.le_of_ble_eq_true rfl) (Nat.le_of_ble_eq_true rfl) (Nat.le_of_ble_eq_true rfl) ⟨Nat.le_refl _, Nat.le_refl _⟩ (fun v5 X5 q5 => ?_)
      obtain ⟨ev5, eX5⟩ := q5; subst X5; subst v5
      refine V_if_ne (x := (1 : Int32)) (tgt := 39) C dX10_roll_34 (by decide) (fun _ => ?_) (fun h => absurd h (by decide))
      refine V_aload_n C dX10_roll_39 rfl ?_
      refine V_getr C fl_X10_13 dX10_roll_40 (by decide) sh_85 rfl ?_
      refine V_iload_n C dX10_roll_43 rfl ?_
      refine V_dup2 C dX10_roll_44 rfl rfl ?_
      refine V_ialdN (p0 := 87) (o := a) (v := X 87 a) C dX10_roll_45 sh_87 (by decide) (by omega) (by decide) rfl ?_
      refine V_eqi ea3 ?_
      refine V_iconst (v := (1 : Int32)) C dX10_roll_46 (by decide) ?_
      refine V_iaddN (a := a3) (b := 1) C dX10_roll_47 ?_
      refine V_iastN (p0 := 87) (o := a) (X1 := (ma (ma X 85 (upd (X 85) 0 (0 : Int32))) 87 (upd (X 87) a (nI (a3 + 1))))) C dX10_roll_48 sh_87 (by decide) (by omega) (by decide) rfl ?_
      refine V_aload_n C dX10_roll_49 rfl ?_
      refine V_getr C fl_X10_13 dX10_roll_50 (by decide) sh_85 rfl ?_
      refine V_iload_n C dX10_roll_53 rfl ?_
      refine V_ialdN (p0 := 87) (o := a) (v := (upd (X 87) a (nI (a3 + 1))) a) C dX10_roll_54 sh_87 (by decide) (by omega) (by decide) rfl ?_
      refine V_eqi (y := nI (a3 + 1)) (upd_eq _ _ _) ?_
      exact V_ireturnI C dX10_roll_55 (Or.inr ⟨⟨(by assumption), (fun a1 k1 g1 g2 g3 g4 => by have g5 := (nI_eq (by omega) (by omega)).mp g2; subst g5; have g6 := (nI_eq (by omega) (by omega)).mp (ea3.symm.trans g3); omega)⟩, a, a3, by omega, rfl, ea3, rfl, rfl⟩)
    · refine V_iconst (v := (2 : Int32)) C dX10_roll_26 (by decide) ?_
      refine V_goto (tgt := 31) C dX10_roll_27 (by decide) ?_
      refine V_callVI C [.int (2 : Int32)] mi_X10_119 (k_X10_isFine_2 w l X ) dX10_roll_31 sh_85 (by decide) rfl rfl rfl (Nat.le_of_ble_eq_true rfl) (Nat.le_of_ble_eq_true rfl) (Nat.le_of_ble_eq_true rfl) ⟨Nat.le_refl _, Nat.le_refl _⟩ (fun v7 X7 q7 => ?_)
      obtain ⟨ev7, eX7⟩ := q7; subst X7; subst v7
      refine V_if_ne (x := (0 : Int32)) (tgt := 39) C dX10_roll_34 (by decide) (fun h => absurd h (by decide)) (fun _ => ?_)
      refine V_iconst (v := (0 : Int32)) C dX10_roll_37 (by decide) ?_
      exact V_ireturnI C dX10_roll_38 (Or.inl ⟨2, Or.inr ⟨rfl, (by assumption), (fun q => absurd (q a a3 (by omega) rfl ea3 ha3) (by omega))⟩, rfl, rfl⟩)
  · refine V_iconst (v := (1 : Int32)) C dX10_roll_11 (by decide) ?_
    refine V_goto (tgt := 31) C dX10_roll_12 (by decide) ?_
    refine V_callVI C [.int (1 : Int32)] mi_X10_119 (k_X10_isFine_1 w l X ) dX10_roll_31 sh_85 (by decide) rfl rfl rfl (Nat.le_of_ble_eq_true rfl) (Nat.le_of_ble_eq_true rfl) (Nat.le_of_ble_eq_true rfl) ⟨Nat.le_refl _, Nat.le_refl _⟩ (fun v9 X9 q9 => ?_)
    obtain ⟨ev9, eX9⟩ := q9; subst X9; subst v9
    refine V_if_ne (x := (0 : Int32)) (tgt := 39) C dX10_roll_34 (by decide) (fun h => absurd h (by decide)) (fun _ => ?_)
    refine V_iconst (v := (0 : Int32)) C dX10_roll_37 (by decide) ?_
    exact V_ireturnI C dX10_roll_38 (Or.inl ⟨1, Or.inl ⟨rfl, (by first | exact fun q => absurd q (by assumption))⟩, rfl, rfl⟩)
def q_X10_publish (v : Int32) (dy : Int32) (X : Mem) (h n : Nat) : Int32 → Mem → Prop := fun r X' => (∃ c, Cd2 (Btw v 0 (nI (h - 1))) (Btw dy 0 100) c ∧ r = 0 ∧ X' = ma X 85 (upd (X 85) 0 c)) ∨ (((Btw v 0 (nI (h - 1))) ∧ (Btw dy 0 100)) ∧ ∃ a, a < h ∧ v = nI a ∧ r = nI (sumN (fun x => oneIf (X 91 x = v ∧ ¬ X 98 x = 0)) n) ∧ X' = ma (ma (ma X 85 (upd (X 85) 0 (0 : Int32))) 99 (LsR (X 91) (X 98) (X 99) v n)) 88 (upd (X 88) a (X 85 1 + dy)))
set_option maxHeartbeats 4000000 in
set_option maxRecDepth 100000 in
theorem k_X10_publish (w : Wt) (l : Launch) (v : Int32) (dy : Int32) (X : Mem) (h n : Nat) (hh : X 85 5 = nI h) (h1 : 1 ≤ h) (h8 : h ≤ 8) (hn : X 85 17 = nI n) (n50 : n ≤ 50) (hls : ∀ o, o < n → (X 99 o = 0 ∨ X 99 o = 1) ∧ (X 99 o = 1 → X 98 o = 1)) : CtI w l yX10_publish cX10_publish 5 (some .int) 3 63 [.ref (w.2.1 85), .int v, .int dy] X (q_X10_publish v dy X h n) := by
  refine CtI_of (by decide +kernel) (Nat.le_of_ble_eq_true rfl) (List.forall_mem_cons.mpr ⟨rfl, (List.forall_mem_cons.mpr ⟨rfl, (List.forall_mem_cons.mpr ⟨rfl, (fun _ h => nomatch h)⟩)⟩)⟩) (ls := [some (.ref (w.2.1 85)), some (.int v), some (.int dy), none, none]) rfl (args := (#[.ref (w.2.1 85), .int v, .int dy] : Array Value)) rfl (own := RX10) rfl ?_
  intro p e s m below meth c C
  refine V_aload_n C dX10_publish_0 rfl ?_
  refine V_aload_n C dX10_publish_1 rfl ?_
  refine V_iload_n C dX10_publish_2 rfl ?_
  refine V_callVI C [.int v] mi_X10_115 (k_X10_isHolder w l v X h hh h1 h8) dX10_publish_3 sh_85 (by decide) rfl rfl rfl (Nat.le_of_ble_eq_true rfl) (Nat.le_of_ble_eq_true rfl) (Nat.le_of_ble_eq_true rfl) ⟨Nat.le_refl _, Nat.le_refl _⟩ (fun v1 X1 q1 => ?_)
  obtain ⟨hb1, eX1⟩ := q1; subst X1
  refine V_if_neB (tgt := 13) C hb1 dX10_publish_6 (by decide) (fun h6_2 => ?_) (fun h6_2 => ?_)
  · refine V_iload_n C dX10_publish_13 rfl ?_
    refine V_iconst (v := (0 : Int32)) C dX10_publish_14 (by decide) ?_
    refine V_bipush (v := (100 : Int32)) C dX10_publish_15 (by decide) ?_
    refine V_callSI C [.int dy, .int (0 : Int32), .int (100 : Int32)] ms_X10_108 (k_X10_isBetween w l dy (0 : Int32) (100 : Int32) X ) dX10_publish_17 rfl rfl (Nat.le_of_ble_eq_true rfl) (Nat.le_of_ble_eq_true rfl) (Nat.le_of_ble_eq_true rfl) ⟨Nat.le_refl _, Nat.le_refl _⟩ (fun v3 X3 q3 => ?_)
    obtain ⟨hb3, eX3⟩ := q3; subst X3
    refine V_if_neB (tgt := 27) C hb3 dX10_publish_20 (by decide) (fun h20_4 => ?_) (fun h20_4 => ?_)
    · refine V_iconst (v := (0 : Int32)) C dX10_publish_27 (by decide) ?_
      refine V_callVI C [.int (0 : Int32)] mi_X10_119 (k_X10_isFine_0 w l X ) dX10_publish_28 sh_85 (by decide) rfl rfl rfl (Nat.le_of_ble_eq_true rfl) (Nat.le_of_ble_eq_true rfl) (Nat.le_of_ble_eq_true rfl) ⟨Nat.le_refl _, Nat.le_refl _⟩ (fun v5 X5 q5 => ?_)
      obtain ⟨ev5, eX5⟩ := q5; subst X5; subst v5
      refine V_if_ne (x := (1 : Int32)) (tgt := 36) C dX10_publish_31 (by decide) (fun _ => ?_) (fun h => absurd h (by decide))
      refine V_iconst (v := (0 : Int32)) C dX10_publish_36 (by decide) ?_
      refine V_istore_n (ls1 := [some (.ref (w.2.1 85)), some (.int v), some (.int dy), some (.int (0 : Int32)), none]) C dX10_publish_37 (by decide) rfl ?_
      refine V_iconst (v := (0 : Int32)) C dX10_publish_38 (by decide) ?_
      refine V_istore (ls1 := [some (.ref (w.2.1 85)), some (.int v), some (.int dy), some (.int (0 : Int32)), some (.int (0 : Int32))]) C dX10_publish_39 (by decide) rfl ?_
      have L41 : ∀ (fu : Nat) (mm : Nat) (o : Nat) (L : Nat → Int32), n - o < fu → (o ≤ n) → (mm = sumN (fun x => oneIf (X 91 x = v ∧ ¬ X 98 x = 0)) o) → (L = LsR (X 91) (X 98) (X 99) v o) → V p l e ({ frames := 3, cells := 0, slots := 0, locals := 63 } : Room) s m (#[.ref (w.2.1 85), .int v, .int dy] : Array Value) below meth c w 5 0 0 (EI w below s (#[.ref (w.2.1 85), .int v, .int dy] : Array Value) 0 0 (q_X10_publish v dy X h n)) 41 [some (.ref (w.2.1 85)), some (.int v), some (.int dy), some (.int (nI mm)), some (.int (nI o))] [] (ma (ma X 85 (upd (X 85) 0 (0 : Int32))) 99 L) := by
        intro fu
        induction fu with
        | zero => intro mm o L hm; exact absurd hm (Nat.not_lt_zero _)
        | succ fu ih41 =>
          intro mm o L hm41 ho hm hL
          refine V_iload C dX10_publish_41 rfl ?_
          refine V_aload_n C dX10_publish_43 rfl ?_
          refine V_geti C fl_X10_112 dX10_publish_44 (by decide) sh_85 rfl ?_
          refine V_eqi (y := X 85 17) rfl ?_
          refine V_eqi (y := nI n) hn ?_
          refine V_icmp_geN (a := o) (b := n) (tgt := 128) C dX10_publish_47 (by decide) (by omega) (by omega) (fun h47_7 => ?_) (fun h47_7 => ?_)
          · have hg1 : Btw v 0 (nI (h - 1)) := by assumption
            obtain ⟨a, ha, ea⟩ := Btw_hd h1 (by omega) hg1
            subst ea
            refine V_aload_n C dX10_publish_128 rfl ?_
            refine V_getr C fl_X10_16 dX10_publish_129 (by decide) sh_85 rfl ?_
            refine V_iload_n C dX10_publish_132 rfl ?_
            refine V_aload_n C dX10_publish_133 rfl ?_
            refine V_geti C fl_X10_122 dX10_publish_134 (by decide) sh_85 rfl ?_
            refine V_eqi (y := X 85 1) rfl ?_
            refine V_iload_n C dX10_publish_137 rfl ?_
            refine V_iadd C dX10_publish_138 ?_
            refine V_iastN (p0 := 88) (o := a) (X1 := (ma (ma (ma X 85 (upd (X 85) 0 (0 : Int32))) 99 L) 88 (upd (X 88) a ((X 85 1) + dy)))) C dX10_publish_139 sh_88 (by decide) (by omega) (by decide) rfl ?_
            refine V_iload_n C dX10_publish_140 rfl ?_
            exact V_ireturnI C dX10_publish_141 (Or.inr ⟨⟨(by assumption), (by assumption)⟩, a, by omega, rfl, by rw [hm, show o = n by omega], by rw [hL, show o = n by omega]⟩)
          · refine V_aload_n C dX10_publish_50 rfl ?_
            refine V_getr C fl_X10_54 dX10_publish_51 (by decide) sh_85 rfl ?_
            refine V_iload C dX10_publish_54 rfl ?_
            refine V_aload_n C dX10_publish_56 rfl ?_
            refine V_getr C fl_X10_54 dX10_publish_57 (by decide) sh_85 rfl ?_
            refine V_iload C dX10_publish_60 rfl ?_
            refine V_baldN (p0 := 99) (o := o) (v := L o) C dX10_publish_62 sh_99 (by decide) (by omega) (by decide) rfl ?_
            refine V_if_ne (x := L o) (tgt := 87) C dX10_publish_63 (by decide) (fun h63_8 => ?_) (fun h63_8 => ?_)
            · refine V_iconst (v := (1 : Int32)) C dX10_publish_87 (by decide) ?_
              refine V_goto (tgt := 92) C dX10_publish_88 (by decide) ?_
              refine V_bastN (p0 := 99) (o := o) (X1 := (ma (ma X 85 (upd (X 85) 0 (0 : Int32))) 99 (upd (L) o (1 : Int32)))) C dX10_publish_92 sh_99 (by decide) (by omega) (by decide) (Or.inr rfl) (ma_ma _ _ _ _) ?_
              refine V_iload_n C dX10_publish_93 rfl ?_
              refine V_aload_n C dX10_publish_94 rfl ?_
              refine V_getr C fl_X10_54 dX10_publish_95 (by decide) sh_85 rfl ?_
              refine V_iload C dX10_publish_98 rfl ?_
              refine V_baldN (p0 := 99) (o := o) (v := (upd (L) o (1 : Int32)) o) C dX10_publish_100 sh_99 (by decide) (by omega) (by decide) rfl ?_
              refine V_eqi (y := nI 1) (upd_eq _ _ _) ?_
              refine V_if_eq (x := nI 1) (tgt := 119) C dX10_publish_101 (by decide) (fun h => absurd h (by decide)) (fun _ => ?_)
              refine V_aload_n C dX10_publish_104 rfl ?_
              refine V_getr C fl_X10_29 dX10_publish_105 (by decide) sh_85 rfl ?_
              refine V_iload C dX10_publish_108 rfl ?_
              refine V_ialdN (p0 := 91) (o := o) (v := X 91 o) C dX10_publish_110 sh_91 (by decide) (by omega) (by decide) rfl ?_
              refine V_iload_n C dX10_publish_111 rfl ?_
              refine V_icmp_ne (x := X 91 o) (y := v) (tgt := 119) C dX10_publish_112 (by decide) (fun h112_10 => ?_) (fun h112_10 => ?_)
              · refine V_iconst (v := (0 : Int32)) C dX10_publish_119 (by decide) ?_
                refine V_iaddN (a := mm) (b := 0) C dX10_publish_120 ?_
                refine V_istore_n (ls1 := [some (.ref (w.2.1 85)), some (.int v), some (.int dy), some (.int (nI mm)), some (.int (nI o))]) C dX10_publish_121 (by decide) rfl ?_
                refine V_iincN (a := o) (ls1 := [some (.ref (w.2.1 85)), some (.int v), some (.int dy), some (.int (nI mm)), some (.int (nI (o + 1)))]) C dX10_publish_122 rfl (by decide) rfl ?_
                refine V_goto (tgt := 41) C dX10_publish_125 (by decide) ?_
                exact ih41 mm (o + 1) (upd (L) o (1 : Int32)) (by omega) (by omega) (by rw [hm]; exact (sum_n (p := fun x => X 91 x = v ∧ ¬ X 98 x = 0) (by first | exact fun q => absurd q.1 (by assumption) | exact fun q => absurd (by assumption) q.2)).symm) (by rw [hL]; first | exact LsM_a (hls o (by omega)).1 (by rw [← hL]; assumption) | exact LsR_s1 (by assumption) (by assumption))
              · refine V_iconst (v := (1 : Int32)) C dX10_publish_115 (by decide) ?_
                refine V_goto (tgt := 120) C dX10_publish_116 (by decide) ?_
                refine V_iaddN (a := mm) (b := 1) C dX10_publish_120 ?_
                refine V_istore_n (ls1 := [some (.ref (w.2.1 85)), some (.int v), some (.int dy), some (.int (nI (mm + 1))), some (.int (nI o))]) C dX10_publish_121 (by decide) rfl ?_
                refine V_iincN (a := o) (ls1 := [some (.ref (w.2.1 85)), some (.int v), some (.int dy), some (.int (nI (mm + 1))), some (.int (nI (o + 1)))]) C dX10_publish_122 rfl (by decide) rfl ?_
                refine V_goto (tgt := 41) C dX10_publish_125 (by decide) ?_
                exact ih41 (mm + 1) (o + 1) (upd (L) o (1 : Int32)) (by omega) (by omega) (by rw [hm]; exact (sum_y (p := fun x => X 91 x = v ∧ ¬ X 98 x = 0) ⟨by assumption, by first | assumption | exact Ls_rv (f8 := X 91) (v := v) (hls o (by omega)).1 (hls o (by omega)).2 (by rw [← hL]; assumption)⟩).symm) (by rw [hL]; first | exact LsM_a (hls o (by omega)).1 (by rw [← hL]; assumption) | exact LsR_s1 (by assumption) (by assumption))
            · refine V_aload_n C dX10_publish_66 rfl ?_
              refine V_getr C fl_X10_50 dX10_publish_67 (by decide) sh_85 rfl ?_
              refine V_iload C dX10_publish_70 rfl ?_
              refine V_baldN (p0 := 98) (o := o) (v := X 98 o) C dX10_publish_72 sh_98 (by decide) (by omega) (by decide) rfl ?_
              refine V_if_eq (x := X 98 o) (tgt := 91) C dX10_publish_73 (by decide) (fun h73_11 => ?_) (fun h73_11 => ?_)
              · refine V_iconst (v := (0 : Int32)) C dX10_publish_91 (by decide) ?_
                refine V_bastN (p0 := 99) (o := o) (X1 := (ma (ma X 85 (upd (X 85) 0 (0 : Int32))) 99 (upd (L) o (0 : Int32)))) C dX10_publish_92 sh_99 (by decide) (by omega) (by decide) (Or.inl rfl) (ma_ma _ _ _ _) ?_
                refine V_iload_n C dX10_publish_93 rfl ?_
                refine V_aload_n C dX10_publish_94 rfl ?_
                refine V_getr C fl_X10_54 dX10_publish_95 (by decide) sh_85 rfl ?_
                refine V_iload C dX10_publish_98 rfl ?_
                refine V_baldN (p0 := 99) (o := o) (v := (upd (L) o (0 : Int32)) o) C dX10_publish_100 sh_99 (by decide) (by omega) (by decide) rfl ?_
                refine V_eqi (y := nI 0) (upd_eq _ _ _) ?_
                refine V_if_eq (x := nI 0) (tgt := 119) C dX10_publish_101 (by decide) (fun _ => ?_) (fun h => absurd h (by decide))
                refine V_iconst (v := (0 : Int32)) C dX10_publish_119 (by decide) ?_
                refine V_iaddN (a := mm) (b := 0) C dX10_publish_120 ?_
                refine V_istore_n (ls1 := [some (.ref (w.2.1 85)), some (.int v), some (.int dy), some (.int (nI mm)), some (.int (nI o))]) C dX10_publish_121 (by decide) rfl ?_
                refine V_iincN (a := o) (ls1 := [some (.ref (w.2.1 85)), some (.int v), some (.int dy), some (.int (nI mm)), some (.int (nI (o + 1)))]) C dX10_publish_122 rfl (by decide) rfl ?_
                refine V_goto (tgt := 41) C dX10_publish_125 (by decide) ?_
                exact ih41 mm (o + 1) (upd (L) o (0 : Int32)) (by omega) (by omega) (by rw [hm]; exact (sum_n (p := fun x => X 91 x = v ∧ ¬ X 98 x = 0) (by first | exact fun q => absurd q.1 (by assumption) | exact fun q => absurd (by assumption) q.2)).symm) (by rw [hL]; exact LsM_0 (by rw [← hL]; assumption) (by first | exact fun q => absurd q.1 (by assumption) | exact fun q => absurd (by assumption) q.2))
              · refine V_aload_n C dX10_publish_76 rfl ?_
                refine V_getr C fl_X10_29 dX10_publish_77 (by decide) sh_85 rfl ?_
                refine V_iload C dX10_publish_80 rfl ?_
                refine V_ialdN (p0 := 91) (o := o) (v := X 91 o) C dX10_publish_82 sh_91 (by decide) (by omega) (by decide) rfl ?_
                refine V_iload_n C dX10_publish_83 rfl ?_
                refine V_icmp_ne (x := X 91 o) (y := v) (tgt := 91) C dX10_publish_84 (by decide) (fun h84_13 => ?_) (fun h84_13 => ?_)
                · refine V_iconst (v := (0 : Int32)) C dX10_publish_91 (by decide) ?_
                  refine V_bastN (p0 := 99) (o := o) (X1 := (ma (ma X 85 (upd (X 85) 0 (0 : Int32))) 99 (upd (L) o (0 : Int32)))) C dX10_publish_92 sh_99 (by decide) (by omega) (by decide) (Or.inl rfl) (ma_ma _ _ _ _) ?_
                  refine V_iload_n C dX10_publish_93 rfl ?_
                  refine V_aload_n C dX10_publish_94 rfl ?_
                  refine V_getr C fl_X10_54 dX10_publish_95 (by decide) sh_85 rfl ?_
                  refine V_iload C dX10_publish_98 rfl ?_
                  refine V_baldN (p0 := 99) (o := o) (v := (upd (L) o (0 : Int32)) o) C dX10_publish_100 sh_99 (by decide) (by omega) (by decide) rfl ?_
                  refine V_eqi (y := nI 0) (upd_eq _ _ _) ?_
                  refine V_if_eq (x := nI 0) (tgt := 119) C dX10_publish_101 (by decide) (fun _ => ?_) (fun h => absurd h (by decide))
                  refine V_iconst (v := (0 : Int32)) C dX10_publish_119 (by decide) ?_
                  refine V_iaddN (a := mm) (b := 0) C dX10_publish_120 ?_
                  refine V_istore_n (ls1 := [some (.ref (w.2.1 85)), some (.int v), some (.int dy), some (.int (nI mm)), some (.int (nI o))]) C dX10_publish_121 (by decide) rfl ?_
                  refine V_iincN (a := o) (ls1 := [some (.ref (w.2.1 85)), some (.int v), some (.int dy), some (.int (nI mm)), some (.int (nI (o + 1)))]) C dX10_publish_122 rfl (by decide) rfl ?_
                  refine V_goto (tgt := 41) C dX10_publish_125 (by decide) ?_
                  exact ih41 mm (o + 1) (upd (L) o (0 : Int32)) (by omega) (by omega) (by rw [hm]; exact (sum_n (p := fun x => X 91 x = v ∧ ¬ X 98 x = 0) (by first | exact fun q => absurd q.1 (by assumption) | exact fun q => absurd (by assumption) q.2)).symm) (by rw [hL]; exact LsM_0 (by rw [← hL]; assumption) (by first | exact fun q => absurd q.1 (by assumption) | exact fun q => absurd (by assumption) q.2))
                · refine V_iconst (v := (1 : Int32)) C dX10_publish_87 (by decide) ?_
                  refine V_goto (tgt := 92) C dX10_publish_88 (by decide) ?_
                  refine V_bastN (p0 := 99) (o := o) (X1 := (ma (ma X 85 (upd (X 85) 0 (0 : Int32))) 99 (upd (L) o (1 : Int32)))) C dX10_publish_92 sh_99 (by decide) (by omega) (by decide) (Or.inr rfl) (ma_ma _ _ _ _) ?_
                  refine V_iload_n C dX10_publish_93 rfl ?_
                  refine V_aload_n C dX10_publish_94 rfl ?_
                  refine V_getr C fl_X10_54 dX10_publish_95 (by decide) sh_85 rfl ?_
                  refine V_iload C dX10_publish_98 rfl ?_
                  refine V_baldN (p0 := 99) (o := o) (v := (upd (L) o (1 : Int32)) o) C dX10_publish_100 sh_99 (by decide) (by omega) (by decide) rfl ?_
                  refine V_eqi (y := nI 1) (upd_eq _ _ _) ?_
                  refine V_if_eq (x := nI 1) (tgt := 119) C dX10_publish_101 (by decide) (fun h => absurd h (by decide)) (fun _ => ?_)
                  refine V_aload_n C dX10_publish_104 rfl ?_
                  refine V_getr C fl_X10_29 dX10_publish_105 (by decide) sh_85 rfl ?_
                  refine V_iload C dX10_publish_108 rfl ?_
                  refine V_ialdN (p0 := 91) (o := o) (v := X 91 o) C dX10_publish_110 sh_91 (by decide) (by omega) (by decide) rfl ?_
                  refine V_iload_n C dX10_publish_111 rfl ?_
                  refine V_icmp_ne (x := X 91 o) (y := v) (tgt := 119) C dX10_publish_112 (by decide) (fun h112_16 => ?_) (fun h112_16 => ?_)
                  · refine V_iconst (v := (0 : Int32)) C dX10_publish_119 (by decide) ?_
                    refine V_iaddN (a := mm) (b := 0) C dX10_publish_120 ?_
                    refine V_istore_n (ls1 := [some (.ref (w.2.1 85)), some (.int v), some (.int dy), some (.int (nI mm)), some (.int (nI o))]) C dX10_publish_121 (by decide) rfl ?_
                    refine V_iincN (a := o) (ls1 := [some (.ref (w.2.1 85)), some (.int v), some (.int dy), some (.int (nI mm)), some (.int (nI (o + 1)))]) C dX10_publish_122 rfl (by decide) rfl ?_
                    refine V_goto (tgt := 41) C dX10_publish_125 (by decide) ?_
                    exact ih41 mm (o + 1) (upd (L) o (1 : Int32)) (by omega) (by omega) (by rw [hm]; exact (sum_n (p := fun x => X 91 x = v ∧ ¬ X 98 x = 0) (by first | exact fun q => absurd q.1 (by assumption) | exact fun q => absurd (by assumption) q.2)).symm) (by rw [hL]; first | exact LsM_a (hls o (by omega)).1 (by rw [← hL]; assumption) | exact LsR_s1 (by assumption) (by assumption))
                  · refine V_iconst (v := (1 : Int32)) C dX10_publish_115 (by decide) ?_
                    refine V_goto (tgt := 120) C dX10_publish_116 (by decide) ?_
                    refine V_iaddN (a := mm) (b := 1) C dX10_publish_120 ?_
                    refine V_istore_n (ls1 := [some (.ref (w.2.1 85)), some (.int v), some (.int dy), some (.int (nI (mm + 1))), some (.int (nI o))]) C dX10_publish_121 (by decide) rfl ?_
                    refine V_iincN (a := o) (ls1 := [some (.ref (w.2.1 85)), some (.int v), some (.int dy), some (.int (nI (mm + 1))), some (.int (nI (o + 1)))]) C dX10_publish_122 rfl (by decide) rfl ?_
                    refine V_goto (tgt := 41) C dX10_publish_125 (by decide) ?_
                    exact ih41 (mm + 1) (o + 1) (upd (L) o (1 : Int32)) (by omega) (by omega) (by rw [hm]; exact (sum_y (p := fun x => X 91 x = v ∧ ¬ X 98 x = 0) ⟨by assumption, by first | assumption | exact Ls_rv (f8 := X 91) (v := v) (hls o (by omega)).1 (hls o (by omega)).2 (by rw [← hL]; assumption)⟩).symm) (by rw [hL]; first | exact LsM_a (hls o (by omega)).1 (by rw [← hL]; assumption) | exact LsR_s1 (by assumption) (by assumption))
      refine V_eqX (X1 := (ma (ma X 85 (upd (X 85) 0 (0 : Int32))) 99 (X 99))) (ma_id rfl) ?_
      exact L41 _ 0 0 (X 99) (Nat.lt_succ_self _) (by omega) rfl LsR_0
    · refine V_iconst (v := (2 : Int32)) C dX10_publish_23 (by decide) ?_
      refine V_goto (tgt := 28) C dX10_publish_24 (by decide) ?_
      refine V_callVI C [.int (2 : Int32)] mi_X10_119 (k_X10_isFine_2 w l X ) dX10_publish_28 sh_85 (by decide) rfl rfl rfl (Nat.le_of_ble_eq_true rfl) (Nat.le_of_ble_eq_true rfl) (Nat.le_of_ble_eq_true rfl) ⟨Nat.le_refl _, Nat.le_refl _⟩ (fun v17 X17 q17 => ?_)
      obtain ⟨ev17, eX17⟩ := q17; subst X17; subst v17
      refine V_if_ne (x := (0 : Int32)) (tgt := 36) C dX10_publish_31 (by decide) (fun h => absurd h (by decide)) (fun _ => ?_)
      refine V_iconst (v := (0 : Int32)) C dX10_publish_34 (by decide) ?_
      exact V_ireturnI C dX10_publish_35 (Or.inl ⟨2, Or.inr ⟨rfl, (by assumption), (by first | exact fun q => absurd q (by assumption))⟩, rfl, rfl⟩)
  · refine V_iconst (v := (1 : Int32)) C dX10_publish_9 (by decide) ?_
    refine V_goto (tgt := 28) C dX10_publish_10 (by decide) ?_
    refine V_callVI C [.int (1 : Int32)] mi_X10_119 (k_X10_isFine_1 w l X ) dX10_publish_28 sh_85 (by decide) rfl rfl rfl (Nat.le_of_ble_eq_true rfl) (Nat.le_of_ble_eq_true rfl) (Nat.le_of_ble_eq_true rfl) ⟨Nat.le_refl _, Nat.le_refl _⟩ (fun v19 X19 q19 => ?_)
    obtain ⟨ev19, eX19⟩ := q19; subst X19; subst v19
    refine V_if_ne (x := (0 : Int32)) (tgt := 36) C dX10_publish_31 (by decide) (fun h => absurd h (by decide)) (fun _ => ?_)
    refine V_iconst (v := (0 : Int32)) C dX10_publish_34 (by decide) ?_
    exact V_ireturnI C dX10_publish_35 (Or.inl ⟨1, Or.inl ⟨rfl, (by first | exact fun q => absurd q (by assumption))⟩, rfl, rfl⟩)
def q_X10_pass (v : Int32) (X : Mem) (D : Nat) : Int32 → Mem → Prop := fun r X' => (∃ c, Cd2 (Btw v 1 100) (∀ d, d < 101 → v = nI d → D + d ≤ 10000) c ∧ r = 0 ∧ X' = ma X 85 (upd (X 85) 0 c)) ∨ (((Btw v 1 100) ∧ (∀ d, d < 101 → v = nI d → D + d ≤ 10000)) ∧ ∃ d, d < 101 ∧ v = nI d ∧ r = nI (D + d) ∧ X' = ma X 85 (upd (upd (X 85) 0 (0 : Int32)) 1 (nI (D + d))))
set_option maxHeartbeats 4000000 in
set_option maxRecDepth 100000 in
theorem k_X10_pass (w : Wt) (l : Launch) (v : Int32) (X : Mem) (D : Nat) (hday : X 85 1 = nI D) (hd1 : D ≤ 10000) : CtI w l yX10_pass cX10_pass 2 (some .int) 2 42 [.ref (w.2.1 85), .int v] X (q_X10_pass v X D) := by
  refine CtI_of (by decide +kernel) (Nat.le_of_ble_eq_true rfl) (List.forall_mem_cons.mpr ⟨rfl, (List.forall_mem_cons.mpr ⟨rfl, (fun _ h => nomatch h)⟩)⟩) (ls := [some (.ref (w.2.1 85)), some (.int v)]) rfl (args := (#[.ref (w.2.1 85), .int v] : Array Value)) rfl (own := RX10) rfl ?_
  intro p e s m below meth c C
  refine V_aload_n C dX10_pass_0 rfl ?_
  refine V_iload_n C dX10_pass_1 rfl ?_
  refine V_iconst (v := (1 : Int32)) C dX10_pass_2 (by decide) ?_
  refine V_bipush (v := (100 : Int32)) C dX10_pass_3 (by decide) ?_
  refine V_callSI C [.int v, .int (1 : Int32), .int (100 : Int32)] ms_X10_108 (k_X10_isBetween w l v (1 : Int32) (100 : Int32) X ) dX10_pass_5 rfl rfl (Nat.le_of_ble_eq_true rfl) (Nat.le_of_ble_eq_true rfl) (Nat.le_of_ble_eq_true rfl) ⟨Nat.le_refl _, Nat.le_refl _⟩ (fun v1 X1 q1 => ?_)
  obtain ⟨hb1, eX1⟩ := q1; subst X1
  refine V_if_neB (tgt := 15) C hb1 dX10_pass_8 (by decide) (fun h8_2 => ?_) (fun h8_2 => ?_)
  · have hg1 : Btw v 1 100 := by assumption
    obtain ⟨d, hd, ed⟩ := Btw_1 hg1
    subst ed
    refine V_aload_n C dX10_pass_15 rfl ?_
    refine V_geti C fl_X10_122 dX10_pass_16 (by decide) sh_85 rfl ?_
    refine V_eqi (y := nI D) hday ?_
    refine V_iload_n C dX10_pass_19 rfl ?_
    refine V_iaddN (a := D) (b := d) C dX10_pass_20 ?_
    refine V_sipush (v := (10000 : Int32)) C dX10_pass_21 (by decide) ?_
    refine V_icmp_leN (a := D + d) (b := 10000) (tgt := 31) C dX10_pass_24 (by decide) (by omega) (by omega) (fun h24_3 => ?_) (fun h24_3 => ?_)
    · refine V_iconst (v := (0 : Int32)) C dX10_pass_31 (by decide) ?_
      refine V_callVI C [.int (0 : Int32)] mi_X10_119 (k_X10_isFine_0 w l X ) dX10_pass_32 sh_85 (by decide) rfl rfl rfl (Nat.le_of_ble_eq_true rfl) (Nat.le_of_ble_eq_true rfl) (Nat.le_of_ble_eq_true rfl) ⟨Nat.le_refl _, Nat.le_refl _⟩ (fun v4 X4 q4 => ?_)
      obtain ⟨ev4, eX4⟩ := q4; subst X4; subst v4
      refine V_if_ne (x := (1 : Int32)) (tgt := 40) C dX10_pass_35 (by decide) (fun _ => ?_) (fun h => absurd h (by decide))
      refine V_aload_n C dX10_pass_40 rfl ?_
      refine V_dup C dX10_pass_41 rfl ?_
      refine V_geti C fl_X10_122 dX10_pass_42 (by decide) sh_85 rfl ?_
      refine V_eqi (y := X 85 1) rfl ?_
      refine V_eqi (y := nI D) hday ?_
      refine V_iload_n C dX10_pass_45 rfl ?_
      refine V_iaddN (a := D) (b := d) C dX10_pass_46 ?_
      refine V_put C fp_X10_122 dX10_pass_47 (by decide) sh_85 rfl ?_
      refine V_eqX (X1 := (ma X 85 (upd (upd (X 85) 0 (0 : Int32)) 1 (nI (D + d))))) (ma_ma _ _ _ _) ?_
      refine V_aload_n C dX10_pass_50 rfl ?_
      refine V_geti C fl_X10_122 dX10_pass_51 (by decide) sh_85 rfl ?_
      refine V_eqi (y := nI (D + d)) rfl ?_
      exact V_ireturnI C dX10_pass_54 (Or.inr ⟨⟨(by assumption), (fun d1 g1 g2 => by have g3 := (nI_eq (by omega) (by omega)).mp g2; omega)⟩, d, by omega, rfl, rfl, rfl⟩)
    · refine V_iconst (v := (2 : Int32)) C dX10_pass_27 (by decide) ?_
      refine V_goto (tgt := 32) C dX10_pass_28 (by decide) ?_
      refine V_callVI C [.int (2 : Int32)] mi_X10_119 (k_X10_isFine_2 w l X ) dX10_pass_32 sh_85 (by decide) rfl rfl rfl (Nat.le_of_ble_eq_true rfl) (Nat.le_of_ble_eq_true rfl) (Nat.le_of_ble_eq_true rfl) ⟨Nat.le_refl _, Nat.le_refl _⟩ (fun v6 X6 q6 => ?_)
      obtain ⟨ev6, eX6⟩ := q6; subst X6; subst v6
      refine V_if_ne (x := (0 : Int32)) (tgt := 40) C dX10_pass_35 (by decide) (fun h => absurd h (by decide)) (fun _ => ?_)
      refine V_iconst (v := (0 : Int32)) C dX10_pass_38 (by decide) ?_
      exact V_ireturnI C dX10_pass_39 (Or.inl ⟨2, Or.inr ⟨rfl, (by assumption), (fun q => absurd (q d (by omega) rfl) (by omega))⟩, rfl, rfl⟩)
  · refine V_iconst (v := (1 : Int32)) C dX10_pass_11 (by decide) ?_
    refine V_goto (tgt := 32) C dX10_pass_12 (by decide) ?_
    refine V_callVI C [.int (1 : Int32)] mi_X10_119 (k_X10_isFine_1 w l X ) dX10_pass_32 sh_85 (by decide) rfl rfl rfl (Nat.le_of_ble_eq_true rfl) (Nat.le_of_ble_eq_true rfl) (Nat.le_of_ble_eq_true rfl) ⟨Nat.le_refl _, Nat.le_refl _⟩ (fun v8 X8 q8 => ?_)
    obtain ⟨ev8, eX8⟩ := q8; subst X8; subst v8
    refine V_if_ne (x := (0 : Int32)) (tgt := 40) C dX10_pass_35 (by decide) (fun h => absurd h (by decide)) (fun _ => ?_)
    refine V_iconst (v := (0 : Int32)) C dX10_pass_38 (by decide) ?_
    exact V_ireturnI C dX10_pass_39 (Or.inl ⟨1, Or.inl ⟨rfl, (by first | exact fun q => absurd q (by assumption))⟩, rfl, rfl⟩)
def q_X10_grant (is : Int32) (wm : Int32) (vl : Int32) (ln : Int32) (dd : Int32) (X : Mem) (h n : Nat) : Int32 → Mem → Prop := fun r X' => (∃ c, Cd3 (Btw is 0 (nI (h - 1)) ∧ Btw wm 0 (nI (h - 1))) (Blk vl ln ∧ Btw dd 0 1000) (n < 50) c ∧ r = 0 ∧ X' = ma X 85 (upd (X 85) 0 c)) ∨ (((Btw is 0 (nI (h - 1)) ∧ Btw wm 0 (nI (h - 1))) ∧ (Blk vl ln ∧ Btw dd 0 1000) ∧ (n < 50)) ∧ r = nI n ∧ ∃ a, a < h ∧ is = nI a ∧ X' = ma (ma (ma (ma (ma (ma (ma (ma (ma (ma X 85 (upd (X 85) 0 (0 : Int32))) 90 (upd ((ma X 85 (upd (X 85) 0 (0 : Int32))) 90) n (0 : Int32))) 91 (upd ((ma X 85 (upd (X 85) 0 (0 : Int32))) 91) n (nI a))) 92 (upd ((ma X 85 (upd (X 85) 0 (0 : Int32))) 92) n wm)) 93 (upd ((ma X 85 (upd (X 85) 0 (0 : Int32))) 93) n vl)) 94 (upd ((ma X 85 (upd (X 85) 0 (0 : Int32))) 94) n ln)) 95 (upd ((ma X 85 (upd (X 85) 0 (0 : Int32))) 95) n (0 : Int32))) 96 (upd ((ma X 85 (upd (X 85) 0 (0 : Int32))) 96) n ((ma X 85 (upd (X 85) 0 (0 : Int32))) 85 1 + dd))) 97 (upd ((ma X 85 (upd (X 85) 0 (0 : Int32))) 97) n (sigS (oM (ma (ma (ma (ma (ma (ma (ma (ma X 85 (upd (X 85) 0 (0 : Int32))) 90 (upd ((ma X 85 (upd (X 85) 0 (0 : Int32))) 90) n (0 : Int32))) 91 (upd ((ma X 85 (upd (X 85) 0 (0 : Int32))) 91) n (nI a))) 92 (upd ((ma X 85 (upd (X 85) 0 (0 : Int32))) 92) n wm)) 93 (upd ((ma X 85 (upd (X 85) 0 (0 : Int32))) 93) n vl)) 94 (upd ((ma X 85 (upd (X 85) 0 (0 : Int32))) 94) n ln)) 95 (upd ((ma X 85 (upd (X 85) 0 (0 : Int32))) 95) n (0 : Int32))) 96 (upd ((ma X 85 (upd (X 85) 0 (0 : Int32))) 96) n ((ma X 85 (upd (X 85) 0 (0 : Int32))) 85 1 + dd)))) n (kyy (gM (ma (ma (ma (ma (ma (ma (ma (ma X 85 (upd (X 85) 0 (0 : Int32))) 90 (upd ((ma X 85 (upd (X 85) 0 (0 : Int32))) 90) n (0 : Int32))) 91 (upd ((ma X 85 (upd (X 85) 0 (0 : Int32))) 91) n (nI a))) 92 (upd ((ma X 85 (upd (X 85) 0 (0 : Int32))) 92) n wm)) 93 (upd ((ma X 85 (upd (X 85) 0 (0 : Int32))) 93) n vl)) 94 (upd ((ma X 85 (upd (X 85) 0 (0 : Int32))) 94) n ln)) 95 (upd ((ma X 85 (upd (X 85) 0 (0 : Int32))) 95) n (0 : Int32))) 96 (upd ((ma X 85 (upd (X 85) 0 (0 : Int32))) 96) n ((ma X 85 (upd (X 85) 0 (0 : Int32))) 85 1 + dd)))) (ix (isr (oM (ma (ma (ma (ma (ma (ma (ma (ma X 85 (upd (X 85) 0 (0 : Int32))) 90 (upd ((ma X 85 (upd (X 85) 0 (0 : Int32))) 90) n (0 : Int32))) 91 (upd ((ma X 85 (upd (X 85) 0 (0 : Int32))) 91) n (nI a))) 92 (upd ((ma X 85 (upd (X 85) 0 (0 : Int32))) 92) n wm)) 93 (upd ((ma X 85 (upd (X 85) 0 (0 : Int32))) 93) n vl)) 94 (upd ((ma X 85 (upd (X 85) 0 (0 : Int32))) 94) n ln)) 95 (upd ((ma X 85 (upd (X 85) 0 (0 : Int32))) 95) n (0 : Int32))) 96 (upd ((ma X 85 (upd (X 85) 0 (0 : Int32))) 96) n ((ma X 85 (upd (X 85) 0 (0 : Int32))) 85 1 + dd)))) n)))))) 85 (upd ((ma X 85 (upd (X 85) 0 (0 : Int32))) 85) 17 (nI (n + 1))))
set_option maxHeartbeats 4000000 in
set_option maxRecDepth 100000 in
theorem k_X10_grant (w : Wt) (l : Launch) (is : Int32) (wm : Int32) (vl : Int32) (ln : Int32) (dd : Int32) (X : Mem) (h n : Nat) (hh : X 85 5 = nI h) (h1 : 1 ≤ h) (h8 : h ≤ 8) (hn : X 85 17 = nI n) (n50 : n ≤ 50) : CtI w l yX10_grant cX10_grant 8 (some .int) 4 90 [.ref (w.2.1 85), .int is, .int wm, .int vl, .int ln, .int dd] X (q_X10_grant is wm vl ln dd X h n) := by
  refine CtI_of (by decide +kernel) (Nat.le_of_ble_eq_true rfl) (List.forall_mem_cons.mpr ⟨rfl, (List.forall_mem_cons.mpr ⟨rfl, (List.forall_mem_cons.mpr ⟨rfl, (List.forall_mem_cons.mpr ⟨rfl, (List.forall_mem_cons.mpr ⟨rfl, (List.forall_mem_cons.mpr ⟨rfl, (fun _ h => nomatch h)⟩)⟩)⟩)⟩)⟩)⟩) (ls := [some (.ref (w.2.1 85)), some (.int is), some (.int wm), some (.int vl), some (.int ln), some (.int dd), none, none]) rfl (args := (#[.ref (w.2.1 85), .int is, .int wm, .int vl, .int ln, .int dd] : Array Value)) rfl (own := RX10) rfl ?_
  intro p e s m below meth c C
  refine V_aload_n C dX10_grant_0 rfl ?_
  refine V_iload_n C dX10_grant_1 rfl ?_
  refine V_callVI C [.int is] mi_X10_115 (k_X10_isHolder w l is X h hh h1 h8) dX10_grant_2 sh_85 (by decide) rfl rfl rfl (Nat.le_of_ble_eq_true rfl) (Nat.le_of_ble_eq_true rfl) (Nat.le_of_ble_eq_true rfl) ⟨Nat.le_refl _, Nat.le_refl _⟩ (fun v1 X1 q1 => ?_)
  obtain ⟨hb1, eX1⟩ := q1; subst X1
  refine V_if_eqB (tgt := 20) C hb1 dX10_grant_5 (by decide) (fun h5_2 => ?_) (fun h5_2 => ?_)
  · refine V_iconst (v := (0 : Int32)) C dX10_grant_20 (by decide) ?_
    refine V_istore (ls1 := [some (.ref (w.2.1 85)), some (.int is), some (.int wm), some (.int vl), some (.int ln), some (.int dd), some (.int (0 : Int32)), none]) C dX10_grant_21 (by decide) rfl ?_
    refine V_iload_n C dX10_grant_23 rfl ?_
    refine V_iload C dX10_grant_24 rfl ?_
    refine V_callSI C [.int vl, .int ln] ms_X10_137 (k_X10_isBlock w l vl ln X ) dX10_grant_26 rfl rfl (Nat.le_of_ble_eq_true rfl) (Nat.le_of_ble_eq_true rfl) (Nat.le_of_ble_eq_true rfl) ⟨Nat.le_refl _, Nat.le_refl _⟩ (fun v3 X3 q3 => ?_)
    obtain ⟨hb3, eX3⟩ := q3; subst X3
    refine V_if_eqB (tgt := 44) C hb3 dX10_grant_29 (by decide) (fun h29_4 => ?_) (fun h29_4 => ?_)
    · refine V_iconst (v := (0 : Int32)) C dX10_grant_44 (by decide) ?_
      refine V_istore (ls1 := [some (.ref (w.2.1 85)), some (.int is), some (.int wm), some (.int vl), some (.int ln), some (.int dd), some (.int (0 : Int32)), some (.int (0 : Int32))]) C dX10_grant_45 (by decide) rfl ?_
      refine V_aload_n C dX10_grant_47 rfl ?_
      refine V_iload C dX10_grant_48 rfl ?_
      refine V_if_ne (x := (0 : Int32)) (tgt := 57) C dX10_grant_50 (by decide) (fun h => absurd h (by decide)) (fun _ => ?_)
      refine V_iconst (v := (1 : Int32)) C dX10_grant_53 (by decide) ?_
      refine V_goto (tgt := 80) C dX10_grant_54 (by decide) ?_
      refine V_callVI C [.int (1 : Int32)] mi_X10_119 (k_X10_isFine_1 w l X ) dX10_grant_80 sh_85 (by decide) rfl rfl rfl (Nat.le_of_ble_eq_true rfl) (Nat.le_of_ble_eq_true rfl) (Nat.le_of_ble_eq_true rfl) ⟨Nat.le_refl _, Nat.le_refl _⟩ (fun v6 X6 q6 => ?_)
      obtain ⟨ev6, eX6⟩ := q6; subst X6; subst v6
      refine V_if_eq (x := (0 : Int32)) (tgt := 102) C dX10_grant_83 (by decide) (fun _ => ?_) (fun h => absurd h (by decide))
      refine V_iconst (v := (0 : Int32)) C dX10_grant_102 (by decide) ?_
      exact V_ireturnI C dX10_grant_103 (Or.inl ⟨1, Or.inl ⟨rfl, (by first | exact fun q => absurd q.1 (by assumption) | exact fun q => absurd q.2 (by assumption))⟩, rfl, rfl⟩)
    · refine V_iload C dX10_grant_32 rfl ?_
      refine V_callSI C [.int dd] ms_X10_141 (k_X10_areDays w l dd X ) dX10_grant_34 rfl rfl (Nat.le_of_ble_eq_true rfl) (Nat.le_of_ble_eq_true rfl) (Nat.le_of_ble_eq_true rfl) ⟨Nat.le_refl _, Nat.le_refl _⟩ (fun v8 X8 q8 => ?_)
      obtain ⟨hb8, eX8⟩ := q8; subst X8
      refine V_if_eqB (tgt := 44) C hb8 dX10_grant_37 (by decide) (fun h37_9 => ?_) (fun h37_9 => ?_)
      · refine V_iconst (v := (0 : Int32)) C dX10_grant_44 (by decide) ?_
        refine V_istore (ls1 := [some (.ref (w.2.1 85)), some (.int is), some (.int wm), some (.int vl), some (.int ln), some (.int dd), some (.int (0 : Int32)), some (.int (0 : Int32))]) C dX10_grant_45 (by decide) rfl ?_
        refine V_aload_n C dX10_grant_47 rfl ?_
        refine V_iload C dX10_grant_48 rfl ?_
        refine V_if_ne (x := (0 : Int32)) (tgt := 57) C dX10_grant_50 (by decide) (fun h => absurd h (by decide)) (fun _ => ?_)
        refine V_iconst (v := (1 : Int32)) C dX10_grant_53 (by decide) ?_
        refine V_goto (tgt := 80) C dX10_grant_54 (by decide) ?_
        refine V_callVI C [.int (1 : Int32)] mi_X10_119 (k_X10_isFine_1 w l X ) dX10_grant_80 sh_85 (by decide) rfl rfl rfl (Nat.le_of_ble_eq_true rfl) (Nat.le_of_ble_eq_true rfl) (Nat.le_of_ble_eq_true rfl) ⟨Nat.le_refl _, Nat.le_refl _⟩ (fun v11 X11 q11 => ?_)
        obtain ⟨ev11, eX11⟩ := q11; subst X11; subst v11
        refine V_if_eq (x := (0 : Int32)) (tgt := 102) C dX10_grant_83 (by decide) (fun _ => ?_) (fun h => absurd h (by decide))
        refine V_iconst (v := (0 : Int32)) C dX10_grant_102 (by decide) ?_
        exact V_ireturnI C dX10_grant_103 (Or.inl ⟨1, Or.inl ⟨rfl, (by first | exact fun q => absurd q.1 (by assumption) | exact fun q => absurd q.2 (by assumption))⟩, rfl, rfl⟩)
      · refine V_iconst (v := (1 : Int32)) C dX10_grant_40 (by decide) ?_
        refine V_goto (tgt := 45) C dX10_grant_41 (by decide) ?_
        refine V_istore (ls1 := [some (.ref (w.2.1 85)), some (.int is), some (.int wm), some (.int vl), some (.int ln), some (.int dd), some (.int (0 : Int32)), some (.int (1 : Int32))]) C dX10_grant_45 (by decide) rfl ?_
        refine V_aload_n C dX10_grant_47 rfl ?_
        refine V_iload C dX10_grant_48 rfl ?_
        refine V_if_ne (x := (0 : Int32)) (tgt := 57) C dX10_grant_50 (by decide) (fun h => absurd h (by decide)) (fun _ => ?_)
        refine V_iconst (v := (1 : Int32)) C dX10_grant_53 (by decide) ?_
        refine V_goto (tgt := 80) C dX10_grant_54 (by decide) ?_
        refine V_callVI C [.int (1 : Int32)] mi_X10_119 (k_X10_isFine_1 w l X ) dX10_grant_80 sh_85 (by decide) rfl rfl rfl (Nat.le_of_ble_eq_true rfl) (Nat.le_of_ble_eq_true rfl) (Nat.le_of_ble_eq_true rfl) ⟨Nat.le_refl _, Nat.le_refl _⟩ (fun v14 X14 q14 => ?_)
        obtain ⟨ev14, eX14⟩ := q14; subst X14; subst v14
        refine V_if_eq (x := (0 : Int32)) (tgt := 102) C dX10_grant_83 (by decide) (fun _ => ?_) (fun h => absurd h (by decide))
        refine V_iconst (v := (0 : Int32)) C dX10_grant_102 (by decide) ?_
        exact V_ireturnI C dX10_grant_103 (Or.inl ⟨1, Or.inl ⟨rfl, (by first | exact fun q => absurd q.1 (by assumption) | exact fun q => absurd q.2 (by assumption))⟩, rfl, rfl⟩)
  · refine V_aload_n C dX10_grant_8 rfl ?_
    refine V_iload_n C dX10_grant_9 rfl ?_
    refine V_callVI C [.int wm] mi_X10_115 (k_X10_isHolder w l wm X h hh h1 h8) dX10_grant_10 sh_85 (by decide) rfl rfl rfl (Nat.le_of_ble_eq_true rfl) (Nat.le_of_ble_eq_true rfl) (Nat.le_of_ble_eq_true rfl) ⟨Nat.le_refl _, Nat.le_refl _⟩ (fun v16 X16 q16 => ?_)
    obtain ⟨hb16, eX16⟩ := q16; subst X16
    refine V_if_eqB (tgt := 20) C hb16 dX10_grant_13 (by decide) (fun h13_17 => ?_) (fun h13_17 => ?_)
    · refine V_iconst (v := (0 : Int32)) C dX10_grant_20 (by decide) ?_
      refine V_istore (ls1 := [some (.ref (w.2.1 85)), some (.int is), some (.int wm), some (.int vl), some (.int ln), some (.int dd), some (.int (0 : Int32)), none]) C dX10_grant_21 (by decide) rfl ?_
      refine V_iload_n C dX10_grant_23 rfl ?_
      refine V_iload C dX10_grant_24 rfl ?_
      refine V_callSI C [.int vl, .int ln] ms_X10_137 (k_X10_isBlock w l vl ln X ) dX10_grant_26 rfl rfl (Nat.le_of_ble_eq_true rfl) (Nat.le_of_ble_eq_true rfl) (Nat.le_of_ble_eq_true rfl) ⟨Nat.le_refl _, Nat.le_refl _⟩ (fun v18 X18 q18 => ?_)
      obtain ⟨hb18, eX18⟩ := q18; subst X18
      refine V_if_eqB (tgt := 44) C hb18 dX10_grant_29 (by decide) (fun h29_19 => ?_) (fun h29_19 => ?_)
      · refine V_iconst (v := (0 : Int32)) C dX10_grant_44 (by decide) ?_
        refine V_istore (ls1 := [some (.ref (w.2.1 85)), some (.int is), some (.int wm), some (.int vl), some (.int ln), some (.int dd), some (.int (0 : Int32)), some (.int (0 : Int32))]) C dX10_grant_45 (by decide) rfl ?_
        refine V_aload_n C dX10_grant_47 rfl ?_
        refine V_iload C dX10_grant_48 rfl ?_
        refine V_if_ne (x := (0 : Int32)) (tgt := 57) C dX10_grant_50 (by decide) (fun h => absurd h (by decide)) (fun _ => ?_)
        refine V_iconst (v := (1 : Int32)) C dX10_grant_53 (by decide) ?_
        refine V_goto (tgt := 80) C dX10_grant_54 (by decide) ?_
        refine V_callVI C [.int (1 : Int32)] mi_X10_119 (k_X10_isFine_1 w l X ) dX10_grant_80 sh_85 (by decide) rfl rfl rfl (Nat.le_of_ble_eq_true rfl) (Nat.le_of_ble_eq_true rfl) (Nat.le_of_ble_eq_true rfl) ⟨Nat.le_refl _, Nat.le_refl _⟩ (fun v21 X21 q21 => ?_)
        obtain ⟨ev21, eX21⟩ := q21; subst X21; subst v21
        refine V_if_eq (x := (0 : Int32)) (tgt := 102) C dX10_grant_83 (by decide) (fun _ => ?_) (fun h => absurd h (by decide))
        refine V_iconst (v := (0 : Int32)) C dX10_grant_102 (by decide) ?_
        exact V_ireturnI C dX10_grant_103 (Or.inl ⟨1, Or.inl ⟨rfl, (by first | exact fun q => absurd q.1 (by assumption) | exact fun q => absurd q.2 (by assumption))⟩, rfl, rfl⟩)
      · refine V_iload C dX10_grant_32 rfl ?_
        refine V_callSI C [.int dd] ms_X10_141 (k_X10_areDays w l dd X ) dX10_grant_34 rfl rfl (Nat.le_of_ble_eq_true rfl) (Nat.le_of_ble_eq_true rfl) (Nat.le_of_ble_eq_true rfl) ⟨Nat.le_refl _, Nat.le_refl _⟩ (fun v23 X23 q23 => ?_)
        obtain ⟨hb23, eX23⟩ := q23; subst X23
        refine V_if_eqB (tgt := 44) C hb23 dX10_grant_37 (by decide) (fun h37_24 => ?_) (fun h37_24 => ?_)
        · refine V_iconst (v := (0 : Int32)) C dX10_grant_44 (by decide) ?_
          refine V_istore (ls1 := [some (.ref (w.2.1 85)), some (.int is), some (.int wm), some (.int vl), some (.int ln), some (.int dd), some (.int (0 : Int32)), some (.int (0 : Int32))]) C dX10_grant_45 (by decide) rfl ?_
          refine V_aload_n C dX10_grant_47 rfl ?_
          refine V_iload C dX10_grant_48 rfl ?_
          refine V_if_ne (x := (0 : Int32)) (tgt := 57) C dX10_grant_50 (by decide) (fun h => absurd h (by decide)) (fun _ => ?_)
          refine V_iconst (v := (1 : Int32)) C dX10_grant_53 (by decide) ?_
          refine V_goto (tgt := 80) C dX10_grant_54 (by decide) ?_
          refine V_callVI C [.int (1 : Int32)] mi_X10_119 (k_X10_isFine_1 w l X ) dX10_grant_80 sh_85 (by decide) rfl rfl rfl (Nat.le_of_ble_eq_true rfl) (Nat.le_of_ble_eq_true rfl) (Nat.le_of_ble_eq_true rfl) ⟨Nat.le_refl _, Nat.le_refl _⟩ (fun v26 X26 q26 => ?_)
          obtain ⟨ev26, eX26⟩ := q26; subst X26; subst v26
          refine V_if_eq (x := (0 : Int32)) (tgt := 102) C dX10_grant_83 (by decide) (fun _ => ?_) (fun h => absurd h (by decide))
          refine V_iconst (v := (0 : Int32)) C dX10_grant_102 (by decide) ?_
          exact V_ireturnI C dX10_grant_103 (Or.inl ⟨1, Or.inl ⟨rfl, (by first | exact fun q => absurd q.1 (by assumption) | exact fun q => absurd q.2 (by assumption))⟩, rfl, rfl⟩)
        · refine V_iconst (v := (1 : Int32)) C dX10_grant_40 (by decide) ?_
          refine V_goto (tgt := 45) C dX10_grant_41 (by decide) ?_
          refine V_istore (ls1 := [some (.ref (w.2.1 85)), some (.int is), some (.int wm), some (.int vl), some (.int ln), some (.int dd), some (.int (0 : Int32)), some (.int (1 : Int32))]) C dX10_grant_45 (by decide) rfl ?_
          refine V_aload_n C dX10_grant_47 rfl ?_
          refine V_iload C dX10_grant_48 rfl ?_
          refine V_if_ne (x := (0 : Int32)) (tgt := 57) C dX10_grant_50 (by decide) (fun h => absurd h (by decide)) (fun _ => ?_)
          refine V_iconst (v := (1 : Int32)) C dX10_grant_53 (by decide) ?_
          refine V_goto (tgt := 80) C dX10_grant_54 (by decide) ?_
          refine V_callVI C [.int (1 : Int32)] mi_X10_119 (k_X10_isFine_1 w l X ) dX10_grant_80 sh_85 (by decide) rfl rfl rfl (Nat.le_of_ble_eq_true rfl) (Nat.le_of_ble_eq_true rfl) (Nat.le_of_ble_eq_true rfl) ⟨Nat.le_refl _, Nat.le_refl _⟩ (fun v29 X29 q29 => ?_)
          obtain ⟨ev29, eX29⟩ := q29; subst X29; subst v29
          refine V_if_eq (x := (0 : Int32)) (tgt := 102) C dX10_grant_83 (by decide) (fun _ => ?_) (fun h => absurd h (by decide))
          refine V_iconst (v := (0 : Int32)) C dX10_grant_102 (by decide) ?_
          exact V_ireturnI C dX10_grant_103 (Or.inl ⟨1, Or.inl ⟨rfl, (by first | exact fun q => absurd q.1 (by assumption) | exact fun q => absurd q.2 (by assumption))⟩, rfl, rfl⟩)
    · refine V_iconst (v := (1 : Int32)) C dX10_grant_16 (by decide) ?_
      refine V_goto (tgt := 21) C dX10_grant_17 (by decide) ?_
      refine V_istore (ls1 := [some (.ref (w.2.1 85)), some (.int is), some (.int wm), some (.int vl), some (.int ln), some (.int dd), some (.int (1 : Int32)), none]) C dX10_grant_21 (by decide) rfl ?_
      refine V_iload_n C dX10_grant_23 rfl ?_
      refine V_iload C dX10_grant_24 rfl ?_
      refine V_callSI C [.int vl, .int ln] ms_X10_137 (k_X10_isBlock w l vl ln X ) dX10_grant_26 rfl rfl (Nat.le_of_ble_eq_true rfl) (Nat.le_of_ble_eq_true rfl) (Nat.le_of_ble_eq_true rfl) ⟨Nat.le_refl _, Nat.le_refl _⟩ (fun v31 X31 q31 => ?_)
      obtain ⟨hb31, eX31⟩ := q31; subst X31
      refine V_if_eqB (tgt := 44) C hb31 dX10_grant_29 (by decide) (fun h29_32 => ?_) (fun h29_32 => ?_)
      · refine V_iconst (v := (0 : Int32)) C dX10_grant_44 (by decide) ?_
        refine V_istore (ls1 := [some (.ref (w.2.1 85)), some (.int is), some (.int wm), some (.int vl), some (.int ln), some (.int dd), some (.int (1 : Int32)), some (.int (0 : Int32))]) C dX10_grant_45 (by decide) rfl ?_
        refine V_aload_n C dX10_grant_47 rfl ?_
        refine V_iload C dX10_grant_48 rfl ?_
        refine V_if_ne (x := (1 : Int32)) (tgt := 57) C dX10_grant_50 (by decide) (fun _ => ?_) (fun h => absurd h (by decide))
        refine V_iload C dX10_grant_57 rfl ?_
        refine V_if_ne (x := (0 : Int32)) (tgt := 66) C dX10_grant_59 (by decide) (fun h => absurd h (by decide)) (fun _ => ?_)
        refine V_iconst (v := (2 : Int32)) C dX10_grant_62 (by decide) ?_
        refine V_goto (tgt := 80) C dX10_grant_63 (by decide) ?_
        refine V_callVI C [.int (2 : Int32)] mi_X10_119 (k_X10_isFine_2 w l X ) dX10_grant_80 sh_85 (by decide) rfl rfl rfl (Nat.le_of_ble_eq_true rfl) (Nat.le_of_ble_eq_true rfl) (Nat.le_of_ble_eq_true rfl) ⟨Nat.le_refl _, Nat.le_refl _⟩ (fun v35 X35 q35 => ?_)
        obtain ⟨ev35, eX35⟩ := q35; subst X35; subst v35
        refine V_if_eq (x := (0 : Int32)) (tgt := 102) C dX10_grant_83 (by decide) (fun _ => ?_) (fun h => absurd h (by decide))
        refine V_iconst (v := (0 : Int32)) C dX10_grant_102 (by decide) ?_
        exact V_ireturnI C dX10_grant_103 (Or.inl ⟨2, Or.inr (Or.inl ⟨rfl, ⟨by assumption, by assumption⟩, (by first | exact fun q => absurd q.1 (by assumption) | exact fun q => absurd q.2 (by assumption))⟩), rfl, rfl⟩)
      · refine V_iload C dX10_grant_32 rfl ?_
        refine V_callSI C [.int dd] ms_X10_141 (k_X10_areDays w l dd X ) dX10_grant_34 rfl rfl (Nat.le_of_ble_eq_true rfl) (Nat.le_of_ble_eq_true rfl) (Nat.le_of_ble_eq_true rfl) ⟨Nat.le_refl _, Nat.le_refl _⟩ (fun v37 X37 q37 => ?_)
        obtain ⟨hb37, eX37⟩ := q37; subst X37
        refine V_if_eqB (tgt := 44) C hb37 dX10_grant_37 (by decide) (fun h37_38 => ?_) (fun h37_38 => ?_)
        · refine V_iconst (v := (0 : Int32)) C dX10_grant_44 (by decide) ?_
          refine V_istore (ls1 := [some (.ref (w.2.1 85)), some (.int is), some (.int wm), some (.int vl), some (.int ln), some (.int dd), some (.int (1 : Int32)), some (.int (0 : Int32))]) C dX10_grant_45 (by decide) rfl ?_
          refine V_aload_n C dX10_grant_47 rfl ?_
          refine V_iload C dX10_grant_48 rfl ?_
          refine V_if_ne (x := (1 : Int32)) (tgt := 57) C dX10_grant_50 (by decide) (fun _ => ?_) (fun h => absurd h (by decide))
          refine V_iload C dX10_grant_57 rfl ?_
          refine V_if_ne (x := (0 : Int32)) (tgt := 66) C dX10_grant_59 (by decide) (fun h => absurd h (by decide)) (fun _ => ?_)
          refine V_iconst (v := (2 : Int32)) C dX10_grant_62 (by decide) ?_
          refine V_goto (tgt := 80) C dX10_grant_63 (by decide) ?_
          refine V_callVI C [.int (2 : Int32)] mi_X10_119 (k_X10_isFine_2 w l X ) dX10_grant_80 sh_85 (by decide) rfl rfl rfl (Nat.le_of_ble_eq_true rfl) (Nat.le_of_ble_eq_true rfl) (Nat.le_of_ble_eq_true rfl) ⟨Nat.le_refl _, Nat.le_refl _⟩ (fun v41 X41 q41 => ?_)
          obtain ⟨ev41, eX41⟩ := q41; subst X41; subst v41
          refine V_if_eq (x := (0 : Int32)) (tgt := 102) C dX10_grant_83 (by decide) (fun _ => ?_) (fun h => absurd h (by decide))
          refine V_iconst (v := (0 : Int32)) C dX10_grant_102 (by decide) ?_
          exact V_ireturnI C dX10_grant_103 (Or.inl ⟨2, Or.inr (Or.inl ⟨rfl, ⟨by assumption, by assumption⟩, (by first | exact fun q => absurd q.1 (by assumption) | exact fun q => absurd q.2 (by assumption))⟩), rfl, rfl⟩)
        · refine V_iconst (v := (1 : Int32)) C dX10_grant_40 (by decide) ?_
          refine V_goto (tgt := 45) C dX10_grant_41 (by decide) ?_
          refine V_istore (ls1 := [some (.ref (w.2.1 85)), some (.int is), some (.int wm), some (.int vl), some (.int ln), some (.int dd), some (.int (1 : Int32)), some (.int (1 : Int32))]) C dX10_grant_45 (by decide) rfl ?_
          refine V_aload_n C dX10_grant_47 rfl ?_
          refine V_iload C dX10_grant_48 rfl ?_
          refine V_if_ne (x := (1 : Int32)) (tgt := 57) C dX10_grant_50 (by decide) (fun _ => ?_) (fun h => absurd h (by decide))
          refine V_iload C dX10_grant_57 rfl ?_
          refine V_if_ne (x := (1 : Int32)) (tgt := 66) C dX10_grant_59 (by decide) (fun _ => ?_) (fun h => absurd h (by decide))
          refine V_aload_n C dX10_grant_66 rfl ?_
          refine V_geti C fl_X10_112 dX10_grant_67 (by decide) sh_85 rfl ?_
          refine V_eqi (y := nI n) hn ?_
          refine V_bipush (v := (50 : Int32)) C dX10_grant_70 (by decide) ?_
          refine V_icmp_neN (a := n) (b := 50) (tgt := 79) C dX10_grant_72 (by decide) (by omega) (by omega) (fun h72_45 => ?_) (fun h72_45 => ?_)
          · refine V_iconst (v := (0 : Int32)) C dX10_grant_79 (by decide) ?_
            refine V_callVI C [.int (0 : Int32)] mi_X10_119 (k_X10_isFine_0 w l X ) dX10_grant_80 sh_85 (by decide) rfl rfl rfl (Nat.le_of_ble_eq_true rfl) (Nat.le_of_ble_eq_true rfl) (Nat.le_of_ble_eq_true rfl) ⟨Nat.le_refl _, Nat.le_refl _⟩ (fun v46 X46 q46 => ?_)
            obtain ⟨ev46, eX46⟩ := q46; subst X46; subst v46
            refine V_if_eq (x := (1 : Int32)) (tgt := 102) C dX10_grant_83 (by decide) (fun h => absurd h (by decide)) (fun _ => ?_)
            obtain ⟨a, ha, ea⟩ := Btw_hd h1 (by omega) (show Btw is 0 (nI (h - 1)) by assumption)
            subst is
            refine V_aload_n C dX10_grant_86 rfl ?_
            refine V_iconst (v := (0 : Int32)) C dX10_grant_87 (by decide) ?_
            refine V_iload_n C dX10_grant_88 rfl ?_
            refine V_iload_n C dX10_grant_89 rfl ?_
            refine V_iload_n C dX10_grant_90 rfl ?_
            refine V_iload C dX10_grant_91 rfl ?_
            refine V_iconst (v := (0 : Int32)) C dX10_grant_93 (by decide) ?_
            refine V_iload C dX10_grant_94 rfl ?_
            refine V_callVI C [.int (0 : Int32), .int (nI a), .int wm, .int vl, .int ln, .int (0 : Int32), .int dd] mi_X10_144 (k_X10_makes w l (0 : Int32) a wm vl ln (0 : Int32) dd (ma X 85 (upd (X 85) 0 (0 : Int32))) n (by rw [ma_eq]; exact hn) (by omega) (by omega)) dX10_grant_96 sh_85 (by decide) rfl rfl rfl (Nat.le_of_ble_eq_true rfl) (Nat.le_of_ble_eq_true rfl) (Nat.le_of_ble_eq_true rfl) ⟨Nat.le_refl _, Nat.le_refl _⟩ (fun v48 X48 q48 => ?_)
            obtain ⟨ev48, eX48⟩ := q48; subst v48
            refine V_goto (tgt := 103) C dX10_grant_99 (by decide) ?_
            exact V_ireturnI C dX10_grant_103 (Or.inr ⟨⟨⟨by assumption, by assumption⟩, ⟨by assumption, by assumption⟩, (by omega)⟩, rfl, a, by assumption, rfl, eX48⟩)
          · refine V_iconst (v := (3 : Int32)) C dX10_grant_75 (by decide) ?_
            refine V_goto (tgt := 80) C dX10_grant_76 (by decide) ?_
            refine V_callVI C [.int (3 : Int32)] mi_X10_119 (k_X10_isFine_3 w l X ) dX10_grant_80 sh_85 (by decide) rfl rfl rfl (Nat.le_of_ble_eq_true rfl) (Nat.le_of_ble_eq_true rfl) (Nat.le_of_ble_eq_true rfl) ⟨Nat.le_refl _, Nat.le_refl _⟩ (fun v49 X49 q49 => ?_)
            obtain ⟨ev49, eX49⟩ := q49; subst X49; subst v49
            refine V_if_eq (x := (0 : Int32)) (tgt := 102) C dX10_grant_83 (by decide) (fun _ => ?_) (fun h => absurd h (by decide))
            refine V_iconst (v := (0 : Int32)) C dX10_grant_102 (by decide) ?_
            exact V_ireturnI C dX10_grant_103 (Or.inl ⟨3, Or.inr (Or.inr ⟨rfl, ⟨by assumption, by assumption⟩, ⟨by assumption, by assumption⟩, (by omega)⟩), rfl, rfl⟩)
def q_X10_origin (is : Int32) (wm : Int32) (vl : Int32) (ln : Int32) (mo : Int32) (dd : Int32) (X : Mem) (h n : Nat) : Int32 → Mem → Prop := fun r X' => (∃ c, Cd3 (Btw is 0 (nI (h - 1)) ∧ Btw wm 0 9) (Blk vl ln ∧ Btw mo 0 8 ∧ Btw dd 0 1000) (n < 50) c ∧ r = 0 ∧ X' = ma X 85 (upd (X 85) 0 c)) ∨ (((Btw is 0 (nI (h - 1)) ∧ Btw wm 0 9) ∧ (Blk vl ln ∧ Btw mo 0 8 ∧ Btw dd 0 1000) ∧ (n < 50)) ∧ r = nI n ∧ ∃ a, a < h ∧ is = nI a ∧ X' = ma (ma (ma (ma (ma (ma (ma (ma (ma (ma X 85 (upd (X 85) 0 (0 : Int32))) 90 (upd ((ma X 85 (upd (X 85) 0 (0 : Int32))) 90) n (1 : Int32))) 91 (upd ((ma X 85 (upd (X 85) 0 (0 : Int32))) 91) n (nI a))) 92 (upd ((ma X 85 (upd (X 85) 0 (0 : Int32))) 92) n wm)) 93 (upd ((ma X 85 (upd (X 85) 0 (0 : Int32))) 93) n vl)) 94 (upd ((ma X 85 (upd (X 85) 0 (0 : Int32))) 94) n ln)) 95 (upd ((ma X 85 (upd (X 85) 0 (0 : Int32))) 95) n mo)) 96 (upd ((ma X 85 (upd (X 85) 0 (0 : Int32))) 96) n ((ma X 85 (upd (X 85) 0 (0 : Int32))) 85 1 + dd))) 97 (upd ((ma X 85 (upd (X 85) 0 (0 : Int32))) 97) n (sigS (oM (ma (ma (ma (ma (ma (ma (ma (ma X 85 (upd (X 85) 0 (0 : Int32))) 90 (upd ((ma X 85 (upd (X 85) 0 (0 : Int32))) 90) n (1 : Int32))) 91 (upd ((ma X 85 (upd (X 85) 0 (0 : Int32))) 91) n (nI a))) 92 (upd ((ma X 85 (upd (X 85) 0 (0 : Int32))) 92) n wm)) 93 (upd ((ma X 85 (upd (X 85) 0 (0 : Int32))) 93) n vl)) 94 (upd ((ma X 85 (upd (X 85) 0 (0 : Int32))) 94) n ln)) 95 (upd ((ma X 85 (upd (X 85) 0 (0 : Int32))) 95) n mo)) 96 (upd ((ma X 85 (upd (X 85) 0 (0 : Int32))) 96) n ((ma X 85 (upd (X 85) 0 (0 : Int32))) 85 1 + dd)))) n (kyy (gM (ma (ma (ma (ma (ma (ma (ma (ma X 85 (upd (X 85) 0 (0 : Int32))) 90 (upd ((ma X 85 (upd (X 85) 0 (0 : Int32))) 90) n (1 : Int32))) 91 (upd ((ma X 85 (upd (X 85) 0 (0 : Int32))) 91) n (nI a))) 92 (upd ((ma X 85 (upd (X 85) 0 (0 : Int32))) 92) n wm)) 93 (upd ((ma X 85 (upd (X 85) 0 (0 : Int32))) 93) n vl)) 94 (upd ((ma X 85 (upd (X 85) 0 (0 : Int32))) 94) n ln)) 95 (upd ((ma X 85 (upd (X 85) 0 (0 : Int32))) 95) n mo)) 96 (upd ((ma X 85 (upd (X 85) 0 (0 : Int32))) 96) n ((ma X 85 (upd (X 85) 0 (0 : Int32))) 85 1 + dd)))) (ix (isr (oM (ma (ma (ma (ma (ma (ma (ma (ma X 85 (upd (X 85) 0 (0 : Int32))) 90 (upd ((ma X 85 (upd (X 85) 0 (0 : Int32))) 90) n (1 : Int32))) 91 (upd ((ma X 85 (upd (X 85) 0 (0 : Int32))) 91) n (nI a))) 92 (upd ((ma X 85 (upd (X 85) 0 (0 : Int32))) 92) n wm)) 93 (upd ((ma X 85 (upd (X 85) 0 (0 : Int32))) 93) n vl)) 94 (upd ((ma X 85 (upd (X 85) 0 (0 : Int32))) 94) n ln)) 95 (upd ((ma X 85 (upd (X 85) 0 (0 : Int32))) 95) n mo)) 96 (upd ((ma X 85 (upd (X 85) 0 (0 : Int32))) 96) n ((ma X 85 (upd (X 85) 0 (0 : Int32))) 85 1 + dd)))) n)))))) 85 (upd ((ma X 85 (upd (X 85) 0 (0 : Int32))) 85) 17 (nI (n + 1))))
set_option maxHeartbeats 4000000 in
set_option maxRecDepth 100000 in
theorem k_X10_origin (w : Wt) (l : Launch) (is : Int32) (wm : Int32) (vl : Int32) (ln : Int32) (mo : Int32) (dd : Int32) (X : Mem) (h n : Nat) (hh : X 85 5 = nI h) (h1 : 1 ≤ h) (h8 : h ≤ 8) (hn : X 85 17 = nI n) (n50 : n ≤ 50) : CtI w l yX10_origin cX10_origin 9 (some .int) 4 90 [.ref (w.2.1 85), .int is, .int wm, .int vl, .int ln, .int mo, .int dd] X (q_X10_origin is wm vl ln mo dd X h n) := by
  refine CtI_of (by decide +kernel) (Nat.le_of_ble_eq_true rfl) (List.forall_mem_cons.mpr ⟨rfl, (List.forall_mem_cons.mpr ⟨rfl, (List.forall_mem_cons.mpr ⟨rfl, (List.forall_mem_cons.mpr ⟨rfl, (List.forall_mem_cons.mpr ⟨rfl, (List.forall_mem_cons.mpr ⟨rfl, (List.forall_mem_cons.mpr ⟨rfl, (fun _ h => nomatch h)⟩)⟩)⟩)⟩)⟩)⟩)⟩) (ls := [some (.ref (w.2.1 85)), some (.int is), some (.int wm), some (.int vl), some (.int ln), some (.int mo), some (.int dd), none, none]) rfl (args := (#[.ref (w.2.1 85), .int is, .int wm, .int vl, .int ln, .int mo, .int dd] : Array Value)) rfl (own := RX10) rfl ?_
  intro p e s m below meth c C
  refine V_aload_n C dX10_origin_0 rfl ?_
  refine V_iload_n C dX10_origin_1 rfl ?_
  refine V_callVI C [.int is] mi_X10_115 (k_X10_isHolder w l is X h hh h1 h8) dX10_origin_2 sh_85 (by decide) rfl rfl rfl (Nat.le_of_ble_eq_true rfl) (Nat.le_of_ble_eq_true rfl) (Nat.le_of_ble_eq_true rfl) ⟨Nat.le_refl _, Nat.le_refl _⟩ (fun v1 X1 q1 => ?_)
  obtain ⟨hb1, eX1⟩ := q1; subst X1
  refine V_if_eqB (tgt := 19) C hb1 dX10_origin_5 (by decide) (fun h5_2 => ?_) (fun h5_2 => ?_)
  · refine V_iconst (v := (0 : Int32)) C dX10_origin_19 (by decide) ?_
    refine V_istore (ls1 := [some (.ref (w.2.1 85)), some (.int is), some (.int wm), some (.int vl), some (.int ln), some (.int mo), some (.int dd), some (.int (0 : Int32)), none]) C dX10_origin_20 (by decide) rfl ?_
    refine V_iload_n C dX10_origin_22 rfl ?_
    refine V_iload C dX10_origin_23 rfl ?_
    refine V_callSI C [.int vl, .int ln] ms_X10_137 (k_X10_isBlock w l vl ln X ) dX10_origin_25 rfl rfl (Nat.le_of_ble_eq_true rfl) (Nat.le_of_ble_eq_true rfl) (Nat.le_of_ble_eq_true rfl) ⟨Nat.le_refl _, Nat.le_refl _⟩ (fun v3 X3 q3 => ?_)
    obtain ⟨hb3, eX3⟩ := q3; subst X3
    refine V_if_eqB (tgt := 54) C hb3 dX10_origin_28 (by decide) (fun h28_4 => ?_) (fun h28_4 => ?_)
    · refine V_iconst (v := (0 : Int32)) C dX10_origin_54 (by decide) ?_
      refine V_istore (ls1 := [some (.ref (w.2.1 85)), some (.int is), some (.int wm), some (.int vl), some (.int ln), some (.int mo), some (.int dd), some (.int (0 : Int32)), some (.int (0 : Int32))]) C dX10_origin_55 (by decide) rfl ?_
      refine V_aload_n C dX10_origin_57 rfl ?_
      refine V_iload C dX10_origin_58 rfl ?_
      refine V_if_ne (x := (0 : Int32)) (tgt := 67) C dX10_origin_60 (by decide) (fun h => absurd h (by decide)) (fun _ => ?_)
      refine V_iconst (v := (1 : Int32)) C dX10_origin_63 (by decide) ?_
      refine V_goto (tgt := 90) C dX10_origin_64 (by decide) ?_
      refine V_callVI C [.int (1 : Int32)] mi_X10_119 (k_X10_isFine_1 w l X ) dX10_origin_90 sh_85 (by decide) rfl rfl rfl (Nat.le_of_ble_eq_true rfl) (Nat.le_of_ble_eq_true rfl) (Nat.le_of_ble_eq_true rfl) ⟨Nat.le_refl _, Nat.le_refl _⟩ (fun v6 X6 q6 => ?_)
      obtain ⟨ev6, eX6⟩ := q6; subst X6; subst v6
      refine V_if_eq (x := (0 : Int32)) (tgt := 113) C dX10_origin_93 (by decide) (fun _ => ?_) (fun h => absurd h (by decide))
      refine V_iconst (v := (0 : Int32)) C dX10_origin_113 (by decide) ?_
      exact V_ireturnI C dX10_origin_114 (Or.inl ⟨1, Or.inl ⟨rfl, (by first | exact fun q => absurd q.1 (by assumption) | exact fun q => absurd q.2 (by assumption))⟩, rfl, rfl⟩)
    · refine V_iload C dX10_origin_31 rfl ?_
      refine V_iconst (v := (0 : Int32)) C dX10_origin_33 (by decide) ?_
      refine V_bipush (v := (8 : Int32)) C dX10_origin_34 (by decide) ?_
      refine V_callSI C [.int mo, .int (0 : Int32), .int (8 : Int32)] ms_X10_108 (k_X10_isBetween w l mo (0 : Int32) (8 : Int32) X ) dX10_origin_36 rfl rfl (Nat.le_of_ble_eq_true rfl) (Nat.le_of_ble_eq_true rfl) (Nat.le_of_ble_eq_true rfl) ⟨Nat.le_refl _, Nat.le_refl _⟩ (fun v8 X8 q8 => ?_)
      obtain ⟨hb8, eX8⟩ := q8; subst X8
      refine V_if_eqB (tgt := 54) C hb8 dX10_origin_39 (by decide) (fun h39_9 => ?_) (fun h39_9 => ?_)
      · refine V_iconst (v := (0 : Int32)) C dX10_origin_54 (by decide) ?_
        refine V_istore (ls1 := [some (.ref (w.2.1 85)), some (.int is), some (.int wm), some (.int vl), some (.int ln), some (.int mo), some (.int dd), some (.int (0 : Int32)), some (.int (0 : Int32))]) C dX10_origin_55 (by decide) rfl ?_
        refine V_aload_n C dX10_origin_57 rfl ?_
        refine V_iload C dX10_origin_58 rfl ?_
        refine V_if_ne (x := (0 : Int32)) (tgt := 67) C dX10_origin_60 (by decide) (fun h => absurd h (by decide)) (fun _ => ?_)
        refine V_iconst (v := (1 : Int32)) C dX10_origin_63 (by decide) ?_
        refine V_goto (tgt := 90) C dX10_origin_64 (by decide) ?_
        refine V_callVI C [.int (1 : Int32)] mi_X10_119 (k_X10_isFine_1 w l X ) dX10_origin_90 sh_85 (by decide) rfl rfl rfl (Nat.le_of_ble_eq_true rfl) (Nat.le_of_ble_eq_true rfl) (Nat.le_of_ble_eq_true rfl) ⟨Nat.le_refl _, Nat.le_refl _⟩ (fun v11 X11 q11 => ?_)
        obtain ⟨ev11, eX11⟩ := q11; subst X11; subst v11
        refine V_if_eq (x := (0 : Int32)) (tgt := 113) C dX10_origin_93 (by decide) (fun _ => ?_) (fun h => absurd h (by decide))
        refine V_iconst (v := (0 : Int32)) C dX10_origin_113 (by decide) ?_
        exact V_ireturnI C dX10_origin_114 (Or.inl ⟨1, Or.inl ⟨rfl, (by first | exact fun q => absurd q.1 (by assumption) | exact fun q => absurd q.2 (by assumption))⟩, rfl, rfl⟩)
      · refine V_iload C dX10_origin_42 rfl ?_
        refine V_callSI C [.int dd] ms_X10_141 (k_X10_areDays w l dd X ) dX10_origin_44 rfl rfl (Nat.le_of_ble_eq_true rfl) (Nat.le_of_ble_eq_true rfl) (Nat.le_of_ble_eq_true rfl) ⟨Nat.le_refl _, Nat.le_refl _⟩ (fun v13 X13 q13 => ?_)
        obtain ⟨hb13, eX13⟩ := q13; subst X13
        refine V_if_eqB (tgt := 54) C hb13 dX10_origin_47 (by decide) (fun h47_14 => ?_) (fun h47_14 => ?_)
        · refine V_iconst (v := (0 : Int32)) C dX10_origin_54 (by decide) ?_
          refine V_istore (ls1 := [some (.ref (w.2.1 85)), some (.int is), some (.int wm), some (.int vl), some (.int ln), some (.int mo), some (.int dd), some (.int (0 : Int32)), some (.int (0 : Int32))]) C dX10_origin_55 (by decide) rfl ?_
          refine V_aload_n C dX10_origin_57 rfl ?_
          refine V_iload C dX10_origin_58 rfl ?_
          refine V_if_ne (x := (0 : Int32)) (tgt := 67) C dX10_origin_60 (by decide) (fun h => absurd h (by decide)) (fun _ => ?_)
          refine V_iconst (v := (1 : Int32)) C dX10_origin_63 (by decide) ?_
          refine V_goto (tgt := 90) C dX10_origin_64 (by decide) ?_
          refine V_callVI C [.int (1 : Int32)] mi_X10_119 (k_X10_isFine_1 w l X ) dX10_origin_90 sh_85 (by decide) rfl rfl rfl (Nat.le_of_ble_eq_true rfl) (Nat.le_of_ble_eq_true rfl) (Nat.le_of_ble_eq_true rfl) ⟨Nat.le_refl _, Nat.le_refl _⟩ (fun v16 X16 q16 => ?_)
          obtain ⟨ev16, eX16⟩ := q16; subst X16; subst v16
          refine V_if_eq (x := (0 : Int32)) (tgt := 113) C dX10_origin_93 (by decide) (fun _ => ?_) (fun h => absurd h (by decide))
          refine V_iconst (v := (0 : Int32)) C dX10_origin_113 (by decide) ?_
          exact V_ireturnI C dX10_origin_114 (Or.inl ⟨1, Or.inl ⟨rfl, (by first | exact fun q => absurd q.1 (by assumption) | exact fun q => absurd q.2 (by assumption))⟩, rfl, rfl⟩)
        · refine V_iconst (v := (1 : Int32)) C dX10_origin_50 (by decide) ?_
          refine V_goto (tgt := 55) C dX10_origin_51 (by decide) ?_
          refine V_istore (ls1 := [some (.ref (w.2.1 85)), some (.int is), some (.int wm), some (.int vl), some (.int ln), some (.int mo), some (.int dd), some (.int (0 : Int32)), some (.int (1 : Int32))]) C dX10_origin_55 (by decide) rfl ?_
          refine V_aload_n C dX10_origin_57 rfl ?_
          refine V_iload C dX10_origin_58 rfl ?_
          refine V_if_ne (x := (0 : Int32)) (tgt := 67) C dX10_origin_60 (by decide) (fun h => absurd h (by decide)) (fun _ => ?_)
          refine V_iconst (v := (1 : Int32)) C dX10_origin_63 (by decide) ?_
          refine V_goto (tgt := 90) C dX10_origin_64 (by decide) ?_
          refine V_callVI C [.int (1 : Int32)] mi_X10_119 (k_X10_isFine_1 w l X ) dX10_origin_90 sh_85 (by decide) rfl rfl rfl (Nat.le_of_ble_eq_true rfl) (Nat.le_of_ble_eq_true rfl) (Nat.le_of_ble_eq_true rfl) ⟨Nat.le_refl _, Nat.le_refl _⟩ (fun v19 X19 q19 => ?_)
          obtain ⟨ev19, eX19⟩ := q19; subst X19; subst v19
          refine V_if_eq (x := (0 : Int32)) (tgt := 113) C dX10_origin_93 (by decide) (fun _ => ?_) (fun h => absurd h (by decide))
          refine V_iconst (v := (0 : Int32)) C dX10_origin_113 (by decide) ?_
          exact V_ireturnI C dX10_origin_114 (Or.inl ⟨1, Or.inl ⟨rfl, (by first | exact fun q => absurd q.1 (by assumption) | exact fun q => absurd q.2 (by assumption))⟩, rfl, rfl⟩)
  · refine V_iload_n C dX10_origin_8 rfl ?_
    refine V_callSI C [.int wm] ms_X10_125 (k_X10_isNet w l wm X ) dX10_origin_9 rfl rfl (Nat.le_of_ble_eq_true rfl) (Nat.le_of_ble_eq_true rfl) (Nat.le_of_ble_eq_true rfl) ⟨Nat.le_refl _, Nat.le_refl _⟩ (fun v21 X21 q21 => ?_)
    obtain ⟨hb21, eX21⟩ := q21; subst X21
    refine V_if_eqB (tgt := 19) C hb21 dX10_origin_12 (by decide) (fun h12_22 => ?_) (fun h12_22 => ?_)
    · refine V_iconst (v := (0 : Int32)) C dX10_origin_19 (by decide) ?_
      refine V_istore (ls1 := [some (.ref (w.2.1 85)), some (.int is), some (.int wm), some (.int vl), some (.int ln), some (.int mo), some (.int dd), some (.int (0 : Int32)), none]) C dX10_origin_20 (by decide) rfl ?_
      refine V_iload_n C dX10_origin_22 rfl ?_
      refine V_iload C dX10_origin_23 rfl ?_
      refine V_callSI C [.int vl, .int ln] ms_X10_137 (k_X10_isBlock w l vl ln X ) dX10_origin_25 rfl rfl (Nat.le_of_ble_eq_true rfl) (Nat.le_of_ble_eq_true rfl) (Nat.le_of_ble_eq_true rfl) ⟨Nat.le_refl _, Nat.le_refl _⟩ (fun v23 X23 q23 => ?_)
      obtain ⟨hb23, eX23⟩ := q23; subst X23
      refine V_if_eqB (tgt := 54) C hb23 dX10_origin_28 (by decide) (fun h28_24 => ?_) (fun h28_24 => ?_)
      · refine V_iconst (v := (0 : Int32)) C dX10_origin_54 (by decide) ?_
        refine V_istore (ls1 := [some (.ref (w.2.1 85)), some (.int is), some (.int wm), some (.int vl), some (.int ln), some (.int mo), some (.int dd), some (.int (0 : Int32)), some (.int (0 : Int32))]) C dX10_origin_55 (by decide) rfl ?_
        refine V_aload_n C dX10_origin_57 rfl ?_
        refine V_iload C dX10_origin_58 rfl ?_
        refine V_if_ne (x := (0 : Int32)) (tgt := 67) C dX10_origin_60 (by decide) (fun h => absurd h (by decide)) (fun _ => ?_)
        refine V_iconst (v := (1 : Int32)) C dX10_origin_63 (by decide) ?_
        refine V_goto (tgt := 90) C dX10_origin_64 (by decide) ?_
        refine V_callVI C [.int (1 : Int32)] mi_X10_119 (k_X10_isFine_1 w l X ) dX10_origin_90 sh_85 (by decide) rfl rfl rfl (Nat.le_of_ble_eq_true rfl) (Nat.le_of_ble_eq_true rfl) (Nat.le_of_ble_eq_true rfl) ⟨Nat.le_refl _, Nat.le_refl _⟩ (fun v26 X26 q26 => ?_)
        obtain ⟨ev26, eX26⟩ := q26; subst X26; subst v26
        refine V_if_eq (x := (0 : Int32)) (tgt := 113) C dX10_origin_93 (by decide) (fun _ => ?_) (fun h => absurd h (by decide))
        refine V_iconst (v := (0 : Int32)) C dX10_origin_113 (by decide) ?_
        exact V_ireturnI C dX10_origin_114 (Or.inl ⟨1, Or.inl ⟨rfl, (by first | exact fun q => absurd q.1 (by assumption) | exact fun q => absurd q.2 (by assumption))⟩, rfl, rfl⟩)
      · refine V_iload C dX10_origin_31 rfl ?_
        refine V_iconst (v := (0 : Int32)) C dX10_origin_33 (by decide) ?_
        refine V_bipush (v := (8 : Int32)) C dX10_origin_34 (by decide) ?_
        refine V_callSI C [.int mo, .int (0 : Int32), .int (8 : Int32)] ms_X10_108 (k_X10_isBetween w l mo (0 : Int32) (8 : Int32) X ) dX10_origin_36 rfl rfl (Nat.le_of_ble_eq_true rfl) (Nat.le_of_ble_eq_true rfl) (Nat.le_of_ble_eq_true rfl) ⟨Nat.le_refl _, Nat.le_refl _⟩ (fun v28 X28 q28 => ?_)
        obtain ⟨hb28, eX28⟩ := q28; subst X28
        refine V_if_eqB (tgt := 54) C hb28 dX10_origin_39 (by decide) (fun h39_29 => ?_) (fun h39_29 => ?_)
        · refine V_iconst (v := (0 : Int32)) C dX10_origin_54 (by decide) ?_
          refine V_istore (ls1 := [some (.ref (w.2.1 85)), some (.int is), some (.int wm), some (.int vl), some (.int ln), some (.int mo), some (.int dd), some (.int (0 : Int32)), some (.int (0 : Int32))]) C dX10_origin_55 (by decide) rfl ?_
          refine V_aload_n C dX10_origin_57 rfl ?_
          refine V_iload C dX10_origin_58 rfl ?_
          refine V_if_ne (x := (0 : Int32)) (tgt := 67) C dX10_origin_60 (by decide) (fun h => absurd h (by decide)) (fun _ => ?_)
          refine V_iconst (v := (1 : Int32)) C dX10_origin_63 (by decide) ?_
          refine V_goto (tgt := 90) C dX10_origin_64 (by decide) ?_
          refine V_callVI C [.int (1 : Int32)] mi_X10_119 (k_X10_isFine_1 w l X ) dX10_origin_90 sh_85 (by decide) rfl rfl rfl (Nat.le_of_ble_eq_true rfl) (Nat.le_of_ble_eq_true rfl) (Nat.le_of_ble_eq_true rfl) ⟨Nat.le_refl _, Nat.le_refl _⟩ (fun v31 X31 q31 => ?_)
          obtain ⟨ev31, eX31⟩ := q31; subst X31; subst v31
          refine V_if_eq (x := (0 : Int32)) (tgt := 113) C dX10_origin_93 (by decide) (fun _ => ?_) (fun h => absurd h (by decide))
          refine V_iconst (v := (0 : Int32)) C dX10_origin_113 (by decide) ?_
          exact V_ireturnI C dX10_origin_114 (Or.inl ⟨1, Or.inl ⟨rfl, (by first | exact fun q => absurd q.1 (by assumption) | exact fun q => absurd q.2 (by assumption))⟩, rfl, rfl⟩)
        · refine V_iload C dX10_origin_42 rfl ?_
          refine V_callSI C [.int dd] ms_X10_141 (k_X10_areDays w l dd X ) dX10_origin_44 rfl rfl (Nat.le_of_ble_eq_true rfl) (Nat.le_of_ble_eq_true rfl) (Nat.le_of_ble_eq_true rfl) ⟨Nat.le_refl _, Nat.le_refl _⟩ (fun v33 X33 q33 => ?_)
          obtain ⟨hb33, eX33⟩ := q33; subst X33
          refine V_if_eqB (tgt := 54) C hb33 dX10_origin_47 (by decide) (fun h47_34 => ?_) (fun h47_34 => ?_)
          · refine V_iconst (v := (0 : Int32)) C dX10_origin_54 (by decide) ?_
            refine V_istore (ls1 := [some (.ref (w.2.1 85)), some (.int is), some (.int wm), some (.int vl), some (.int ln), some (.int mo), some (.int dd), some (.int (0 : Int32)), some (.int (0 : Int32))]) C dX10_origin_55 (by decide) rfl ?_
            refine V_aload_n C dX10_origin_57 rfl ?_
            refine V_iload C dX10_origin_58 rfl ?_
            refine V_if_ne (x := (0 : Int32)) (tgt := 67) C dX10_origin_60 (by decide) (fun h => absurd h (by decide)) (fun _ => ?_)
            refine V_iconst (v := (1 : Int32)) C dX10_origin_63 (by decide) ?_
            refine V_goto (tgt := 90) C dX10_origin_64 (by decide) ?_
            refine V_callVI C [.int (1 : Int32)] mi_X10_119 (k_X10_isFine_1 w l X ) dX10_origin_90 sh_85 (by decide) rfl rfl rfl (Nat.le_of_ble_eq_true rfl) (Nat.le_of_ble_eq_true rfl) (Nat.le_of_ble_eq_true rfl) ⟨Nat.le_refl _, Nat.le_refl _⟩ (fun v36 X36 q36 => ?_)
            obtain ⟨ev36, eX36⟩ := q36; subst X36; subst v36
            refine V_if_eq (x := (0 : Int32)) (tgt := 113) C dX10_origin_93 (by decide) (fun _ => ?_) (fun h => absurd h (by decide))
            refine V_iconst (v := (0 : Int32)) C dX10_origin_113 (by decide) ?_
            exact V_ireturnI C dX10_origin_114 (Or.inl ⟨1, Or.inl ⟨rfl, (by first | exact fun q => absurd q.1 (by assumption) | exact fun q => absurd q.2 (by assumption))⟩, rfl, rfl⟩)
          · refine V_iconst (v := (1 : Int32)) C dX10_origin_50 (by decide) ?_
            refine V_goto (tgt := 55) C dX10_origin_51 (by decide) ?_
            refine V_istore (ls1 := [some (.ref (w.2.1 85)), some (.int is), some (.int wm), some (.int vl), some (.int ln), some (.int mo), some (.int dd), some (.int (0 : Int32)), some (.int (1 : Int32))]) C dX10_origin_55 (by decide) rfl ?_
            refine V_aload_n C dX10_origin_57 rfl ?_
            refine V_iload C dX10_origin_58 rfl ?_
            refine V_if_ne (x := (0 : Int32)) (tgt := 67) C dX10_origin_60 (by decide) (fun h => absurd h (by decide)) (fun _ => ?_)
            refine V_iconst (v := (1 : Int32)) C dX10_origin_63 (by decide) ?_
            refine V_goto (tgt := 90) C dX10_origin_64 (by decide) ?_
            refine V_callVI C [.int (1 : Int32)] mi_X10_119 (k_X10_isFine_1 w l X ) dX10_origin_90 sh_85 (by decide) rfl rfl rfl (Nat.le_of_ble_eq_true rfl) (Nat.le_of_ble_eq_true rfl) (Nat.le_of_ble_eq_true rfl) ⟨Nat.le_refl _, Nat.le_refl _⟩ (fun v39 X39 q39 => ?_)
            obtain ⟨ev39, eX39⟩ := q39; subst X39; subst v39
            refine V_if_eq (x := (0 : Int32)) (tgt := 113) C dX10_origin_93 (by decide) (fun _ => ?_) (fun h => absurd h (by decide))
            refine V_iconst (v := (0 : Int32)) C dX10_origin_113 (by decide) ?_
            exact V_ireturnI C dX10_origin_114 (Or.inl ⟨1, Or.inl ⟨rfl, (by first | exact fun q => absurd q.1 (by assumption) | exact fun q => absurd q.2 (by assumption))⟩, rfl, rfl⟩)
    · refine V_iconst (v := (1 : Int32)) C dX10_origin_15 (by decide) ?_
      refine V_goto (tgt := 20) C dX10_origin_16 (by decide) ?_
      refine V_istore (ls1 := [some (.ref (w.2.1 85)), some (.int is), some (.int wm), some (.int vl), some (.int ln), some (.int mo), some (.int dd), some (.int (1 : Int32)), none]) C dX10_origin_20 (by decide) rfl ?_
      refine V_iload_n C dX10_origin_22 rfl ?_
      refine V_iload C dX10_origin_23 rfl ?_
      refine V_callSI C [.int vl, .int ln] ms_X10_137 (k_X10_isBlock w l vl ln X ) dX10_origin_25 rfl rfl (Nat.le_of_ble_eq_true rfl) (Nat.le_of_ble_eq_true rfl) (Nat.le_of_ble_eq_true rfl) ⟨Nat.le_refl _, Nat.le_refl _⟩ (fun v41 X41 q41 => ?_)
      obtain ⟨hb41, eX41⟩ := q41; subst X41
      refine V_if_eqB (tgt := 54) C hb41 dX10_origin_28 (by decide) (fun h28_42 => ?_) (fun h28_42 => ?_)
      · refine V_iconst (v := (0 : Int32)) C dX10_origin_54 (by decide) ?_
        refine V_istore (ls1 := [some (.ref (w.2.1 85)), some (.int is), some (.int wm), some (.int vl), some (.int ln), some (.int mo), some (.int dd), some (.int (1 : Int32)), some (.int (0 : Int32))]) C dX10_origin_55 (by decide) rfl ?_
        refine V_aload_n C dX10_origin_57 rfl ?_
        refine V_iload C dX10_origin_58 rfl ?_
        refine V_if_ne (x := (1 : Int32)) (tgt := 67) C dX10_origin_60 (by decide) (fun _ => ?_) (fun h => absurd h (by decide))
        refine V_iload C dX10_origin_67 rfl ?_
        refine V_if_ne (x := (0 : Int32)) (tgt := 76) C dX10_origin_69 (by decide) (fun h => absurd h (by decide)) (fun _ => ?_)
        refine V_iconst (v := (2 : Int32)) C dX10_origin_72 (by decide) ?_
        refine V_goto (tgt := 90) C dX10_origin_73 (by decide) ?_
        refine V_callVI C [.int (2 : Int32)] mi_X10_119 (k_X10_isFine_2 w l X ) dX10_origin_90 sh_85 (by decide) rfl rfl rfl (Nat.le_of_ble_eq_true rfl) (Nat.le_of_ble_eq_true rfl) (Nat.le_of_ble_eq_true rfl) ⟨Nat.le_refl _, Nat.le_refl _⟩ (fun v45 X45 q45 => ?_)
        obtain ⟨ev45, eX45⟩ := q45; subst X45; subst v45
        refine V_if_eq (x := (0 : Int32)) (tgt := 113) C dX10_origin_93 (by decide) (fun _ => ?_) (fun h => absurd h (by decide))
        refine V_iconst (v := (0 : Int32)) C dX10_origin_113 (by decide) ?_
        exact V_ireturnI C dX10_origin_114 (Or.inl ⟨2, Or.inr (Or.inl ⟨rfl, ⟨by assumption, by assumption⟩, (by first | exact fun q => absurd q.1 (by assumption) | exact fun q => absurd q.2.1 (by assumption) | exact fun q => absurd q.2.2 (by assumption))⟩), rfl, rfl⟩)
      · refine V_iload C dX10_origin_31 rfl ?_
        refine V_iconst (v := (0 : Int32)) C dX10_origin_33 (by decide) ?_
        refine V_bipush (v := (8 : Int32)) C dX10_origin_34 (by decide) ?_
        refine V_callSI C [.int mo, .int (0 : Int32), .int (8 : Int32)] ms_X10_108 (k_X10_isBetween w l mo (0 : Int32) (8 : Int32) X ) dX10_origin_36 rfl rfl (Nat.le_of_ble_eq_true rfl) (Nat.le_of_ble_eq_true rfl) (Nat.le_of_ble_eq_true rfl) ⟨Nat.le_refl _, Nat.le_refl _⟩ (fun v47 X47 q47 => ?_)
        obtain ⟨hb47, eX47⟩ := q47; subst X47
        refine V_if_eqB (tgt := 54) C hb47 dX10_origin_39 (by decide) (fun h39_48 => ?_) (fun h39_48 => ?_)
        · refine V_iconst (v := (0 : Int32)) C dX10_origin_54 (by decide) ?_
          refine V_istore (ls1 := [some (.ref (w.2.1 85)), some (.int is), some (.int wm), some (.int vl), some (.int ln), some (.int mo), some (.int dd), some (.int (1 : Int32)), some (.int (0 : Int32))]) C dX10_origin_55 (by decide) rfl ?_
          refine V_aload_n C dX10_origin_57 rfl ?_
          refine V_iload C dX10_origin_58 rfl ?_
          refine V_if_ne (x := (1 : Int32)) (tgt := 67) C dX10_origin_60 (by decide) (fun _ => ?_) (fun h => absurd h (by decide))
          refine V_iload C dX10_origin_67 rfl ?_
          refine V_if_ne (x := (0 : Int32)) (tgt := 76) C dX10_origin_69 (by decide) (fun h => absurd h (by decide)) (fun _ => ?_)
          refine V_iconst (v := (2 : Int32)) C dX10_origin_72 (by decide) ?_
          refine V_goto (tgt := 90) C dX10_origin_73 (by decide) ?_
          refine V_callVI C [.int (2 : Int32)] mi_X10_119 (k_X10_isFine_2 w l X ) dX10_origin_90 sh_85 (by decide) rfl rfl rfl (Nat.le_of_ble_eq_true rfl) (Nat.le_of_ble_eq_true rfl) (Nat.le_of_ble_eq_true rfl) ⟨Nat.le_refl _, Nat.le_refl _⟩ (fun v51 X51 q51 => ?_)
          obtain ⟨ev51, eX51⟩ := q51; subst X51; subst v51
          refine V_if_eq (x := (0 : Int32)) (tgt := 113) C dX10_origin_93 (by decide) (fun _ => ?_) (fun h => absurd h (by decide))
          refine V_iconst (v := (0 : Int32)) C dX10_origin_113 (by decide) ?_
          exact V_ireturnI C dX10_origin_114 (Or.inl ⟨2, Or.inr (Or.inl ⟨rfl, ⟨by assumption, by assumption⟩, (by first | exact fun q => absurd q.1 (by assumption) | exact fun q => absurd q.2.1 (by assumption) | exact fun q => absurd q.2.2 (by assumption))⟩), rfl, rfl⟩)
        · refine V_iload C dX10_origin_42 rfl ?_
          refine V_callSI C [.int dd] ms_X10_141 (k_X10_areDays w l dd X ) dX10_origin_44 rfl rfl (Nat.le_of_ble_eq_true rfl) (Nat.le_of_ble_eq_true rfl) (Nat.le_of_ble_eq_true rfl) ⟨Nat.le_refl _, Nat.le_refl _⟩ (fun v53 X53 q53 => ?_)
          obtain ⟨hb53, eX53⟩ := q53; subst X53
          refine V_if_eqB (tgt := 54) C hb53 dX10_origin_47 (by decide) (fun h47_54 => ?_) (fun h47_54 => ?_)
          · refine V_iconst (v := (0 : Int32)) C dX10_origin_54 (by decide) ?_
            refine V_istore (ls1 := [some (.ref (w.2.1 85)), some (.int is), some (.int wm), some (.int vl), some (.int ln), some (.int mo), some (.int dd), some (.int (1 : Int32)), some (.int (0 : Int32))]) C dX10_origin_55 (by decide) rfl ?_
            refine V_aload_n C dX10_origin_57 rfl ?_
            refine V_iload C dX10_origin_58 rfl ?_
            refine V_if_ne (x := (1 : Int32)) (tgt := 67) C dX10_origin_60 (by decide) (fun _ => ?_) (fun h => absurd h (by decide))
            refine V_iload C dX10_origin_67 rfl ?_
            refine V_if_ne (x := (0 : Int32)) (tgt := 76) C dX10_origin_69 (by decide) (fun h => absurd h (by decide)) (fun _ => ?_)
            refine V_iconst (v := (2 : Int32)) C dX10_origin_72 (by decide) ?_
            refine V_goto (tgt := 90) C dX10_origin_73 (by decide) ?_
            refine V_callVI C [.int (2 : Int32)] mi_X10_119 (k_X10_isFine_2 w l X ) dX10_origin_90 sh_85 (by decide) rfl rfl rfl (Nat.le_of_ble_eq_true rfl) (Nat.le_of_ble_eq_true rfl) (Nat.le_of_ble_eq_true rfl) ⟨Nat.le_refl _, Nat.le_refl _⟩ (fun v57 X57 q57 => ?_)
            obtain ⟨ev57, eX57⟩ := q57; subst X57; subst v57
            refine V_if_eq (x := (0 : Int32)) (tgt := 113) C dX10_origin_93 (by decide) (fun _ => ?_) (fun h => absurd h (by decide))
            refine V_iconst (v := (0 : Int32)) C dX10_origin_113 (by decide) ?_
            exact V_ireturnI C dX10_origin_114 (Or.inl ⟨2, Or.inr (Or.inl ⟨rfl, ⟨by assumption, by assumption⟩, (by first | exact fun q => absurd q.1 (by assumption) | exact fun q => absurd q.2.1 (by assumption) | exact fun q => absurd q.2.2 (by assumption))⟩), rfl, rfl⟩)
          · refine V_iconst (v := (1 : Int32)) C dX10_origin_50 (by decide) ?_
            refine V_goto (tgt := 55) C dX10_origin_51 (by decide) ?_
            refine V_istore (ls1 := [some (.ref (w.2.1 85)), some (.int is), some (.int wm), some (.int vl), some (.int ln), some (.int mo), some (.int dd), some (.int (1 : Int32)), some (.int (1 : Int32))]) C dX10_origin_55 (by decide) rfl ?_
            refine V_aload_n C dX10_origin_57 rfl ?_
            refine V_iload C dX10_origin_58 rfl ?_
            refine V_if_ne (x := (1 : Int32)) (tgt := 67) C dX10_origin_60 (by decide) (fun _ => ?_) (fun h => absurd h (by decide))
            refine V_iload C dX10_origin_67 rfl ?_
            refine V_if_ne (x := (1 : Int32)) (tgt := 76) C dX10_origin_69 (by decide) (fun _ => ?_) (fun h => absurd h (by decide))
            refine V_aload_n C dX10_origin_76 rfl ?_
            refine V_geti C fl_X10_112 dX10_origin_77 (by decide) sh_85 rfl ?_
            refine V_eqi (y := nI n) hn ?_
            refine V_bipush (v := (50 : Int32)) C dX10_origin_80 (by decide) ?_
            refine V_icmp_neN (a := n) (b := 50) (tgt := 89) C dX10_origin_82 (by decide) (by omega) (by omega) (fun h82_61 => ?_) (fun h82_61 => ?_)
            · refine V_iconst (v := (0 : Int32)) C dX10_origin_89 (by decide) ?_
              refine V_callVI C [.int (0 : Int32)] mi_X10_119 (k_X10_isFine_0 w l X ) dX10_origin_90 sh_85 (by decide) rfl rfl rfl (Nat.le_of_ble_eq_true rfl) (Nat.le_of_ble_eq_true rfl) (Nat.le_of_ble_eq_true rfl) ⟨Nat.le_refl _, Nat.le_refl _⟩ (fun v62 X62 q62 => ?_)
              obtain ⟨ev62, eX62⟩ := q62; subst X62; subst v62
              refine V_if_eq (x := (1 : Int32)) (tgt := 113) C dX10_origin_93 (by decide) (fun h => absurd h (by decide)) (fun _ => ?_)
              obtain ⟨a, ha, ea⟩ := Btw_hd h1 (by omega) (show Btw is 0 (nI (h - 1)) by assumption)
              subst is
              refine V_aload_n C dX10_origin_96 rfl ?_
              refine V_iconst (v := (1 : Int32)) C dX10_origin_97 (by decide) ?_
              refine V_iload_n C dX10_origin_98 rfl ?_
              refine V_iload_n C dX10_origin_99 rfl ?_
              refine V_iload_n C dX10_origin_100 rfl ?_
              refine V_iload C dX10_origin_101 rfl ?_
              refine V_iload C dX10_origin_103 rfl ?_
              refine V_iload C dX10_origin_105 rfl ?_
              refine V_callVI C [.int (1 : Int32), .int (nI a), .int wm, .int vl, .int ln, .int mo, .int dd] mi_X10_144 (k_X10_makes w l (1 : Int32) a wm vl ln mo dd (ma X 85 (upd (X 85) 0 (0 : Int32))) n (by rw [ma_eq]; exact hn) (by omega) (by omega)) dX10_origin_107 sh_85 (by decide) rfl rfl rfl (Nat.le_of_ble_eq_true rfl) (Nat.le_of_ble_eq_true rfl) (Nat.le_of_ble_eq_true rfl) ⟨Nat.le_refl _, Nat.le_refl _⟩ (fun v64 X64 q64 => ?_)
              obtain ⟨ev64, eX64⟩ := q64; subst v64
              refine V_goto (tgt := 114) C dX10_origin_110 (by decide) ?_
              exact V_ireturnI C dX10_origin_114 (Or.inr ⟨⟨⟨by assumption, by assumption⟩, ⟨by assumption, by assumption, by assumption⟩, (by omega)⟩, rfl, a, by assumption, rfl, eX64⟩)
            · refine V_iconst (v := (3 : Int32)) C dX10_origin_85 (by decide) ?_
              refine V_goto (tgt := 90) C dX10_origin_86 (by decide) ?_
              refine V_callVI C [.int (3 : Int32)] mi_X10_119 (k_X10_isFine_3 w l X ) dX10_origin_90 sh_85 (by decide) rfl rfl rfl (Nat.le_of_ble_eq_true rfl) (Nat.le_of_ble_eq_true rfl) (Nat.le_of_ble_eq_true rfl) ⟨Nat.le_refl _, Nat.le_refl _⟩ (fun v65 X65 q65 => ?_)
              obtain ⟨ev65, eX65⟩ := q65; subst X65; subst v65
              refine V_if_eq (x := (0 : Int32)) (tgt := 113) C dX10_origin_93 (by decide) (fun _ => ?_) (fun h => absurd h (by decide))
              refine V_iconst (v := (0 : Int32)) C dX10_origin_113 (by decide) ?_
              exact V_ireturnI C dX10_origin_114 (Or.inl ⟨3, Or.inr (Or.inr ⟨rfl, ⟨by assumption, by assumption⟩, ⟨by assumption, by assumption, by assumption⟩, (by omega)⟩), rfl, rfl⟩)
def q_X10_vouch (is : Int32) (wm : Int32) (pv : Int32) (dd : Int32) (X : Mem) (h n : Nat) : Int32 → Mem → Prop := fun r X' => (∃ c, Cd3 (Btw is 0 (nI (h - 1)) ∧ Btw wm 0 9) (Btw pv 0 1023 ∧ Btw dd 0 1000) (n < 50) c ∧ r = 0 ∧ X' = ma X 85 (upd (X 85) 0 c)) ∨ (((Btw is 0 (nI (h - 1)) ∧ Btw wm 0 9) ∧ (Btw pv 0 1023 ∧ Btw dd 0 1000) ∧ (n < 50)) ∧ r = nI n ∧ ∃ a, a < h ∧ is = nI a ∧ X' = ma (ma (ma (ma (ma (ma (ma (ma (ma (ma X 85 (upd (X 85) 0 (0 : Int32))) 90 (upd ((ma X 85 (upd (X 85) 0 (0 : Int32))) 90) n (2 : Int32))) 91 (upd ((ma X 85 (upd (X 85) 0 (0 : Int32))) 91) n (nI a))) 92 (upd ((ma X 85 (upd (X 85) 0 (0 : Int32))) 92) n wm)) 93 (upd ((ma X 85 (upd (X 85) 0 (0 : Int32))) 93) n (0 : Int32))) 94 (upd ((ma X 85 (upd (X 85) 0 (0 : Int32))) 94) n (0 : Int32))) 95 (upd ((ma X 85 (upd (X 85) 0 (0 : Int32))) 95) n pv)) 96 (upd ((ma X 85 (upd (X 85) 0 (0 : Int32))) 96) n ((ma X 85 (upd (X 85) 0 (0 : Int32))) 85 1 + dd))) 97 (upd ((ma X 85 (upd (X 85) 0 (0 : Int32))) 97) n (sigS (oM (ma (ma (ma (ma (ma (ma (ma (ma X 85 (upd (X 85) 0 (0 : Int32))) 90 (upd ((ma X 85 (upd (X 85) 0 (0 : Int32))) 90) n (2 : Int32))) 91 (upd ((ma X 85 (upd (X 85) 0 (0 : Int32))) 91) n (nI a))) 92 (upd ((ma X 85 (upd (X 85) 0 (0 : Int32))) 92) n wm)) 93 (upd ((ma X 85 (upd (X 85) 0 (0 : Int32))) 93) n (0 : Int32))) 94 (upd ((ma X 85 (upd (X 85) 0 (0 : Int32))) 94) n (0 : Int32))) 95 (upd ((ma X 85 (upd (X 85) 0 (0 : Int32))) 95) n pv)) 96 (upd ((ma X 85 (upd (X 85) 0 (0 : Int32))) 96) n ((ma X 85 (upd (X 85) 0 (0 : Int32))) 85 1 + dd)))) n (kyy (gM (ma (ma (ma (ma (ma (ma (ma (ma X 85 (upd (X 85) 0 (0 : Int32))) 90 (upd ((ma X 85 (upd (X 85) 0 (0 : Int32))) 90) n (2 : Int32))) 91 (upd ((ma X 85 (upd (X 85) 0 (0 : Int32))) 91) n (nI a))) 92 (upd ((ma X 85 (upd (X 85) 0 (0 : Int32))) 92) n wm)) 93 (upd ((ma X 85 (upd (X 85) 0 (0 : Int32))) 93) n (0 : Int32))) 94 (upd ((ma X 85 (upd (X 85) 0 (0 : Int32))) 94) n (0 : Int32))) 95 (upd ((ma X 85 (upd (X 85) 0 (0 : Int32))) 95) n pv)) 96 (upd ((ma X 85 (upd (X 85) 0 (0 : Int32))) 96) n ((ma X 85 (upd (X 85) 0 (0 : Int32))) 85 1 + dd)))) (ix (isr (oM (ma (ma (ma (ma (ma (ma (ma (ma X 85 (upd (X 85) 0 (0 : Int32))) 90 (upd ((ma X 85 (upd (X 85) 0 (0 : Int32))) 90) n (2 : Int32))) 91 (upd ((ma X 85 (upd (X 85) 0 (0 : Int32))) 91) n (nI a))) 92 (upd ((ma X 85 (upd (X 85) 0 (0 : Int32))) 92) n wm)) 93 (upd ((ma X 85 (upd (X 85) 0 (0 : Int32))) 93) n (0 : Int32))) 94 (upd ((ma X 85 (upd (X 85) 0 (0 : Int32))) 94) n (0 : Int32))) 95 (upd ((ma X 85 (upd (X 85) 0 (0 : Int32))) 95) n pv)) 96 (upd ((ma X 85 (upd (X 85) 0 (0 : Int32))) 96) n ((ma X 85 (upd (X 85) 0 (0 : Int32))) 85 1 + dd)))) n)))))) 85 (upd ((ma X 85 (upd (X 85) 0 (0 : Int32))) 85) 17 (nI (n + 1))))
set_option maxHeartbeats 4000000 in
set_option maxRecDepth 100000 in
theorem k_X10_vouch (w : Wt) (l : Launch) (is : Int32) (wm : Int32) (pv : Int32) (dd : Int32) (X : Mem) (h n : Nat) (hh : X 85 5 = nI h) (h1 : 1 ≤ h) (h8 : h ≤ 8) (hn : X 85 17 = nI n) (n50 : n ≤ 50) : CtI w l yX10_vouch cX10_vouch 7 (some .int) 4 90 [.ref (w.2.1 85), .int is, .int wm, .int pv, .int dd] X (q_X10_vouch is wm pv dd X h n) := by
  refine CtI_of (by decide +kernel) (Nat.le_of_ble_eq_true rfl) (List.forall_mem_cons.mpr ⟨rfl, (List.forall_mem_cons.mpr ⟨rfl, (List.forall_mem_cons.mpr ⟨rfl, (List.forall_mem_cons.mpr ⟨rfl, (List.forall_mem_cons.mpr ⟨rfl, (fun _ h => nomatch h)⟩)⟩)⟩)⟩)⟩) (ls := [some (.ref (w.2.1 85)), some (.int is), some (.int wm), some (.int pv), some (.int dd), none, none]) rfl (args := (#[.ref (w.2.1 85), .int is, .int wm, .int pv, .int dd] : Array Value)) rfl (own := RX10) rfl ?_
  intro p e s m below meth c C
  refine V_aload_n C dX10_vouch_0 rfl ?_
  refine V_iload_n C dX10_vouch_1 rfl ?_
  refine V_callVI C [.int is] mi_X10_115 (k_X10_isHolder w l is X h hh h1 h8) dX10_vouch_2 sh_85 (by decide) rfl rfl rfl (Nat.le_of_ble_eq_true rfl) (Nat.le_of_ble_eq_true rfl) (Nat.le_of_ble_eq_true rfl) ⟨Nat.le_refl _, Nat.le_refl _⟩ (fun v1 X1 q1 => ?_)
  obtain ⟨hb1, eX1⟩ := q1; subst X1
  refine V_if_eqB (tgt := 19) C hb1 dX10_vouch_5 (by decide) (fun h5_2 => ?_) (fun h5_2 => ?_)
  · refine V_iconst (v := (0 : Int32)) C dX10_vouch_19 (by decide) ?_
    refine V_istore (ls1 := [some (.ref (w.2.1 85)), some (.int is), some (.int wm), some (.int pv), some (.int dd), some (.int (0 : Int32)), none]) C dX10_vouch_20 (by decide) rfl ?_
    refine V_iload_n C dX10_vouch_22 rfl ?_
    refine V_iconst (v := (0 : Int32)) C dX10_vouch_23 (by decide) ?_
    refine V_sipush (v := (1023 : Int32)) C dX10_vouch_24 (by decide) ?_
    refine V_callSI C [.int pv, .int (0 : Int32), .int (1023 : Int32)] ms_X10_108 (k_X10_isBetween w l pv (0 : Int32) (1023 : Int32) X ) dX10_vouch_27 rfl rfl (Nat.le_of_ble_eq_true rfl) (Nat.le_of_ble_eq_true rfl) (Nat.le_of_ble_eq_true rfl) ⟨Nat.le_refl _, Nat.le_refl _⟩ (fun v3 X3 q3 => ?_)
    obtain ⟨hb3, eX3⟩ := q3; subst X3
    refine V_if_eqB (tgt := 45) C hb3 dX10_vouch_30 (by decide) (fun h30_4 => ?_) (fun h30_4 => ?_)
    · refine V_iconst (v := (0 : Int32)) C dX10_vouch_45 (by decide) ?_
      refine V_istore (ls1 := [some (.ref (w.2.1 85)), some (.int is), some (.int wm), some (.int pv), some (.int dd), some (.int (0 : Int32)), some (.int (0 : Int32))]) C dX10_vouch_46 (by decide) rfl ?_
      refine V_aload_n C dX10_vouch_48 rfl ?_
      refine V_iload C dX10_vouch_49 rfl ?_
      refine V_if_ne (x := (0 : Int32)) (tgt := 58) C dX10_vouch_51 (by decide) (fun h => absurd h (by decide)) (fun _ => ?_)
      refine V_iconst (v := (1 : Int32)) C dX10_vouch_54 (by decide) ?_
      refine V_goto (tgt := 81) C dX10_vouch_55 (by decide) ?_
      refine V_callVI C [.int (1 : Int32)] mi_X10_119 (k_X10_isFine_1 w l X ) dX10_vouch_81 sh_85 (by decide) rfl rfl rfl (Nat.le_of_ble_eq_true rfl) (Nat.le_of_ble_eq_true rfl) (Nat.le_of_ble_eq_true rfl) ⟨Nat.le_refl _, Nat.le_refl _⟩ (fun v6 X6 q6 => ?_)
      obtain ⟨ev6, eX6⟩ := q6; subst X6; subst v6
      refine V_if_eq (x := (0 : Int32)) (tgt := 102) C dX10_vouch_84 (by decide) (fun _ => ?_) (fun h => absurd h (by decide))
      refine V_iconst (v := (0 : Int32)) C dX10_vouch_102 (by decide) ?_
      exact V_ireturnI C dX10_vouch_103 (Or.inl ⟨1, Or.inl ⟨rfl, (by first | exact fun q => absurd q.1 (by assumption) | exact fun q => absurd q.2 (by assumption))⟩, rfl, rfl⟩)
    · refine V_iload C dX10_vouch_33 rfl ?_
      refine V_callSI C [.int dd] ms_X10_141 (k_X10_areDays w l dd X ) dX10_vouch_35 rfl rfl (Nat.le_of_ble_eq_true rfl) (Nat.le_of_ble_eq_true rfl) (Nat.le_of_ble_eq_true rfl) ⟨Nat.le_refl _, Nat.le_refl _⟩ (fun v8 X8 q8 => ?_)
      obtain ⟨hb8, eX8⟩ := q8; subst X8
      refine V_if_eqB (tgt := 45) C hb8 dX10_vouch_38 (by decide) (fun h38_9 => ?_) (fun h38_9 => ?_)
      · refine V_iconst (v := (0 : Int32)) C dX10_vouch_45 (by decide) ?_
        refine V_istore (ls1 := [some (.ref (w.2.1 85)), some (.int is), some (.int wm), some (.int pv), some (.int dd), some (.int (0 : Int32)), some (.int (0 : Int32))]) C dX10_vouch_46 (by decide) rfl ?_
        refine V_aload_n C dX10_vouch_48 rfl ?_
        refine V_iload C dX10_vouch_49 rfl ?_
        refine V_if_ne (x := (0 : Int32)) (tgt := 58) C dX10_vouch_51 (by decide) (fun h => absurd h (by decide)) (fun _ => ?_)
        refine V_iconst (v := (1 : Int32)) C dX10_vouch_54 (by decide) ?_
        refine V_goto (tgt := 81) C dX10_vouch_55 (by decide) ?_
        refine V_callVI C [.int (1 : Int32)] mi_X10_119 (k_X10_isFine_1 w l X ) dX10_vouch_81 sh_85 (by decide) rfl rfl rfl (Nat.le_of_ble_eq_true rfl) (Nat.le_of_ble_eq_true rfl) (Nat.le_of_ble_eq_true rfl) ⟨Nat.le_refl _, Nat.le_refl _⟩ (fun v11 X11 q11 => ?_)
        obtain ⟨ev11, eX11⟩ := q11; subst X11; subst v11
        refine V_if_eq (x := (0 : Int32)) (tgt := 102) C dX10_vouch_84 (by decide) (fun _ => ?_) (fun h => absurd h (by decide))
        refine V_iconst (v := (0 : Int32)) C dX10_vouch_102 (by decide) ?_
        exact V_ireturnI C dX10_vouch_103 (Or.inl ⟨1, Or.inl ⟨rfl, (by first | exact fun q => absurd q.1 (by assumption) | exact fun q => absurd q.2 (by assumption))⟩, rfl, rfl⟩)
      · refine V_iconst (v := (1 : Int32)) C dX10_vouch_41 (by decide) ?_
        refine V_goto (tgt := 46) C dX10_vouch_42 (by decide) ?_
        refine V_istore (ls1 := [some (.ref (w.2.1 85)), some (.int is), some (.int wm), some (.int pv), some (.int dd), some (.int (0 : Int32)), some (.int (1 : Int32))]) C dX10_vouch_46 (by decide) rfl ?_
        refine V_aload_n C dX10_vouch_48 rfl ?_
        refine V_iload C dX10_vouch_49 rfl ?_
        refine V_if_ne (x := (0 : Int32)) (tgt := 58) C dX10_vouch_51 (by decide) (fun h => absurd h (by decide)) (fun _ => ?_)
        refine V_iconst (v := (1 : Int32)) C dX10_vouch_54 (by decide) ?_
        refine V_goto (tgt := 81) C dX10_vouch_55 (by decide) ?_
        refine V_callVI C [.int (1 : Int32)] mi_X10_119 (k_X10_isFine_1 w l X ) dX10_vouch_81 sh_85 (by decide) rfl rfl rfl (Nat.le_of_ble_eq_true rfl) (Nat.le_of_ble_eq_true rfl) (Nat.le_of_ble_eq_true rfl) ⟨Nat.le_refl _, Nat.le_refl _⟩ (fun v14 X14 q14 => ?_)
        obtain ⟨ev14, eX14⟩ := q14; subst X14; subst v14
        refine V_if_eq (x := (0 : Int32)) (tgt := 102) C dX10_vouch_84 (by decide) (fun _ => ?_) (fun h => absurd h (by decide))
        refine V_iconst (v := (0 : Int32)) C dX10_vouch_102 (by decide) ?_
        exact V_ireturnI C dX10_vouch_103 (Or.inl ⟨1, Or.inl ⟨rfl, (by first | exact fun q => absurd q.1 (by assumption) | exact fun q => absurd q.2 (by assumption))⟩, rfl, rfl⟩)
  · refine V_iload_n C dX10_vouch_8 rfl ?_
    refine V_callSI C [.int wm] ms_X10_125 (k_X10_isNet w l wm X ) dX10_vouch_9 rfl rfl (Nat.le_of_ble_eq_true rfl) (Nat.le_of_ble_eq_true rfl) (Nat.le_of_ble_eq_true rfl) ⟨Nat.le_refl _, Nat.le_refl _⟩ (fun v16 X16 q16 => ?_)
    obtain ⟨hb16, eX16⟩ := q16; subst X16
    refine V_if_eqB (tgt := 19) C hb16 dX10_vouch_12 (by decide) (fun h12_17 => ?_) (fun h12_17 => ?_)
    · refine V_iconst (v := (0 : Int32)) C dX10_vouch_19 (by decide) ?_
      refine V_istore (ls1 := [some (.ref (w.2.1 85)), some (.int is), some (.int wm), some (.int pv), some (.int dd), some (.int (0 : Int32)), none]) C dX10_vouch_20 (by decide) rfl ?_
      refine V_iload_n C dX10_vouch_22 rfl ?_
      refine V_iconst (v := (0 : Int32)) C dX10_vouch_23 (by decide) ?_
      refine V_sipush (v := (1023 : Int32)) C dX10_vouch_24 (by decide) ?_
      refine V_callSI C [.int pv, .int (0 : Int32), .int (1023 : Int32)] ms_X10_108 (k_X10_isBetween w l pv (0 : Int32) (1023 : Int32) X ) dX10_vouch_27 rfl rfl (Nat.le_of_ble_eq_true rfl) (Nat.le_of_ble_eq_true rfl) (Nat.le_of_ble_eq_true rfl) ⟨Nat.le_refl _, Nat.le_refl _⟩ (fun v18 X18 q18 => ?_)
      obtain ⟨hb18, eX18⟩ := q18; subst X18
      refine V_if_eqB (tgt := 45) C hb18 dX10_vouch_30 (by decide) (fun h30_19 => ?_) (fun h30_19 => ?_)
      · refine V_iconst (v := (0 : Int32)) C dX10_vouch_45 (by decide) ?_
        refine V_istore (ls1 := [some (.ref (w.2.1 85)), some (.int is), some (.int wm), some (.int pv), some (.int dd), some (.int (0 : Int32)), some (.int (0 : Int32))]) C dX10_vouch_46 (by decide) rfl ?_
        refine V_aload_n C dX10_vouch_48 rfl ?_
        refine V_iload C dX10_vouch_49 rfl ?_
        refine V_if_ne (x := (0 : Int32)) (tgt := 58) C dX10_vouch_51 (by decide) (fun h => absurd h (by decide)) (fun _ => ?_)
        refine V_iconst (v := (1 : Int32)) C dX10_vouch_54 (by decide) ?_
        refine V_goto (tgt := 81) C dX10_vouch_55 (by decide) ?_
        refine V_callVI C [.int (1 : Int32)] mi_X10_119 (k_X10_isFine_1 w l X ) dX10_vouch_81 sh_85 (by decide) rfl rfl rfl (Nat.le_of_ble_eq_true rfl) (Nat.le_of_ble_eq_true rfl) (Nat.le_of_ble_eq_true rfl) ⟨Nat.le_refl _, Nat.le_refl _⟩ (fun v21 X21 q21 => ?_)
        obtain ⟨ev21, eX21⟩ := q21; subst X21; subst v21
        refine V_if_eq (x := (0 : Int32)) (tgt := 102) C dX10_vouch_84 (by decide) (fun _ => ?_) (fun h => absurd h (by decide))
        refine V_iconst (v := (0 : Int32)) C dX10_vouch_102 (by decide) ?_
        exact V_ireturnI C dX10_vouch_103 (Or.inl ⟨1, Or.inl ⟨rfl, (by first | exact fun q => absurd q.1 (by assumption) | exact fun q => absurd q.2 (by assumption))⟩, rfl, rfl⟩)
      · refine V_iload C dX10_vouch_33 rfl ?_
        refine V_callSI C [.int dd] ms_X10_141 (k_X10_areDays w l dd X ) dX10_vouch_35 rfl rfl (Nat.le_of_ble_eq_true rfl) (Nat.le_of_ble_eq_true rfl) (Nat.le_of_ble_eq_true rfl) ⟨Nat.le_refl _, Nat.le_refl _⟩ (fun v23 X23 q23 => ?_)
        obtain ⟨hb23, eX23⟩ := q23; subst X23
        refine V_if_eqB (tgt := 45) C hb23 dX10_vouch_38 (by decide) (fun h38_24 => ?_) (fun h38_24 => ?_)
        · refine V_iconst (v := (0 : Int32)) C dX10_vouch_45 (by decide) ?_
          refine V_istore (ls1 := [some (.ref (w.2.1 85)), some (.int is), some (.int wm), some (.int pv), some (.int dd), some (.int (0 : Int32)), some (.int (0 : Int32))]) C dX10_vouch_46 (by decide) rfl ?_
          refine V_aload_n C dX10_vouch_48 rfl ?_
          refine V_iload C dX10_vouch_49 rfl ?_
          refine V_if_ne (x := (0 : Int32)) (tgt := 58) C dX10_vouch_51 (by decide) (fun h => absurd h (by decide)) (fun _ => ?_)
          refine V_iconst (v := (1 : Int32)) C dX10_vouch_54 (by decide) ?_
          refine V_goto (tgt := 81) C dX10_vouch_55 (by decide) ?_
          refine V_callVI C [.int (1 : Int32)] mi_X10_119 (k_X10_isFine_1 w l X ) dX10_vouch_81 sh_85 (by decide) rfl rfl rfl (Nat.le_of_ble_eq_true rfl) (Nat.le_of_ble_eq_true rfl) (Nat.le_of_ble_eq_true rfl) ⟨Nat.le_refl _, Nat.le_refl _⟩ (fun v26 X26 q26 => ?_)
          obtain ⟨ev26, eX26⟩ := q26; subst X26; subst v26
          refine V_if_eq (x := (0 : Int32)) (tgt := 102) C dX10_vouch_84 (by decide) (fun _ => ?_) (fun h => absurd h (by decide))
          refine V_iconst (v := (0 : Int32)) C dX10_vouch_102 (by decide) ?_
          exact V_ireturnI C dX10_vouch_103 (Or.inl ⟨1, Or.inl ⟨rfl, (by first | exact fun q => absurd q.1 (by assumption) | exact fun q => absurd q.2 (by assumption))⟩, rfl, rfl⟩)
        · refine V_iconst (v := (1 : Int32)) C dX10_vouch_41 (by decide) ?_
          refine V_goto (tgt := 46) C dX10_vouch_42 (by decide) ?_
          refine V_istore (ls1 := [some (.ref (w.2.1 85)), some (.int is), some (.int wm), some (.int pv), some (.int dd), some (.int (0 : Int32)), some (.int (1 : Int32))]) C dX10_vouch_46 (by decide) rfl ?_
          refine V_aload_n C dX10_vouch_48 rfl ?_
          refine V_iload C dX10_vouch_49 rfl ?_
          refine V_if_ne (x := (0 : Int32)) (tgt := 58) C dX10_vouch_51 (by decide) (fun h => absurd h (by decide)) (fun _ => ?_)
          refine V_iconst (v := (1 : Int32)) C dX10_vouch_54 (by decide) ?_
          refine V_goto (tgt := 81) C dX10_vouch_55 (by decide) ?_
          refine V_callVI C [.int (1 : Int32)] mi_X10_119 (k_X10_isFine_1 w l X ) dX10_vouch_81 sh_85 (by decide) rfl rfl rfl (Nat.le_of_ble_eq_true rfl) (Nat.le_of_ble_eq_true rfl) (Nat.le_of_ble_eq_true rfl) ⟨Nat.le_refl _, Nat.le_refl _⟩ (fun v29 X29 q29 => ?_)
          obtain ⟨ev29, eX29⟩ := q29; subst X29; subst v29
          refine V_if_eq (x := (0 : Int32)) (tgt := 102) C dX10_vouch_84 (by decide) (fun _ => ?_) (fun h => absurd h (by decide))
          refine V_iconst (v := (0 : Int32)) C dX10_vouch_102 (by decide) ?_
          exact V_ireturnI C dX10_vouch_103 (Or.inl ⟨1, Or.inl ⟨rfl, (by first | exact fun q => absurd q.1 (by assumption) | exact fun q => absurd q.2 (by assumption))⟩, rfl, rfl⟩)
    · refine V_iconst (v := (1 : Int32)) C dX10_vouch_15 (by decide) ?_
      refine V_goto (tgt := 20) C dX10_vouch_16 (by decide) ?_
      refine V_istore (ls1 := [some (.ref (w.2.1 85)), some (.int is), some (.int wm), some (.int pv), some (.int dd), some (.int (1 : Int32)), none]) C dX10_vouch_20 (by decide) rfl ?_
      refine V_iload_n C dX10_vouch_22 rfl ?_
      refine V_iconst (v := (0 : Int32)) C dX10_vouch_23 (by decide) ?_
      refine V_sipush (v := (1023 : Int32)) C dX10_vouch_24 (by decide) ?_
      refine V_callSI C [.int pv, .int (0 : Int32), .int (1023 : Int32)] ms_X10_108 (k_X10_isBetween w l pv (0 : Int32) (1023 : Int32) X ) dX10_vouch_27 rfl rfl (Nat.le_of_ble_eq_true rfl) (Nat.le_of_ble_eq_true rfl) (Nat.le_of_ble_eq_true rfl) ⟨Nat.le_refl _, Nat.le_refl _⟩ (fun v31 X31 q31 => ?_)
      obtain ⟨hb31, eX31⟩ := q31; subst X31
      refine V_if_eqB (tgt := 45) C hb31 dX10_vouch_30 (by decide) (fun h30_32 => ?_) (fun h30_32 => ?_)
      · refine V_iconst (v := (0 : Int32)) C dX10_vouch_45 (by decide) ?_
        refine V_istore (ls1 := [some (.ref (w.2.1 85)), some (.int is), some (.int wm), some (.int pv), some (.int dd), some (.int (1 : Int32)), some (.int (0 : Int32))]) C dX10_vouch_46 (by decide) rfl ?_
        refine V_aload_n C dX10_vouch_48 rfl ?_
        refine V_iload C dX10_vouch_49 rfl ?_
        refine V_if_ne (x := (1 : Int32)) (tgt := 58) C dX10_vouch_51 (by decide) (fun _ => ?_) (fun h => absurd h (by decide))
        refine V_iload C dX10_vouch_58 rfl ?_
        refine V_if_ne (x := (0 : Int32)) (tgt := 67) C dX10_vouch_60 (by decide) (fun h => absurd h (by decide)) (fun _ => ?_)
        refine V_iconst (v := (2 : Int32)) C dX10_vouch_63 (by decide) ?_
        refine V_goto (tgt := 81) C dX10_vouch_64 (by decide) ?_
        refine V_callVI C [.int (2 : Int32)] mi_X10_119 (k_X10_isFine_2 w l X ) dX10_vouch_81 sh_85 (by decide) rfl rfl rfl (Nat.le_of_ble_eq_true rfl) (Nat.le_of_ble_eq_true rfl) (Nat.le_of_ble_eq_true rfl) ⟨Nat.le_refl _, Nat.le_refl _⟩ (fun v35 X35 q35 => ?_)
        obtain ⟨ev35, eX35⟩ := q35; subst X35; subst v35
        refine V_if_eq (x := (0 : Int32)) (tgt := 102) C dX10_vouch_84 (by decide) (fun _ => ?_) (fun h => absurd h (by decide))
        refine V_iconst (v := (0 : Int32)) C dX10_vouch_102 (by decide) ?_
        exact V_ireturnI C dX10_vouch_103 (Or.inl ⟨2, Or.inr (Or.inl ⟨rfl, ⟨by assumption, by assumption⟩, (by first | exact fun q => absurd q.1 (by assumption) | exact fun q => absurd q.2 (by assumption))⟩), rfl, rfl⟩)
      · refine V_iload C dX10_vouch_33 rfl ?_
        refine V_callSI C [.int dd] ms_X10_141 (k_X10_areDays w l dd X ) dX10_vouch_35 rfl rfl (Nat.le_of_ble_eq_true rfl) (Nat.le_of_ble_eq_true rfl) (Nat.le_of_ble_eq_true rfl) ⟨Nat.le_refl _, Nat.le_refl _⟩ (fun v37 X37 q37 => ?_)
        obtain ⟨hb37, eX37⟩ := q37; subst X37
        refine V_if_eqB (tgt := 45) C hb37 dX10_vouch_38 (by decide) (fun h38_38 => ?_) (fun h38_38 => ?_)
        · refine V_iconst (v := (0 : Int32)) C dX10_vouch_45 (by decide) ?_
          refine V_istore (ls1 := [some (.ref (w.2.1 85)), some (.int is), some (.int wm), some (.int pv), some (.int dd), some (.int (1 : Int32)), some (.int (0 : Int32))]) C dX10_vouch_46 (by decide) rfl ?_
          refine V_aload_n C dX10_vouch_48 rfl ?_
          refine V_iload C dX10_vouch_49 rfl ?_
          refine V_if_ne (x := (1 : Int32)) (tgt := 58) C dX10_vouch_51 (by decide) (fun _ => ?_) (fun h => absurd h (by decide))
          refine V_iload C dX10_vouch_58 rfl ?_
          refine V_if_ne (x := (0 : Int32)) (tgt := 67) C dX10_vouch_60 (by decide) (fun h => absurd h (by decide)) (fun _ => ?_)
          refine V_iconst (v := (2 : Int32)) C dX10_vouch_63 (by decide) ?_
          refine V_goto (tgt := 81) C dX10_vouch_64 (by decide) ?_
          refine V_callVI C [.int (2 : Int32)] mi_X10_119 (k_X10_isFine_2 w l X ) dX10_vouch_81 sh_85 (by decide) rfl rfl rfl (Nat.le_of_ble_eq_true rfl) (Nat.le_of_ble_eq_true rfl) (Nat.le_of_ble_eq_true rfl) ⟨Nat.le_refl _, Nat.le_refl _⟩ (fun v41 X41 q41 => ?_)
          obtain ⟨ev41, eX41⟩ := q41; subst X41; subst v41
          refine V_if_eq (x := (0 : Int32)) (tgt := 102) C dX10_vouch_84 (by decide) (fun _ => ?_) (fun h => absurd h (by decide))
          refine V_iconst (v := (0 : Int32)) C dX10_vouch_102 (by decide) ?_
          exact V_ireturnI C dX10_vouch_103 (Or.inl ⟨2, Or.inr (Or.inl ⟨rfl, ⟨by assumption, by assumption⟩, (by first | exact fun q => absurd q.1 (by assumption) | exact fun q => absurd q.2 (by assumption))⟩), rfl, rfl⟩)
        · refine V_iconst (v := (1 : Int32)) C dX10_vouch_41 (by decide) ?_
          refine V_goto (tgt := 46) C dX10_vouch_42 (by decide) ?_
          refine V_istore (ls1 := [some (.ref (w.2.1 85)), some (.int is), some (.int wm), some (.int pv), some (.int dd), some (.int (1 : Int32)), some (.int (1 : Int32))]) C dX10_vouch_46 (by decide) rfl ?_
          refine V_aload_n C dX10_vouch_48 rfl ?_
          refine V_iload C dX10_vouch_49 rfl ?_
          refine V_if_ne (x := (1 : Int32)) (tgt := 58) C dX10_vouch_51 (by decide) (fun _ => ?_) (fun h => absurd h (by decide))
          refine V_iload C dX10_vouch_58 rfl ?_
          refine V_if_ne (x := (1 : Int32)) (tgt := 67) C dX10_vouch_60 (by decide) (fun _ => ?_) (fun h => absurd h (by decide))
          refine V_aload_n C dX10_vouch_67 rfl ?_
          refine V_geti C fl_X10_112 dX10_vouch_68 (by decide) sh_85 rfl ?_
          refine V_eqi (y := nI n) hn ?_
          refine V_bipush (v := (50 : Int32)) C dX10_vouch_71 (by decide) ?_
          refine V_icmp_neN (a := n) (b := 50) (tgt := 80) C dX10_vouch_73 (by decide) (by omega) (by omega) (fun h73_45 => ?_) (fun h73_45 => ?_)
          · refine V_iconst (v := (0 : Int32)) C dX10_vouch_80 (by decide) ?_
            refine V_callVI C [.int (0 : Int32)] mi_X10_119 (k_X10_isFine_0 w l X ) dX10_vouch_81 sh_85 (by decide) rfl rfl rfl (Nat.le_of_ble_eq_true rfl) (Nat.le_of_ble_eq_true rfl) (Nat.le_of_ble_eq_true rfl) ⟨Nat.le_refl _, Nat.le_refl _⟩ (fun v46 X46 q46 => ?_)
            obtain ⟨ev46, eX46⟩ := q46; subst X46; subst v46
            refine V_if_eq (x := (1 : Int32)) (tgt := 102) C dX10_vouch_84 (by decide) (fun h => absurd h (by decide)) (fun _ => ?_)
            obtain ⟨a, ha, ea⟩ := Btw_hd h1 (by omega) (show Btw is 0 (nI (h - 1)) by assumption)
            subst is
            refine V_aload_n C dX10_vouch_87 rfl ?_
            refine V_iconst (v := (2 : Int32)) C dX10_vouch_88 (by decide) ?_
            refine V_iload_n C dX10_vouch_89 rfl ?_
            refine V_iload_n C dX10_vouch_90 rfl ?_
            refine V_iconst (v := (0 : Int32)) C dX10_vouch_91 (by decide) ?_
            refine V_iconst (v := (0 : Int32)) C dX10_vouch_92 (by decide) ?_
            refine V_iload_n C dX10_vouch_93 rfl ?_
            refine V_iload C dX10_vouch_94 rfl ?_
            refine V_callVI C [.int (2 : Int32), .int (nI a), .int wm, .int (0 : Int32), .int (0 : Int32), .int pv, .int dd] mi_X10_144 (k_X10_makes w l (2 : Int32) a wm (0 : Int32) (0 : Int32) pv dd (ma X 85 (upd (X 85) 0 (0 : Int32))) n (by rw [ma_eq]; exact hn) (by omega) (by omega)) dX10_vouch_96 sh_85 (by decide) rfl rfl rfl (Nat.le_of_ble_eq_true rfl) (Nat.le_of_ble_eq_true rfl) (Nat.le_of_ble_eq_true rfl) ⟨Nat.le_refl _, Nat.le_refl _⟩ (fun v48 X48 q48 => ?_)
            obtain ⟨ev48, eX48⟩ := q48; subst v48
            refine V_goto (tgt := 103) C dX10_vouch_99 (by decide) ?_
            exact V_ireturnI C dX10_vouch_103 (Or.inr ⟨⟨⟨by assumption, by assumption⟩, ⟨by assumption, by assumption⟩, (by omega)⟩, rfl, a, by assumption, rfl, eX48⟩)
          · refine V_iconst (v := (3 : Int32)) C dX10_vouch_76 (by decide) ?_
            refine V_goto (tgt := 81) C dX10_vouch_77 (by decide) ?_
            refine V_callVI C [.int (3 : Int32)] mi_X10_119 (k_X10_isFine_3 w l X ) dX10_vouch_81 sh_85 (by decide) rfl rfl rfl (Nat.le_of_ble_eq_true rfl) (Nat.le_of_ble_eq_true rfl) (Nat.le_of_ble_eq_true rfl) ⟨Nat.le_refl _, Nat.le_refl _⟩ (fun v49 X49 q49 => ?_)
            obtain ⟨ev49, eX49⟩ := q49; subst X49; subst v49
            refine V_if_eq (x := (0 : Int32)) (tgt := 102) C dX10_vouch_84 (by decide) (fun _ => ?_) (fun h => absurd h (by decide))
            refine V_iconst (v := (0 : Int32)) C dX10_vouch_102 (by decide) ?_
            exact V_ireturnI C dX10_vouch_103 (Or.inl ⟨3, Or.inr (Or.inr ⟨rfl, ⟨by assumption, by assumption⟩, ⟨by assumption, by assumption⟩, (by omega)⟩), rfl, rfl⟩)
def q_X10_revoke (v : Int32) (X : Mem) (n : Nat) : Int32 → Mem → Prop := fun r X' => (∃ c, Cd1 (Btw v 0 (nI n - 1)) c ∧ r = 0 ∧ X' = ma X 85 (upd (X 85) 0 c)) ∨ ((Btw v 0 (nI n - 1)) ∧ ∃ o, o < n ∧ v = nI o ∧ bI (X 98 o = 0) r ∧ X' = ma (ma X 85 (upd (X 85) 0 (0 : Int32))) 98 (upd (X 98) o 1))
set_option maxHeartbeats 4000000 in
set_option maxRecDepth 100000 in
theorem k_X10_revoke (w : Wt) (l : Launch) (v : Int32) (X : Mem) (n : Nat) (hn : X 85 17 = nI n) (n50 : n ≤ 50) (h01 : ∀ o, o < n → X 98 o = 0 ∨ X 98 o = 1) : CtI w l yX10_revoke cX10_revoke 2 (some .boolean) 3 63 [.ref (w.2.1 85), .int v] X (q_X10_revoke v X n) := by
  refine CtI_of (by decide +kernel) (Nat.le_of_ble_eq_true rfl) (List.forall_mem_cons.mpr ⟨rfl, (List.forall_mem_cons.mpr ⟨rfl, (fun _ h => nomatch h)⟩)⟩) (ls := [some (.ref (w.2.1 85)), some (.int v)]) rfl (args := (#[.ref (w.2.1 85), .int v] : Array Value)) rfl (own := RX10) rfl ?_
  intro p e s m below meth c C
  refine V_aload_n C dX10_revoke_0 rfl ?_
  refine V_aload_n C dX10_revoke_1 rfl ?_
  refine V_iload_n C dX10_revoke_2 rfl ?_
  refine V_callVI C [.int v] mi_X10_148 (k_X10_isObject w l v X n hn n50) dX10_revoke_3 sh_85 (by decide) rfl rfl rfl (Nat.le_of_ble_eq_true rfl) (Nat.le_of_ble_eq_true rfl) (Nat.le_of_ble_eq_true rfl) ⟨Nat.le_refl _, Nat.le_refl _⟩ (fun v1 X1 q1 => ?_)
  obtain ⟨hb1, eX1⟩ := q1; subst X1
  refine V_if_eqB (tgt := 13) C hb1 dX10_revoke_6 (by decide) (fun h6_2 => ?_) (fun h6_2 => ?_)
  · refine V_iconst (v := (1 : Int32)) C dX10_revoke_13 (by decide) ?_
    refine V_callVI C [.int (1 : Int32)] mi_X10_119 (k_X10_isFine_1 w l X ) dX10_revoke_14 sh_85 (by decide) rfl rfl rfl (Nat.le_of_ble_eq_true rfl) (Nat.le_of_ble_eq_true rfl) (Nat.le_of_ble_eq_true rfl) ⟨Nat.le_refl _, Nat.le_refl _⟩ (fun v3 X3 q3 => ?_)
    obtain ⟨ev3, eX3⟩ := q3; subst X3; subst v3
    refine V_if_eq (x := (0 : Int32)) (tgt := 29) C dX10_revoke_17 (by decide) (fun _ => ?_) (fun h => absurd h (by decide))
    refine V_iconst (v := (0 : Int32)) C dX10_revoke_29 (by decide) ?_
    exact V_zreturnI C dX10_revoke_30 (Or.inl rfl) (Or.inl ⟨1, ⟨rfl, (by first | exact fun q => absurd q (by assumption))⟩, rfl, rfl⟩)
  · refine V_iconst (v := (0 : Int32)) C dX10_revoke_9 (by decide) ?_
    refine V_goto (tgt := 14) C dX10_revoke_10 (by decide) ?_
    refine V_callVI C [.int (0 : Int32)] mi_X10_119 (k_X10_isFine_0 w l X ) dX10_revoke_14 sh_85 (by decide) rfl rfl rfl (Nat.le_of_ble_eq_true rfl) (Nat.le_of_ble_eq_true rfl) (Nat.le_of_ble_eq_true rfl) ⟨Nat.le_refl _, Nat.le_refl _⟩ (fun v5 X5 q5 => ?_)
    obtain ⟨ev5, eX5⟩ := q5; subst X5; subst v5
    refine V_if_eq (x := (1 : Int32)) (tgt := 29) C dX10_revoke_17 (by decide) (fun h => absurd h (by decide)) (fun _ => ?_)
    have hg1 : Btw v 0 (nI n - 1) := by assumption
    obtain ⟨o, ho, eo⟩ := obj_of n50 hg1
    subst eo
    refine V_aload_n C dX10_revoke_20 rfl ?_
    refine V_getr C fl_X10_50 dX10_revoke_21 (by decide) sh_85 rfl ?_
    refine V_iload_n C dX10_revoke_24 rfl ?_
    refine V_baldN (p0 := 98) (o := o) (v := X 98 o) C dX10_revoke_25 sh_98 (by decide) (by omega) (by decide) rfl ?_
    refine V_if_eq (x := X 98 o) (tgt := 31) C dX10_revoke_26 (by decide) (fun h26_7 => ?_) (fun h26_7 => ?_)
    · refine V_aload_n C dX10_revoke_31 rfl ?_
      refine V_getr C fl_X10_50 dX10_revoke_32 (by decide) sh_85 rfl ?_
      refine V_iload_n C dX10_revoke_35 rfl ?_
      refine V_iconst (v := (1 : Int32)) C dX10_revoke_36 (by decide) ?_
      refine V_bastN (p0 := 98) (o := o) (X1 := (ma (ma X 85 (upd (X 85) 0 (0 : Int32))) 98 (upd (X 98) o (1 : Int32)))) C dX10_revoke_37 sh_98 (by decide) (by omega) (by decide) (Or.inr rfl) rfl ?_
      refine V_iconst (v := (1 : Int32)) C dX10_revoke_38 (by decide) ?_
      exact V_zreturnI C dX10_revoke_39 (Or.inr rfl) (Or.inr ⟨(by assumption), o, by omega, rfl, bI.t (by assumption), rfl⟩)
    · refine V_iconst (v := (0 : Int32)) C dX10_revoke_29 (by decide) ?_
      exact V_zreturnI C dX10_revoke_30 (Or.inl rfl) (Or.inr ⟨(by assumption), o, by omega, rfl, bI.f (by assumption), (by rw [← (h01 o (by omega)).resolve_left (by assumption), upd_self]; exact ma_id rfl)⟩)
def q_X10_alter (v : Int32) (ex : Int32) (X : Mem) (n : Nat) : Int32 → Mem → Prop := fun r X' => (∃ c, Cd3 (Btw v 0 (nI n - 1)) (∀ o, o < n → v = nI o → ¬ X 90 o = 0) (∀ o, o < n → v = nI o → Btw ex 0 (if X 90 o = 1 then 8 else 1023)) c ∧ r = 0 ∧ X' = ma X 85 (upd (X 85) 0 c)) ∨ (((Btw v 0 (nI n - 1)) ∧ (∀ o, o < n → v = nI o → ¬ X 90 o = 0) ∧ (∀ o, o < n → v = nI o → Btw ex 0 (if X 90 o = 1 then 8 else 1023))) ∧ ∃ o, o < n ∧ v = nI o ∧ r = X 95 o ∧ X' = ma (ma X 85 (upd (X 85) 0 (0 : Int32))) 95 (upd (X 95) o ex))
set_option maxHeartbeats 4000000 in
set_option maxRecDepth 100000 in
theorem k_X10_alter (w : Wt) (l : Launch) (v : Int32) (ex : Int32) (X : Mem) (n : Nat) (hn : X 85 17 = nI n) (n50 : n ≤ 50) (hkd : ∀ o, o < n → ∃ a, a < 3 ∧ X 90 o = nI a) : CtI w l yX10_alter cX10_alter 7 (some .int) 3 63 [.ref (w.2.1 85), .int v, .int ex] X (q_X10_alter v ex X n) := by
  refine CtI_of (by decide +kernel) (Nat.le_of_ble_eq_true rfl) (List.forall_mem_cons.mpr ⟨rfl, (List.forall_mem_cons.mpr ⟨rfl, (List.forall_mem_cons.mpr ⟨rfl, (fun _ h => nomatch h)⟩)⟩)⟩) (ls := [some (.ref (w.2.1 85)), some (.int v), some (.int ex), none, none, none, none]) rfl (args := (#[.ref (w.2.1 85), .int v, .int ex] : Array Value)) rfl (own := RX10) rfl ?_
  intro p e s m below meth c C
  refine V_aload_n C dX10_alter_0 rfl ?_
  refine V_iload_n C dX10_alter_1 rfl ?_
  refine V_callVI C [.int v] mi_X10_148 (k_X10_isObject w l v X n hn n50) dX10_alter_2 sh_85 (by decide) rfl rfl rfl (Nat.le_of_ble_eq_true rfl) (Nat.le_of_ble_eq_true rfl) (Nat.le_of_ble_eq_true rfl) ⟨Nat.le_refl _, Nat.le_refl _⟩ (fun v1 X1 q1 => ?_)
  obtain ⟨hb1, eX1⟩ := q1; subst X1
  refine V_istore_n (ls1 := [some (.ref (w.2.1 85)), some (.int v), some (.int ex), some (.int v1), none, none, none]) C dX10_alter_5 (by decide) rfl ?_
  refine V_iload_n C dX10_alter_6 rfl ?_
  refine V_if_eqB (tgt := 23) C hb1 dX10_alter_7 (by decide) (fun h7_2 => ?_) (fun h7_2 => ?_)
  · obtain rfl : v1 = 0 := (bI.eq0 hb1).mpr h7_2
    refine V_iconst (v := (0 : Int32)) C dX10_alter_23 (by decide) ?_
    refine V_istore (ls1 := [some (.ref (w.2.1 85)), some (.int v), some (.int ex), some (.int (0 : Int32)), some (.int (0 : Int32)), none, none]) C dX10_alter_24 (by decide) rfl ?_
    refine V_iload_n C dX10_alter_26 rfl ?_
    refine V_if_eq (x := (0 : Int32)) (tgt := 60) C dX10_alter_27 (by decide) (fun _ => ?_) (fun h => absurd h (by decide))
    refine V_iconst (v := (0 : Int32)) C dX10_alter_60 (by decide) ?_
    refine V_istore (ls1 := [some (.ref (w.2.1 85)), some (.int v), some (.int ex), some (.int (0 : Int32)), some (.int (0 : Int32)), some (.int (0 : Int32)), none]) C dX10_alter_61 (by decide) rfl ?_
    refine V_aload_n C dX10_alter_63 rfl ?_
    refine V_iload_n C dX10_alter_64 rfl ?_
    refine V_if_ne (x := (0 : Int32)) (tgt := 72) C dX10_alter_65 (by decide) (fun h => absurd h (by decide)) (fun _ => ?_)
    refine V_iconst (v := (1 : Int32)) C dX10_alter_68 (by decide) ?_
    refine V_goto (tgt := 91) C dX10_alter_69 (by decide) ?_
    refine V_callVI C [.int (1 : Int32)] mi_X10_119 (k_X10_isFine_1 w l X ) dX10_alter_91 sh_85 (by decide) rfl rfl rfl (Nat.le_of_ble_eq_true rfl) (Nat.le_of_ble_eq_true rfl) (Nat.le_of_ble_eq_true rfl) ⟨Nat.le_refl _, Nat.le_refl _⟩ (fun v5 X5 q5 => ?_)
    obtain ⟨ev5, eX5⟩ := q5; subst X5; subst v5
    refine V_if_ne (x := (0 : Int32)) (tgt := 99) C dX10_alter_94 (by decide) (fun h => absurd h (by decide)) (fun _ => ?_)
    refine V_iconst (v := (0 : Int32)) C dX10_alter_97 (by decide) ?_
    exact V_ireturnI C dX10_alter_98 (Or.inl ⟨1, Or.inl ⟨rfl, (by first | exact fun q => absurd q (by assumption))⟩, rfl, rfl⟩)
  · obtain rfl : v1 = 1 := bI.one hb1 h7_2
    have hg1 : Btw v 0 (nI n - 1) := by assumption
    obtain ⟨o, ho, eo⟩ := obj_of n50 hg1
    subst eo
    refine V_aload_n C dX10_alter_10 rfl ?_
    refine V_getr C fl_X10_26 dX10_alter_11 (by decide) sh_85 rfl ?_
    refine V_iload_n C dX10_alter_14 rfl ?_
    refine V_ialdN (p0 := 90) (o := o) (v := X 90 o) C dX10_alter_15 sh_90 (by decide) (by omega) (by decide) rfl ?_
    obtain ⟨a7, ha7, ea7⟩ := hkd o (by omega)
    have ia7 : ix (nI a7) = a7 := ix_nI (by omega)
    refine V_eqi ea7 ?_
    refine V_if_neN (a := a7) (tgt := 23) C dX10_alter_16 (by decide) (by omega) (fun h16_8 => ?_) (fun h16_8 => ?_)
    · refine V_iconst (v := (0 : Int32)) C dX10_alter_23 (by decide) ?_
      refine V_istore (ls1 := [some (.ref (w.2.1 85)), some (.int (nI o)), some (.int ex), some (.int (1 : Int32)), some (.int (0 : Int32)), none, none]) C dX10_alter_24 (by decide) rfl ?_
      refine V_iload_n C dX10_alter_26 rfl ?_
      refine V_if_eq (x := (1 : Int32)) (tgt := 60) C dX10_alter_27 (by decide) (fun h => absurd h (by decide)) (fun _ => ?_)
      refine V_iload_n C dX10_alter_30 rfl ?_
      refine V_iconst (v := (0 : Int32)) C dX10_alter_31 (by decide) ?_
      refine V_aload_n C dX10_alter_32 rfl ?_
      refine V_getr C fl_X10_26 dX10_alter_33 (by decide) sh_85 rfl ?_
      refine V_iload_n C dX10_alter_36 rfl ?_
      refine V_ialdN (p0 := 90) (o := o) (v := X 90 o) C dX10_alter_37 sh_90 (by decide) (by omega) (by decide) rfl ?_
      refine V_eqi ea7 ?_
      refine V_iconst (v := (1 : Int32)) C dX10_alter_38 (by decide) ?_
      refine V_icmp_neN (a := a7) (b := 1) (tgt := 47) C dX10_alter_39 (by decide) (by omega) (by omega) (fun h39_10 => ?_) (fun h39_10 => ?_)
      · refine V_sipush (v := (1023 : Int32)) C dX10_alter_47 (by decide) ?_
        refine V_callSI C [.int ex, .int (0 : Int32), .int (1023 : Int32)] ms_X10_108 (k_X10_isBetween w l ex (0 : Int32) (1023 : Int32) X ) dX10_alter_50 rfl rfl (Nat.le_of_ble_eq_true rfl) (Nat.le_of_ble_eq_true rfl) (Nat.le_of_ble_eq_true rfl) ⟨Nat.le_refl _, Nat.le_refl _⟩ (fun v11 X11 q11 => ?_)
        obtain ⟨hb11, eX11⟩ := q11; subst X11
        refine V_if_eqB (tgt := 60) C hb11 dX10_alter_53 (by decide) (fun h53_12 => ?_) (fun h53_12 => ?_)
        · refine V_iconst (v := (0 : Int32)) C dX10_alter_60 (by decide) ?_
          refine V_istore (ls1 := [some (.ref (w.2.1 85)), some (.int (nI o)), some (.int ex), some (.int (1 : Int32)), some (.int (0 : Int32)), some (.int (0 : Int32)), none]) C dX10_alter_61 (by decide) rfl ?_
          refine V_aload_n C dX10_alter_63 rfl ?_
          refine V_iload_n C dX10_alter_64 rfl ?_
          refine V_if_ne (x := (1 : Int32)) (tgt := 72) C dX10_alter_65 (by decide) (fun _ => ?_) (fun h => absurd h (by decide))
          refine V_iload C dX10_alter_72 rfl ?_
          refine V_if_eq (x := (0 : Int32)) (tgt := 81) C dX10_alter_74 (by decide) (fun _ => ?_) (fun h => absurd h (by decide))
          refine V_iload C dX10_alter_81 rfl ?_
          refine V_if_ne (x := (0 : Int32)) (tgt := 90) C dX10_alter_83 (by decide) (fun h => absurd h (by decide)) (fun _ => ?_)
          refine V_iconst (v := (3 : Int32)) C dX10_alter_86 (by decide) ?_
          refine V_goto (tgt := 91) C dX10_alter_87 (by decide) ?_
          refine V_callVI C [.int (3 : Int32)] mi_X10_119 (k_X10_isFine_3 w l X ) dX10_alter_91 sh_85 (by decide) rfl rfl rfl (Nat.le_of_ble_eq_true rfl) (Nat.le_of_ble_eq_true rfl) (Nat.le_of_ble_eq_true rfl) ⟨Nat.le_refl _, Nat.le_refl _⟩ (fun v16 X16 q16 => ?_)
          obtain ⟨ev16, eX16⟩ := q16; subst X16; subst v16
          refine V_if_ne (x := (0 : Int32)) (tgt := 99) C dX10_alter_94 (by decide) (fun h => absurd h (by decide)) (fun _ => ?_)
          refine V_iconst (v := (0 : Int32)) C dX10_alter_97 (by decide) ?_
          exact V_ireturnI C dX10_alter_98 (Or.inl ⟨3, Or.inr (Or.inr ⟨rfl, (by assumption), (fun x g1 g2 => by first | (exfalso; omega) | exact alt_b n50 (by omega) ha7 ea7 (by omega) x g1 g2), (by first | exact fun q => absurd (alt_1 ha7 ea7 (by omega) (q o (by omega) rfl)) (by assumption) | exact fun q => absurd (alt_2 ha7 ea7 (by omega) (q o (by omega) rfl)) (by assumption))⟩), rfl, rfl⟩)
        · refine V_iconst (v := (1 : Int32)) C dX10_alter_56 (by decide) ?_
          refine V_goto (tgt := 61) C dX10_alter_57 (by decide) ?_
          refine V_istore (ls1 := [some (.ref (w.2.1 85)), some (.int (nI o)), some (.int ex), some (.int (1 : Int32)), some (.int (0 : Int32)), some (.int (1 : Int32)), none]) C dX10_alter_61 (by decide) rfl ?_
          refine V_aload_n C dX10_alter_63 rfl ?_
          refine V_iload_n C dX10_alter_64 rfl ?_
          refine V_if_ne (x := (1 : Int32)) (tgt := 72) C dX10_alter_65 (by decide) (fun _ => ?_) (fun h => absurd h (by decide))
          refine V_iload C dX10_alter_72 rfl ?_
          refine V_if_eq (x := (0 : Int32)) (tgt := 81) C dX10_alter_74 (by decide) (fun _ => ?_) (fun h => absurd h (by decide))
          refine V_iload C dX10_alter_81 rfl ?_
          refine V_if_ne (x := (1 : Int32)) (tgt := 90) C dX10_alter_83 (by decide) (fun _ => ?_) (fun h => absurd h (by decide))
          refine V_iconst (v := (0 : Int32)) C dX10_alter_90 (by decide) ?_
          refine V_callVI C [.int (0 : Int32)] mi_X10_119 (k_X10_isFine_0 w l X ) dX10_alter_91 sh_85 (by decide) rfl rfl rfl (Nat.le_of_ble_eq_true rfl) (Nat.le_of_ble_eq_true rfl) (Nat.le_of_ble_eq_true rfl) ⟨Nat.le_refl _, Nat.le_refl _⟩ (fun v21 X21 q21 => ?_)
          obtain ⟨ev21, eX21⟩ := q21; subst X21; subst v21
          refine V_if_ne (x := (1 : Int32)) (tgt := 99) C dX10_alter_94 (by decide) (fun _ => ?_) (fun h => absurd h (by decide))
          refine V_aload_n C dX10_alter_99 rfl ?_
          refine V_getr C fl_X10_41 dX10_alter_100 (by decide) sh_85 rfl ?_
          refine V_iload_n C dX10_alter_103 rfl ?_
          refine V_ialdN (p0 := 95) (o := o) (v := X 95 o) C dX10_alter_104 sh_95 (by decide) (by omega) (by decide) rfl ?_
          refine V_istore (ls1 := [some (.ref (w.2.1 85)), some (.int (nI o)), some (.int ex), some (.int (1 : Int32)), some (.int (0 : Int32)), some (.int (1 : Int32)), some (.int (X 95 o))]) C dX10_alter_105 (by decide) rfl ?_
          refine V_aload_n C dX10_alter_107 rfl ?_
          refine V_getr C fl_X10_41 dX10_alter_108 (by decide) sh_85 rfl ?_
          refine V_iload_n C dX10_alter_111 rfl ?_
          refine V_iload_n C dX10_alter_112 rfl ?_
          refine V_iastN (p0 := 95) (o := o) (X1 := (ma (ma X 85 (upd (X 85) 0 (0 : Int32))) 95 (upd (X 95) o ex))) C dX10_alter_113 sh_95 (by decide) (by omega) (by decide) rfl ?_
          refine V_iload C dX10_alter_114 rfl ?_
          exact V_ireturnI C dX10_alter_116 (Or.inr ⟨⟨(by assumption), (fun x g1 g2 => by first | (exfalso; omega) | exact alt_b n50 (by omega) ha7 ea7 (by omega) x g1 g2), (fun x g1 g2 => by have g3 := (nI_eq (by omega) (by omega)).mp g2; subst g3; first | exact alt_1r ha7 ea7 (by omega) (by assumption) | exact alt_2r ha7 ea7 (by omega) (by assumption))⟩, o, by omega, rfl, rfl, rfl⟩)
      · refine V_bipush (v := (8 : Int32)) C dX10_alter_42 (by decide) ?_
        refine V_goto (tgt := 50) C dX10_alter_44 (by decide) ?_
        refine V_callSI C [.int ex, .int (0 : Int32), .int (8 : Int32)] ms_X10_108 (k_X10_isBetween w l ex (0 : Int32) (8 : Int32) X ) dX10_alter_50 rfl rfl (Nat.le_of_ble_eq_true rfl) (Nat.le_of_ble_eq_true rfl) (Nat.le_of_ble_eq_true rfl) ⟨Nat.le_refl _, Nat.le_refl _⟩ (fun v23 X23 q23 => ?_)
        obtain ⟨hb23, eX23⟩ := q23; subst X23
        refine V_if_eqB (tgt := 60) C hb23 dX10_alter_53 (by decide) (fun h53_24 => ?_) (fun h53_24 => ?_)
        · refine V_iconst (v := (0 : Int32)) C dX10_alter_60 (by decide) ?_
          refine V_istore (ls1 := [some (.ref (w.2.1 85)), some (.int (nI o)), some (.int ex), some (.int (1 : Int32)), some (.int (0 : Int32)), some (.int (0 : Int32)), none]) C dX10_alter_61 (by decide) rfl ?_
          refine V_aload_n C dX10_alter_63 rfl ?_
          refine V_iload_n C dX10_alter_64 rfl ?_
          refine V_if_ne (x := (1 : Int32)) (tgt := 72) C dX10_alter_65 (by decide) (fun _ => ?_) (fun h => absurd h (by decide))
          refine V_iload C dX10_alter_72 rfl ?_
          refine V_if_eq (x := (0 : Int32)) (tgt := 81) C dX10_alter_74 (by decide) (fun _ => ?_) (fun h => absurd h (by decide))
          refine V_iload C dX10_alter_81 rfl ?_
          refine V_if_ne (x := (0 : Int32)) (tgt := 90) C dX10_alter_83 (by decide) (fun h => absurd h (by decide)) (fun _ => ?_)
          refine V_iconst (v := (3 : Int32)) C dX10_alter_86 (by decide) ?_
          refine V_goto (tgt := 91) C dX10_alter_87 (by decide) ?_
          refine V_callVI C [.int (3 : Int32)] mi_X10_119 (k_X10_isFine_3 w l X ) dX10_alter_91 sh_85 (by decide) rfl rfl rfl (Nat.le_of_ble_eq_true rfl) (Nat.le_of_ble_eq_true rfl) (Nat.le_of_ble_eq_true rfl) ⟨Nat.le_refl _, Nat.le_refl _⟩ (fun v28 X28 q28 => ?_)
          obtain ⟨ev28, eX28⟩ := q28; subst X28; subst v28
          refine V_if_ne (x := (0 : Int32)) (tgt := 99) C dX10_alter_94 (by decide) (fun h => absurd h (by decide)) (fun _ => ?_)
          refine V_iconst (v := (0 : Int32)) C dX10_alter_97 (by decide) ?_
          exact V_ireturnI C dX10_alter_98 (Or.inl ⟨3, Or.inr (Or.inr ⟨rfl, (by assumption), (fun x g1 g2 => by first | (exfalso; omega) | exact alt_b n50 (by omega) ha7 ea7 (by omega) x g1 g2), (by first | exact fun q => absurd (alt_1 ha7 ea7 (by omega) (q o (by omega) rfl)) (by assumption) | exact fun q => absurd (alt_2 ha7 ea7 (by omega) (q o (by omega) rfl)) (by assumption))⟩), rfl, rfl⟩)
        · refine V_iconst (v := (1 : Int32)) C dX10_alter_56 (by decide) ?_
          refine V_goto (tgt := 61) C dX10_alter_57 (by decide) ?_
          refine V_istore (ls1 := [some (.ref (w.2.1 85)), some (.int (nI o)), some (.int ex), some (.int (1 : Int32)), some (.int (0 : Int32)), some (.int (1 : Int32)), none]) C dX10_alter_61 (by decide) rfl ?_
          refine V_aload_n C dX10_alter_63 rfl ?_
          refine V_iload_n C dX10_alter_64 rfl ?_
          refine V_if_ne (x := (1 : Int32)) (tgt := 72) C dX10_alter_65 (by decide) (fun _ => ?_) (fun h => absurd h (by decide))
          refine V_iload C dX10_alter_72 rfl ?_
          refine V_if_eq (x := (0 : Int32)) (tgt := 81) C dX10_alter_74 (by decide) (fun _ => ?_) (fun h => absurd h (by decide))
          refine V_iload C dX10_alter_81 rfl ?_
          refine V_if_ne (x := (1 : Int32)) (tgt := 90) C dX10_alter_83 (by decide) (fun _ => ?_) (fun h => absurd h (by decide))
          refine V_iconst (v := (0 : Int32)) C dX10_alter_90 (by decide) ?_
          refine V_callVI C [.int (0 : Int32)] mi_X10_119 (k_X10_isFine_0 w l X ) dX10_alter_91 sh_85 (by decide) rfl rfl rfl (Nat.le_of_ble_eq_true rfl) (Nat.le_of_ble_eq_true rfl) (Nat.le_of_ble_eq_true rfl) ⟨Nat.le_refl _, Nat.le_refl _⟩ (fun v33 X33 q33 => ?_)
          obtain ⟨ev33, eX33⟩ := q33; subst X33; subst v33
          refine V_if_ne (x := (1 : Int32)) (tgt := 99) C dX10_alter_94 (by decide) (fun _ => ?_) (fun h => absurd h (by decide))
          refine V_aload_n C dX10_alter_99 rfl ?_
          refine V_getr C fl_X10_41 dX10_alter_100 (by decide) sh_85 rfl ?_
          refine V_iload_n C dX10_alter_103 rfl ?_
          refine V_ialdN (p0 := 95) (o := o) (v := X 95 o) C dX10_alter_104 sh_95 (by decide) (by omega) (by decide) rfl ?_
          refine V_istore (ls1 := [some (.ref (w.2.1 85)), some (.int (nI o)), some (.int ex), some (.int (1 : Int32)), some (.int (0 : Int32)), some (.int (1 : Int32)), some (.int (X 95 o))]) C dX10_alter_105 (by decide) rfl ?_
          refine V_aload_n C dX10_alter_107 rfl ?_
          refine V_getr C fl_X10_41 dX10_alter_108 (by decide) sh_85 rfl ?_
          refine V_iload_n C dX10_alter_111 rfl ?_
          refine V_iload_n C dX10_alter_112 rfl ?_
          refine V_iastN (p0 := 95) (o := o) (X1 := (ma (ma X 85 (upd (X 85) 0 (0 : Int32))) 95 (upd (X 95) o ex))) C dX10_alter_113 sh_95 (by decide) (by omega) (by decide) rfl ?_
          refine V_iload C dX10_alter_114 rfl ?_
          exact V_ireturnI C dX10_alter_116 (Or.inr ⟨⟨(by assumption), (fun x g1 g2 => by first | (exfalso; omega) | exact alt_b n50 (by omega) ha7 ea7 (by omega) x g1 g2), (fun x g1 g2 => by have g3 := (nI_eq (by omega) (by omega)).mp g2; subst g3; first | exact alt_1r ha7 ea7 (by omega) (by assumption) | exact alt_2r ha7 ea7 (by omega) (by assumption))⟩, o, by omega, rfl, rfl, rfl⟩)
    · refine V_iconst (v := (1 : Int32)) C dX10_alter_19 (by decide) ?_
      refine V_goto (tgt := 24) C dX10_alter_20 (by decide) ?_
      refine V_istore (ls1 := [some (.ref (w.2.1 85)), some (.int (nI o)), some (.int ex), some (.int (1 : Int32)), some (.int (1 : Int32)), none, none]) C dX10_alter_24 (by decide) rfl ?_
      refine V_iload_n C dX10_alter_26 rfl ?_
      refine V_if_eq (x := (1 : Int32)) (tgt := 60) C dX10_alter_27 (by decide) (fun h => absurd h (by decide)) (fun _ => ?_)
      refine V_iload_n C dX10_alter_30 rfl ?_
      refine V_iconst (v := (0 : Int32)) C dX10_alter_31 (by decide) ?_
      refine V_aload_n C dX10_alter_32 rfl ?_
      refine V_getr C fl_X10_26 dX10_alter_33 (by decide) sh_85 rfl ?_
      refine V_iload_n C dX10_alter_36 rfl ?_
      refine V_ialdN (p0 := 90) (o := o) (v := X 90 o) C dX10_alter_37 sh_90 (by decide) (by omega) (by decide) rfl ?_
      refine V_eqi ea7 ?_
      refine V_iconst (v := (1 : Int32)) C dX10_alter_38 (by decide) ?_
      refine V_icmp_neN (a := a7) (b := 1) (tgt := 47) C dX10_alter_39 (by decide) (by omega) (by omega) (fun h39_36 => ?_) (fun h39_36 => ?_)
      · refine V_sipush (v := (1023 : Int32)) C dX10_alter_47 (by decide) ?_
        refine V_callSI C [.int ex, .int (0 : Int32), .int (1023 : Int32)] ms_X10_108 (k_X10_isBetween w l ex (0 : Int32) (1023 : Int32) X ) dX10_alter_50 rfl rfl (Nat.le_of_ble_eq_true rfl) (Nat.le_of_ble_eq_true rfl) (Nat.le_of_ble_eq_true rfl) ⟨Nat.le_refl _, Nat.le_refl _⟩ (fun v37 X37 q37 => ?_)
        obtain ⟨hb37, eX37⟩ := q37; subst X37
        refine V_if_eqB (tgt := 60) C hb37 dX10_alter_53 (by decide) (fun h53_38 => ?_) (fun h53_38 => ?_)
        · refine V_iconst (v := (0 : Int32)) C dX10_alter_60 (by decide) ?_
          refine V_istore (ls1 := [some (.ref (w.2.1 85)), some (.int (nI o)), some (.int ex), some (.int (1 : Int32)), some (.int (1 : Int32)), some (.int (0 : Int32)), none]) C dX10_alter_61 (by decide) rfl ?_
          refine V_aload_n C dX10_alter_63 rfl ?_
          refine V_iload_n C dX10_alter_64 rfl ?_
          refine V_if_ne (x := (1 : Int32)) (tgt := 72) C dX10_alter_65 (by decide) (fun _ => ?_) (fun h => absurd h (by decide))
          refine V_iload C dX10_alter_72 rfl ?_
          refine V_if_eq (x := (1 : Int32)) (tgt := 81) C dX10_alter_74 (by decide) (fun h => absurd h (by decide)) (fun _ => ?_)
          refine V_iconst (v := (2 : Int32)) C dX10_alter_77 (by decide) ?_
          refine V_goto (tgt := 91) C dX10_alter_78 (by decide) ?_
          refine V_callVI C [.int (2 : Int32)] mi_X10_119 (k_X10_isFine_2 w l X ) dX10_alter_91 sh_85 (by decide) rfl rfl rfl (Nat.le_of_ble_eq_true rfl) (Nat.le_of_ble_eq_true rfl) (Nat.le_of_ble_eq_true rfl) ⟨Nat.le_refl _, Nat.le_refl _⟩ (fun v41 X41 q41 => ?_)
          obtain ⟨ev41, eX41⟩ := q41; subst X41; subst v41
          refine V_if_ne (x := (0 : Int32)) (tgt := 99) C dX10_alter_94 (by decide) (fun h => absurd h (by decide)) (fun _ => ?_)
          refine V_iconst (v := (0 : Int32)) C dX10_alter_97 (by decide) ?_
          exact V_ireturnI C dX10_alter_98 (Or.inl ⟨2, Or.inr (Or.inl ⟨rfl, (by assumption), (fun q => q o (by omega) rfl (alt_0 ea7 (by omega)))⟩), rfl, rfl⟩)
        · refine V_iconst (v := (1 : Int32)) C dX10_alter_56 (by decide) ?_
          refine V_goto (tgt := 61) C dX10_alter_57 (by decide) ?_
          refine V_istore (ls1 := [some (.ref (w.2.1 85)), some (.int (nI o)), some (.int ex), some (.int (1 : Int32)), some (.int (1 : Int32)), some (.int (1 : Int32)), none]) C dX10_alter_61 (by decide) rfl ?_
          refine V_aload_n C dX10_alter_63 rfl ?_
          refine V_iload_n C dX10_alter_64 rfl ?_
          refine V_if_ne (x := (1 : Int32)) (tgt := 72) C dX10_alter_65 (by decide) (fun _ => ?_) (fun h => absurd h (by decide))
          refine V_iload C dX10_alter_72 rfl ?_
          refine V_if_eq (x := (1 : Int32)) (tgt := 81) C dX10_alter_74 (by decide) (fun h => absurd h (by decide)) (fun _ => ?_)
          refine V_iconst (v := (2 : Int32)) C dX10_alter_77 (by decide) ?_
          refine V_goto (tgt := 91) C dX10_alter_78 (by decide) ?_
          refine V_callVI C [.int (2 : Int32)] mi_X10_119 (k_X10_isFine_2 w l X ) dX10_alter_91 sh_85 (by decide) rfl rfl rfl (Nat.le_of_ble_eq_true rfl) (Nat.le_of_ble_eq_true rfl) (Nat.le_of_ble_eq_true rfl) ⟨Nat.le_refl _, Nat.le_refl _⟩ (fun v45 X45 q45 => ?_)
          obtain ⟨ev45, eX45⟩ := q45; subst X45; subst v45
          refine V_if_ne (x := (0 : Int32)) (tgt := 99) C dX10_alter_94 (by decide) (fun h => absurd h (by decide)) (fun _ => ?_)
          refine V_iconst (v := (0 : Int32)) C dX10_alter_97 (by decide) ?_
          exact V_ireturnI C dX10_alter_98 (Or.inl ⟨2, Or.inr (Or.inl ⟨rfl, (by assumption), (fun q => q o (by omega) rfl (alt_0 ea7 (by omega)))⟩), rfl, rfl⟩)
      · refine V_bipush (v := (8 : Int32)) C dX10_alter_42 (by decide) ?_
        refine V_goto (tgt := 50) C dX10_alter_44 (by decide) ?_
        refine V_callSI C [.int ex, .int (0 : Int32), .int (8 : Int32)] ms_X10_108 (k_X10_isBetween w l ex (0 : Int32) (8 : Int32) X ) dX10_alter_50 rfl rfl (Nat.le_of_ble_eq_true rfl) (Nat.le_of_ble_eq_true rfl) (Nat.le_of_ble_eq_true rfl) ⟨Nat.le_refl _, Nat.le_refl _⟩ (fun v47 X47 q47 => ?_)
        obtain ⟨hb47, eX47⟩ := q47; subst X47
        refine V_if_eqB (tgt := 60) C hb47 dX10_alter_53 (by decide) (fun h53_48 => ?_) (fun h53_48 => ?_)
        · refine V_iconst (v := (0 : Int32)) C dX10_alter_60 (by decide) ?_
          refine V_istore (ls1 := [some (.ref (w.2.1 85)), some (.int (nI o)), some (.int ex), some (.int (1 : Int32)), some (.int (1 : Int32)), some (.int (0 : Int32)), none]) C dX10_alter_61 (by decide) rfl ?_
          refine V_aload_n C dX10_alter_63 rfl ?_
          refine V_iload_n C dX10_alter_64 rfl ?_
          refine V_if_ne (x := (1 : Int32)) (tgt := 72) C dX10_alter_65 (by decide) (fun _ => ?_) (fun h => absurd h (by decide))
          refine V_iload C dX10_alter_72 rfl ?_
          refine V_if_eq (x := (1 : Int32)) (tgt := 81) C dX10_alter_74 (by decide) (fun h => absurd h (by decide)) (fun _ => ?_)
          refine V_iconst (v := (2 : Int32)) C dX10_alter_77 (by decide) ?_
          refine V_goto (tgt := 91) C dX10_alter_78 (by decide) ?_
          refine V_callVI C [.int (2 : Int32)] mi_X10_119 (k_X10_isFine_2 w l X ) dX10_alter_91 sh_85 (by decide) rfl rfl rfl (Nat.le_of_ble_eq_true rfl) (Nat.le_of_ble_eq_true rfl) (Nat.le_of_ble_eq_true rfl) ⟨Nat.le_refl _, Nat.le_refl _⟩ (fun v51 X51 q51 => ?_)
          obtain ⟨ev51, eX51⟩ := q51; subst X51; subst v51
          refine V_if_ne (x := (0 : Int32)) (tgt := 99) C dX10_alter_94 (by decide) (fun h => absurd h (by decide)) (fun _ => ?_)
          refine V_iconst (v := (0 : Int32)) C dX10_alter_97 (by decide) ?_
          exact V_ireturnI C dX10_alter_98 (Or.inl ⟨2, Or.inr (Or.inl ⟨rfl, (by assumption), (fun q => q o (by omega) rfl (alt_0 ea7 (by omega)))⟩), rfl, rfl⟩)
        · refine V_iconst (v := (1 : Int32)) C dX10_alter_56 (by decide) ?_
          refine V_goto (tgt := 61) C dX10_alter_57 (by decide) ?_
          refine V_istore (ls1 := [some (.ref (w.2.1 85)), some (.int (nI o)), some (.int ex), some (.int (1 : Int32)), some (.int (1 : Int32)), some (.int (1 : Int32)), none]) C dX10_alter_61 (by decide) rfl ?_
          refine V_aload_n C dX10_alter_63 rfl ?_
          refine V_iload_n C dX10_alter_64 rfl ?_
          refine V_if_ne (x := (1 : Int32)) (tgt := 72) C dX10_alter_65 (by decide) (fun _ => ?_) (fun h => absurd h (by decide))
          refine V_iload C dX10_alter_72 rfl ?_
          refine V_if_eq (x := (1 : Int32)) (tgt := 81) C dX10_alter_74 (by decide) (fun h => absurd h (by decide)) (fun _ => ?_)
          refine V_iconst (v := (2 : Int32)) C dX10_alter_77 (by decide) ?_
          refine V_goto (tgt := 91) C dX10_alter_78 (by decide) ?_
          refine V_callVI C [.int (2 : Int32)] mi_X10_119 (k_X10_isFine_2 w l X ) dX10_alter_91 sh_85 (by decide) rfl rfl rfl (Nat.le_of_ble_eq_true rfl) (Nat.le_of_ble_eq_true rfl) (Nat.le_of_ble_eq_true rfl) ⟨Nat.le_refl _, Nat.le_refl _⟩ (fun v55 X55 q55 => ?_)
          obtain ⟨ev55, eX55⟩ := q55; subst X55; subst v55
          refine V_if_ne (x := (0 : Int32)) (tgt := 99) C dX10_alter_94 (by decide) (fun h => absurd h (by decide)) (fun _ => ?_)
          refine V_iconst (v := (0 : Int32)) C dX10_alter_97 (by decide) ?_
          exact V_ireturnI C dX10_alter_98 (Or.inl ⟨2, Or.inr (Or.inl ⟨rfl, (by assumption), (fun q => q o (by omega) rfl (alt_0 ea7 (by omega)))⟩), rfl, rfl⟩)
def q_X10_sign (v : Int32) (X : Mem) (h n : Nat) : Int32 → Mem → Prop := fun r X' => (∃ c, Cd1 (Btw v 0 (nI n - 1)) c ∧ r = 0 ∧ X' = ma X 85 (upd (X 85) 0 c)) ∨ (((Btw v 0 (nI n - 1))) ∧ ∃ o, o < n ∧ v = nI o ∧ r = sigS (oM (ma X 85 (upd (X 85) 0 (0 : Int32)))) o (kyy (gM (ma X 85 (upd (X 85) 0 (0 : Int32)))) (ix (isr (oM (ma X 85 (upd (X 85) 0 (0 : Int32)))) o))) ∧ X' = ma (ma X 85 (upd (X 85) 0 (0 : Int32))) 97 (upd (X 97) o (sigS (oM (ma X 85 (upd (X 85) 0 (0 : Int32)))) o (kyy (gM (ma X 85 (upd (X 85) 0 (0 : Int32)))) (ix (isr (oM (ma X 85 (upd (X 85) 0 (0 : Int32)))) o))))))
set_option maxHeartbeats 4000000 in
set_option maxRecDepth 100000 in
theorem k_X10_sign (w : Wt) (l : Launch) (v : Int32) (X : Mem) (h n : Nat) (hO : OInv (oM X) h n) (h8 : h ≤ 8) (hn : X 85 17 = nI n) (n50 : n ≤ 50) : CtI w l yX10_sign cX10_sign 2 (some .int) 3 63 [.ref (w.2.1 85), .int v] X (q_X10_sign v X h n) := by
  refine CtI_of (by decide +kernel) (Nat.le_of_ble_eq_true rfl) (List.forall_mem_cons.mpr ⟨rfl, (List.forall_mem_cons.mpr ⟨rfl, (fun _ h => nomatch h)⟩)⟩) (ls := [some (.ref (w.2.1 85)), some (.int v)]) rfl (args := (#[.ref (w.2.1 85), .int v] : Array Value)) rfl (own := RX10) rfl ?_
  intro p e s m below meth c C
  refine V_aload_n C dX10_sign_0 rfl ?_
  refine V_aload_n C dX10_sign_1 rfl ?_
  refine V_iload_n C dX10_sign_2 rfl ?_
  refine V_callVI C [.int v] mi_X10_148 (k_X10_isObject w l v X n hn n50) dX10_sign_3 sh_85 (by decide) rfl rfl rfl (Nat.le_of_ble_eq_true rfl) (Nat.le_of_ble_eq_true rfl) (Nat.le_of_ble_eq_true rfl) ⟨Nat.le_refl _, Nat.le_refl _⟩ (fun v1 X1 q1 => ?_)
  obtain ⟨hb1, eX1⟩ := q1; subst X1
  refine V_if_eqB (tgt := 13) C hb1 dX10_sign_6 (by decide) (fun h6_2 => ?_) (fun h6_2 => ?_)
  · refine V_iconst (v := (1 : Int32)) C dX10_sign_13 (by decide) ?_
    refine V_callVI C [.int (1 : Int32)] mi_X10_119 (k_X10_isFine_1 w l X ) dX10_sign_14 sh_85 (by decide) rfl rfl rfl (Nat.le_of_ble_eq_true rfl) (Nat.le_of_ble_eq_true rfl) (Nat.le_of_ble_eq_true rfl) ⟨Nat.le_refl _, Nat.le_refl _⟩ (fun v3 X3 q3 => ?_)
    obtain ⟨ev3, eX3⟩ := q3; subst X3; subst v3
    refine V_if_ne (x := (0 : Int32)) (tgt := 22) C dX10_sign_17 (by decide) (fun h => absurd h (by decide)) (fun _ => ?_)
    refine V_iconst (v := (0 : Int32)) C dX10_sign_20 (by decide) ?_
    exact V_ireturnI C dX10_sign_21 (Or.inl ⟨1, ⟨rfl, (by first | exact fun q => absurd q (by assumption))⟩, rfl, rfl⟩)
  · refine V_iconst (v := (0 : Int32)) C dX10_sign_9 (by decide) ?_
    refine V_goto (tgt := 14) C dX10_sign_10 (by decide) ?_
    refine V_callVI C [.int (0 : Int32)] mi_X10_119 (k_X10_isFine_0 w l X ) dX10_sign_14 sh_85 (by decide) rfl rfl rfl (Nat.le_of_ble_eq_true rfl) (Nat.le_of_ble_eq_true rfl) (Nat.le_of_ble_eq_true rfl) ⟨Nat.le_refl _, Nat.le_refl _⟩ (fun v5 X5 q5 => ?_)
    obtain ⟨ev5, eX5⟩ := q5; subst X5; subst v5
    refine V_if_ne (x := (1 : Int32)) (tgt := 22) C dX10_sign_17 (by decide) (fun _ => ?_) (fun h => absurd h (by decide))
    have hg1 : Btw v 0 (nI n - 1) := by assumption
    obtain ⟨o, ho, eo⟩ := obj_of n50 hg1
    subst eo
    refine V_aload_n C dX10_sign_22 rfl ?_
    refine V_getr C fl_X10_47 dX10_sign_23 (by decide) sh_85 rfl ?_
    refine V_iload_n C dX10_sign_26 rfl ?_
    refine V_aload_n C dX10_sign_27 rfl ?_
    refine V_iload_n C dX10_sign_28 rfl ?_
    refine V_callVI C [.int (nI o)] mi_X10_133 (k_X10_signs_a w l o (ma X 85 (upd (X 85) 0 (0 : Int32))) (by omega) (by obtain ⟨a, g1, g2⟩ := (hO.2 o ho).1; exact ⟨a, by omega, g2⟩)) dX10_sign_29 sh_85 (by decide) rfl rfl rfl (Nat.le_of_ble_eq_true rfl) (Nat.le_of_ble_eq_true rfl) (Nat.le_of_ble_eq_true rfl) ⟨Nat.le_refl _, Nat.le_refl _⟩ (fun v7 X7 q7 => ?_)
    obtain ⟨ev7, eX7⟩ := q7; subst X7; subst v7
    refine V_iastN (p0 := 97) (o := o) (X1 := (ma (ma X 85 (upd (X 85) 0 (0 : Int32))) 97 (upd (X 97) o (sigS (oM (ma X 85 (upd (X 85) 0 (0 : Int32)))) o (kyy (gM (ma X 85 (upd (X 85) 0 (0 : Int32)))) (ix (isr (oM (ma X 85 (upd (X 85) 0 (0 : Int32)))) o))))))) C dX10_sign_32 sh_97 (by decide) (by omega) (by decide) rfl ?_
    refine V_aload_n C dX10_sign_33 rfl ?_
    refine V_getr C fl_X10_47 dX10_sign_34 (by decide) sh_85 rfl ?_
    refine V_iload_n C dX10_sign_37 rfl ?_
    refine V_ialdN (p0 := 97) (o := o) (v := (upd (X 97) o (sigS (oM (ma X 85 (upd (X 85) 0 (0 : Int32)))) o (kyy (gM (ma X 85 (upd (X 85) 0 (0 : Int32)))) (ix (isr (oM (ma X 85 (upd (X 85) 0 (0 : Int32)))) o))))) o) C dX10_sign_38 sh_97 (by decide) (by omega) (by decide) rfl ?_
    refine V_eqi (y := sigS (oM (ma X 85 (upd (X 85) 0 (0 : Int32)))) o (kyy (gM (ma X 85 (upd (X 85) 0 (0 : Int32)))) (ix (isr (oM (ma X 85 (upd (X 85) 0 (0 : Int32)))) o)))) (upd_eq _ _ _) ?_
    exact V_ireturnI C dX10_sign_39 (Or.inr ⟨(by assumption), o, by omega, rfl, rfl, rfl⟩)
def q_X10_hop (v : Int32) (X : Mem) (D : Nat) : Int32 → Mem → Prop := fun r X' => (∃ c, Cd2 (Btw v 0 9) (D < 6) c ∧ r = 0 ∧ X' = ma X 85 (upd (X 85) 0 c)) ∨ (((Btw v 0 9) ∧ (D < 6)) ∧ r = nI (D + 1) ∧ X' = (ma (ma X 85 (upd (upd (X 85) 0 (0 : Int32)) 19 (nI (D + 1)))) 100 (upd (X 100) D v)))
set_option maxHeartbeats 4000000 in
set_option maxRecDepth 100000 in
theorem k_X10_hop (w : Wt) (l : Launch) (v : Int32) (X : Mem) (D : Nat) (hd : X 85 19 = nI D) (hd6 : D ≤ 6) : CtI w l yX10_hop cX10_hop 2 (some .int) 3 62 [.ref (w.2.1 85), .int v] X (q_X10_hop v X D) := by
  refine CtI_of (by decide +kernel) (Nat.le_of_ble_eq_true rfl) (List.forall_mem_cons.mpr ⟨rfl, (List.forall_mem_cons.mpr ⟨rfl, (fun _ h => nomatch h)⟩)⟩) (ls := [some (.ref (w.2.1 85)), some (.int v)]) rfl (args := (#[.ref (w.2.1 85), .int v] : Array Value)) rfl (own := RX10) rfl ?_
  intro p e s m below meth c C
  refine V_aload_n C dX10_hop_0 rfl ?_
  refine V_iload_n C dX10_hop_1 rfl ?_
  refine V_callSI C [.int v] ms_X10_125 (k_X10_isNet w l v X ) dX10_hop_2 rfl rfl (Nat.le_of_ble_eq_true rfl) (Nat.le_of_ble_eq_true rfl) (Nat.le_of_ble_eq_true rfl) ⟨Nat.le_refl _, Nat.le_refl _⟩ (fun v1 X1 q1 => ?_)
  obtain ⟨hb1, eX1⟩ := q1; subst X1
  refine V_if_neB (tgt := 12) C hb1 dX10_hop_5 (by decide) (fun h5_2 => ?_) (fun h5_2 => ?_)
  · refine V_aload_n C dX10_hop_12 rfl ?_
    refine V_geti C fl_X10_151 dX10_hop_13 (by decide) sh_85 rfl ?_
    refine V_eqi (y := nI D) hd ?_
    refine V_bipush (v := (6 : Int32)) C dX10_hop_16 (by decide) ?_
    refine V_icmp_neN (a := D) (b := 6) (tgt := 25) C dX10_hop_18 (by decide) (by omega) (by omega) (fun h18_3 => ?_) (fun h18_3 => ?_)
    · refine V_iconst (v := (0 : Int32)) C dX10_hop_25 (by decide) ?_
      refine V_callVI C [.int (0 : Int32)] mi_X10_119 (k_X10_isFine_0 w l X ) dX10_hop_26 sh_85 (by decide) rfl rfl rfl (Nat.le_of_ble_eq_true rfl) (Nat.le_of_ble_eq_true rfl) (Nat.le_of_ble_eq_true rfl) ⟨Nat.le_refl _, Nat.le_refl _⟩ (fun v4 X4 q4 => ?_)
      obtain ⟨ev4, eX4⟩ := q4; subst X4; subst v4
      refine V_if_ne (x := (1 : Int32)) (tgt := 34) C dX10_hop_29 (by decide) (fun _ => ?_) (fun h => absurd h (by decide))
      refine V_aload_n C dX10_hop_34 rfl ?_
      refine V_getr C fl_X10_57 dX10_hop_35 (by decide) sh_85 rfl ?_
      refine V_aload_n C dX10_hop_38 rfl ?_
      refine V_geti C fl_X10_151 dX10_hop_39 (by decide) sh_85 rfl ?_
      refine V_eqi (y := X 85 19) rfl ?_
      refine V_eqi (y := nI D) hd ?_
      refine V_iload_n C dX10_hop_42 rfl ?_
      refine V_iastN (p0 := 100) (o := D) (X1 := (ma (ma X 85 (upd (X 85) 0 (0 : Int32))) 100 (upd (X 100) D v))) C dX10_hop_43 sh_100 (by decide) (by omega) (by decide) rfl ?_
      refine V_aload_n C dX10_hop_44 rfl ?_
      refine V_dup C dX10_hop_45 rfl ?_
      refine V_geti C fl_X10_151 dX10_hop_46 (by decide) sh_85 rfl ?_
      refine V_eqi (y := X 85 19) rfl ?_
      refine V_eqi (y := nI D) hd ?_
      refine V_iconst (v := (1 : Int32)) C dX10_hop_49 (by decide) ?_
      refine V_iaddN (a := D) (b := 1) C dX10_hop_50 ?_
      refine V_put C fp_X10_151 dX10_hop_51 (by decide) sh_85 rfl ?_
      refine V_eqX (X1 := (ma (ma X 85 (upd (upd (X 85) 0 (0 : Int32)) 19 (nI (D + 1)))) 100 (upd (X 100) D v))) (ma_in1 (by decide)) ?_
      refine V_aload_n C dX10_hop_54 rfl ?_
      refine V_geti C fl_X10_151 dX10_hop_55 (by decide) sh_85 rfl ?_
      refine V_eqi (y := nI (D + 1)) rfl ?_
      exact V_ireturnI C dX10_hop_58 (Or.inr ⟨⟨(by assumption), (by omega)⟩, rfl, rfl⟩)
    · refine V_iconst (v := (2 : Int32)) C dX10_hop_21 (by decide) ?_
      refine V_goto (tgt := 26) C dX10_hop_22 (by decide) ?_
      refine V_callVI C [.int (2 : Int32)] mi_X10_119 (k_X10_isFine_2 w l X ) dX10_hop_26 sh_85 (by decide) rfl rfl rfl (Nat.le_of_ble_eq_true rfl) (Nat.le_of_ble_eq_true rfl) (Nat.le_of_ble_eq_true rfl) ⟨Nat.le_refl _, Nat.le_refl _⟩ (fun v6 X6 q6 => ?_)
      obtain ⟨ev6, eX6⟩ := q6; subst X6; subst v6
      refine V_if_ne (x := (0 : Int32)) (tgt := 34) C dX10_hop_29 (by decide) (fun h => absurd h (by decide)) (fun _ => ?_)
      refine V_iconst (v := (0 : Int32)) C dX10_hop_32 (by decide) ?_
      exact V_ireturnI C dX10_hop_33 (Or.inl ⟨2, Or.inr ⟨rfl, (by assumption), (by omega)⟩, rfl, rfl⟩)
  · refine V_iconst (v := (1 : Int32)) C dX10_hop_8 (by decide) ?_
    refine V_goto (tgt := 26) C dX10_hop_9 (by decide) ?_
    refine V_callVI C [.int (1 : Int32)] mi_X10_119 (k_X10_isFine_1 w l X ) dX10_hop_26 sh_85 (by decide) rfl rfl rfl (Nat.le_of_ble_eq_true rfl) (Nat.le_of_ble_eq_true rfl) (Nat.le_of_ble_eq_true rfl) ⟨Nat.le_refl _, Nat.le_refl _⟩ (fun v8 X8 q8 => ?_)
    obtain ⟨ev8, eX8⟩ := q8; subst X8; subst v8
    refine V_if_ne (x := (0 : Int32)) (tgt := 34) C dX10_hop_29 (by decide) (fun h => absurd h (by decide)) (fun _ => ?_)
    refine V_iconst (v := (0 : Int32)) C dX10_hop_32 (by decide) ?_
    exact V_ireturnI C dX10_hop_33 (Or.inl ⟨1, Or.inl ⟨rfl, (by first | exact fun q => absurd q (by assumption))⟩, rfl, rfl⟩)
def q_X10_hear (v : Int32) (ln : Int32) (X : Mem) (R D : Nat) (dr : Nat → Nat) : Int32 → Mem → Prop := fun r X' => (∃ c, Cd2 (Blk v ln) (1 ≤ D ∧ R < 24) c ∧ r = 0 ∧ X' = ma X 85 (upd (X 85) 0 c)) ∨ (((Blk v ln) ∧ (1 ≤ D ∧ R < 24)) ∧ r = nI R ∧ ∃ f, (SqR f (6 * R) dr D ∧ ∀ x, x < 6 * R → f x = X 101 x) ∧ X' = (ma (ma (ma (ma (ma (ma X 85 (upd (upd (upd (X 85) 0 (0 : Int32)) 25 (nI (R + 1))) 19 (0 : Int32))) 101 f) 102 (upd (X 102) R (nI (sqn dr D)))) 103 (upd (X 103) R v)) 104 (upd (X 104) R ln)) 105 (upd (X 105) R (1 : Int32))))
set_option maxHeartbeats 4000000 in
set_option maxRecDepth 100000 in
theorem k_X10_hear (w : Wt) (l : Launch) (v : Int32) (ln : Int32) (X : Mem) (R D : Nat) (dr : Nat → Nat) (hr0 : X 85 25 = nI R) (R24 : R ≤ 24) (hd : X 85 19 = nI D) (hd6 : D ≤ 6) (hP : PA X 100 dr D) : CtI w l yX10_hear cX10_hear 5 (some .int) 3 63 [.ref (w.2.1 85), .int v, .int ln] X (q_X10_hear v ln X R D dr) := by
  refine CtI_of (by decide +kernel) (Nat.le_of_ble_eq_true rfl) (List.forall_mem_cons.mpr ⟨rfl, (List.forall_mem_cons.mpr ⟨rfl, (List.forall_mem_cons.mpr ⟨rfl, (fun _ h => nomatch h)⟩)⟩)⟩) (ls := [some (.ref (w.2.1 85)), some (.int v), some (.int ln), none, none]) rfl (args := (#[.ref (w.2.1 85), .int v, .int ln] : Array Value)) rfl (own := RX10) rfl ?_
  intro p e s m below meth c C
  refine V_aload_n C dX10_hear_0 rfl ?_
  refine V_iload_n C dX10_hear_1 rfl ?_
  refine V_iload_n C dX10_hear_2 rfl ?_
  refine V_callSI C [.int v, .int ln] ms_X10_137 (k_X10_isBlock w l v ln X ) dX10_hear_3 rfl rfl (Nat.le_of_ble_eq_true rfl) (Nat.le_of_ble_eq_true rfl) (Nat.le_of_ble_eq_true rfl) ⟨Nat.le_refl _, Nat.le_refl _⟩ (fun v1 X1 q1 => ?_)
  obtain ⟨hb1, eX1⟩ := q1; subst X1
  refine V_if_neB (tgt := 13) C hb1 dX10_hear_6 (by decide) (fun h6_2 => ?_) (fun h6_2 => ?_)
  · refine V_aload_n C dX10_hear_13 rfl ?_
    refine V_geti C fl_X10_151 dX10_hear_14 (by decide) sh_85 rfl ?_
    refine V_eqi (y := nI D) hd ?_
    refine V_if_eqN (a := D) (tgt := 29) C dX10_hear_17 (by decide) (by omega) (fun h17_3 => ?_) (fun h17_3 => ?_)
    · refine V_iconst (v := (2 : Int32)) C dX10_hear_29 (by decide) ?_
      refine V_goto (tgt := 34) C dX10_hear_30 (by decide) ?_
      refine V_callVI C [.int (2 : Int32)] mi_X10_119 (k_X10_isFine_2 w l X ) dX10_hear_34 sh_85 (by decide) rfl rfl rfl (Nat.le_of_ble_eq_true rfl) (Nat.le_of_ble_eq_true rfl) (Nat.le_of_ble_eq_true rfl) ⟨Nat.le_refl _, Nat.le_refl _⟩ (fun v4 X4 q4 => ?_)
      obtain ⟨ev4, eX4⟩ := q4; subst X4; subst v4
      refine V_if_ne (x := (0 : Int32)) (tgt := 42) C dX10_hear_37 (by decide) (fun h => absurd h (by decide)) (fun _ => ?_)
      refine V_iconst (v := (0 : Int32)) C dX10_hear_40 (by decide) ?_
      exact V_ireturnI C dX10_hear_41 (Or.inl ⟨2, Or.inr ⟨rfl, (by assumption), (by omega)⟩, rfl, rfl⟩)
    · refine V_aload_n C dX10_hear_20 rfl ?_
      refine V_geti C fl_X10_154 dX10_hear_21 (by decide) sh_85 rfl ?_
      refine V_eqi (y := nI R) hr0 ?_
      refine V_bipush (v := (24 : Int32)) C dX10_hear_24 (by decide) ?_
      refine V_icmp_neN (a := R) (b := 24) (tgt := 33) C dX10_hear_26 (by decide) (by omega) (by omega) (fun h26_6 => ?_) (fun h26_6 => ?_)
      · refine V_iconst (v := (0 : Int32)) C dX10_hear_33 (by decide) ?_
        refine V_callVI C [.int (0 : Int32)] mi_X10_119 (k_X10_isFine_0 w l X ) dX10_hear_34 sh_85 (by decide) rfl rfl rfl (Nat.le_of_ble_eq_true rfl) (Nat.le_of_ble_eq_true rfl) (Nat.le_of_ble_eq_true rfl) ⟨Nat.le_refl _, Nat.le_refl _⟩ (fun v7 X7 q7 => ?_)
        obtain ⟨ev7, eX7⟩ := q7; subst X7; subst v7
        refine V_if_ne (x := (1 : Int32)) (tgt := 42) C dX10_hear_37 (by decide) (fun _ => ?_) (fun h => absurd h (by decide))
        refine V_iconst (v := (0 : Int32)) C dX10_hear_42 (by decide) ?_
        refine V_istore_n (ls1 := [some (.ref (w.2.1 85)), some (.int v), some (.int ln), some (.int (0 : Int32)), none]) C dX10_hear_43 (by decide) rfl ?_
        refine V_iconst (v := (0 : Int32)) C dX10_hear_44 (by decide) ?_
        refine V_istore (ls1 := [some (.ref (w.2.1 85)), some (.int v), some (.int ln), some (.int (0 : Int32)), some (.int (0 : Int32))]) C dX10_hear_45 (by decide) rfl ?_
        have L47 : ∀ (fu : Nat) (mm : Nat) (j : Nat) (f : Nat → Int32), D - j < fu → (j ≤ D) → (mm = sqn dr j) → (SqR f (6 * R) dr j) → (∀ x, x < 6 * R → f x = X 101 x) → V p l e ({ frames := 3, cells := 0, slots := 0, locals := 63 } : Room) s m (#[.ref (w.2.1 85), .int v, .int ln] : Array Value) below meth c w 5 0 0 (EI w below s (#[.ref (w.2.1 85), .int v, .int ln] : Array Value) 0 0 (q_X10_hear v ln X R D dr)) 47 [some (.ref (w.2.1 85)), some (.int v), some (.int ln), some (.int (nI mm)), some (.int (nI j))] [] (ma (ma X 85 (upd (X 85) 0 (0 : Int32))) 101 f) := by
          intro fu
          induction fu with
          | zero => intro mm j f hm; exact absurd hm (Nat.not_lt_zero _)
          | succ fu ih47 =>
            intro mm j f hm47 hj hm hf hk
            have hmj := sqn_le (dr := dr) j
            refine V_iload C dX10_hear_47 rfl ?_
            refine V_aload_n C dX10_hear_49 rfl ?_
            refine V_geti C fl_X10_151 dX10_hear_50 (by decide) sh_85 rfl ?_
            refine V_eqi (y := X 85 19) rfl ?_
            refine V_eqi (y := nI D) hd ?_
            refine V_icmp_geN (a := j) (b := D) (tgt := 116) C dX10_hear_53 (by decide) (by omega) (by omega) (fun h53_9 => ?_) (fun h53_9 => ?_)
            · refine V_aload_n C dX10_hear_116 rfl ?_
              refine V_getr C fl_X10_63 dX10_hear_117 (by decide) sh_85 rfl ?_
              refine V_aload_n C dX10_hear_120 rfl ?_
              refine V_geti C fl_X10_154 dX10_hear_121 (by decide) sh_85 rfl ?_
              refine V_eqi (y := X 85 25) rfl ?_
              refine V_eqi (y := nI R) hr0 ?_
              refine V_iload_n C dX10_hear_124 rfl ?_
              refine V_iastN (p0 := 102) (o := R) (X1 := (ma (ma (ma X 85 (upd (X 85) 0 (0 : Int32))) 101 f) 102 (upd (X 102) R (nI mm)))) C dX10_hear_125 sh_102 (by decide) (by omega) (by decide) rfl ?_
              refine V_aload_n C dX10_hear_126 rfl ?_
              refine V_getr C fl_X10_66 dX10_hear_127 (by decide) sh_85 rfl ?_
              refine V_aload_n C dX10_hear_130 rfl ?_
              refine V_geti C fl_X10_154 dX10_hear_131 (by decide) sh_85 rfl ?_
              refine V_eqi (y := X 85 25) rfl ?_
              refine V_eqi (y := nI R) hr0 ?_
              refine V_iload_n C dX10_hear_134 rfl ?_
              refine V_iastN (p0 := 103) (o := R) (X1 := (ma (ma (ma (ma X 85 (upd (X 85) 0 (0 : Int32))) 101 f) 102 (upd (X 102) R (nI mm))) 103 (upd (X 103) R v))) C dX10_hear_135 sh_103 (by decide) (by omega) (by decide) rfl ?_
              refine V_aload_n C dX10_hear_136 rfl ?_
              refine V_getr C fl_X10_69 dX10_hear_137 (by decide) sh_85 rfl ?_
              refine V_aload_n C dX10_hear_140 rfl ?_
              refine V_geti C fl_X10_154 dX10_hear_141 (by decide) sh_85 rfl ?_
              refine V_eqi (y := X 85 25) rfl ?_
              refine V_eqi (y := nI R) hr0 ?_
              refine V_iload_n C dX10_hear_144 rfl ?_
              refine V_iastN (p0 := 104) (o := R) (X1 := (ma (ma (ma (ma (ma X 85 (upd (X 85) 0 (0 : Int32))) 101 f) 102 (upd (X 102) R (nI mm))) 103 (upd (X 103) R v)) 104 (upd (X 104) R ln))) C dX10_hear_145 sh_104 (by decide) (by omega) (by decide) rfl ?_
              refine V_aload_n C dX10_hear_146 rfl ?_
              refine V_getr C fl_X10_72 dX10_hear_147 (by decide) sh_85 rfl ?_
              refine V_aload_n C dX10_hear_150 rfl ?_
              refine V_geti C fl_X10_154 dX10_hear_151 (by decide) sh_85 rfl ?_
              refine V_eqi (y := X 85 25) rfl ?_
              refine V_eqi (y := nI R) hr0 ?_
              refine V_iconst (v := (1 : Int32)) C dX10_hear_154 (by decide) ?_
              refine V_bastN (p0 := 105) (o := R) (X1 := (ma (ma (ma (ma (ma (ma X 85 (upd (X 85) 0 (0 : Int32))) 101 f) 102 (upd (X 102) R (nI mm))) 103 (upd (X 103) R v)) 104 (upd (X 104) R ln)) 105 (upd (X 105) R (1 : Int32)))) C dX10_hear_155 sh_105 (by decide) (by omega) (by decide) (Or.inr rfl) rfl ?_
              refine V_aload_n C dX10_hear_156 rfl ?_
              refine V_dup C dX10_hear_157 rfl ?_
              refine V_geti C fl_X10_154 dX10_hear_158 (by decide) sh_85 rfl ?_
              refine V_eqi (y := X 85 25) rfl ?_
              refine V_eqi (y := nI R) hr0 ?_
              refine V_iconst (v := (1 : Int32)) C dX10_hear_161 (by decide) ?_
              refine V_iaddN (a := R) (b := 1) C dX10_hear_162 ?_
              refine V_put C fp_X10_154 dX10_hear_163 (by decide) sh_85 rfl ?_
              refine V_eqX (X1 := (ma (ma (ma (ma (ma (ma X 85 (upd (upd (X 85) 0 (0 : Int32)) 25 (nI (R + 1)))) 101 f) 102 (upd (X 102) R (nI mm))) 103 (upd (X 103) R v)) 104 (upd (X 104) R ln)) 105 (upd (X 105) R (1 : Int32)))) (ma_in5 (by decide) (by decide) (by decide) (by decide) (by decide)) ?_
              refine V_aload_n C dX10_hear_166 rfl ?_
              refine V_iconst (v := (0 : Int32)) C dX10_hear_167 (by decide) ?_
              refine V_put C fp_X10_151 dX10_hear_168 (by decide) sh_85 rfl ?_
              refine V_eqX (X1 := (ma (ma (ma (ma (ma (ma X 85 (upd (upd (upd (X 85) 0 (0 : Int32)) 25 (nI (R + 1))) 19 (0 : Int32))) 101 f) 102 (upd (X 102) R (nI mm))) 103 (upd (X 103) R v)) 104 (upd (X 104) R ln)) 105 (upd (X 105) R (1 : Int32)))) (ma_in5 (by decide) (by decide) (by decide) (by decide) (by decide)) ?_
              refine V_aload_n C dX10_hear_171 rfl ?_
              refine V_geti C fl_X10_154 dX10_hear_172 (by decide) sh_85 rfl ?_
              refine V_eqi (y := nI (R + 1)) rfl ?_
              refine V_iconst (v := (1 : Int32)) C dX10_hear_175 (by decide) ?_
              refine V_isubN (a := R + 1) (b := 1) C dX10_hear_176 (by omega) ?_
              exact V_ireturnI C dX10_hear_177 (Or.inr ⟨⟨(by assumption), ⟨by omega, by omega⟩⟩, by rw [Nat.add_sub_cancel], f, ⟨(show j = D from by omega) ▸ hf, hk⟩, by rw [hm, show j = D by omega]⟩)
            · refine V_iload_n C dX10_hear_56 rfl ?_
              refine V_if_eqN (a := mm) (tgt := 86) C dX10_hear_57 (by decide) (by omega) (fun h57_10 => ?_) (fun h57_10 => ?_)
              · refine V_aload_n C dX10_hear_86 rfl ?_
                refine V_getr C fl_X10_60 dX10_hear_87 (by decide) sh_85 rfl ?_
                refine V_bipush (v := (6 : Int32)) C dX10_hear_90 (by decide) ?_
                refine V_aload_n C dX10_hear_92 rfl ?_
                refine V_geti C fl_X10_154 dX10_hear_93 (by decide) sh_85 rfl ?_
                refine V_eqi (y := X 85 25) rfl ?_
                refine V_eqi (y := nI R) hr0 ?_
                refine V_imulN (a := 6) (b := R) C dX10_hear_96 ?_
                refine V_iload_n C dX10_hear_97 rfl ?_
                refine V_iaddN (a := 6 * R) (b := mm) C dX10_hear_98 ?_
                refine V_aload_n C dX10_hear_99 rfl ?_
                refine V_getr C fl_X10_57 dX10_hear_100 (by decide) sh_85 rfl ?_
                refine V_iload C dX10_hear_103 rfl ?_
                refine V_ialdN (p0 := 100) (o := j) (v := X 100 j) C dX10_hear_105 sh_100 (by decide) (by omega) (by decide) rfl ?_
                have hq11 : dr j < 10 := (hP j (by omega)).2
                refine V_eqi (y := nI (dr j)) ((hP j (by omega)).1) ?_
                refine V_iastN (p0 := 101) (o := 6 * R + mm) (X1 := (ma (ma X 85 (upd (X 85) 0 (0 : Int32))) 101 (upd (f) (6 * R + mm) (nI (dr j))))) C dX10_hear_106 sh_101 (by decide) (by omega) (by decide) (ma_ma _ _ _ _) ?_
                refine V_iincN (a := mm) (ls1 := [some (.ref (w.2.1 85)), some (.int v), some (.int ln), some (.int (nI (mm + 1))), some (.int (nI j))]) C dX10_hear_107 rfl (by decide) rfl ?_
                refine V_iincN (a := j) (ls1 := [some (.ref (w.2.1 85)), some (.int v), some (.int ln), some (.int (nI (mm + 1))), some (.int (nI (j + 1)))]) C dX10_hear_110 rfl (by decide) rfl ?_
                refine V_goto (tgt := 47) C dX10_hear_113 (by decide) ?_
                exact ih47 (mm + 1) (j + 1) (upd (f) (6 * R + mm) (nI (dr j))) (by omega) (by omega) (by rw [hm, sqn_y (by first | exact sqk_0 hm (by assumption) | exact sqk_y (m := mm) (x := sqp dr j (mm - 1)) (by omega) (by assumption))]) (by have g := SqR_y (b := 6 * R) (dr := dr) (j := j) (by first | exact sqk_0 hm (by assumption) | exact sqk_y (m := mm) (x := sqp dr j (mm - 1)) (by omega) (by assumption)) hf; rwa [← hm] at g) (fun x hx => (upd_ne (by omega)).trans (hk x hx))
              · refine V_aload_n C dX10_hear_60 rfl ?_
                refine V_getr C fl_X10_60 dX10_hear_61 (by decide) sh_85 rfl ?_
                refine V_bipush (v := (6 : Int32)) C dX10_hear_64 (by decide) ?_
                refine V_aload_n C dX10_hear_66 rfl ?_
                refine V_geti C fl_X10_154 dX10_hear_67 (by decide) sh_85 rfl ?_
                refine V_eqi (y := X 85 25) rfl ?_
                refine V_eqi (y := nI R) hr0 ?_
                refine V_imulN (a := 6) (b := R) C dX10_hear_70 ?_
                refine V_iload_n C dX10_hear_71 rfl ?_
                refine V_iaddN (a := 6 * R) (b := mm) C dX10_hear_72 ?_
                refine V_iconst (v := (1 : Int32)) C dX10_hear_73 (by decide) ?_
                refine V_isubN (a := 6 * R + mm) (b := 1) C dX10_hear_74 (by omega) ?_
                refine V_ialdN (p0 := 101) (o := (6 * R + mm) - 1) (v := f ((6 * R + mm) - 1)) C dX10_hear_75 sh_101 (by decide) (by omega) (by decide) rfl ?_
                have hq12 : (1 ≤ j ∧ sqp dr j (mm - 1) = dr (j - 1)) ∧ sqp dr j (mm - 1) < 10 := (by have g := sqp_lst hm (by assumption); exact ⟨g, by rw [g.2]; exact (hP (j - 1) (by omega)).2⟩)
                refine V_eqi (y := nI (sqp dr j (mm - 1))) (by have g := hf (mm - 1) (by omega); rwa [show 6 * R + (mm - 1) = 6 * R + mm - 1 from by omega] at g) ?_
                refine V_aload_n C dX10_hear_76 rfl ?_
                refine V_getr C fl_X10_57 dX10_hear_77 (by decide) sh_85 rfl ?_
                refine V_iload C dX10_hear_80 rfl ?_
                refine V_ialdN (p0 := 100) (o := j) (v := X 100 j) C dX10_hear_82 sh_100 (by decide) (by omega) (by decide) rfl ?_
                have hq13 : dr j < 10 := (hP j (by omega)).2
                refine V_eqi (y := nI (dr j)) ((hP j (by omega)).1) ?_
                refine V_icmp_eqN (a := sqp dr j (mm - 1)) (b := dr j) (tgt := 110) C dX10_hear_83 (by decide) (by omega) (by omega) (fun h83_14 => ?_) (fun h83_14 => ?_)
                · refine V_iincN (a := j) (ls1 := [some (.ref (w.2.1 85)), some (.int v), some (.int ln), some (.int (nI mm)), some (.int (nI (j + 1)))]) C dX10_hear_110 rfl (by decide) rfl ?_
                  refine V_goto (tgt := 47) C dX10_hear_113 (by decide) ?_
                  exact ih47 mm (j + 1) f (by omega) (by omega) (by rw [hm, sqn_n (sqk_n (x := sqp dr j (mm - 1)) (by omega) (by omega) (by assumption))]) (SqR_n (sqk_n (x := sqp dr j (mm - 1)) (by omega) (by omega) (by assumption)) hf) hk
                · refine V_aload_n C dX10_hear_86 rfl ?_
                  refine V_getr C fl_X10_60 dX10_hear_87 (by decide) sh_85 rfl ?_
                  refine V_bipush (v := (6 : Int32)) C dX10_hear_90 (by decide) ?_
                  refine V_aload_n C dX10_hear_92 rfl ?_
                  refine V_geti C fl_X10_154 dX10_hear_93 (by decide) sh_85 rfl ?_
                  refine V_eqi (y := X 85 25) rfl ?_
                  refine V_eqi (y := nI R) hr0 ?_
                  refine V_imulN (a := 6) (b := R) C dX10_hear_96 ?_
                  refine V_iload_n C dX10_hear_97 rfl ?_
                  refine V_iaddN (a := 6 * R) (b := mm) C dX10_hear_98 ?_
                  refine V_aload_n C dX10_hear_99 rfl ?_
                  refine V_getr C fl_X10_57 dX10_hear_100 (by decide) sh_85 rfl ?_
                  refine V_iload C dX10_hear_103 rfl ?_
                  refine V_ialdN (p0 := 100) (o := j) (v := X 100 j) C dX10_hear_105 sh_100 (by decide) (by omega) (by decide) rfl ?_
                  have hq15 : dr j < 10 := (hP j (by omega)).2
                  refine V_eqi (y := nI (dr j)) ((hP j (by omega)).1) ?_
                  refine V_iastN (p0 := 101) (o := 6 * R + mm) (X1 := (ma (ma X 85 (upd (X 85) 0 (0 : Int32))) 101 (upd (f) (6 * R + mm) (nI (dr j))))) C dX10_hear_106 sh_101 (by decide) (by omega) (by decide) (ma_ma _ _ _ _) ?_
                  refine V_iincN (a := mm) (ls1 := [some (.ref (w.2.1 85)), some (.int v), some (.int ln), some (.int (nI (mm + 1))), some (.int (nI j))]) C dX10_hear_107 rfl (by decide) rfl ?_
                  refine V_iincN (a := j) (ls1 := [some (.ref (w.2.1 85)), some (.int v), some (.int ln), some (.int (nI (mm + 1))), some (.int (nI (j + 1)))]) C dX10_hear_110 rfl (by decide) rfl ?_
                  refine V_goto (tgt := 47) C dX10_hear_113 (by decide) ?_
                  exact ih47 (mm + 1) (j + 1) (upd (f) (6 * R + mm) (nI (dr j))) (by omega) (by omega) (by rw [hm, sqn_y (by first | exact sqk_0 hm (by assumption) | exact sqk_y (m := mm) (x := sqp dr j (mm - 1)) (by omega) (by assumption))]) (by have g := SqR_y (b := 6 * R) (dr := dr) (j := j) (by first | exact sqk_0 hm (by assumption) | exact sqk_y (m := mm) (x := sqp dr j (mm - 1)) (by omega) (by assumption)) hf; rwa [← hm] at g) (fun x hx => (upd_ne (by omega)).trans (hk x hx))
        refine V_eqX (X1 := (ma (ma X 85 (upd (X 85) 0 (0 : Int32))) 101 (X 101))) (ma_id rfl) ?_
        exact L47 _ 0 0 (X 101) (Nat.lt_succ_self _) (by omega) rfl (fun x hx => absurd hx (Nat.not_lt_zero _)) (fun _ _ => rfl)
      · refine V_iconst (v := (2 : Int32)) C dX10_hear_29 (by decide) ?_
        refine V_goto (tgt := 34) C dX10_hear_30 (by decide) ?_
        refine V_callVI C [.int (2 : Int32)] mi_X10_119 (k_X10_isFine_2 w l X ) dX10_hear_34 sh_85 (by decide) rfl rfl rfl (Nat.le_of_ble_eq_true rfl) (Nat.le_of_ble_eq_true rfl) (Nat.le_of_ble_eq_true rfl) ⟨Nat.le_refl _, Nat.le_refl _⟩ (fun v16 X16 q16 => ?_)
        obtain ⟨ev16, eX16⟩ := q16; subst X16; subst v16
        refine V_if_ne (x := (0 : Int32)) (tgt := 42) C dX10_hear_37 (by decide) (fun h => absurd h (by decide)) (fun _ => ?_)
        refine V_iconst (v := (0 : Int32)) C dX10_hear_40 (by decide) ?_
        exact V_ireturnI C dX10_hear_41 (Or.inl ⟨2, Or.inr ⟨rfl, (by assumption), (by omega)⟩, rfl, rfl⟩)
  · refine V_iconst (v := (1 : Int32)) C dX10_hear_9 (by decide) ?_
    refine V_goto (tgt := 34) C dX10_hear_10 (by decide) ?_
    refine V_callVI C [.int (1 : Int32)] mi_X10_119 (k_X10_isFine_1 w l X ) dX10_hear_34 sh_85 (by decide) rfl rfl rfl (Nat.le_of_ble_eq_true rfl) (Nat.le_of_ble_eq_true rfl) (Nat.le_of_ble_eq_true rfl) ⟨Nat.le_refl _, Nat.le_refl _⟩ (fun v18 X18 q18 => ?_)
    obtain ⟨ev18, eX18⟩ := q18; subst X18; subst v18
    refine V_if_ne (x := (0 : Int32)) (tgt := 42) C dX10_hear_37 (by decide) (fun h => absurd h (by decide)) (fun _ => ?_)
    refine V_iconst (v := (0 : Int32)) C dX10_hear_40 (by decide) ?_
    exact V_ireturnI C dX10_hear_41 (Or.inl ⟨1, Or.inl ⟨rfl, (by first | exact fun q => absurd q (by assumption))⟩, rfl, rfl⟩)
def q_X10_withdraw (v : Int32) (X : Mem) (R : Nat) : Int32 → Mem → Prop := fun r X' => (∃ c, Cd2 (Btw v 0 (nI R - 1)) (∀ a, a < R → v = nI a → ¬ X 105 a = 0) c ∧ r = 0 ∧ X' = ma X 85 (upd (X 85) 0 c)) ∨ (((Btw v 0 (nI R - 1)) ∧ (∀ a, a < R → v = nI a → ¬ X 105 a = 0)) ∧ ∃ a, a < R ∧ v = nI a ∧ r = nI (sumN (fun x => oneIf (¬ upd (X 105) a (0 : Int32) x = 0)) R) ∧ X' = ma (ma X 85 (upd (X 85) 0 (0 : Int32))) 105 (upd (X 105) a (0 : Int32)))
set_option maxHeartbeats 4000000 in
set_option maxRecDepth 100000 in
theorem k_X10_withdraw (w : Wt) (l : Launch) (v : Int32) (X : Mem) (R : Nat) (hr0 : X 85 25 = nI R) (R24 : R ≤ 24) : CtI w l yX10_withdraw cX10_withdraw 5 (some .int) 2 42 [.ref (w.2.1 85), .int v] X (q_X10_withdraw v X R) := by
  refine CtI_of (by decide +kernel) (Nat.le_of_ble_eq_true rfl) (List.forall_mem_cons.mpr ⟨rfl, (List.forall_mem_cons.mpr ⟨rfl, (fun _ h => nomatch h)⟩)⟩) (ls := [some (.ref (w.2.1 85)), some (.int v), none, none, none]) rfl (args := (#[.ref (w.2.1 85), .int v] : Array Value)) rfl (own := RX10) rfl ?_
  intro p e s m below meth c C
  refine V_iload_n C dX10_withdraw_0 rfl ?_
  refine V_iconst (v := (0 : Int32)) C dX10_withdraw_1 (by decide) ?_
  refine V_aload_n C dX10_withdraw_2 rfl ?_
  refine V_geti C fl_X10_154 dX10_withdraw_3 (by decide) sh_85 rfl ?_
  refine V_eqi (y := nI R) hr0 ?_
  refine V_iconst (v := (1 : Int32)) C dX10_withdraw_6 (by decide) ?_
  refine V_isub C dX10_withdraw_7 ?_
  refine V_callSI C [.int v, .int (0 : Int32), .int ((nI R) - (1 : Int32))] ms_X10_108 (k_X10_isBetween w l v (0 : Int32) ((nI R) - (1 : Int32)) X ) dX10_withdraw_8 rfl rfl (Nat.le_of_ble_eq_true rfl) (Nat.le_of_ble_eq_true rfl) (Nat.le_of_ble_eq_true rfl) ⟨Nat.le_refl _, Nat.le_refl _⟩ (fun v1 X1 q1 => ?_)
  obtain ⟨hb1, eX1⟩ := q1; subst X1
  refine V_istore_n (ls1 := [some (.ref (w.2.1 85)), some (.int v), some (.int v1), none, none]) C dX10_withdraw_11 (by decide) rfl ?_
  refine V_aload_n C dX10_withdraw_12 rfl ?_
  refine V_iload_n C dX10_withdraw_13 rfl ?_
  refine V_if_neB (tgt := 21) C hb1 dX10_withdraw_14 (by decide) (fun h14_2 => ?_) (fun h14_2 => ?_)
  · have hg1 : Btw v 0 (nI R - 1) := by assumption
    obtain ⟨a, ha, ea⟩ := obj_of (n := R) (by omega) hg1
    subst ea
    refine V_aload_n C dX10_withdraw_21 rfl ?_
    refine V_getr C fl_X10_72 dX10_withdraw_22 (by decide) sh_85 rfl ?_
    refine V_iload_n C dX10_withdraw_25 rfl ?_
    refine V_baldN (p0 := 105) (o := a) (v := X 105 a) C dX10_withdraw_26 sh_105 (by decide) (by omega) (by decide) rfl ?_
    refine V_if_ne (x := X 105 a) (tgt := 34) C dX10_withdraw_27 (by decide) (fun h27_3 => ?_) (fun h27_3 => ?_)
    · refine V_iconst (v := (0 : Int32)) C dX10_withdraw_34 (by decide) ?_
      refine V_callVI C [.int (0 : Int32)] mi_X10_119 (k_X10_isFine_0 w l X ) dX10_withdraw_35 sh_85 (by decide) rfl rfl rfl (Nat.le_of_ble_eq_true rfl) (Nat.le_of_ble_eq_true rfl) (Nat.le_of_ble_eq_true rfl) ⟨Nat.le_refl _, Nat.le_refl _⟩ (fun v4 X4 q4 => ?_)
      obtain ⟨ev4, eX4⟩ := q4; subst X4; subst v4
      refine V_if_ne (x := (1 : Int32)) (tgt := 43) C dX10_withdraw_38 (by decide) (fun _ => ?_) (fun h => absurd h (by decide))
      refine V_aload_n C dX10_withdraw_43 rfl ?_
      refine V_getr C fl_X10_72 dX10_withdraw_44 (by decide) sh_85 rfl ?_
      refine V_iload_n C dX10_withdraw_47 rfl ?_
      refine V_iconst (v := (0 : Int32)) C dX10_withdraw_48 (by decide) ?_
      refine V_bastN (p0 := 105) (o := a) (X1 := (ma (ma X 85 (upd (X 85) 0 (0 : Int32))) 105 (upd (X 105) a (0 : Int32)))) C dX10_withdraw_49 sh_105 (by decide) (by omega) (by decide) (Or.inl rfl) rfl ?_
      refine V_iconst (v := (0 : Int32)) C dX10_withdraw_50 (by decide) ?_
      refine V_istore_n (ls1 := [some (.ref (w.2.1 85)), some (.int (nI a)), some (.int v1), some (.int (0 : Int32)), none]) C dX10_withdraw_51 (by decide) rfl ?_
      refine V_iconst (v := (0 : Int32)) C dX10_withdraw_52 (by decide) ?_
      refine V_istore (ls1 := [some (.ref (w.2.1 85)), some (.int (nI a)), some (.int v1), some (.int (0 : Int32)), some (.int (0 : Int32))]) C dX10_withdraw_53 (by decide) rfl ?_
      have L55 : ∀ (fu : Nat) (mm : Nat) (x0 : Nat), R - x0 < fu → (x0 ≤ R) → (mm = sumN (fun x => oneIf (¬ upd (X 105) a (0 : Int32) x = 0)) x0) → V p l e ({ frames := 2, cells := 0, slots := 0, locals := 42 } : Room) s m (#[.ref (w.2.1 85), .int (nI a)] : Array Value) below meth c w 5 0 0 (EI w below s (#[.ref (w.2.1 85), .int (nI a)] : Array Value) 0 0 (q_X10_withdraw (nI a) X R)) 55 [some (.ref (w.2.1 85)), some (.int (nI a)), some (.int v1), some (.int (nI mm)), some (.int (nI x0))] [] (ma (ma X 85 (upd (X 85) 0 (0 : Int32))) 105 (upd (X 105) a (0 : Int32))) := by
        intro fu
        induction fu with
        | zero => intro mm x0 hm; exact absurd hm (Nat.not_lt_zero _)
        | succ fu ih55 =>
          intro mm x0 hm55 hx hm
          refine V_iload C dX10_withdraw_55 rfl ?_
          refine V_aload_n C dX10_withdraw_57 rfl ?_
          refine V_geti C fl_X10_154 dX10_withdraw_58 (by decide) sh_85 rfl ?_
          refine V_eqi (y := X 85 25) rfl ?_
          refine V_eqi (y := nI R) hr0 ?_
          refine V_icmp_geN (a := x0) (b := R) (tgt := 88) C dX10_withdraw_61 (by decide) (by omega) (by omega) (fun h61_6 => ?_) (fun h61_6 => ?_)
          · refine V_iload_n C dX10_withdraw_88 rfl ?_
            exact V_ireturnI C dX10_withdraw_89 (Or.inr ⟨⟨(by assumption), (fun b g1 g2 => by have g3 := (nI_eq (by omega) (by omega)).mp g2; subst g3; assumption)⟩, a, by omega, rfl, by rw [hm, show x0 = R by omega], rfl⟩)
          · refine V_iload_n C dX10_withdraw_64 rfl ?_
            refine V_aload_n C dX10_withdraw_65 rfl ?_
            refine V_getr C fl_X10_72 dX10_withdraw_66 (by decide) sh_85 rfl ?_
            refine V_iload C dX10_withdraw_69 rfl ?_
            refine V_baldN (p0 := 105) (o := x0) (v := (upd (X 105) a (0 : Int32)) x0) C dX10_withdraw_71 sh_105 (by decide) (by omega) (by decide) rfl ?_
            refine V_if_eq (x := (upd (X 105) a (0 : Int32)) x0) (tgt := 79) C dX10_withdraw_72 (by decide) (fun h72_7 => ?_) (fun h72_7 => ?_)
            · refine V_iconst (v := (0 : Int32)) C dX10_withdraw_79 (by decide) ?_
              refine V_iaddN (a := mm) (b := 0) C dX10_withdraw_80 ?_
              refine V_istore_n (ls1 := [some (.ref (w.2.1 85)), some (.int (nI a)), some (.int v1), some (.int (nI mm)), some (.int (nI x0))]) C dX10_withdraw_81 (by decide) rfl ?_
              refine V_iincN (a := x0) (ls1 := [some (.ref (w.2.1 85)), some (.int (nI a)), some (.int v1), some (.int (nI mm)), some (.int (nI (x0 + 1)))]) C dX10_withdraw_82 rfl (by decide) rfl ?_
              refine V_goto (tgt := 55) C dX10_withdraw_85 (by decide) ?_
              exact ih55 mm (x0 + 1) (by omega) (by omega) (by rw [hm]; exact (sum_n (p := fun x => ¬ upd (X 105) a (0 : Int32) x = 0) (fun q => q (by assumption))).symm)
            · refine V_iconst (v := (1 : Int32)) C dX10_withdraw_75 (by decide) ?_
              refine V_goto (tgt := 80) C dX10_withdraw_76 (by decide) ?_
              refine V_iaddN (a := mm) (b := 1) C dX10_withdraw_80 ?_
              refine V_istore_n (ls1 := [some (.ref (w.2.1 85)), some (.int (nI a)), some (.int v1), some (.int (nI (mm + 1))), some (.int (nI x0))]) C dX10_withdraw_81 (by decide) rfl ?_
              refine V_iincN (a := x0) (ls1 := [some (.ref (w.2.1 85)), some (.int (nI a)), some (.int v1), some (.int (nI (mm + 1))), some (.int (nI (x0 + 1)))]) C dX10_withdraw_82 rfl (by decide) rfl ?_
              refine V_goto (tgt := 55) C dX10_withdraw_85 (by decide) ?_
              exact ih55 (mm + 1) (x0 + 1) (by omega) (by omega) (by rw [hm]; exact (sum_y (p := fun x => ¬ upd (X 105) a (0 : Int32) x = 0) (by assumption)).symm)
      exact L55 _ 0 0 (Nat.lt_succ_self _) (by omega) rfl
    · refine V_iconst (v := (2 : Int32)) C dX10_withdraw_30 (by decide) ?_
      refine V_goto (tgt := 35) C dX10_withdraw_31 (by decide) ?_
      refine V_callVI C [.int (2 : Int32)] mi_X10_119 (k_X10_isFine_2 w l X ) dX10_withdraw_35 sh_85 (by decide) rfl rfl rfl (Nat.le_of_ble_eq_true rfl) (Nat.le_of_ble_eq_true rfl) (Nat.le_of_ble_eq_true rfl) ⟨Nat.le_refl _, Nat.le_refl _⟩ (fun v8 X8 q8 => ?_)
      obtain ⟨ev8, eX8⟩ := q8; subst X8; subst v8
      refine V_if_ne (x := (0 : Int32)) (tgt := 43) C dX10_withdraw_38 (by decide) (fun h => absurd h (by decide)) (fun _ => ?_)
      refine V_iconst (v := (0 : Int32)) C dX10_withdraw_41 (by decide) ?_
      exact V_ireturnI C dX10_withdraw_42 (Or.inl ⟨2, Or.inr ⟨rfl, (by assumption), (fun q => q a (by omega) rfl (by assumption))⟩, rfl, rfl⟩)
  · refine V_iconst (v := (1 : Int32)) C dX10_withdraw_17 (by decide) ?_
    refine V_goto (tgt := 35) C dX10_withdraw_18 (by decide) ?_
    refine V_callVI C [.int (1 : Int32)] mi_X10_119 (k_X10_isFine_1 w l X ) dX10_withdraw_35 sh_85 (by decide) rfl rfl rfl (Nat.le_of_ble_eq_true rfl) (Nat.le_of_ble_eq_true rfl) (Nat.le_of_ble_eq_true rfl) ⟨Nat.le_refl _, Nat.le_refl _⟩ (fun v10 X10 q10 => ?_)
    obtain ⟨ev10, eX10⟩ := q10; subst X10; subst v10
    refine V_if_ne (x := (0 : Int32)) (tgt := 43) C dX10_withdraw_38 (by decide) (fun h => absurd h (by decide)) (fun _ => ?_)
    refine V_iconst (v := (0 : Int32)) C dX10_withdraw_41 (by decide) ?_
    exact V_ireturnI C dX10_withdraw_42 (Or.inl ⟨1, Or.inl ⟨rfl, (by first | exact fun q => absurd q (by assumption))⟩, rfl, rfl⟩)
def q_X10_tie (v : Int32) (u : Int32) (wt : Int32) (X : Mem) : Int32 → Mem → Prop := fun r X' => (∃ c, Cd2 (Btw v 0 9 ∧ Btw u 0 9) (¬ v = u ∧ Btw wt 0 3) c ∧ r = 0 ∧ X' = ma X 85 (upd (X 85) 0 c)) ∨ (((Btw v 0 9 ∧ Btw u 0 9) ∧ (¬ v = u ∧ Btw wt 0 3)) ∧ ∃ a b, a < 10 ∧ b < 10 ∧ v = nI a ∧ u = nI b ∧ r = X 106 (10 * a + b) ∧ X' = ma (ma X 85 (upd (X 85) 0 (0 : Int32))) 106 (upd (upd (X 106) (10 * a + b) wt) (10 * b + a) (turnS wt)))
set_option maxHeartbeats 4000000 in
set_option maxRecDepth 100000 in
theorem k_X10_tie (w : Wt) (l : Launch) (v : Int32) (u : Int32) (wt : Int32) (X : Mem) : CtI w l yX10_tie cX10_tie 6 (some .int) 3 62 [.ref (w.2.1 85), .int v, .int u, .int wt] X (q_X10_tie v u wt X) := by
  refine CtI_of (by decide +kernel) (Nat.le_of_ble_eq_true rfl) (List.forall_mem_cons.mpr ⟨rfl, (List.forall_mem_cons.mpr ⟨rfl, (List.forall_mem_cons.mpr ⟨rfl, (List.forall_mem_cons.mpr ⟨rfl, (fun _ h => nomatch h)⟩)⟩)⟩)⟩) (ls := [some (.ref (w.2.1 85)), some (.int v), some (.int u), some (.int wt), none, none]) rfl (args := (#[.ref (w.2.1 85), .int v, .int u, .int wt] : Array Value)) rfl (own := RX10) rfl ?_
  intro p e s m below meth c C
  refine V_iload_n C dX10_tie_0 rfl ?_
  refine V_callSI C [.int v] ms_X10_125 (k_X10_isNet w l v X ) dX10_tie_1 rfl rfl (Nat.le_of_ble_eq_true rfl) (Nat.le_of_ble_eq_true rfl) (Nat.le_of_ble_eq_true rfl) ⟨Nat.le_refl _, Nat.le_refl _⟩ (fun v1 X1 q1 => ?_)
  obtain ⟨hb1, eX1⟩ := q1; subst X1
  refine V_if_eqB (tgt := 18) C hb1 dX10_tie_4 (by decide) (fun h4_2 => ?_) (fun h4_2 => ?_)
  · refine V_iconst (v := (0 : Int32)) C dX10_tie_18 (by decide) ?_
    refine V_istore (ls1 := [some (.ref (w.2.1 85)), some (.int v), some (.int u), some (.int wt), some (.int (0 : Int32)), none]) C dX10_tie_19 (by decide) rfl ?_
    refine V_aload_n C dX10_tie_21 rfl ?_
    refine V_iload C dX10_tie_22 rfl ?_
    refine V_if_ne (x := (0 : Int32)) (tgt := 31) C dX10_tie_24 (by decide) (fun h => absurd h (by decide)) (fun _ => ?_)
    refine V_iconst (v := (1 : Int32)) C dX10_tie_27 (by decide) ?_
    refine V_goto (tgt := 50) C dX10_tie_28 (by decide) ?_
    refine V_callVI C [.int (1 : Int32)] mi_X10_119 (k_X10_isFine_1 w l X ) dX10_tie_50 sh_85 (by decide) rfl rfl rfl (Nat.le_of_ble_eq_true rfl) (Nat.le_of_ble_eq_true rfl) (Nat.le_of_ble_eq_true rfl) ⟨Nat.le_refl _, Nat.le_refl _⟩ (fun v4 X4 q4 => ?_)
    obtain ⟨ev4, eX4⟩ := q4; subst X4; subst v4
    refine V_if_ne (x := (0 : Int32)) (tgt := 58) C dX10_tie_53 (by decide) (fun h => absurd h (by decide)) (fun _ => ?_)
    refine V_iconst (v := (0 : Int32)) C dX10_tie_56 (by decide) ?_
    exact V_ireturnI C dX10_tie_57 (Or.inl ⟨1, Or.inl ⟨rfl, (by first | exact fun q => absurd q.1 (by assumption) | exact fun q => absurd q.2 (by assumption))⟩, rfl, rfl⟩)
  · refine V_iload_n C dX10_tie_7 rfl ?_
    refine V_callSI C [.int u] ms_X10_125 (k_X10_isNet w l u X ) dX10_tie_8 rfl rfl (Nat.le_of_ble_eq_true rfl) (Nat.le_of_ble_eq_true rfl) (Nat.le_of_ble_eq_true rfl) ⟨Nat.le_refl _, Nat.le_refl _⟩ (fun v6 X6 q6 => ?_)
    obtain ⟨hb6, eX6⟩ := q6; subst X6
    refine V_if_eqB (tgt := 18) C hb6 dX10_tie_11 (by decide) (fun h11_7 => ?_) (fun h11_7 => ?_)
    · refine V_iconst (v := (0 : Int32)) C dX10_tie_18 (by decide) ?_
      refine V_istore (ls1 := [some (.ref (w.2.1 85)), some (.int v), some (.int u), some (.int wt), some (.int (0 : Int32)), none]) C dX10_tie_19 (by decide) rfl ?_
      refine V_aload_n C dX10_tie_21 rfl ?_
      refine V_iload C dX10_tie_22 rfl ?_
      refine V_if_ne (x := (0 : Int32)) (tgt := 31) C dX10_tie_24 (by decide) (fun h => absurd h (by decide)) (fun _ => ?_)
      refine V_iconst (v := (1 : Int32)) C dX10_tie_27 (by decide) ?_
      refine V_goto (tgt := 50) C dX10_tie_28 (by decide) ?_
      refine V_callVI C [.int (1 : Int32)] mi_X10_119 (k_X10_isFine_1 w l X ) dX10_tie_50 sh_85 (by decide) rfl rfl rfl (Nat.le_of_ble_eq_true rfl) (Nat.le_of_ble_eq_true rfl) (Nat.le_of_ble_eq_true rfl) ⟨Nat.le_refl _, Nat.le_refl _⟩ (fun v9 X9 q9 => ?_)
      obtain ⟨ev9, eX9⟩ := q9; subst X9; subst v9
      refine V_if_ne (x := (0 : Int32)) (tgt := 58) C dX10_tie_53 (by decide) (fun h => absurd h (by decide)) (fun _ => ?_)
      refine V_iconst (v := (0 : Int32)) C dX10_tie_56 (by decide) ?_
      exact V_ireturnI C dX10_tie_57 (Or.inl ⟨1, Or.inl ⟨rfl, (by first | exact fun q => absurd q.1 (by assumption) | exact fun q => absurd q.2 (by assumption))⟩, rfl, rfl⟩)
    · refine V_iconst (v := (1 : Int32)) C dX10_tie_14 (by decide) ?_
      refine V_goto (tgt := 19) C dX10_tie_15 (by decide) ?_
      refine V_istore (ls1 := [some (.ref (w.2.1 85)), some (.int v), some (.int u), some (.int wt), some (.int (1 : Int32)), none]) C dX10_tie_19 (by decide) rfl ?_
      refine V_aload_n C dX10_tie_21 rfl ?_
      refine V_iload C dX10_tie_22 rfl ?_
      refine V_if_ne (x := (1 : Int32)) (tgt := 31) C dX10_tie_24 (by decide) (fun _ => ?_) (fun h => absurd h (by decide))
      refine V_iload_n C dX10_tie_31 rfl ?_
      refine V_iload_n C dX10_tie_32 rfl ?_
      refine V_icmp_eq (x := v) (y := u) (tgt := 45) C dX10_tie_33 (by decide) (fun h33_12 => ?_) (fun h33_12 => ?_)
      · refine V_iconst (v := (2 : Int32)) C dX10_tie_45 (by decide) ?_
        refine V_goto (tgt := 50) C dX10_tie_46 (by decide) ?_
        refine V_callVI C [.int (2 : Int32)] mi_X10_119 (k_X10_isFine_2 w l X ) dX10_tie_50 sh_85 (by decide) rfl rfl rfl (Nat.le_of_ble_eq_true rfl) (Nat.le_of_ble_eq_true rfl) (Nat.le_of_ble_eq_true rfl) ⟨Nat.le_refl _, Nat.le_refl _⟩ (fun v13 X13 q13 => ?_)
        obtain ⟨ev13, eX13⟩ := q13; subst X13; subst v13
        refine V_if_ne (x := (0 : Int32)) (tgt := 58) C dX10_tie_53 (by decide) (fun h => absurd h (by decide)) (fun _ => ?_)
        refine V_iconst (v := (0 : Int32)) C dX10_tie_56 (by decide) ?_
        exact V_ireturnI C dX10_tie_57 (Or.inl ⟨2, Or.inr ⟨rfl, ⟨by assumption, by assumption⟩, (by first | exact fun q => q.1 (by assumption) | exact fun q => absurd q.2 (by assumption))⟩, rfl, rfl⟩)
      · refine V_iload_n C dX10_tie_36 rfl ?_
        refine V_iconst (v := (0 : Int32)) C dX10_tie_37 (by decide) ?_
        refine V_iconst (v := (3 : Int32)) C dX10_tie_38 (by decide) ?_
        refine V_callSI C [.int wt, .int (0 : Int32), .int (3 : Int32)] ms_X10_108 (k_X10_isBetween w l wt (0 : Int32) (3 : Int32) X ) dX10_tie_39 rfl rfl (Nat.le_of_ble_eq_true rfl) (Nat.le_of_ble_eq_true rfl) (Nat.le_of_ble_eq_true rfl) ⟨Nat.le_refl _, Nat.le_refl _⟩ (fun v15 X15 q15 => ?_)
        obtain ⟨hb15, eX15⟩ := q15; subst X15
        refine V_if_neB (tgt := 49) C hb15 dX10_tie_42 (by decide) (fun h42_16 => ?_) (fun h42_16 => ?_)
        · refine V_iconst (v := (0 : Int32)) C dX10_tie_49 (by decide) ?_
          refine V_callVI C [.int (0 : Int32)] mi_X10_119 (k_X10_isFine_0 w l X ) dX10_tie_50 sh_85 (by decide) rfl rfl rfl (Nat.le_of_ble_eq_true rfl) (Nat.le_of_ble_eq_true rfl) (Nat.le_of_ble_eq_true rfl) ⟨Nat.le_refl _, Nat.le_refl _⟩ (fun v17 X17 q17 => ?_)
          obtain ⟨ev17, eX17⟩ := q17; subst X17; subst v17
          refine V_if_ne (x := (1 : Int32)) (tgt := 58) C dX10_tie_53 (by decide) (fun _ => ?_) (fun h => absurd h (by decide))
          have hg1 : Btw v 0 9 := by assumption
          have hg2 : Btw u 0 9 := by assumption
          obtain ⟨a, ha, ea⟩ := net_at hg1
          subst ea
          obtain ⟨b, hb, eb⟩ := net_at hg2
          subst eb
          refine V_aload_n C dX10_tie_58 rfl ?_
          refine V_getr C fl_X10_75 dX10_tie_59 (by decide) sh_85 rfl ?_
          refine V_bipush (v := (10 : Int32)) C dX10_tie_62 (by decide) ?_
          refine V_iload_n C dX10_tie_64 rfl ?_
          refine V_imulN (a := 10) (b := a) C dX10_tie_65 ?_
          refine V_iload_n C dX10_tie_66 rfl ?_
          refine V_iaddN (a := 10 * a) (b := b) C dX10_tie_67 ?_
          refine V_ialdN (p0 := 106) (o := 10 * a + b) (v := X 106 (10 * a + b)) C dX10_tie_68 sh_106 (by decide) (by omega) (by decide) rfl ?_
          refine V_istore (ls1 := [some (.ref (w.2.1 85)), some (.int (nI a)), some (.int (nI b)), some (.int wt), some (.int (1 : Int32)), some (.int (X 106 (10 * a + b)))]) C dX10_tie_69 (by decide) rfl ?_
          refine V_aload_n C dX10_tie_71 rfl ?_
          refine V_getr C fl_X10_75 dX10_tie_72 (by decide) sh_85 rfl ?_
          refine V_bipush (v := (10 : Int32)) C dX10_tie_75 (by decide) ?_
          refine V_iload_n C dX10_tie_77 rfl ?_
          refine V_imulN (a := 10) (b := a) C dX10_tie_78 ?_
          refine V_iload_n C dX10_tie_79 rfl ?_
          refine V_iaddN (a := 10 * a) (b := b) C dX10_tie_80 ?_
          refine V_iload_n C dX10_tie_81 rfl ?_
          refine V_iastN (p0 := 106) (o := 10 * a + b) (X1 := (ma (ma X 85 (upd (X 85) 0 (0 : Int32))) 106 (upd (X 106) (10 * a + b) wt))) C dX10_tie_82 sh_106 (by decide) (by omega) (by decide) rfl ?_
          refine V_aload_n C dX10_tie_83 rfl ?_
          refine V_getr C fl_X10_75 dX10_tie_84 (by decide) sh_85 rfl ?_
          refine V_bipush (v := (10 : Int32)) C dX10_tie_87 (by decide) ?_
          refine V_iload_n C dX10_tie_89 rfl ?_
          refine V_imulN (a := 10) (b := b) C dX10_tie_90 ?_
          refine V_iload_n C dX10_tie_91 rfl ?_
          refine V_iaddN (a := 10 * b) (b := a) C dX10_tie_92 ?_
          refine V_iload_n C dX10_tie_93 rfl ?_
          refine V_callSI C [.int wt] ms_X10_157 (k_X10_turned w l wt (ma (ma X 85 (upd (X 85) 0 (0 : Int32))) 106 (upd (X 106) (10 * a + b) wt)) ) dX10_tie_94 rfl rfl (Nat.le_of_ble_eq_true rfl) (Nat.le_of_ble_eq_true rfl) (Nat.le_of_ble_eq_true rfl) ⟨Nat.le_refl _, Nat.le_refl _⟩ (fun v19 X19 q19 => ?_)
          obtain ⟨ev19, eX19⟩ := q19; subst X19
          try simp (disch := decide) only [oC_ma, gC_ma, oM_ma, gM_ma, tC_ma, tM_ma, ma_eq, ma_ne] at ev19
          subst v19
          refine V_iastN (p0 := 106) (o := 10 * b + a) (X1 := (ma (ma X 85 (upd (X 85) 0 (0 : Int32))) 106 (upd (upd (X 106) (10 * a + b) wt) (10 * b + a) (turnS wt)))) C dX10_tie_97 sh_106 (by decide) (by omega) (by decide) (ma_ma _ _ _ _) ?_
          refine V_iload C dX10_tie_98 rfl ?_
          exact V_ireturnI C dX10_tie_100 (Or.inr ⟨⟨⟨by assumption, by assumption⟩, ⟨by assumption, by assumption⟩⟩, a, b, by omega, by omega, rfl, rfl, rfl, rfl⟩)
        · refine V_iconst (v := (2 : Int32)) C dX10_tie_45 (by decide) ?_
          refine V_goto (tgt := 50) C dX10_tie_46 (by decide) ?_
          refine V_callVI C [.int (2 : Int32)] mi_X10_119 (k_X10_isFine_2 w l X ) dX10_tie_50 sh_85 (by decide) rfl rfl rfl (Nat.le_of_ble_eq_true rfl) (Nat.le_of_ble_eq_true rfl) (Nat.le_of_ble_eq_true rfl) ⟨Nat.le_refl _, Nat.le_refl _⟩ (fun v20 X20 q20 => ?_)
          obtain ⟨ev20, eX20⟩ := q20; subst X20; subst v20
          refine V_if_ne (x := (0 : Int32)) (tgt := 58) C dX10_tie_53 (by decide) (fun h => absurd h (by decide)) (fun _ => ?_)
          refine V_iconst (v := (0 : Int32)) C dX10_tie_56 (by decide) ?_
          exact V_ireturnI C dX10_tie_57 (Or.inl ⟨2, Or.inr ⟨rfl, ⟨by assumption, by assumption⟩, (by first | exact fun q => q.1 (by assumption) | exact fun q => absurd q.2 (by assumption))⟩, rfl, rfl⟩)
