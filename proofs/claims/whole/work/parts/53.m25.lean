def q_X10_today (X : Mem) : Int32 → Mem → Prop := fun r X' => r = X 85 1 ∧ X' = ma X 85 (upd (X 85) 0 (0 : Int32))
set_option maxHeartbeats 4000000 in
set_option maxRecDepth 100000 in
theorem k_X10_today (w : Wt) (l : Launch) (X : Mem) : CtI w l yX10_today cX10_today 1 (some .int) 1 20 [.ref (w.2.1 85)] X (q_X10_today X) := by
  refine CtI_of (by decide +kernel) (Nat.le_of_ble_eq_true rfl) (List.forall_mem_cons.mpr ⟨rfl, (fun _ h => nomatch h)⟩) (ls := [some (.ref (w.2.1 85))]) rfl (args := (#[.ref (w.2.1 85)] : Array Value)) rfl (own := RX10) rfl ?_
  intro p e s m below meth c C
  refine V_aload_n C dX10_today_0 rfl ?_
  refine V_iconst (v := (0 : Int32)) C dX10_today_1 (by decide) ?_
  refine V_put C fp_X10_105 dX10_today_2 (by decide) sh_85 rfl ?_
  refine V_aload_n C dX10_today_5 rfl ?_
  refine V_geti C fl_X10_122 dX10_today_6 (by decide) sh_85 rfl ?_
  refine V_eqi (y := X 85 1) rfl ?_
  exact V_ireturnI C dX10_today_9 ⟨rfl, rfl⟩
def q_X10_objects (X : Mem) : Int32 → Mem → Prop := fun r X' => r = X 85 17 ∧ X' = ma X 85 (upd (X 85) 0 (0 : Int32))
set_option maxHeartbeats 4000000 in
set_option maxRecDepth 100000 in
theorem k_X10_objects (w : Wt) (l : Launch) (X : Mem) : CtI w l yX10_objects cX10_objects 1 (some .int) 1 20 [.ref (w.2.1 85)] X (q_X10_objects X) := by
  refine CtI_of (by decide +kernel) (Nat.le_of_ble_eq_true rfl) (List.forall_mem_cons.mpr ⟨rfl, (fun _ h => nomatch h)⟩) (ls := [some (.ref (w.2.1 85))]) rfl (args := (#[.ref (w.2.1 85)] : Array Value)) rfl (own := RX10) rfl ?_
  intro p e s m below meth c C
  refine V_aload_n C dX10_objects_0 rfl ?_
  refine V_iconst (v := (0 : Int32)) C dX10_objects_1 (by decide) ?_
  refine V_put C fp_X10_105 dX10_objects_2 (by decide) sh_85 rfl ?_
  refine V_aload_n C dX10_objects_5 rfl ?_
  refine V_geti C fl_X10_112 dX10_objects_6 (by decide) sh_85 rfl ?_
  refine V_eqi (y := X 85 17) rfl ?_
  exact V_ireturnI C dX10_objects_9 ⟨rfl, rfl⟩
def q_X10_routes (X : Mem) : Int32 → Mem → Prop := fun r X' => r = X 85 25 ∧ X' = ma X 85 (upd (X 85) 0 (0 : Int32))
set_option maxHeartbeats 4000000 in
set_option maxRecDepth 100000 in
theorem k_X10_routes (w : Wt) (l : Launch) (X : Mem) : CtI w l yX10_routes cX10_routes 1 (some .int) 1 20 [.ref (w.2.1 85)] X (q_X10_routes X) := by
  refine CtI_of (by decide +kernel) (Nat.le_of_ble_eq_true rfl) (List.forall_mem_cons.mpr ⟨rfl, (fun _ h => nomatch h)⟩) (ls := [some (.ref (w.2.1 85))]) rfl (args := (#[.ref (w.2.1 85)] : Array Value)) rfl (own := RX10) rfl ?_
  intro p e s m below meth c C
  refine V_aload_n C dX10_routes_0 rfl ?_
  refine V_iconst (v := (0 : Int32)) C dX10_routes_1 (by decide) ?_
  refine V_put C fp_X10_105 dX10_routes_2 (by decide) sh_85 rfl ?_
  refine V_aload_n C dX10_routes_5 rfl ?_
  refine V_geti C fl_X10_154 dX10_routes_6 (by decide) sh_85 rfl ?_
  refine V_eqi (y := X 85 25) rfl ?_
  exact V_ireturnI C dX10_routes_9 ⟨rfl, rfl⟩
def q_X10_thrown (X : Mem) : Int32 → Mem → Prop := fun r X' => r = X 85 0 ∧ X' = X
set_option maxHeartbeats 4000000 in
set_option maxRecDepth 100000 in
theorem k_X10_thrown (w : Wt) (l : Launch) (X : Mem) : CtI w l yX10_thrown cX10_thrown 1 (some .int) 1 20 [.ref (w.2.1 85)] X (q_X10_thrown X) := by
  refine CtI_of (by decide +kernel) (Nat.le_of_ble_eq_true rfl) (List.forall_mem_cons.mpr ⟨rfl, (fun _ h => nomatch h)⟩) (ls := [some (.ref (w.2.1 85))]) rfl (args := (#[.ref (w.2.1 85)] : Array Value)) rfl (own := RX10) rfl ?_
  intro p e s m below meth c C
  refine V_aload_n C dX10_thrown_0 rfl ?_
  refine V_geti C fl_X10_105 dX10_thrown_1 (by decide) sh_85 rfl ?_
  exact V_ireturnI C dX10_thrown_4 ⟨rfl, rfl⟩
def q_X10_judged (v : Int32) (X : Mem) (h n : Nat) : Int32 → Mem → Prop := fun r X' => (∃ c, Cd1 (Btw v 0 (nI n - 1)) c ∧ r = 0 ∧ X' = ma X 85 (upd (X 85) 0 c)) ∨ (((Btw v 0 (nI n - 1))) ∧ ∃ o, o < n ∧ v = nI o ∧ ∃ V, X' = ma (ma X 85 (upd (X 85) 0 (0 : Int32))) 107 V ∧ IsV (oM X) (gM X) n (X 85 1) V ∧ r = V o)
set_option maxHeartbeats 4000000 in
set_option maxRecDepth 100000 in
theorem k_X10_judged (w : Wt) (l : Launch) (v : Int32) (X : Mem) (h n : Nat) (hO : OInv (oM X) h n) (hG : GInv (gM X) h) (hn : X 85 17 = nI n) (hh : X 85 5 = nI h) : CtI w l yX10_judged cX10_judged 2 (some .int) 5 112 [.ref (w.2.1 85), .int v] X (q_X10_judged v X h n) := by
  have n50 := hO.1
  have h1 := hG.1
  have h8 := hG.2.1
  refine CtI_of (by decide +kernel) (Nat.le_of_ble_eq_true rfl) (List.forall_mem_cons.mpr ⟨rfl, (List.forall_mem_cons.mpr ⟨rfl, (fun _ h => nomatch h)⟩)⟩) (ls := [some (.ref (w.2.1 85)), some (.int v)]) rfl (args := (#[.ref (w.2.1 85), .int v] : Array Value)) rfl (own := RX10) rfl ?_
  intro p e s m below meth c C
  refine V_aload_n C dX10_judged_0 rfl ?_
  refine V_aload_n C dX10_judged_1 rfl ?_
  refine V_iload_n C dX10_judged_2 rfl ?_
  refine V_callVI C [.int v] mi_X10_148 (k_X10_isObject w l v X n hn n50) dX10_judged_3 sh_85 (by decide) rfl rfl rfl (Nat.le_of_ble_eq_true rfl) (Nat.le_of_ble_eq_true rfl) (Nat.le_of_ble_eq_true rfl) ⟨Nat.le_refl _, Nat.le_refl _⟩ (fun v1 X1 q1 => ?_)
  obtain ⟨hb1, eX1⟩ := q1; subst X1
  refine V_if_eqB (tgt := 13) C hb1 dX10_judged_6 (by decide) (fun h6_2 => ?_) (fun h6_2 => ?_)
  · refine V_iconst (v := (1 : Int32)) C dX10_judged_13 (by decide) ?_
    refine V_callVI C [.int (1 : Int32)] mi_X10_119 (k_X10_isFine_1 w l X ) dX10_judged_14 sh_85 (by decide) rfl rfl rfl (Nat.le_of_ble_eq_true rfl) (Nat.le_of_ble_eq_true rfl) (Nat.le_of_ble_eq_true rfl) ⟨Nat.le_refl _, Nat.le_refl _⟩ (fun v3 X3 q3 => ?_)
    obtain ⟨ev3, eX3⟩ := q3; subst X3; subst v3
    refine V_if_ne (x := (0 : Int32)) (tgt := 22) C dX10_judged_17 (by decide) (fun h => absurd h (by decide)) (fun _ => ?_)
    refine V_iconst (v := (0 : Int32)) C dX10_judged_20 (by decide) ?_
    exact V_ireturnI C dX10_judged_21 (Or.inl ⟨1, ⟨rfl, (by first | exact fun q => absurd q (by assumption))⟩, rfl, rfl⟩)
  · refine V_iconst (v := (0 : Int32)) C dX10_judged_9 (by decide) ?_
    refine V_goto (tgt := 14) C dX10_judged_10 (by decide) ?_
    refine V_callVI C [.int (0 : Int32)] mi_X10_119 (k_X10_isFine_0 w l X ) dX10_judged_14 sh_85 (by decide) rfl rfl rfl (Nat.le_of_ble_eq_true rfl) (Nat.le_of_ble_eq_true rfl) (Nat.le_of_ble_eq_true rfl) ⟨Nat.le_refl _, Nat.le_refl _⟩ (fun v5 X5 q5 => ?_)
    obtain ⟨ev5, eX5⟩ := q5; subst X5; subst v5
    refine V_if_ne (x := (1 : Int32)) (tgt := 22) C dX10_judged_17 (by decide) (fun _ => ?_) (fun h => absurd h (by decide))
    have hg1 : Btw v 0 (nI n - 1) := by assumption
    obtain ⟨o, ho, eo⟩ := obj_of n50 hg1
    subst eo
    refine V_aload_n C dX10_judged_22 rfl ?_
    refine V_callVU C [] mi_X10_176 (k_X10_judges w l (ma X 85 (upd (X 85) 0 (0 : Int32))) h n (by rw [oM_ma (by decide)]; exact hO) (by rw [gM_ma (by decide)]; exact hG) hn hh) dX10_judged_23 sh_85 (by decide) rfl rfl rfl (Nat.le_of_ble_eq_true rfl) (Nat.le_of_ble_eq_true rfl) (Nat.le_of_ble_eq_true rfl) ⟨Nat.le_refl _, Nat.le_refl _⟩ (fun X7 q7 => ?_)
    obtain ⟨V7, eX7, hV7⟩ := q7
    subst X7
    try simp (disch := decide) only [oC_ma, gC_ma, oM_ma, gM_ma, tC_ma, tM_ma, ma_eq, ma_ne] at hV7
    refine V_aload_n C dX10_judged_26 rfl ?_
    refine V_getr C fl_X10_78 dX10_judged_27 (by decide) sh_85 rfl ?_
    refine V_iload_n C dX10_judged_30 rfl ?_
    refine V_ialdN (p0 := 107) (o := o) (v := V7 o) C dX10_judged_31 sh_107 (by decide) (by omega) (by decide) rfl ?_
    exact V_ireturnI C dX10_judged_32 (Or.inr ⟨(by assumption), o, by omega, rfl, V7, rfl, hV7, rfl⟩)
def q_X10_hasNow (hd : Int32) (v : Int32) (b : Int32) (X : Mem) (h n : Nat) : Int32 → Mem → Prop := fun r X' => (r = 0 ∨ r = 1) ∧ ((∃ c, Cd2 (Btw hd 0 (nI (h - 1))) (Blk v b) c ∧ r = 0 ∧ X' = ma X 85 (upd (X 85) 0 c)) ∨ ((Btw hd 0 (nI (h - 1)) ∧ Blk v b) ∧ ∃ V, X' = ma (ma X 85 (upd (X 85) 0 (0 : Int32))) 107 V ∧ IsV (oM X) (gM X) n (X 85 1) V ∧ bI (HasB (oM X) V n hd v b) r))
set_option maxHeartbeats 4000000 in
set_option maxRecDepth 100000 in
theorem k_X10_hasNow (w : Wt) (l : Launch) (hd : Int32) (v : Int32) (b : Int32) (X : Mem) (h n : Nat) (hO : OInv (oM X) h n) (hG : GInv (gM X) h) (hn : X 85 17 = nI n) (hh : X 85 5 = nI h) : CtI w l yX10_hasNow cX10_hasNow 4 (some .boolean) 5 112 [.ref (w.2.1 85), .int hd, .int v, .int b] X (q_X10_hasNow hd v b X h n) := by
  have n50 := hO.1
  have h1 := hG.1
  have h8 := hG.2.1
  refine CtI_of (by decide +kernel) (Nat.le_of_ble_eq_true rfl) (List.forall_mem_cons.mpr ⟨rfl, (List.forall_mem_cons.mpr ⟨rfl, (List.forall_mem_cons.mpr ⟨rfl, (List.forall_mem_cons.mpr ⟨rfl, (fun _ h => nomatch h)⟩)⟩)⟩)⟩) (ls := [some (.ref (w.2.1 85)), some (.int hd), some (.int v), some (.int b)]) rfl (args := (#[.ref (w.2.1 85), .int hd, .int v, .int b] : Array Value)) rfl (own := RX10) rfl ?_
  intro p e s m below meth c C
  refine V_aload_n C dX10_hasNow_0 rfl ?_
  refine V_aload_n C dX10_hasNow_1 rfl ?_
  refine V_iload_n C dX10_hasNow_2 rfl ?_
  refine V_callVI C [.int hd] mi_X10_115 (k_X10_isHolder w l hd X h hh h1 h8) dX10_hasNow_3 sh_85 (by decide) rfl rfl rfl (Nat.le_of_ble_eq_true rfl) (Nat.le_of_ble_eq_true rfl) (Nat.le_of_ble_eq_true rfl) ⟨Nat.le_refl _, Nat.le_refl _⟩ (fun v1 X1 q1 => ?_)
  obtain ⟨hb1, eX1⟩ := q1; subst X1
  refine V_if_neB (tgt := 13) C hb1 dX10_hasNow_6 (by decide) (fun h6_2 => ?_) (fun h6_2 => ?_)
  · refine V_iload_n C dX10_hasNow_13 rfl ?_
    refine V_iload_n C dX10_hasNow_14 rfl ?_
    refine V_callSI C [.int v, .int b] ms_X10_137 (k_X10_isBlock w l v b X ) dX10_hasNow_15 rfl rfl (Nat.le_of_ble_eq_true rfl) (Nat.le_of_ble_eq_true rfl) (Nat.le_of_ble_eq_true rfl) ⟨Nat.le_refl _, Nat.le_refl _⟩ (fun v3 X3 q3 => ?_)
    obtain ⟨hb3, eX3⟩ := q3; subst X3
    refine V_if_neB (tgt := 25) C hb3 dX10_hasNow_18 (by decide) (fun h18_4 => ?_) (fun h18_4 => ?_)
    · refine V_iconst (v := (0 : Int32)) C dX10_hasNow_25 (by decide) ?_
      refine V_callVI C [.int (0 : Int32)] mi_X10_119 (k_X10_isFine_0 w l X ) dX10_hasNow_26 sh_85 (by decide) rfl rfl rfl (Nat.le_of_ble_eq_true rfl) (Nat.le_of_ble_eq_true rfl) (Nat.le_of_ble_eq_true rfl) ⟨Nat.le_refl _, Nat.le_refl _⟩ (fun v5 X5 q5 => ?_)
      obtain ⟨ev5, eX5⟩ := q5; subst X5; subst v5
      refine V_if_ne (x := (1 : Int32)) (tgt := 34) C dX10_hasNow_29 (by decide) (fun _ => ?_) (fun h => absurd h (by decide))
      refine V_aload_n C dX10_hasNow_34 rfl ?_
      refine V_callVU C [] mi_X10_176 (k_X10_judges w l (ma X 85 (upd (X 85) 0 (0 : Int32))) h n (by rw [oM_ma (by decide)]; exact hO) (by rw [gM_ma (by decide)]; exact hG) hn hh) dX10_hasNow_35 sh_85 (by decide) rfl rfl rfl (Nat.le_of_ble_eq_true rfl) (Nat.le_of_ble_eq_true rfl) (Nat.le_of_ble_eq_true rfl) ⟨Nat.le_refl _, Nat.le_refl _⟩ (fun X7 q7 => ?_)
      obtain ⟨V7, eX7, hV7⟩ := q7
      subst X7
      try simp (disch := decide) only [oC_ma, gC_ma, oM_ma, gM_ma, tC_ma, tM_ma, ma_eq, ma_ne] at hV7
      refine V_aload_n C dX10_hasNow_38 rfl ?_
      refine V_iload_n C dX10_hasNow_39 rfl ?_
      refine V_iload_n C dX10_hasNow_40 rfl ?_
      refine V_iload_n C dX10_hasNow_41 rfl ?_
      refine V_callVI C [.int hd, .int v, .int b] mi_X10_167 (k_X10_has0 w l hd v b (ma (ma X 85 (upd (X 85) 0 (0 : Int32))) 107 V7) n hn n50) dX10_hasNow_42 sh_85 (by decide) rfl rfl rfl (Nat.le_of_ble_eq_true rfl) (Nat.le_of_ble_eq_true rfl) (Nat.le_of_ble_eq_true rfl) ⟨Nat.le_refl _, Nat.le_refl _⟩ (fun v8 X8 q8 => ?_)
      obtain ⟨hb8, eX8⟩ := q8; subst X8
      try simp (disch := decide) only [oC_ma, gC_ma, oM_ma, gM_ma, tC_ma, tM_ma, ma_eq, ma_ne] at hb8
      exact V_zreturnI C dX10_hasNow_45 hb8.z ⟨hb8.z, Or.inr ⟨⟨(by assumption), (by assumption)⟩, V7, rfl, hV7, hb8⟩⟩
    · refine V_iconst (v := (2 : Int32)) C dX10_hasNow_21 (by decide) ?_
      refine V_goto (tgt := 26) C dX10_hasNow_22 (by decide) ?_
      refine V_callVI C [.int (2 : Int32)] mi_X10_119 (k_X10_isFine_2 w l X ) dX10_hasNow_26 sh_85 (by decide) rfl rfl rfl (Nat.le_of_ble_eq_true rfl) (Nat.le_of_ble_eq_true rfl) (Nat.le_of_ble_eq_true rfl) ⟨Nat.le_refl _, Nat.le_refl _⟩ (fun v9 X9 q9 => ?_)
      obtain ⟨ev9, eX9⟩ := q9; subst X9; subst v9
      refine V_if_ne (x := (0 : Int32)) (tgt := 34) C dX10_hasNow_29 (by decide) (fun h => absurd h (by decide)) (fun _ => ?_)
      refine V_iconst (v := (0 : Int32)) C dX10_hasNow_32 (by decide) ?_
      exact V_zreturnI C dX10_hasNow_33 (Or.inl rfl) ⟨Or.inl rfl, Or.inl ⟨2, Or.inr ⟨rfl, (by assumption), (by first | exact fun q => absurd q (by assumption))⟩, rfl, rfl⟩⟩
  · refine V_iconst (v := (1 : Int32)) C dX10_hasNow_9 (by decide) ?_
    refine V_goto (tgt := 26) C dX10_hasNow_10 (by decide) ?_
    refine V_callVI C [.int (1 : Int32)] mi_X10_119 (k_X10_isFine_1 w l X ) dX10_hasNow_26 sh_85 (by decide) rfl rfl rfl (Nat.le_of_ble_eq_true rfl) (Nat.le_of_ble_eq_true rfl) (Nat.le_of_ble_eq_true rfl) ⟨Nat.le_refl _, Nat.le_refl _⟩ (fun v11 X11 q11 => ?_)
    obtain ⟨ev11, eX11⟩ := q11; subst X11; subst v11
    refine V_if_ne (x := (0 : Int32)) (tgt := 34) C dX10_hasNow_29 (by decide) (fun h => absurd h (by decide)) (fun _ => ?_)
    refine V_iconst (v := (0 : Int32)) C dX10_hasNow_32 (by decide) ?_
    exact V_zreturnI C dX10_hasNow_33 (Or.inl rfl) ⟨Or.inl rfl, Or.inl ⟨1, Or.inl ⟨rfl, (by first | exact fun q => absurd q (by assumption))⟩, rfl, rfl⟩⟩
def q_X10_has (hd : Int32) (v : Int32) (b : Int32) (X : Mem) (h n : Nat) : Int32 → Mem → Prop := fun r X' => (r = 0 ∨ r = 1) ∧ ((∃ c, Cd2 (Btw hd 0 (nI (h - 1))) (Blk v b) c ∧ r = 0 ∧ X' = ma X 85 (upd (X 85) 0 c)) ∨ ((Btw hd 0 (nI (h - 1)) ∧ Blk v b) ∧ ∃ V, X' = ma (ma X 85 (upd (X 85) 0 (0 : Int32))) 107 V ∧ IsV (oM X) (gM X) n (X 85 1) V ∧ bI (HasB (oM X) V n hd v b) r))
set_option maxHeartbeats 4000000 in
set_option maxRecDepth 100000 in
theorem k_X10_has (w : Wt) (l : Launch) (hd : Int32) (v : Int32) (b : Int32) (X : Mem) (h n : Nat) (hO : OInv (oM X) h n) (hG : GInv (gM X) h) (hn : X 85 17 = nI n) (hh : X 85 5 = nI h) : CtI w l yX10_has cX10_has 4 (some .boolean) 6 135 [.ref (w.2.1 85), .int hd, .int v, .int b] X (q_X10_has hd v b X h n) := by
  have n50 := hO.1
  have h1 := hG.1
  have h8 := hG.2.1
  refine CtI_of (by decide +kernel) (Nat.le_of_ble_eq_true rfl) (List.forall_mem_cons.mpr ⟨rfl, (List.forall_mem_cons.mpr ⟨rfl, (List.forall_mem_cons.mpr ⟨rfl, (List.forall_mem_cons.mpr ⟨rfl, (fun _ h => nomatch h)⟩)⟩)⟩)⟩) (ls := [some (.ref (w.2.1 85)), some (.int hd), some (.int v), some (.int b)]) rfl (args := (#[.ref (w.2.1 85), .int hd, .int v, .int b] : Array Value)) rfl (own := RX10) rfl ?_
  intro p e s m below meth c C
  refine V_aload_n C dX10_has_0 rfl ?_
  refine V_iload_n C dX10_has_1 rfl ?_
  refine V_iload_n C dX10_has_2 rfl ?_
  refine V_iload_n C dX10_has_3 rfl ?_
  refine V_callVI C [.int hd, .int v, .int b] mi_X10_179 (k_X10_hasNow w l hd v b X h n hO hG hn hh) dX10_has_4 sh_85 (by decide) rfl rfl rfl (Nat.le_of_ble_eq_true rfl) (Nat.le_of_ble_eq_true rfl) (Nat.le_of_ble_eq_true rfl) ⟨Nat.le_refl _, Nat.le_refl _⟩ (fun v1 X1 q1 => ?_)
  obtain ⟨hz1, q1⟩ := q1
  exact V_zreturnI C dX10_has_7 hz1 ⟨hz1, q1⟩
def q_X10_hasByChains (hd : Int32) (v : Int32) (b : Int32) (X : Mem) (h n : Nat) : Int32 → Mem → Prop := fun r X' => (r = 0 ∨ r = 1) ∧ ((∃ c, Cd2 (Btw hd 0 (nI (h - 1))) (Blk v b) c ∧ r = 0 ∧ X' = ma X 85 (upd (X 85) 0 c)) ∨ ((Btw hd 0 (nI (h - 1)) ∧ Blk v b) ∧ ∃ V, X' = ma (ma X 85 (upd (X 85) 0 (0 : Int32))) 107 V ∧ IsV (oM X) (gM X) n (X 85 1) V ∧ bI (HasB (oM X) V n hd v b) r))
set_option maxHeartbeats 4000000 in
set_option maxRecDepth 100000 in
theorem k_X10_hasByChains (w : Wt) (l : Launch) (hd : Int32) (v : Int32) (b : Int32) (X : Mem) (h n : Nat) (hO : OInv (oM X) h n) (hG : GInv (gM X) h) (hn : X 85 17 = nI n) (hh : X 85 5 = nI h) : CtI w l yX10_hasByChains cX10_hasByChains 4 (some .boolean) 6 135 [.ref (w.2.1 85), .int hd, .int v, .int b] X (q_X10_hasByChains hd v b X h n) := by
  have n50 := hO.1
  have h1 := hG.1
  have h8 := hG.2.1
  refine CtI_of (by decide +kernel) (Nat.le_of_ble_eq_true rfl) (List.forall_mem_cons.mpr ⟨rfl, (List.forall_mem_cons.mpr ⟨rfl, (List.forall_mem_cons.mpr ⟨rfl, (List.forall_mem_cons.mpr ⟨rfl, (fun _ h => nomatch h)⟩)⟩)⟩)⟩) (ls := [some (.ref (w.2.1 85)), some (.int hd), some (.int v), some (.int b)]) rfl (args := (#[.ref (w.2.1 85), .int hd, .int v, .int b] : Array Value)) rfl (own := RX10) rfl ?_
  intro p e s m below meth c C
  refine V_aload_n C dX10_hasByChains_0 rfl ?_
  refine V_iload_n C dX10_hasByChains_1 rfl ?_
  refine V_iload_n C dX10_hasByChains_2 rfl ?_
  refine V_iload_n C dX10_hasByChains_3 rfl ?_
  refine V_callVI C [.int hd, .int v, .int b] mi_X10_179 (k_X10_hasNow w l hd v b X h n hO hG hn hh) dX10_hasByChains_4 sh_85 (by decide) rfl rfl rfl (Nat.le_of_ble_eq_true rfl) (Nat.le_of_ble_eq_true rfl) (Nat.le_of_ble_eq_true rfl) ⟨Nat.le_refl _, Nat.le_refl _⟩ (fun v1 X1 q1 => ?_)
  obtain ⟨hz1, q1⟩ := q1
  exact V_zreturnI C dX10_hasByChains_7 hz1 ⟨hz1, q1⟩
def q_X10_state (nt : Int32) (v : Int32) (b : Int32) (X : Mem) (h n : Nat) : Int32 → Mem → Prop := fun r X' => (∃ c, Cd2 (Btw nt 0 9) (Blk v b) c ∧ r = 0 ∧ X' = ma X 85 (upd (X 85) 0 c)) ∨ (((Btw nt 0 9) ∧ (Blk v b)) ∧ ∃ V, X' = ma (ma X 85 (upd (X 85) 0 (0 : Int32))) 107 V ∧ IsV (oM X) (gM X) n (X 85 1) V ∧ StR (oM X) V n nt v b r)
set_option maxHeartbeats 4000000 in
set_option maxRecDepth 100000 in
theorem k_X10_state (w : Wt) (l : Launch) (nt : Int32) (v : Int32) (b : Int32) (X : Mem) (h n : Nat) (hO : OInv (oM X) h n) (hG : GInv (gM X) h) (hn : X 85 17 = nI n) (hh : X 85 5 = nI h) : CtI w l yX10_state cX10_state 4 (some .int) 5 112 [.ref (w.2.1 85), .int nt, .int v, .int b] X (q_X10_state nt v b X h n) := by
  have n50 := hO.1
  have h1 := hG.1
  have h8 := hG.2.1
  refine CtI_of (by decide +kernel) (Nat.le_of_ble_eq_true rfl) (List.forall_mem_cons.mpr ⟨rfl, (List.forall_mem_cons.mpr ⟨rfl, (List.forall_mem_cons.mpr ⟨rfl, (List.forall_mem_cons.mpr ⟨rfl, (fun _ h => nomatch h)⟩)⟩)⟩)⟩) (ls := [some (.ref (w.2.1 85)), some (.int nt), some (.int v), some (.int b)]) rfl (args := (#[.ref (w.2.1 85), .int nt, .int v, .int b] : Array Value)) rfl (own := RX10) rfl ?_
  intro p e s m below meth c C
  refine V_aload_n C dX10_state_0 rfl ?_
  refine V_iload_n C dX10_state_1 rfl ?_
  refine V_callSI C [.int nt] ms_X10_125 (k_X10_isNet w l nt X ) dX10_state_2 rfl rfl (Nat.le_of_ble_eq_true rfl) (Nat.le_of_ble_eq_true rfl) (Nat.le_of_ble_eq_true rfl) ⟨Nat.le_refl _, Nat.le_refl _⟩ (fun v1 X1 q1 => ?_)
  obtain ⟨hb1, eX1⟩ := q1; subst X1
  refine V_if_neB (tgt := 12) C hb1 dX10_state_5 (by decide) (fun h5_2 => ?_) (fun h5_2 => ?_)
  · refine V_iload_n C dX10_state_12 rfl ?_
    refine V_iload_n C dX10_state_13 rfl ?_
    refine V_callSI C [.int v, .int b] ms_X10_137 (k_X10_isBlock w l v b X ) dX10_state_14 rfl rfl (Nat.le_of_ble_eq_true rfl) (Nat.le_of_ble_eq_true rfl) (Nat.le_of_ble_eq_true rfl) ⟨Nat.le_refl _, Nat.le_refl _⟩ (fun v3 X3 q3 => ?_)
    obtain ⟨hb3, eX3⟩ := q3; subst X3
    refine V_if_neB (tgt := 24) C hb3 dX10_state_17 (by decide) (fun h17_4 => ?_) (fun h17_4 => ?_)
    · refine V_iconst (v := (0 : Int32)) C dX10_state_24 (by decide) ?_
      refine V_callVI C [.int (0 : Int32)] mi_X10_119 (k_X10_isFine_0 w l X ) dX10_state_25 sh_85 (by decide) rfl rfl rfl (Nat.le_of_ble_eq_true rfl) (Nat.le_of_ble_eq_true rfl) (Nat.le_of_ble_eq_true rfl) ⟨Nat.le_refl _, Nat.le_refl _⟩ (fun v5 X5 q5 => ?_)
      obtain ⟨ev5, eX5⟩ := q5; subst X5; subst v5
      refine V_if_ne (x := (1 : Int32)) (tgt := 33) C dX10_state_28 (by decide) (fun _ => ?_) (fun h => absurd h (by decide))
      refine V_aload_n C dX10_state_33 rfl ?_
      refine V_callVU C [] mi_X10_176 (k_X10_judges w l (ma X 85 (upd (X 85) 0 (0 : Int32))) h n (by rw [oM_ma (by decide)]; exact hO) (by rw [gM_ma (by decide)]; exact hG) hn hh) dX10_state_34 sh_85 (by decide) rfl rfl rfl (Nat.le_of_ble_eq_true rfl) (Nat.le_of_ble_eq_true rfl) (Nat.le_of_ble_eq_true rfl) ⟨Nat.le_refl _, Nat.le_refl _⟩ (fun X7 q7 => ?_)
      obtain ⟨V7, eX7, hV7⟩ := q7
      subst X7
      try simp (disch := decide) only [oC_ma, gC_ma, oM_ma, gM_ma, tC_ma, tM_ma, ma_eq, ma_ne] at hV7
      refine V_aload_n C dX10_state_37 rfl ?_
      refine V_iload_n C dX10_state_38 rfl ?_
      refine V_iload_n C dX10_state_39 rfl ?_
      refine V_iload_n C dX10_state_40 rfl ?_
      refine V_callVI C [.int nt, .int v, .int b] mi_X10_182 (k_X10_stands w l nt v b (ma (ma X 85 (upd (X 85) 0 (0 : Int32))) 107 V7) n hn n50) dX10_state_41 sh_85 (by decide) rfl rfl rfl (Nat.le_of_ble_eq_true rfl) (Nat.le_of_ble_eq_true rfl) (Nat.le_of_ble_eq_true rfl) ⟨Nat.le_refl _, Nat.le_refl _⟩ (fun v8 X8 q8 => ?_)
      obtain ⟨hv8, eX8⟩ := q8; subst X8
      try simp (disch := decide) only [oC_ma, gC_ma, oM_ma, gM_ma, tC_ma, tM_ma, ma_eq, ma_ne] at hv8
      exact V_ireturnI C dX10_state_44 (Or.inr ⟨⟨(by assumption), (by assumption)⟩, V7, rfl, hV7, hv8⟩)
    · refine V_iconst (v := (2 : Int32)) C dX10_state_20 (by decide) ?_
      refine V_goto (tgt := 25) C dX10_state_21 (by decide) ?_
      refine V_callVI C [.int (2 : Int32)] mi_X10_119 (k_X10_isFine_2 w l X ) dX10_state_25 sh_85 (by decide) rfl rfl rfl (Nat.le_of_ble_eq_true rfl) (Nat.le_of_ble_eq_true rfl) (Nat.le_of_ble_eq_true rfl) ⟨Nat.le_refl _, Nat.le_refl _⟩ (fun v9 X9 q9 => ?_)
      obtain ⟨ev9, eX9⟩ := q9; subst X9; subst v9
      refine V_if_ne (x := (0 : Int32)) (tgt := 33) C dX10_state_28 (by decide) (fun h => absurd h (by decide)) (fun _ => ?_)
      refine V_iconst (v := (0 : Int32)) C dX10_state_31 (by decide) ?_
      exact V_ireturnI C dX10_state_32 (Or.inl ⟨2, Or.inr ⟨rfl, (by assumption), (by first | exact fun q => absurd q (by assumption))⟩, rfl, rfl⟩)
  · refine V_iconst (v := (1 : Int32)) C dX10_state_8 (by decide) ?_
    refine V_goto (tgt := 25) C dX10_state_9 (by decide) ?_
    refine V_callVI C [.int (1 : Int32)] mi_X10_119 (k_X10_isFine_1 w l X ) dX10_state_25 sh_85 (by decide) rfl rfl rfl (Nat.le_of_ble_eq_true rfl) (Nat.le_of_ble_eq_true rfl) (Nat.le_of_ble_eq_true rfl) ⟨Nat.le_refl _, Nat.le_refl _⟩ (fun v11 X11 q11 => ?_)
    obtain ⟨ev11, eX11⟩ := q11; subst X11; subst v11
    refine V_if_ne (x := (0 : Int32)) (tgt := 33) C dX10_state_28 (by decide) (fun h => absurd h (by decide)) (fun _ => ?_)
    refine V_iconst (v := (0 : Int32)) C dX10_state_31 (by decide) ?_
    exact V_ireturnI C dX10_state_32 (Or.inl ⟨1, Or.inl ⟨rfl, (by first | exact fun q => absurd q (by assumption))⟩, rfl, rfl⟩)
def q_X10_isRoute (v : Int32) (X : Mem) (R : Nat) (PP : Nat → Nat → Nat) (Z : Nat → Nat) (Th : Nat → Prop) : Int32 → Mem → Prop := fun r X' => bI (IsRt R Th v) r ∧ X' = X
set_option maxHeartbeats 4000000 in
set_option maxRecDepth 100000 in
theorem k_X10_isRoute (w : Wt) (l : Launch) (v : Int32) (X : Mem) (R : Nat) (PP : Nat → Nat → Nat) (Z : Nat → Nat) (Th : Nat → Prop) (hB : RBm X R PP Z Th) : CtI w l yX10_isRoute cX10_isRoute 2 (some .boolean) 2 42 [.ref (w.2.1 85), .int v] X (q_X10_isRoute v X R PP Z Th) := by
  have hR24 := hB.1
  refine CtI_of (by decide +kernel) (Nat.le_of_ble_eq_true rfl) (List.forall_mem_cons.mpr ⟨rfl, (List.forall_mem_cons.mpr ⟨rfl, (fun _ h => nomatch h)⟩)⟩) (ls := [some (.ref (w.2.1 85)), some (.int v)]) rfl (args := (#[.ref (w.2.1 85), .int v] : Array Value)) rfl (own := RX10) rfl ?_
  intro p e s m below meth c C
  refine V_iload_n C dX10_isRoute_0 rfl ?_
  refine V_iconst (v := (0 : Int32)) C dX10_isRoute_1 (by decide) ?_
  refine V_aload_n C dX10_isRoute_2 rfl ?_
  refine V_geti C fl_X10_154 dX10_isRoute_3 (by decide) sh_85 rfl ?_
  refine V_eqi (y := nI R) hB.2.1 ?_
  refine V_iconst (v := (1 : Int32)) C dX10_isRoute_6 (by decide) ?_
  refine V_isub C dX10_isRoute_7 ?_
  refine V_callSI C [.int v, .int (0 : Int32), .int ((nI R) - (1 : Int32))] ms_X10_108 (k_X10_isBetween w l v (0 : Int32) ((nI R) - (1 : Int32)) X ) dX10_isRoute_8 rfl rfl (Nat.le_of_ble_eq_true rfl) (Nat.le_of_ble_eq_true rfl) (Nat.le_of_ble_eq_true rfl) ⟨Nat.le_refl _, Nat.le_refl _⟩ (fun v1 X1 q1 => ?_)
  obtain ⟨hb1, eX1⟩ := q1; subst X1
  refine V_if_eqB (tgt := 27) C hb1 dX10_isRoute_11 (by decide) (fun h11_2 => ?_) (fun h11_2 => ?_)
  · refine V_iconst (v := (0 : Int32)) C dX10_isRoute_27 (by decide) ?_
    exact V_zreturnI C dX10_isRoute_28 (Or.inl rfl) (by first | exact ⟨bI.f (rt_no hR24 (by assumption)), rfl⟩ | exact ⟨bI.f (fun q => absurd (by assumption) ((hB.2.2 a ha).2.2.2.2.mpr (IsRt_at hR24 ha q))), rfl⟩)
  · have hg1 : Btw v 0 (nI R - 1) := by assumption
    obtain ⟨a, ha, ea⟩ := obj_of (n := R) (by omega) hg1
    subst ea
    refine V_aload_n C dX10_isRoute_14 rfl ?_
    refine V_getr C fl_X10_72 dX10_isRoute_15 (by decide) sh_85 rfl ?_
    refine V_iload_n C dX10_isRoute_18 rfl ?_
    refine V_baldN (p0 := 105) (o := a) (v := X 105 a) C dX10_isRoute_19 sh_105 (by decide) (by omega) (by decide) rfl ?_
    refine V_if_eq (x := X 105 a) (tgt := 27) C dX10_isRoute_20 (by decide) (fun h20_3 => ?_) (fun h20_3 => ?_)
    · refine V_iconst (v := (0 : Int32)) C dX10_isRoute_27 (by decide) ?_
      exact V_zreturnI C dX10_isRoute_28 (Or.inl rfl) (by first | exact ⟨bI.f (rt_no hR24 (by assumption)), rfl⟩ | exact ⟨bI.f (fun q => absurd (by assumption) ((hB.2.2 a ha).2.2.2.2.mpr (IsRt_at hR24 ha q))), rfl⟩)
    · refine V_iconst (v := (1 : Int32)) C dX10_isRoute_23 (by decide) ?_
      refine V_goto (tgt := 28) C dX10_isRoute_24 (by decide) ?_
      exact V_zreturnI C dX10_isRoute_28 (Or.inr rfl) ⟨bI.t ⟨a, ha, rfl, (hB.2.2 a ha).2.2.2.2.mp (by assumption)⟩, rfl⟩
def q_X10_path_1 (v : Int32) (X : Mem) (h n : Nat) (R : Nat) (PP : Nat → Nat → Nat) (Z : Nat → Nat) (Th : Nat → Prop) : Int32 → Mem → Prop := fun r X' => (∃ c, Cd1 (IsRt R Th v) c ∧ r = 0 ∧ X' = ma X 85 (upd (X 85) 0 c)) ∨ (∃ a, (a < R ∧ v = nI a ∧ Th a) ∧ ∃ V hv pv, X' = ma (ma (ma (ma X 85 (upd (X 85) 0 (0 : Int32))) 107 V) 108 pv) 109 hv ∧ (IsV (oM X) (gM X) n (X 85 1) V ∧ VoR (oM X) V n hv pv) ∧ JU hv pv (PP a) (Z a) r)
set_option maxHeartbeats 4000000 in
set_option maxRecDepth 100000 in
theorem k_X10_path_1 (w : Wt) (l : Launch) (v : Int32) (X : Mem) (h n : Nat) (R : Nat) (PP : Nat → Nat → Nat) (Z : Nat → Nat) (Th : Nat → Prop) (hO : OInv (oM X) h n) (hG : GInv (gM X) h) (hn : X 85 17 = nI n) (hh : X 85 5 = nI h) (hB : RBm X R PP Z Th) : CtI w l yX10_path cX10_path 3 (some .int) 6 133 [.ref (w.2.1 85), .int v, .int (1 : Int32)] X (q_X10_path_1 v X h n R PP Z Th) := by
  have n50 := hO.1
  have h1 := hG.1
  have h8 := hG.2.1
  have hR24 := hB.1
  refine CtI_of (by decide +kernel) (Nat.le_of_ble_eq_true rfl) (List.forall_mem_cons.mpr ⟨rfl, (List.forall_mem_cons.mpr ⟨rfl, (List.forall_mem_cons.mpr ⟨rfl, (fun _ h => nomatch h)⟩)⟩)⟩) (ls := [some (.ref (w.2.1 85)), some (.int v), some (.int (1 : Int32))]) rfl (args := (#[.ref (w.2.1 85), .int v, .int (1 : Int32)] : Array Value)) rfl (own := RX10) rfl ?_
  intro p e s m below meth c C
  refine V_aload_n C dX10_path_0 rfl ?_
  refine V_aload_n C dX10_path_1 rfl ?_
  refine V_iload_n C dX10_path_2 rfl ?_
  refine V_callVI C [.int v] mi_X10_200 (k_X10_isRoute w l v X R PP Z Th hB) dX10_path_3 sh_85 (by decide) rfl rfl rfl (Nat.le_of_ble_eq_true rfl) (Nat.le_of_ble_eq_true rfl) (Nat.le_of_ble_eq_true rfl) ⟨Nat.le_refl _, Nat.le_refl _⟩ (fun v1 X1 q1 => ?_)
  obtain ⟨hb1, eX1⟩ := q1; subst X1
  refine V_if_eqB (tgt := 13) C hb1 dX10_path_6 (by decide) (fun h6_2 => ?_) (fun h6_2 => ?_)
  · refine V_iconst (v := (1 : Int32)) C dX10_path_13 (by decide) ?_
    refine V_callVI C [.int (1 : Int32)] mi_X10_119 (k_X10_isFine_1 w l X ) dX10_path_14 sh_85 (by decide) rfl rfl rfl (Nat.le_of_ble_eq_true rfl) (Nat.le_of_ble_eq_true rfl) (Nat.le_of_ble_eq_true rfl) ⟨Nat.le_refl _, Nat.le_refl _⟩ (fun v3 X3 q3 => ?_)
    obtain ⟨ev3, eX3⟩ := q3; subst X3; subst v3
    refine V_if_ne (x := (0 : Int32)) (tgt := 22) C dX10_path_17 (by decide) (fun h => absurd h (by decide)) (fun _ => ?_)
    refine V_iconst (v := (0 : Int32)) C dX10_path_20 (by decide) ?_
    exact V_ireturnI C dX10_path_21 (Or.inl ⟨1, ⟨rfl, by assumption⟩, rfl, rfl⟩)
  · refine V_iconst (v := (0 : Int32)) C dX10_path_9 (by decide) ?_
    refine V_goto (tgt := 14) C dX10_path_10 (by decide) ?_
    refine V_callVI C [.int (0 : Int32)] mi_X10_119 (k_X10_isFine_0 w l X ) dX10_path_14 sh_85 (by decide) rfl rfl rfl (Nat.le_of_ble_eq_true rfl) (Nat.le_of_ble_eq_true rfl) (Nat.le_of_ble_eq_true rfl) ⟨Nat.le_refl _, Nat.le_refl _⟩ (fun v5 X5 q5 => ?_)
    obtain ⟨ev5, eX5⟩ := q5; subst X5; subst v5
    refine V_if_ne (x := (1 : Int32)) (tgt := 22) C dX10_path_17 (by decide) (fun _ => ?_) (fun h => absurd h (by decide))
    have hir : IsRt R Th v := by assumption
    obtain ⟨a, ha, ea, hta⟩ := hir
    subst ea
    refine V_aload_n C dX10_path_22 rfl ?_
    refine V_callVU C [] mi_X10_203 (k_X10_vouches w l (ma X 85 (upd (X 85) 0 (0 : Int32))) h n (by rw [oM_ma (by decide)]; exact hO) (by rw [gM_ma (by decide)]; exact hG) hn hh) dX10_path_23 sh_85 (by decide) rfl rfl rfl (Nat.le_of_ble_eq_true rfl) (Nat.le_of_ble_eq_true rfl) (Nat.le_of_ble_eq_true rfl) ⟨Nat.le_refl _, Nat.le_refl _⟩ (fun X7 q7 => ?_)
    obtain ⟨V7, hv7, pv7, eX7, hVo7⟩ := q7
    subst X7
    try simp (disch := decide) only [oC_ma, gC_ma, oM_ma, gM_ma, tC_ma, tM_ma, ma_eq, ma_ne] at hVo7
    refine V_aload_n C dX10_path_26 rfl ?_
    refine V_aload_n C dX10_path_27 rfl ?_
    refine V_getr C fl_X10_60 dX10_path_28 (by decide) sh_85 rfl ?_
    refine V_bipush (v := (6 : Int32)) C dX10_path_31 (by decide) ?_
    refine V_iload_n C dX10_path_33 rfl ?_
    refine V_imulN (a := 6) (b := a) C dX10_path_34 ?_
    refine V_aload_n C dX10_path_35 rfl ?_
    refine V_getr C fl_X10_63 dX10_path_36 (by decide) sh_85 rfl ?_
    refine V_iload_n C dX10_path_39 rfl ?_
    refine V_ialdN (p0 := 102) (o := a) (v := X 102 a) C dX10_path_40 sh_102 (by decide) (by omega) (by decide) rfl ?_
    have hq8 : 1 ≤ Z a ∧ Z a ≤ 6 := ⟨(hB.2.2 a (by omega)).1, (hB.2.2 a (by omega)).2.1⟩
    refine V_eqi (y := nI (Z a)) ((hB.2.2 a (by omega)).2.2.1) ?_
    refine V_iload_n C dX10_path_41 rfl ?_
    refine V_callVI C [.ref (w.2.1 101), .int (nI (6 * a)), .int (nI (Z a)), .int (1 : Int32)] mi_X10_206 (k_X10_judge_1 w l 101 (6 * a) (Z a) (ma (ma (ma (ma X 85 (upd (X 85) 0 (0 : Int32))) 107 V7) 108 pv7) 109 hv7) 144 (PP a) sh_101 (by decide) (by decide) ((RBm_ma (by decide) (RBm_ma (by decide) (RBm_ma (by decide) (RBm_85 (by decide) hB)))).2.2 a (by omega)).2.2.2.1 (by omega) (by rw [ma_ne (by decide), ma_eq]; exact VoR_inv hO (Nat.le_refl _) hVo7.2) (by omega)) dX10_path_42 sh_85 (by decide) rfl rfl rfl (Nat.le_of_ble_eq_true rfl) (Nat.le_of_ble_eq_true rfl) (Nat.le_of_ble_eq_true rfl) ⟨Nat.le_refl _, Nat.le_refl _⟩ (fun v9 X9 q9 => ?_)
    obtain ⟨hv9, eX9⟩ := q9; subst X9
    try simp (disch := decide) only [oC_ma, gC_ma, oM_ma, gM_ma, tC_ma, tM_ma, ma_eq, ma_ne] at hv9
    exact V_ireturnI C dX10_path_45 (Or.inr ⟨a, ⟨ha, rfl, hta⟩, V7, hv7, pv7, rfl, hVo7, hv9⟩)
def q_X10_path_0 (v : Int32) (X : Mem) (h n : Nat) (R : Nat) (PP : Nat → Nat → Nat) (Z : Nat → Nat) (Th : Nat → Prop) : Int32 → Mem → Prop := fun r X' => (∃ c, Cd1 (IsRt R Th v) c ∧ r = 0 ∧ X' = ma X 85 (upd (X 85) 0 c)) ∨ (∃ a, (a < R ∧ v = nI a ∧ Th a) ∧ ∃ V hv pv, X' = ma (ma (ma (ma X 85 (upd (X 85) 0 (0 : Int32))) 107 V) 108 pv) 109 hv ∧ (IsV (oM X) (gM X) n (X 85 1) V ∧ VoR (oM X) V n hv pv) ∧ JD hv pv (PP a) (Z a) r)
set_option maxHeartbeats 4000000 in
set_option maxRecDepth 100000 in
theorem k_X10_path_0 (w : Wt) (l : Launch) (v : Int32) (X : Mem) (h n : Nat) (R : Nat) (PP : Nat → Nat → Nat) (Z : Nat → Nat) (Th : Nat → Prop) (hO : OInv (oM X) h n) (hG : GInv (gM X) h) (hn : X 85 17 = nI n) (hh : X 85 5 = nI h) (hB : RBm X R PP Z Th) : CtI w l yX10_path cX10_path 3 (some .int) 6 133 [.ref (w.2.1 85), .int v, .int (0 : Int32)] X (q_X10_path_0 v X h n R PP Z Th) := by
  have n50 := hO.1
  have h1 := hG.1
  have h8 := hG.2.1
  have hR24 := hB.1
  refine CtI_of (by decide +kernel) (Nat.le_of_ble_eq_true rfl) (List.forall_mem_cons.mpr ⟨rfl, (List.forall_mem_cons.mpr ⟨rfl, (List.forall_mem_cons.mpr ⟨rfl, (fun _ h => nomatch h)⟩)⟩)⟩) (ls := [some (.ref (w.2.1 85)), some (.int v), some (.int (0 : Int32))]) rfl (args := (#[.ref (w.2.1 85), .int v, .int (0 : Int32)] : Array Value)) rfl (own := RX10) rfl ?_
  intro p e s m below meth c C
  refine V_aload_n C dX10_path_0 rfl ?_
  refine V_aload_n C dX10_path_1 rfl ?_
  refine V_iload_n C dX10_path_2 rfl ?_
  refine V_callVI C [.int v] mi_X10_200 (k_X10_isRoute w l v X R PP Z Th hB) dX10_path_3 sh_85 (by decide) rfl rfl rfl (Nat.le_of_ble_eq_true rfl) (Nat.le_of_ble_eq_true rfl) (Nat.le_of_ble_eq_true rfl) ⟨Nat.le_refl _, Nat.le_refl _⟩ (fun v1 X1 q1 => ?_)
  obtain ⟨hb1, eX1⟩ := q1; subst X1
  refine V_if_eqB (tgt := 13) C hb1 dX10_path_6 (by decide) (fun h6_2 => ?_) (fun h6_2 => ?_)
  · refine V_iconst (v := (1 : Int32)) C dX10_path_13 (by decide) ?_
    refine V_callVI C [.int (1 : Int32)] mi_X10_119 (k_X10_isFine_1 w l X ) dX10_path_14 sh_85 (by decide) rfl rfl rfl (Nat.le_of_ble_eq_true rfl) (Nat.le_of_ble_eq_true rfl) (Nat.le_of_ble_eq_true rfl) ⟨Nat.le_refl _, Nat.le_refl _⟩ (fun v3 X3 q3 => ?_)
    obtain ⟨ev3, eX3⟩ := q3; subst X3; subst v3
    refine V_if_ne (x := (0 : Int32)) (tgt := 22) C dX10_path_17 (by decide) (fun h => absurd h (by decide)) (fun _ => ?_)
    refine V_iconst (v := (0 : Int32)) C dX10_path_20 (by decide) ?_
    exact V_ireturnI C dX10_path_21 (Or.inl ⟨1, ⟨rfl, by assumption⟩, rfl, rfl⟩)
  · refine V_iconst (v := (0 : Int32)) C dX10_path_9 (by decide) ?_
    refine V_goto (tgt := 14) C dX10_path_10 (by decide) ?_
    refine V_callVI C [.int (0 : Int32)] mi_X10_119 (k_X10_isFine_0 w l X ) dX10_path_14 sh_85 (by decide) rfl rfl rfl (Nat.le_of_ble_eq_true rfl) (Nat.le_of_ble_eq_true rfl) (Nat.le_of_ble_eq_true rfl) ⟨Nat.le_refl _, Nat.le_refl _⟩ (fun v5 X5 q5 => ?_)
    obtain ⟨ev5, eX5⟩ := q5; subst X5; subst v5
    refine V_if_ne (x := (1 : Int32)) (tgt := 22) C dX10_path_17 (by decide) (fun _ => ?_) (fun h => absurd h (by decide))
    have hir : IsRt R Th v := by assumption
    obtain ⟨a, ha, ea, hta⟩ := hir
    subst ea
    refine V_aload_n C dX10_path_22 rfl ?_
    refine V_callVU C [] mi_X10_203 (k_X10_vouches w l (ma X 85 (upd (X 85) 0 (0 : Int32))) h n (by rw [oM_ma (by decide)]; exact hO) (by rw [gM_ma (by decide)]; exact hG) hn hh) dX10_path_23 sh_85 (by decide) rfl rfl rfl (Nat.le_of_ble_eq_true rfl) (Nat.le_of_ble_eq_true rfl) (Nat.le_of_ble_eq_true rfl) ⟨Nat.le_refl _, Nat.le_refl _⟩ (fun X7 q7 => ?_)
    obtain ⟨V7, hv7, pv7, eX7, hVo7⟩ := q7
    subst X7
    try simp (disch := decide) only [oC_ma, gC_ma, oM_ma, gM_ma, tC_ma, tM_ma, ma_eq, ma_ne] at hVo7
    refine V_aload_n C dX10_path_26 rfl ?_
    refine V_aload_n C dX10_path_27 rfl ?_
    refine V_getr C fl_X10_60 dX10_path_28 (by decide) sh_85 rfl ?_
    refine V_bipush (v := (6 : Int32)) C dX10_path_31 (by decide) ?_
    refine V_iload_n C dX10_path_33 rfl ?_
    refine V_imulN (a := 6) (b := a) C dX10_path_34 ?_
    refine V_aload_n C dX10_path_35 rfl ?_
    refine V_getr C fl_X10_63 dX10_path_36 (by decide) sh_85 rfl ?_
    refine V_iload_n C dX10_path_39 rfl ?_
    refine V_ialdN (p0 := 102) (o := a) (v := X 102 a) C dX10_path_40 sh_102 (by decide) (by omega) (by decide) rfl ?_
    have hq8 : 1 ≤ Z a ∧ Z a ≤ 6 := ⟨(hB.2.2 a (by omega)).1, (hB.2.2 a (by omega)).2.1⟩
    refine V_eqi (y := nI (Z a)) ((hB.2.2 a (by omega)).2.2.1) ?_
    refine V_iload_n C dX10_path_41 rfl ?_
    refine V_callVI C [.ref (w.2.1 101), .int (nI (6 * a)), .int (nI (Z a)), .int (0 : Int32)] mi_X10_206 (k_X10_judge_0 w l 101 (6 * a) (Z a) (ma (ma (ma (ma X 85 (upd (X 85) 0 (0 : Int32))) 107 V7) 108 pv7) 109 hv7) 144 (PP a) sh_101 (by decide) (by decide) ((RBm_ma (by decide) (RBm_ma (by decide) (RBm_ma (by decide) (RBm_85 (by decide) hB)))).2.2 a (by omega)).2.2.2.1 (by omega) (by rw [ma_ne (by decide), ma_eq]; exact VoR_inv hO (Nat.le_refl _) hVo7.2) (by omega)) dX10_path_42 sh_85 (by decide) rfl rfl rfl (Nat.le_of_ble_eq_true rfl) (Nat.le_of_ble_eq_true rfl) (Nat.le_of_ble_eq_true rfl) ⟨Nat.le_refl _, Nat.le_refl _⟩ (fun v9 X9 q9 => ?_)
    obtain ⟨hv9, eX9⟩ := q9; subst X9
    try simp (disch := decide) only [oC_ma, gC_ma, oM_ma, gM_ma, tC_ma, tM_ma, ma_eq, ma_ne] at hv9
    exact V_ireturnI C dX10_path_45 (Or.inr ⟨a, ⟨ha, rfl, hta⟩, V7, hv7, pv7, rfl, hVo7, hv9⟩)
def q_X10_leak (v : Int32) (X : Mem) (R : Nat) (PP : Nat → Nat → Nat) (Z : Nat → Nat) (Th : Nat → Prop) : Int32 → Mem → Prop := fun r X' => (∃ c, Cd1 (IsRt R Th v) c ∧ r = 0 ∧ X' = ma X 85 (upd (X 85) 0 c)) ∨ (∃ a, (a < R ∧ v = nI a ∧ Th a) ∧ FirstR (LkAt (tM X) (PP a)) (PP a) 1 (Z a - 1) r ∧ X' = ma X 85 (upd (X 85) 0 (0 : Int32)))
set_option maxHeartbeats 4000000 in
set_option maxRecDepth 100000 in
theorem k_X10_leak (w : Wt) (l : Launch) (v : Int32) (X : Mem) (R : Nat) (PP : Nat → Nat → Nat) (Z : Nat → Nat) (Th : Nat → Prop) (hB : RBm X R PP Z Th) : CtI w l yX10_leak cX10_leak 6 (some .int) 3 63 [.ref (w.2.1 85), .int v] X (q_X10_leak v X R PP Z Th) := by
  have hR24 := hB.1
  refine CtI_of (by decide +kernel) (Nat.le_of_ble_eq_true rfl) (List.forall_mem_cons.mpr ⟨rfl, (List.forall_mem_cons.mpr ⟨rfl, (fun _ h => nomatch h)⟩)⟩) (ls := [some (.ref (w.2.1 85)), some (.int v), none, none, none, none]) rfl (args := (#[.ref (w.2.1 85), .int v] : Array Value)) rfl (own := RX10) rfl ?_
  intro p e s m below meth c C
  refine V_aload_n C dX10_leak_0 rfl ?_
  refine V_aload_n C dX10_leak_1 rfl ?_
  refine V_iload_n C dX10_leak_2 rfl ?_
  refine V_callVI C [.int v] mi_X10_200 (k_X10_isRoute w l v X R PP Z Th hB) dX10_leak_3 sh_85 (by decide) rfl rfl rfl (Nat.le_of_ble_eq_true rfl) (Nat.le_of_ble_eq_true rfl) (Nat.le_of_ble_eq_true rfl) ⟨Nat.le_refl _, Nat.le_refl _⟩ (fun v1 X1 q1 => ?_)
  obtain ⟨hb1, eX1⟩ := q1; subst X1
  refine V_if_eqB (tgt := 13) C hb1 dX10_leak_6 (by decide) (fun h6_2 => ?_) (fun h6_2 => ?_)
  · refine V_iconst (v := (1 : Int32)) C dX10_leak_13 (by decide) ?_
    refine V_callVI C [.int (1 : Int32)] mi_X10_119 (k_X10_isFine_1 w l X ) dX10_leak_14 sh_85 (by decide) rfl rfl rfl (Nat.le_of_ble_eq_true rfl) (Nat.le_of_ble_eq_true rfl) (Nat.le_of_ble_eq_true rfl) ⟨Nat.le_refl _, Nat.le_refl _⟩ (fun v3 X3 q3 => ?_)
    obtain ⟨ev3, eX3⟩ := q3; subst X3; subst v3
    refine V_if_ne (x := (0 : Int32)) (tgt := 22) C dX10_leak_17 (by decide) (fun h => absurd h (by decide)) (fun _ => ?_)
    refine V_iconst (v := (0 : Int32)) C dX10_leak_20 (by decide) ?_
    exact V_ireturnI C dX10_leak_21 (Or.inl ⟨1, ⟨rfl, by assumption⟩, rfl, rfl⟩)
  · refine V_iconst (v := (0 : Int32)) C dX10_leak_9 (by decide) ?_
    refine V_goto (tgt := 14) C dX10_leak_10 (by decide) ?_
    refine V_callVI C [.int (0 : Int32)] mi_X10_119 (k_X10_isFine_0 w l X ) dX10_leak_14 sh_85 (by decide) rfl rfl rfl (Nat.le_of_ble_eq_true rfl) (Nat.le_of_ble_eq_true rfl) (Nat.le_of_ble_eq_true rfl) ⟨Nat.le_refl _, Nat.le_refl _⟩ (fun v5 X5 q5 => ?_)
    obtain ⟨ev5, eX5⟩ := q5; subst X5; subst v5
    refine V_if_ne (x := (1 : Int32)) (tgt := 22) C dX10_leak_17 (by decide) (fun _ => ?_) (fun h => absurd h (by decide))
    have hir : IsRt R Th v := by assumption
    obtain ⟨a, ha, ea, hta⟩ := hir
    subst ea
    refine V_iconst (v := (1 : Int32)) C dX10_leak_22 (by decide) ?_
    refine V_istore_n (ls1 := [some (.ref (w.2.1 85)), some (.int (nI a)), some (.int (1 : Int32)), none, none, none]) C dX10_leak_23 (by decide) rfl ?_
    have L24 : ∀ (fu : Nat) (k : Nat), Z a - k < fu → (1 ≤ k) → (k ≤ Z a) → (∀ j, 1 ≤ j → j < k → ¬ LkAt (tM X) (PP a) j) → V p l e ({ frames := 3, cells := 0, slots := 0, locals := 63 } : Room) s m (#[.ref (w.2.1 85), .int (nI a)] : Array Value) below meth c w 6 0 0 (EI w below s (#[.ref (w.2.1 85), .int (nI a)] : Array Value) 0 0 (q_X10_leak (nI a) X R PP Z Th)) 24 [some (.ref (w.2.1 85)), some (.int (nI a)), some (.int (nI k)), none, none, none] [] (ma X 85 (upd (X 85) 0 (0 : Int32))) := by
      intro fu
      induction fu with
      | zero => intro k hm; exact absurd hm (Nat.not_lt_zero _)
      | succ fu ih24 =>
        intro k hm24 h1 h2 hno
        refine V_iload_n C dX10_leak_24 rfl ?_
        refine V_iconst (v := (1 : Int32)) C dX10_leak_25 (by decide) ?_
        refine V_iaddN (a := k) (b := 1) C dX10_leak_26 ?_
        refine V_aload_n C dX10_leak_27 rfl ?_
        refine V_getr C fl_X10_63 dX10_leak_28 (by decide) sh_85 rfl ?_
        refine V_iload_n C dX10_leak_31 rfl ?_
        refine V_ialdN (p0 := 102) (o := a) (v := X 102 a) C dX10_leak_32 sh_102 (by decide) (by omega) (by decide) rfl ?_
        have hq7 : 1 ≤ Z a ∧ Z a ≤ 6 := ⟨(hB.2.2 a (by omega)).1, (hB.2.2 a (by omega)).2.1⟩
        refine V_eqi (y := nI (Z a)) ((hB.2.2 a (by omega)).2.2.1) ?_
        refine V_icmp_geN (a := k + 1) (b := Z a) (tgt := 128) C dX10_leak_33 (by decide) (by omega) (by omega) (fun h33_8 => ?_) (fun h33_8 => ?_)
        · refine V_iconst (v := (-1 : Int32)) C dX10_leak_128 (by decide) ?_
          exact V_ireturnI C dX10_leak_129 (Or.inr ⟨a, ⟨ha, rfl, hta⟩, Or.inr ⟨fun j g1 g2 => hno j g1 (by omega), rfl⟩, rfl⟩)
        · refine V_aload_n C dX10_leak_36 rfl ?_
          refine V_getr C fl_X10_60 dX10_leak_37 (by decide) sh_85 rfl ?_
          refine V_bipush (v := (6 : Int32)) C dX10_leak_40 (by decide) ?_
          refine V_iload_n C dX10_leak_42 rfl ?_
          refine V_imulN (a := 6) (b := a) C dX10_leak_43 ?_
          refine V_iload_n C dX10_leak_44 rfl ?_
          refine V_iaddN (a := 6 * a) (b := k) C dX10_leak_45 ?_
          refine V_ialdN (p0 := 101) (o := 6 * a + k) (v := X 101 (6 * a + k)) C dX10_leak_46 sh_101 (by decide) (by omega) (by decide) rfl ?_
          have hq9 : PP a k < 10 := (PAt_i (hB.2.2 a (by omega)).2.2.2.1 (k := 6 * a + k) (i := k) (by omega) (by omega)).2
          refine V_eqi (y := nI (PP a k)) ((PAt_i (hB.2.2 a (by omega)).2.2.2.1 (k := 6 * a + k) (i := k) (by omega) (by omega)).1) ?_
          refine V_istore_n (ls1 := [some (.ref (w.2.1 85)), some (.int (nI a)), some (.int (nI k)), some (.int (nI (PP a k))), none, none]) C dX10_leak_47 (by decide) rfl ?_
          refine V_aload_n C dX10_leak_48 rfl ?_
          refine V_getr C fl_X10_75 dX10_leak_49 (by decide) sh_85 rfl ?_
          refine V_bipush (v := (10 : Int32)) C dX10_leak_52 (by decide) ?_
          refine V_aload_n C dX10_leak_54 rfl ?_
          refine V_getr C fl_X10_60 dX10_leak_55 (by decide) sh_85 rfl ?_
          refine V_bipush (v := (6 : Int32)) C dX10_leak_58 (by decide) ?_
          refine V_iload_n C dX10_leak_60 rfl ?_
          refine V_imulN (a := 6) (b := a) C dX10_leak_61 ?_
          refine V_iload_n C dX10_leak_62 rfl ?_
          refine V_iaddN (a := 6 * a) (b := k) C dX10_leak_63 ?_
          refine V_iconst (v := (1 : Int32)) C dX10_leak_64 (by decide) ?_
          refine V_isubN (a := 6 * a + k) (b := 1) C dX10_leak_65 (by omega) ?_
          refine V_ialdN (p0 := 101) (o := (6 * a + k) - 1) (v := X 101 ((6 * a + k) - 1)) C dX10_leak_66 sh_101 (by decide) (by omega) (by decide) rfl ?_
          have hq10 : PP a (k - 1) < 10 := (PAt_i (hB.2.2 a (by omega)).2.2.2.1 (k := (6 * a + k) - 1) (i := k - 1) (by omega) (by omega)).2
          refine V_eqi (y := nI (PP a (k - 1))) ((PAt_i (hB.2.2 a (by omega)).2.2.2.1 (k := (6 * a + k) - 1) (i := k - 1) (by omega) (by omega)).1) ?_
          refine V_imulN (a := 10) (b := PP a (k - 1)) C dX10_leak_67 ?_
          refine V_iload_n C dX10_leak_68 rfl ?_
          refine V_iaddN (a := 10 * (PP a (k - 1))) (b := PP a k) C dX10_leak_69 ?_
          refine V_ialdN (p0 := 106) (o := 10 * (PP a (k - 1)) + (PP a k)) (v := X 106 (10 * (PP a (k - 1)) + (PP a k))) C dX10_leak_70 sh_106 (by decide) (by omega) (by decide) rfl ?_
          refine V_istore (ls1 := [some (.ref (w.2.1 85)), some (.int (nI a)), some (.int (nI k)), some (.int (nI (PP a k))), some (.int (X 106 (10 * (PP a (k - 1)) + (PP a k)))), none]) C dX10_leak_71 (by decide) rfl ?_
          refine V_aload_n C dX10_leak_73 rfl ?_
          refine V_getr C fl_X10_75 dX10_leak_74 (by decide) sh_85 rfl ?_
          refine V_bipush (v := (10 : Int32)) C dX10_leak_77 (by decide) ?_
          refine V_aload_n C dX10_leak_79 rfl ?_
          refine V_getr C fl_X10_60 dX10_leak_80 (by decide) sh_85 rfl ?_
          refine V_bipush (v := (6 : Int32)) C dX10_leak_83 (by decide) ?_
          refine V_iload_n C dX10_leak_85 rfl ?_
          refine V_imulN (a := 6) (b := a) C dX10_leak_86 ?_
          refine V_iload_n C dX10_leak_87 rfl ?_
          refine V_iaddN (a := 6 * a) (b := k) C dX10_leak_88 ?_
          refine V_iconst (v := (1 : Int32)) C dX10_leak_89 (by decide) ?_
          refine V_iaddN (a := 6 * a + k) (b := 1) C dX10_leak_90 ?_
          refine V_ialdN (p0 := 101) (o := 6 * a + k + 1) (v := X 101 (6 * a + k + 1)) C dX10_leak_91 sh_101 (by decide) (by omega) (by decide) rfl ?_
          have hq11 : PP a (k + 1) < 10 := (PAt_i (hB.2.2 a (by omega)).2.2.2.1 (k := 6 * a + k + 1) (i := k + 1) (by omega) (by omega)).2
          refine V_eqi (y := nI (PP a (k + 1))) ((PAt_i (hB.2.2 a (by omega)).2.2.2.1 (k := 6 * a + k + 1) (i := k + 1) (by omega) (by omega)).1) ?_
          refine V_imulN (a := 10) (b := PP a (k + 1)) C dX10_leak_92 ?_
          refine V_iload_n C dX10_leak_93 rfl ?_
          refine V_iaddN (a := 10 * (PP a (k + 1))) (b := PP a k) C dX10_leak_94 ?_
          refine V_ialdN (p0 := 106) (o := 10 * (PP a (k + 1)) + (PP a k)) (v := X 106 (10 * (PP a (k + 1)) + (PP a k))) C dX10_leak_95 sh_106 (by decide) (by omega) (by decide) rfl ?_
          refine V_istore (ls1 := [some (.ref (w.2.1 85)), some (.int (nI a)), some (.int (nI k)), some (.int (nI (PP a k))), some (.int (X 106 (10 * (PP a (k - 1)) + (PP a k)))), some (.int (X 106 (10 * (PP a (k + 1)) + (PP a k))))]) C dX10_leak_96 (by decide) rfl ?_
          refine V_iload C dX10_leak_98 rfl ?_
          refine V_if_eq (x := X 106 (10 * (PP a (k - 1)) + (PP a k))) (tgt := 122) C dX10_leak_100 (by decide) (fun h100_12 => ?_) (fun h100_12 => ?_)
          · refine V_iincN (a := k) (ls1 := [some (.ref (w.2.1 85)), some (.int (nI a)), some (.int (nI (k + 1))), some (.int (nI (PP a k))), some (.int (X 106 (10 * (PP a (k - 1)) + (PP a k)))), some (.int (X 106 (10 * (PP a (k + 1)) + (PP a k))))]) C dX10_leak_122 rfl (by decide) rfl ?_
            refine V_goto (tgt := 24) C dX10_leak_125 (by decide) ?_
            refine V_kill (i := 3) (ls1 := [some (.ref (w.2.1 85)), some (.int (nI a)), some (.int (nI (k + 1))), none, some (.int (X 106 (10 * (PP a (k - 1)) + (PP a k)))), some (.int (X 106 (10 * (PP a (k + 1)) + (PP a k))))]) rfl ?_
            refine V_kill (i := 4) (ls1 := [some (.ref (w.2.1 85)), some (.int (nI a)), some (.int (nI (k + 1))), none, none, some (.int (X 106 (10 * (PP a (k + 1)) + (PP a k))))]) rfl ?_
            refine V_kill (i := 5) (ls1 := [some (.ref (w.2.1 85)), some (.int (nI a)), some (.int (nI (k + 1))), none, none, none]) rfl ?_
            exact ih24 (k + 1) (by omega) (by omega) (by omega) (no_succ hno (by first | exact fun q => q.1 (by assumption) | exact fun q => q.2.1 (by assumption) | exact fun q => q.2.2 (Or.inl (by assumption)) | exact fun q => q.2.2 (Or.inr (by assumption))))
          · refine V_iload C dX10_leak_103 rfl ?_
            refine V_if_eq (x := X 106 (10 * (PP a (k + 1)) + (PP a k))) (tgt := 122) C dX10_leak_105 (by decide) (fun h105_13 => ?_) (fun h105_13 => ?_)
            · refine V_iincN (a := k) (ls1 := [some (.ref (w.2.1 85)), some (.int (nI a)), some (.int (nI (k + 1))), some (.int (nI (PP a k))), some (.int (X 106 (10 * (PP a (k - 1)) + (PP a k)))), some (.int (X 106 (10 * (PP a (k + 1)) + (PP a k))))]) C dX10_leak_122 rfl (by decide) rfl ?_
              refine V_goto (tgt := 24) C dX10_leak_125 (by decide) ?_
              refine V_kill (i := 3) (ls1 := [some (.ref (w.2.1 85)), some (.int (nI a)), some (.int (nI (k + 1))), none, some (.int (X 106 (10 * (PP a (k - 1)) + (PP a k)))), some (.int (X 106 (10 * (PP a (k + 1)) + (PP a k))))]) rfl ?_
              refine V_kill (i := 4) (ls1 := [some (.ref (w.2.1 85)), some (.int (nI a)), some (.int (nI (k + 1))), none, none, some (.int (X 106 (10 * (PP a (k + 1)) + (PP a k))))]) rfl ?_
              refine V_kill (i := 5) (ls1 := [some (.ref (w.2.1 85)), some (.int (nI a)), some (.int (nI (k + 1))), none, none, none]) rfl ?_
              exact ih24 (k + 1) (by omega) (by omega) (by omega) (no_succ hno (by first | exact fun q => q.1 (by assumption) | exact fun q => q.2.1 (by assumption) | exact fun q => q.2.2 (Or.inl (by assumption)) | exact fun q => q.2.2 (Or.inr (by assumption))))
            · refine V_iload C dX10_leak_108 rfl ?_
              refine V_iconst (v := (1 : Int32)) C dX10_leak_110 (by decide) ?_
              refine V_icmp_eq (x := X 106 (10 * (PP a (k - 1)) + (PP a k))) (y := (1 : Int32)) (tgt := 122) C dX10_leak_111 (by decide) (fun h111_14 => ?_) (fun h111_14 => ?_)
              · refine V_iincN (a := k) (ls1 := [some (.ref (w.2.1 85)), some (.int (nI a)), some (.int (nI (k + 1))), some (.int (nI (PP a k))), some (.int (X 106 (10 * (PP a (k - 1)) + (PP a k)))), some (.int (X 106 (10 * (PP a (k + 1)) + (PP a k))))]) C dX10_leak_122 rfl (by decide) rfl ?_
                refine V_goto (tgt := 24) C dX10_leak_125 (by decide) ?_
                refine V_kill (i := 3) (ls1 := [some (.ref (w.2.1 85)), some (.int (nI a)), some (.int (nI (k + 1))), none, some (.int (X 106 (10 * (PP a (k - 1)) + (PP a k)))), some (.int (X 106 (10 * (PP a (k + 1)) + (PP a k))))]) rfl ?_
                refine V_kill (i := 4) (ls1 := [some (.ref (w.2.1 85)), some (.int (nI a)), some (.int (nI (k + 1))), none, none, some (.int (X 106 (10 * (PP a (k + 1)) + (PP a k))))]) rfl ?_
                refine V_kill (i := 5) (ls1 := [some (.ref (w.2.1 85)), some (.int (nI a)), some (.int (nI (k + 1))), none, none, none]) rfl ?_
                exact ih24 (k + 1) (by omega) (by omega) (by omega) (no_succ hno (by first | exact fun q => q.1 (by assumption) | exact fun q => q.2.1 (by assumption) | exact fun q => q.2.2 (Or.inl (by assumption)) | exact fun q => q.2.2 (Or.inr (by assumption))))
              · refine V_iload C dX10_leak_114 rfl ?_
                refine V_iconst (v := (1 : Int32)) C dX10_leak_116 (by decide) ?_
                refine V_icmp_eq (x := X 106 (10 * (PP a (k + 1)) + (PP a k))) (y := (1 : Int32)) (tgt := 122) C dX10_leak_117 (by decide) (fun h117_15 => ?_) (fun h117_15 => ?_)
                · refine V_iincN (a := k) (ls1 := [some (.ref (w.2.1 85)), some (.int (nI a)), some (.int (nI (k + 1))), some (.int (nI (PP a k))), some (.int (X 106 (10 * (PP a (k - 1)) + (PP a k)))), some (.int (X 106 (10 * (PP a (k + 1)) + (PP a k))))]) C dX10_leak_122 rfl (by decide) rfl ?_
                  refine V_goto (tgt := 24) C dX10_leak_125 (by decide) ?_
                  refine V_kill (i := 3) (ls1 := [some (.ref (w.2.1 85)), some (.int (nI a)), some (.int (nI (k + 1))), none, some (.int (X 106 (10 * (PP a (k - 1)) + (PP a k)))), some (.int (X 106 (10 * (PP a (k + 1)) + (PP a k))))]) rfl ?_
                  refine V_kill (i := 4) (ls1 := [some (.ref (w.2.1 85)), some (.int (nI a)), some (.int (nI (k + 1))), none, none, some (.int (X 106 (10 * (PP a (k + 1)) + (PP a k))))]) rfl ?_
                  refine V_kill (i := 5) (ls1 := [some (.ref (w.2.1 85)), some (.int (nI a)), some (.int (nI (k + 1))), none, none, none]) rfl ?_
                  exact ih24 (k + 1) (by omega) (by omega) (by omega) (no_succ hno (by first | exact fun q => q.1 (by assumption) | exact fun q => q.2.1 (by assumption) | exact fun q => q.2.2 (Or.inl (by assumption)) | exact fun q => q.2.2 (Or.inr (by assumption))))
                · refine V_iload_n C dX10_leak_120 rfl ?_
                  exact V_ireturnI C dX10_leak_121 (Or.inr ⟨a, ⟨ha, rfl, hta⟩, Or.inl ⟨k, h1, by omega, ⟨by assumption, by assumption, fun q => q.elim (by assumption) (by assumption)⟩, hno, rfl⟩, rfl⟩)
    exact L24 _ 1 (Nat.lt_succ_self _) (by omega) ((hB.2.2 a (by omega)).1) (fun j g1 g2 => absurd g1 (by omega))
def q_X10_stopped (v : Int32) (fl : Int32) (X : Mem) (h n : Nat) (R : Nat) (PP : Nat → Nat → Nat) (Z : Nat → Nat) (Th : Nat → Prop) : Int32 → Mem → Prop := fun r X' => (∃ c, Cd2 (IsRt R Th v) (Btw fl 0 1023) c ∧ r = 0 ∧ X' = ma X 85 (upd (X 85) 0 c)) ∨ (((IsRt R Th v) ∧ (Btw fl 0 1023)) ∧ ∃ a F, (a < R ∧ v = nI a ∧ Th a) ∧ F < 1024 ∧ fl = nI F ∧ ∃ V hv pv, X' = ma (ma (ma (ma X 85 (upd (X 85) 0 (0 : Int32))) 107 V) 108 pv) 109 hv ∧ (IsV (oM X) (gM X) n (X 85 1) V ∧ VoR (oM X) V n hv pv) ∧ FirstR (SpAt F (StR (oM X) V n (nI (PP a 0)) (X 103 a) (X 104 a) 2) (tM X) hv pv (PP a)) (PP a) 1 (Z a) r)
set_option maxHeartbeats 4000000 in
set_option maxRecDepth 100000 in
theorem k_X10_stopped (w : Wt) (l : Launch) (v : Int32) (fl : Int32) (X : Mem) (h n : Nat) (R : Nat) (PP : Nat → Nat → Nat) (Z : Nat → Nat) (Th : Nat → Prop) (hO : OInv (oM X) h n) (hG : GInv (gM X) h) (hn : X 85 17 = nI n) (hh : X 85 5 = nI h) (hB : RBm X R PP Z Th) : CtI w l yX10_stopped cX10_stopped 7 (some .int) 6 144 [.ref (w.2.1 85), .int v, .int fl] X (q_X10_stopped v fl X h n R PP Z Th) := by
  have n50 := hO.1
  have h1 := hG.1
  have h8 := hG.2.1
  have hR24 := hB.1
  refine CtI_of (by decide +kernel) (Nat.le_of_ble_eq_true rfl) (List.forall_mem_cons.mpr ⟨rfl, (List.forall_mem_cons.mpr ⟨rfl, (List.forall_mem_cons.mpr ⟨rfl, (fun _ h => nomatch h)⟩)⟩)⟩) (ls := [some (.ref (w.2.1 85)), some (.int v), some (.int fl), none, none, none, none]) rfl (args := (#[.ref (w.2.1 85), .int v, .int fl] : Array Value)) rfl (own := RX10) rfl ?_
  intro p e s m below meth c C
  refine V_aload_n C dX10_stopped_0 rfl ?_
  refine V_aload_n C dX10_stopped_1 rfl ?_
  refine V_iload_n C dX10_stopped_2 rfl ?_
  refine V_callVI C [.int v] mi_X10_200 (k_X10_isRoute w l v X R PP Z Th hB) dX10_stopped_3 sh_85 (by decide) rfl rfl rfl (Nat.le_of_ble_eq_true rfl) (Nat.le_of_ble_eq_true rfl) (Nat.le_of_ble_eq_true rfl) ⟨Nat.le_refl _, Nat.le_refl _⟩ (fun v1 X1 q1 => ?_)
  obtain ⟨hb1, eX1⟩ := q1; subst X1
  refine V_if_neB (tgt := 13) C hb1 dX10_stopped_6 (by decide) (fun h6_2 => ?_) (fun h6_2 => ?_)
  · refine V_iload_n C dX10_stopped_13 rfl ?_
    refine V_iconst (v := (0 : Int32)) C dX10_stopped_14 (by decide) ?_
    refine V_sipush (v := (1023 : Int32)) C dX10_stopped_15 (by decide) ?_
    refine V_callSI C [.int fl, .int (0 : Int32), .int (1023 : Int32)] ms_X10_108 (k_X10_isBetween w l fl (0 : Int32) (1023 : Int32) X ) dX10_stopped_18 rfl rfl (Nat.le_of_ble_eq_true rfl) (Nat.le_of_ble_eq_true rfl) (Nat.le_of_ble_eq_true rfl) ⟨Nat.le_refl _, Nat.le_refl _⟩ (fun v3 X3 q3 => ?_)
    obtain ⟨hb3, eX3⟩ := q3; subst X3
    refine V_if_neB (tgt := 28) C hb3 dX10_stopped_21 (by decide) (fun h21_4 => ?_) (fun h21_4 => ?_)
    · refine V_iconst (v := (0 : Int32)) C dX10_stopped_28 (by decide) ?_
      refine V_callVI C [.int (0 : Int32)] mi_X10_119 (k_X10_isFine_0 w l X ) dX10_stopped_29 sh_85 (by decide) rfl rfl rfl (Nat.le_of_ble_eq_true rfl) (Nat.le_of_ble_eq_true rfl) (Nat.le_of_ble_eq_true rfl) ⟨Nat.le_refl _, Nat.le_refl _⟩ (fun v5 X5 q5 => ?_)
      obtain ⟨ev5, eX5⟩ := q5; subst X5; subst v5
      refine V_if_ne (x := (1 : Int32)) (tgt := 37) C dX10_stopped_32 (by decide) (fun _ => ?_) (fun h => absurd h (by decide))
      have hir : IsRt R Th v := by assumption
      obtain ⟨a, ha, ea, hta⟩ := hir
      subst ea
      have hg2 : Btw fl 0 1023 := by assumption
      obtain ⟨F, hF, eF⟩ := Btw_of (n := 1023) (by decide) hg2
      subst eF
      have hZa := (hB.2.2 a (by omega)).1
      have hZb := (hB.2.2 a (by omega)).2.1
      refine V_aload_n C dX10_stopped_37 rfl ?_
      refine V_callVU C [] mi_X10_203 (k_X10_vouches w l (ma X 85 (upd (X 85) 0 (0 : Int32))) h n (by rw [oM_ma (by decide)]; exact hO) (by rw [gM_ma (by decide)]; exact hG) hn hh) dX10_stopped_38 sh_85 (by decide) rfl rfl rfl (Nat.le_of_ble_eq_true rfl) (Nat.le_of_ble_eq_true rfl) (Nat.le_of_ble_eq_true rfl) ⟨Nat.le_refl _, Nat.le_refl _⟩ (fun X7 q7 => ?_)
      obtain ⟨V7, hv7, pv7, eX7, hVo7⟩ := q7
      subst X7
      try simp (disch := decide) only [oC_ma, gC_ma, oM_ma, gM_ma, tC_ma, tM_ma, ma_eq, ma_ne] at hVo7
      refine V_bipush (v := (6 : Int32)) C dX10_stopped_41 (by decide) ?_
      refine V_iload_n C dX10_stopped_43 rfl ?_
      refine V_imulN (a := 6) (b := a) C dX10_stopped_44 ?_
      refine V_istore_n (ls1 := [some (.ref (w.2.1 85)), some (.int (nI a)), some (.int (nI F)), some (.int (nI (6 * a))), none, none, none]) C dX10_stopped_45 (by decide) rfl ?_
      refine V_aload_n C dX10_stopped_46 rfl ?_
      refine V_aload_n C dX10_stopped_47 rfl ?_
      refine V_getr C fl_X10_60 dX10_stopped_48 (by decide) sh_85 rfl ?_
      refine V_iload_n C dX10_stopped_51 rfl ?_
      refine V_ialdN (p0 := 101) (o := 6 * a) (v := X 101 (6 * a)) C dX10_stopped_52 sh_101 (by decide) (by omega) (by decide) rfl ?_
      have hq8 : PP a 0 < 10 := (PAt_i (hB.2.2 a (by omega)).2.2.2.1 (k := 6 * a) (i := 0) (by omega) (by omega)).2
      refine V_eqi (y := nI (PP a 0)) ((PAt_i (hB.2.2 a (by omega)).2.2.2.1 (k := 6 * a) (i := 0) (by omega) (by omega)).1) ?_
      refine V_aload_n C dX10_stopped_53 rfl ?_
      refine V_getr C fl_X10_66 dX10_stopped_54 (by decide) sh_85 rfl ?_
      refine V_iload_n C dX10_stopped_57 rfl ?_
      refine V_ialdN (p0 := 103) (o := a) (v := X 103 a) C dX10_stopped_58 sh_103 (by decide) (by omega) (by decide) rfl ?_
      refine V_aload_n C dX10_stopped_59 rfl ?_
      refine V_getr C fl_X10_69 dX10_stopped_60 (by decide) sh_85 rfl ?_
      refine V_iload_n C dX10_stopped_63 rfl ?_
      refine V_ialdN (p0 := 104) (o := a) (v := X 104 a) C dX10_stopped_64 sh_104 (by decide) (by omega) (by decide) rfl ?_
      refine V_callVI C [.int (nI (PP a 0)), .int (X 103 a), .int (X 104 a)] mi_X10_182 (k_X10_stands w l (nI (PP a 0)) (X 103 a) (X 104 a) (ma (ma (ma (ma X 85 (upd (X 85) 0 (0 : Int32))) 107 V7) 108 pv7) 109 hv7) n hn n50) dX10_stopped_65 sh_85 (by decide) rfl rfl rfl (Nat.le_of_ble_eq_true rfl) (Nat.le_of_ble_eq_true rfl) (Nat.le_of_ble_eq_true rfl) ⟨Nat.le_refl _, Nat.le_refl _⟩ (fun v9 X9 q9 => ?_)
      obtain ⟨hv9, eX9⟩ := q9; subst X9
      try simp (disch := decide) only [oC_ma, gC_ma, oM_ma, gM_ma, tC_ma, tM_ma, ma_eq, ma_ne] at hv9
      have L82 : ∀ (fu : Nat) (k : Nat) (bd : Int32), Z a - k < fu → (1 ≤ k) → (k ≤ Z a) → (bI (StR (oM X) V7 n (nI (PP a 0)) (X 103 a) (X 104 a) 2) bd) → (∀ j, 1 ≤ j → j < k → ¬ SpAt F (StR (oM X) V7 n (nI (PP a 0)) (X 103 a) (X 104 a) 2) (tM X) hv7 pv7 (PP a) j) → V p l e ({ frames := 6, cells := 0, slots := 0, locals := 144 } : Room) s m (#[.ref (w.2.1 85), .int (nI a), .int (nI F)] : Array Value) below meth c w 7 0 0 (EI w below s (#[.ref (w.2.1 85), .int (nI a), .int (nI F)] : Array Value) 0 0 (q_X10_stopped (nI a) (nI F) X h n R PP Z Th)) 82 [some (.ref (w.2.1 85)), some (.int (nI a)), some (.int (nI F)), some (.int (nI (6 * a))), some (.int bd), some (.int (nI k)), none] [] (ma (ma (ma (ma X 85 (upd (X 85) 0 (0 : Int32))) 107 V7) 108 pv7) 109 hv7) := by
        intro fu
        induction fu with
        | zero => intro k bd hm; exact absurd hm (Nat.not_lt_zero _)
        | succ fu ih82 =>
          intro k bd hm82 h1 h2 hb hno
          refine V_iload C dX10_stopped_82 rfl ?_
          refine V_aload_n C dX10_stopped_84 rfl ?_
          refine V_getr C fl_X10_63 dX10_stopped_85 (by decide) sh_85 rfl ?_
          refine V_iload_n C dX10_stopped_88 rfl ?_
          refine V_ialdN (p0 := 102) (o := a) (v := X 102 a) C dX10_stopped_89 sh_102 (by decide) (by omega) (by decide) rfl ?_
          have hq10 : 1 ≤ Z a ∧ Z a ≤ 6 := ⟨(hB.2.2 a (by omega)).1, (hB.2.2 a (by omega)).2.1⟩
          refine V_eqi (y := nI (Z a)) ((hB.2.2 a (by omega)).2.2.1) ?_
          refine V_icmp_geN (a := k) (b := Z a) (tgt := 144) C dX10_stopped_90 (by decide) (by omega) (by omega) (fun h90_11 => ?_) (fun h90_11 => ?_)
          · refine V_iconst (v := (-1 : Int32)) C dX10_stopped_144 (by decide) ?_
            exact V_ireturnI C dX10_stopped_145 (Or.inr ⟨⟨(by first | exact ⟨a, ha, rfl, hta⟩ | assumption), (by assumption)⟩, a, F, ⟨ha, rfl, hta⟩, hF, rfl, V7, hv7, pv7, rfl, hVo7, Or.inr ⟨fun j g1 g2 => hno j g1 (by omega), rfl⟩⟩)
          · refine V_aload_n C dX10_stopped_93 rfl ?_
            refine V_getr C fl_X10_60 dX10_stopped_94 (by decide) sh_85 rfl ?_
            refine V_iload_n C dX10_stopped_97 rfl ?_
            refine V_iload C dX10_stopped_98 rfl ?_
            refine V_iaddN (a := 6 * a) (b := k) C dX10_stopped_100 ?_
            refine V_ialdN (p0 := 101) (o := 6 * a + k) (v := X 101 (6 * a + k)) C dX10_stopped_101 sh_101 (by decide) (by omega) (by decide) rfl ?_
            have hq12 : PP a k < 10 := (PAt_i (hB.2.2 a (by omega)).2.2.2.1 (k := 6 * a + k) (i := k) (by omega) (by omega)).2
            refine V_eqi (y := nI (PP a k)) ((PAt_i (hB.2.2 a (by omega)).2.2.2.1 (k := 6 * a + k) (i := k) (by omega) (by omega)).1) ?_
            refine V_istore (ls1 := [some (.ref (w.2.1 85)), some (.int (nI a)), some (.int (nI F)), some (.int (nI (6 * a))), some (.int bd), some (.int (nI k)), some (.int (nI (PP a k)))]) C dX10_stopped_102 (by decide) rfl ?_
            refine V_iload_n C dX10_stopped_104 rfl ?_
            refine V_iload C dX10_stopped_105 rfl ?_
            refine V_ishr C dX10_stopped_107 ?_
            refine V_iconst (v := (1 : Int32)) C dX10_stopped_108 (by decide) ?_
            refine V_iand C dX10_stopped_109 ?_
            refine V_eqi (y := nI (F / 2 ^ (PP a k) % 2)) (bit_val (by omega) (by omega)) ?_
            refine V_iconst (v := (1 : Int32)) C dX10_stopped_110 (by decide) ?_
            refine V_icmp_neN (a := F / 2 ^ (PP a k) % 2) (b := 1) (tgt := 138) C dX10_stopped_111 (by decide) (by omega) (by omega) (fun h111_13 => ?_) (fun h111_13 => ?_)
            · refine V_iincN (a := k) (ls1 := [some (.ref (w.2.1 85)), some (.int (nI a)), some (.int (nI F)), some (.int (nI (6 * a))), some (.int bd), some (.int (nI (k + 1))), some (.int (nI (PP a k)))]) C dX10_stopped_138 rfl (by decide) rfl ?_
              refine V_goto (tgt := 82) C dX10_stopped_141 (by decide) ?_
              refine V_kill (i := 6) (ls1 := [some (.ref (w.2.1 85)), some (.int (nI a)), some (.int (nI F)), some (.int (nI (6 * a))), some (.int bd), some (.int (nI (k + 1))), none]) rfl ?_
              exact ih82 (k + 1) bd (by omega) (by omega) (by omega) (by omega) (no_succ hno (by first | exact fun q => absurd (tb_iff.mp q.1) (by assumption) | exact fun q => q.2.elim (by assumption) (by assumption)))
            · refine V_iload C dX10_stopped_114 rfl ?_
              refine V_if_neB (tgt := 135) C hb dX10_stopped_116 (by decide) (fun h116_14 => ?_) (fun h116_14 => ?_)
              · refine V_iload C dX10_stopped_135 rfl ?_
                exact V_ireturnI C dX10_stopped_137 (Or.inr ⟨⟨(by first | exact ⟨a, ha, rfl, hta⟩ | assumption), (by assumption)⟩, a, F, ⟨ha, rfl, hta⟩, hF, rfl, V7, hv7, pv7, rfl, hVo7, Or.inl ⟨k, h1, by omega, ⟨tb_iff.mpr (by assumption), by first | exact Or.inl (by assumption) | exact Or.inr (by assumption)⟩, hno, rfl⟩⟩)
              · refine V_aload_n C dX10_stopped_119 rfl ?_
                refine V_aload_n C dX10_stopped_120 rfl ?_
                refine V_getr C fl_X10_60 dX10_stopped_121 (by decide) sh_85 rfl ?_
                refine V_iload_n C dX10_stopped_124 rfl ?_
                refine V_iload C dX10_stopped_125 rfl ?_
                refine V_iload C dX10_stopped_127 rfl ?_
                refine V_callVI C [.ref (w.2.1 101), .int (nI (6 * a)), .int (nI k), .int (nI (PP a k))] mi_X10_210 (k_X10_refuses w l 101 (6 * a) k (PP a k) (ma (ma (ma (ma X 85 (upd (X 85) 0 (0 : Int32))) 107 V7) 108 pv7) 109 hv7) 144 (PP a) sh_101 (by decide) (by decide) (fun j hj => ((RBm_ma (by decide) (RBm_ma (by decide) (RBm_ma (by decide) (RBm_85 (by decide) hB)))).2.2 a (by omega)).2.2.2.1 j (by omega)) (by omega) (by rw [ma_ne (by decide), ma_eq]; exact VoR_inv hO (Nat.le_refl _) hVo7.2) (by omega) rfl (by omega)) dX10_stopped_129 sh_85 (by decide) rfl rfl rfl (Nat.le_of_ble_eq_true rfl) (Nat.le_of_ble_eq_true rfl) (Nat.le_of_ble_eq_true rfl) ⟨Nat.le_refl _, Nat.le_refl _⟩ (fun v15 X15 q15 => ?_)
                obtain ⟨hb15, eX15⟩ := q15; subst X15
                try simp (disch := decide) only [oC_ma, gC_ma, oM_ma, gM_ma, tC_ma, tM_ma, ma_eq, ma_ne] at hb15
                refine V_if_eqB (tgt := 138) C hb15 dX10_stopped_132 (by decide) (fun h132_16 => ?_) (fun h132_16 => ?_)
                · refine V_iincN (a := k) (ls1 := [some (.ref (w.2.1 85)), some (.int (nI a)), some (.int (nI F)), some (.int (nI (6 * a))), some (.int bd), some (.int (nI (k + 1))), some (.int (nI (PP a k)))]) C dX10_stopped_138 rfl (by decide) rfl ?_
                  refine V_goto (tgt := 82) C dX10_stopped_141 (by decide) ?_
                  refine V_kill (i := 6) (ls1 := [some (.ref (w.2.1 85)), some (.int (nI a)), some (.int (nI F)), some (.int (nI (6 * a))), some (.int bd), some (.int (nI (k + 1))), none]) rfl ?_
                  exact ih82 (k + 1) bd (by omega) (by omega) (by omega) (by omega) (no_succ hno (by first | exact fun q => absurd (tb_iff.mp q.1) (by assumption) | exact fun q => q.2.elim (by assumption) (by assumption)))
                · refine V_iload C dX10_stopped_135 rfl ?_
                  exact V_ireturnI C dX10_stopped_137 (Or.inr ⟨⟨(by first | exact ⟨a, ha, rfl, hta⟩ | assumption), (by assumption)⟩, a, F, ⟨ha, rfl, hta⟩, hF, rfl, V7, hv7, pv7, rfl, hVo7, Or.inl ⟨k, h1, by omega, ⟨tb_iff.mpr (by assumption), by first | exact Or.inl (by assumption) | exact Or.inr (by assumption)⟩, hno, rfl⟩⟩)
      refine V_iconst (v := (2 : Int32)) C dX10_stopped_68 (by decide) ?_
      refine V_icmp_ne (x := v9) (y := (2 : Int32)) (tgt := 76) C dX10_stopped_69 (by decide) (fun h69_17 => ?_) (fun h69_17 => ?_)
      · refine V_iconst (v := (0 : Int32)) C dX10_stopped_76 (by decide) ?_
        refine V_istore (ls1 := [some (.ref (w.2.1 85)), some (.int (nI a)), some (.int (nI F)), some (.int (nI (6 * a))), some (.int (0 : Int32)), none, none]) C dX10_stopped_77 (by decide) rfl ?_
        refine V_iconst (v := (1 : Int32)) C dX10_stopped_79 (by decide) ?_
        refine V_istore (ls1 := [some (.ref (w.2.1 85)), some (.int (nI a)), some (.int (nI F)), some (.int (nI (6 * a))), some (.int (0 : Int32)), some (.int (1 : Int32)), none]) C dX10_stopped_80 (by decide) rfl ?_
        exact L82 _ 1 (0 : Int32) (Nat.lt_succ_self _) (by omega) ((hB.2.2 a (by omega)).1) (bI.f (fun q => absurd (StR_one (fun _ _ => rfl) hv9 q) (by assumption))) (fun j g1 g2 => absurd g1 (by omega))
      · refine V_iconst (v := (1 : Int32)) C dX10_stopped_72 (by decide) ?_
        refine V_goto (tgt := 77) C dX10_stopped_73 (by decide) ?_
        refine V_istore (ls1 := [some (.ref (w.2.1 85)), some (.int (nI a)), some (.int (nI F)), some (.int (nI (6 * a))), some (.int (1 : Int32)), none, none]) C dX10_stopped_77 (by decide) rfl ?_
        refine V_iconst (v := (1 : Int32)) C dX10_stopped_79 (by decide) ?_
        refine V_istore (ls1 := [some (.ref (w.2.1 85)), some (.int (nI a)), some (.int (nI F)), some (.int (nI (6 * a))), some (.int (1 : Int32)), some (.int (1 : Int32)), none]) C dX10_stopped_80 (by decide) rfl ?_
        exact L82 _ 1 (1 : Int32) (Nat.lt_succ_self _) (by omega) ((hB.2.2 a (by omega)).1) (bI.t ((by assumption : v9 = 2) ▸ hv9)) (fun j g1 g2 => absurd g1 (by omega))
    · refine V_iconst (v := (2 : Int32)) C dX10_stopped_24 (by decide) ?_
      refine V_goto (tgt := 29) C dX10_stopped_25 (by decide) ?_
      refine V_callVI C [.int (2 : Int32)] mi_X10_119 (k_X10_isFine_2 w l X ) dX10_stopped_29 sh_85 (by decide) rfl rfl rfl (Nat.le_of_ble_eq_true rfl) (Nat.le_of_ble_eq_true rfl) (Nat.le_of_ble_eq_true rfl) ⟨Nat.le_refl _, Nat.le_refl _⟩ (fun v18 X18 q18 => ?_)
      obtain ⟨ev18, eX18⟩ := q18; subst X18; subst v18
      refine V_if_ne (x := (0 : Int32)) (tgt := 37) C dX10_stopped_32 (by decide) (fun h => absurd h (by decide)) (fun _ => ?_)
      refine V_iconst (v := (0 : Int32)) C dX10_stopped_35 (by decide) ?_
      exact V_ireturnI C dX10_stopped_36 (Or.inl ⟨2, Or.inr ⟨rfl, (by first | exact ⟨a, ha, rfl, hta⟩ | assumption), (by first | exact fun q => absurd q (by assumption))⟩, rfl, rfl⟩)
  · refine V_iconst (v := (1 : Int32)) C dX10_stopped_9 (by decide) ?_
    refine V_goto (tgt := 29) C dX10_stopped_10 (by decide) ?_
    refine V_callVI C [.int (1 : Int32)] mi_X10_119 (k_X10_isFine_1 w l X ) dX10_stopped_29 sh_85 (by decide) rfl rfl rfl (Nat.le_of_ble_eq_true rfl) (Nat.le_of_ble_eq_true rfl) (Nat.le_of_ble_eq_true rfl) ⟨Nat.le_refl _, Nat.le_refl _⟩ (fun v20 X20 q20 => ?_)
    obtain ⟨ev20, eX20⟩ := q20; subst X20; subst v20
    refine V_if_ne (x := (0 : Int32)) (tgt := 37) C dX10_stopped_32 (by decide) (fun h => absurd h (by decide)) (fun _ => ?_)
    refine V_iconst (v := (0 : Int32)) C dX10_stopped_35 (by decide) ?_
    exact V_ireturnI C dX10_stopped_36 (Or.inl ⟨1, Or.inl ⟨rfl, (by first | exact fun q => absurd q (by assumption))⟩, rfl, rfl⟩)
def q_X10_allowed (u : Int32) (v : Int32) (X : Mem) : Int32 → Mem → Prop := fun r X' => (∃ c, Cd1 (Btw u 0 9 ∧ Btw v 0 9) c ∧ r = 0 ∧ X' = ma X 85 (upd (X 85) 0 c)) ∨ (((Btw u 0 9 ∧ Btw v 0 9)) ∧ ∃ a b, (a < 10 ∧ b < 10 ∧ u = nI a ∧ v = nI b) ∧ ∃ T, X' = ma (ma X 85 (upd (X 85) 0 (0 : Int32))) 110 T ∧ r = nI (sumN (fun i => sumN (fun md => oneIf (Al (tM X) (dg (a + 10 * md + 10 ^ (2 + i - 1) * b)) (2 + i))) (10 ^ (2 + i - 2))) 4))
set_option maxHeartbeats 4000000 in
set_option maxRecDepth 100000 in
theorem k_X10_allowed (w : Wt) (l : Launch) (u : Int32) (v : Int32) (X : Mem) : CtI w l yX10_allowed cX10_allowed 6 (some .int) 3 71 [.ref (w.2.1 85), .int u, .int v] X (q_X10_allowed u v X) := by
  refine CtI_of (by decide +kernel) (Nat.le_of_ble_eq_true rfl) (List.forall_mem_cons.mpr ⟨rfl, (List.forall_mem_cons.mpr ⟨rfl, (List.forall_mem_cons.mpr ⟨rfl, (fun _ h => nomatch h)⟩)⟩)⟩) (ls := [some (.ref (w.2.1 85)), some (.int u), some (.int v), none, none, none]) rfl (args := (#[.ref (w.2.1 85), .int u, .int v] : Array Value)) rfl (own := RX10) rfl ?_
  intro p e s m below meth c C
  refine V_aload_n C dX10_allowed_0 rfl ?_
  refine V_iload_n C dX10_allowed_1 rfl ?_
  refine V_callSI C [.int u] ms_X10_125 (k_X10_isNet w l u X ) dX10_allowed_2 rfl rfl (Nat.le_of_ble_eq_true rfl) (Nat.le_of_ble_eq_true rfl) (Nat.le_of_ble_eq_true rfl) ⟨Nat.le_refl _, Nat.le_refl _⟩ (fun v1 X1 q1 => ?_)
  obtain ⟨hb1, eX1⟩ := q1; subst X1
  refine V_if_eqB (tgt := 19) C hb1 dX10_allowed_5 (by decide) (fun h5_2 => ?_) (fun h5_2 => ?_)
  · refine V_iconst (v := (1 : Int32)) C dX10_allowed_19 (by decide) ?_
    refine V_callVI C [.int (1 : Int32)] mi_X10_119 (k_X10_isFine_1 w l X ) dX10_allowed_20 sh_85 (by decide) rfl rfl rfl (Nat.le_of_ble_eq_true rfl) (Nat.le_of_ble_eq_true rfl) (Nat.le_of_ble_eq_true rfl) ⟨Nat.le_refl _, Nat.le_refl _⟩ (fun v3 X3 q3 => ?_)
    obtain ⟨ev3, eX3⟩ := q3; subst X3; subst v3
    refine V_if_ne (x := (0 : Int32)) (tgt := 28) C dX10_allowed_23 (by decide) (fun h => absurd h (by decide)) (fun _ => ?_)
    refine V_iconst (v := (0 : Int32)) C dX10_allowed_26 (by decide) ?_
    exact V_ireturnI C dX10_allowed_27 (Or.inl ⟨1, ⟨rfl, (by first | exact fun q => absurd q.1 (by assumption) | exact fun q => absurd q.2 (by assumption))⟩, rfl, rfl⟩)
  · refine V_iload_n C dX10_allowed_8 rfl ?_
    refine V_callSI C [.int v] ms_X10_125 (k_X10_isNet w l v X ) dX10_allowed_9 rfl rfl (Nat.le_of_ble_eq_true rfl) (Nat.le_of_ble_eq_true rfl) (Nat.le_of_ble_eq_true rfl) ⟨Nat.le_refl _, Nat.le_refl _⟩ (fun v5 X5 q5 => ?_)
    obtain ⟨hb5, eX5⟩ := q5; subst X5
    refine V_if_eqB (tgt := 19) C hb5 dX10_allowed_12 (by decide) (fun h12_6 => ?_) (fun h12_6 => ?_)
    · refine V_iconst (v := (1 : Int32)) C dX10_allowed_19 (by decide) ?_
      refine V_callVI C [.int (1 : Int32)] mi_X10_119 (k_X10_isFine_1 w l X ) dX10_allowed_20 sh_85 (by decide) rfl rfl rfl (Nat.le_of_ble_eq_true rfl) (Nat.le_of_ble_eq_true rfl) (Nat.le_of_ble_eq_true rfl) ⟨Nat.le_refl _, Nat.le_refl _⟩ (fun v7 X7 q7 => ?_)
      obtain ⟨ev7, eX7⟩ := q7; subst X7; subst v7
      refine V_if_ne (x := (0 : Int32)) (tgt := 28) C dX10_allowed_23 (by decide) (fun h => absurd h (by decide)) (fun _ => ?_)
      refine V_iconst (v := (0 : Int32)) C dX10_allowed_26 (by decide) ?_
      exact V_ireturnI C dX10_allowed_27 (Or.inl ⟨1, ⟨rfl, (by first | exact fun q => absurd q.1 (by assumption) | exact fun q => absurd q.2 (by assumption))⟩, rfl, rfl⟩)
    · refine V_iconst (v := (0 : Int32)) C dX10_allowed_15 (by decide) ?_
      refine V_goto (tgt := 20) C dX10_allowed_16 (by decide) ?_
      refine V_callVI C [.int (0 : Int32)] mi_X10_119 (k_X10_isFine_0 w l X ) dX10_allowed_20 sh_85 (by decide) rfl rfl rfl (Nat.le_of_ble_eq_true rfl) (Nat.le_of_ble_eq_true rfl) (Nat.le_of_ble_eq_true rfl) ⟨Nat.le_refl _, Nat.le_refl _⟩ (fun v9 X9 q9 => ?_)
      obtain ⟨ev9, eX9⟩ := q9; subst X9; subst v9
      refine V_if_ne (x := (1 : Int32)) (tgt := 28) C dX10_allowed_23 (by decide) (fun _ => ?_) (fun h => absurd h (by decide))
      have hg1 : Btw u 0 9 := by assumption
      have hg2 : Btw v 0 9 := by assumption
      obtain ⟨a, ha, ea⟩ := net_at hg1
      subst ea
      obtain ⟨b, hb, eb⟩ := net_at hg2
      subst eb
      refine V_iconst (v := (0 : Int32)) C dX10_allowed_28 (by decide) ?_
      refine V_istore_n (ls1 := [some (.ref (w.2.1 85)), some (.int (nI a)), some (.int (nI b)), some (.int (0 : Int32)), none, none]) C dX10_allowed_29 (by decide) rfl ?_
      refine V_iconst (v := (2 : Int32)) C dX10_allowed_30 (by decide) ?_
      refine V_istore (ls1 := [some (.ref (w.2.1 85)), some (.int (nI a)), some (.int (nI b)), some (.int (0 : Int32)), some (.int (2 : Int32)), none]) C dX10_allowed_31 (by decide) rfl ?_
      have L33 : ∀ (fu : Nat) (i : Nat) (c0 : Nat) (T : Nat → Int32), 4 - i < fu → (i ≤ 4) → (c0 = sumN (fun i => sumN (fun md => oneIf (Al (tM X) (dg (a + 10 * md + 10 ^ (2 + i - 1) * b)) (2 + i))) (10 ^ (2 + i - 2))) i) → V p l e ({ frames := 3, cells := 0, slots := 0, locals := 71 } : Room) s m (#[.ref (w.2.1 85), .int (nI a), .int (nI b)] : Array Value) below meth c w 6 0 0 (EI w below s (#[.ref (w.2.1 85), .int (nI a), .int (nI b)] : Array Value) 0 0 (q_X10_allowed (nI a) (nI b) X)) 33 [some (.ref (w.2.1 85)), some (.int (nI a)), some (.int (nI b)), some (.int (nI c0)), some (.int (nI (2 + i))), none] [] (ma (ma X 85 (upd (X 85) 0 (0 : Int32))) 110 T) := by
        intro fu
        induction fu with
        | zero => intro i c0 T hm; exact absurd hm (Nat.not_lt_zero _)
        | succ fu ih33 =>
          intro i c0 T hm33 hi hc
          refine V_iload C dX10_allowed_33 rfl ?_
          refine V_bipush (v := (6 : Int32)) C dX10_allowed_35 (by decide) ?_
          refine V_icmp_geN (a := 2 + i) (b := 6) (tgt := 101) C dX10_allowed_37 (by decide) (by omega) (by omega) (fun h37_11 => ?_) (fun h37_11 => ?_)
          · refine V_iload_n C dX10_allowed_101 rfl ?_
            exact V_ireturnI C dX10_allowed_102 (Or.inr ⟨⟨by assumption, by assumption⟩, a, b, ⟨by omega, by omega, rfl, rfl⟩, T, rfl, by rw [hc, show i = 4 by omega]⟩)
          · refine V_iconst (v := (0 : Int32)) C dX10_allowed_40 (by decide) ?_
            refine V_istore (ls1 := [some (.ref (w.2.1 85)), some (.int (nI a)), some (.int (nI b)), some (.int (nI c0)), some (.int (nI (2 + i))), some (.int (0 : Int32))]) C dX10_allowed_41 (by decide) rfl ?_
            have L43 : ∀ (fu : Nat) (md : Nat) (c1 : Nat) (T1 : Nat → Int32), 10 ^ (2 + i - 2) - md < fu → (md ≤ 10 ^ (2 + i - 2)) → (c1 = c0 + sumN (fun md => oneIf (Al (tM X) (dg (a + 10 * md + 10 ^ (2 + i - 1) * b)) (2 + i))) md) → V p l e ({ frames := 3, cells := 0, slots := 0, locals := 71 } : Room) s m (#[.ref (w.2.1 85), .int (nI a), .int (nI b)] : Array Value) below meth c w 6 0 0 (EI w below s (#[.ref (w.2.1 85), .int (nI a), .int (nI b)] : Array Value) 0 0 (q_X10_allowed (nI a) (nI b) X)) 43 [some (.ref (w.2.1 85)), some (.int (nI a)), some (.int (nI b)), some (.int (nI c1)), some (.int (nI (2 + i))), some (.int (nI md))] [] (ma (ma X 85 (upd (X 85) 0 (0 : Int32))) 110 T1) := by
              intro fu
              induction fu with
              | zero => intro md c1 T1 hm; exact absurd hm (Nat.not_lt_zero _)
              | succ fu ih43 =>
                intro md c1 T1 hm43 hmd hc1
                refine V_iload C dX10_allowed_43 rfl ?_
                refine V_iload C dX10_allowed_45 rfl ?_
                refine V_iconst (v := (2 : Int32)) C dX10_allowed_47 (by decide) ?_
                refine V_isubN (a := 2 + i) (b := 2) C dX10_allowed_48 (by omega) ?_
                refine V_callSI C [.int (nI ((2 + i) - 2))] ms_X10_214 (k_X10_power w l ((2 + i) - 2) (ma (ma X 85 (upd (X 85) 0 (0 : Int32))) 110 T1) (by omega)) dX10_allowed_49 rfl rfl (Nat.le_of_ble_eq_true rfl) (Nat.le_of_ble_eq_true rfl) (Nat.le_of_ble_eq_true rfl) ⟨Nat.le_refl _, Nat.le_refl _⟩ (fun v12 X12 q12 => ?_)
                obtain ⟨ev12, eX12⟩ := q12; subst X12
                try simp (disch := decide) only [oC_ma, gC_ma, oM_ma, gM_ma, tC_ma, tM_ma, ma_eq, ma_ne] at ev12
                subst v12
                have hpw : 10 ^ (2 + i - 2) ≤ 1000 := pw_3 (by omega)
                refine V_icmp_geN (a := md) (b := 10 ^ ((2 + i) - 2)) (tgt := 95) C dX10_allowed_52 (by decide) (by omega) (by omega) (fun h52_13 => ?_) (fun h52_13 => ?_)
                · refine V_iincN (a := 2 + i) (ls1 := [some (.ref (w.2.1 85)), some (.int (nI a)), some (.int (nI b)), some (.int (nI c1)), some (.int (nI (2 + i + 1))), some (.int (nI md))]) C dX10_allowed_95 rfl (by decide) rfl ?_
                  refine V_goto (tgt := 33) C dX10_allowed_98 (by decide) ?_
                  refine V_kill (i := 5) (ls1 := [some (.ref (w.2.1 85)), some (.int (nI a)), some (.int (nI b)), some (.int (nI c1)), some (.int (nI (2 + i + 1))), none]) rfl ?_
                  exact ih33 (i + 1) c1 T1 (by omega) (by omega) (by rw [hc1, show md = 10 ^ (2 + i - 2) from by omega, hc]; rfl)
                · refine V_iload_n C dX10_allowed_55 rfl ?_
                  refine V_aload_n C dX10_allowed_56 rfl ?_
                  refine V_iload_n C dX10_allowed_57 rfl ?_
                  refine V_bipush (v := (10 : Int32)) C dX10_allowed_58 (by decide) ?_
                  refine V_iload C dX10_allowed_60 rfl ?_
                  refine V_imulN (a := 10) (b := md) C dX10_allowed_62 ?_
                  refine V_iaddN (a := a) (b := 10 * md) C dX10_allowed_63 ?_
                  refine V_iload C dX10_allowed_64 rfl ?_
                  refine V_iconst (v := (1 : Int32)) C dX10_allowed_66 (by decide) ?_
                  refine V_isubN (a := 2 + i) (b := 1) C dX10_allowed_67 (by omega) ?_
                  refine V_callSI C [.int (nI ((2 + i) - 1))] ms_X10_214 (k_X10_power w l ((2 + i) - 1) (ma (ma X 85 (upd (X 85) 0 (0 : Int32))) 110 T1) (by omega)) dX10_allowed_68 rfl rfl (Nat.le_of_ble_eq_true rfl) (Nat.le_of_ble_eq_true rfl) (Nat.le_of_ble_eq_true rfl) ⟨Nat.le_refl _, Nat.le_refl _⟩ (fun v14 X14 q14 => ?_)
                  obtain ⟨ev14, eX14⟩ := q14; subst X14
                  try simp (disch := decide) only [oC_ma, gC_ma, oM_ma, gM_ma, tC_ma, tM_ma, ma_eq, ma_ne] at ev14
                  subst v14
                  refine V_iload_n C dX10_allowed_71 rfl ?_
                  refine V_imulN (a := 10 ^ ((2 + i) - 1)) (b := b) C dX10_allowed_72 ?_
                  refine V_iaddN (a := a + (10 * md)) (b := (10 ^ ((2 + i) - 1)) * b) C dX10_allowed_73 ?_
                  refine V_iload C dX10_allowed_74 rfl ?_
                  refine V_callVI C [.int (nI (a + (10 * md) + ((10 ^ ((2 + i) - 1)) * b))), .int (nI (2 + i))] mi_X10_217 (k_X10_isAllowed w l (a + (10 * md) + ((10 ^ ((2 + i) - 1)) * b)) (2 + i) (ma (ma X 85 (upd (X 85) 0 (0 : Int32))) 110 T1) (by omega) (by omega) (cd_lt (by omega) (by omega) (by omega) (by omega))) dX10_allowed_76 sh_85 (by decide) rfl rfl rfl (Nat.le_of_ble_eq_true rfl) (Nat.le_of_ble_eq_true rfl) (Nat.le_of_ble_eq_true rfl) ⟨Nat.le_refl _, Nat.le_refl _⟩ (fun v15 X15 q15 => ?_)
                  obtain ⟨T15, eX15, hT15, hb15⟩ := q15
                  rw [ma_ma] at eX15
                  subst X15
                  try simp (disch := decide) only [oC_ma, gC_ma, oM_ma, gM_ma, tC_ma, tM_ma, ma_eq, ma_ne] at hb15
                  refine V_if_eqB (tgt := 86) C hb15 dX10_allowed_79 (by decide) (fun h79_16 => ?_) (fun h79_16 => ?_)
                  · refine V_iconst (v := (0 : Int32)) C dX10_allowed_86 (by decide) ?_
                    refine V_iaddN (a := c1) (b := 0) C dX10_allowed_87 ?_
                    refine V_istore_n (ls1 := [some (.ref (w.2.1 85)), some (.int (nI a)), some (.int (nI b)), some (.int (nI c1)), some (.int (nI (2 + i))), some (.int (nI md))]) C dX10_allowed_88 (by decide) rfl ?_
                    refine V_iincN (a := md) (ls1 := [some (.ref (w.2.1 85)), some (.int (nI a)), some (.int (nI b)), some (.int (nI c1)), some (.int (nI (2 + i))), some (.int (nI (md + 1)))]) C dX10_allowed_89 rfl (by decide) rfl ?_
                    refine V_goto (tgt := 43) C dX10_allowed_92 (by decide) ?_
                    exact ih43 (md + 1) c1 T15 (by omega) (by omega) (acc_n (p := fun md => Al (tM X) (dg (a + 10 * md + 10 ^ (2 + i - 1) * b)) (2 + i)) hc1 (by assumption))
                  · refine V_iconst (v := (1 : Int32)) C dX10_allowed_82 (by decide) ?_
                    refine V_goto (tgt := 87) C dX10_allowed_83 (by decide) ?_
                    refine V_iaddN (a := c1) (b := 1) C dX10_allowed_87 ?_
                    refine V_istore_n (ls1 := [some (.ref (w.2.1 85)), some (.int (nI a)), some (.int (nI b)), some (.int (nI (c1 + 1))), some (.int (nI (2 + i))), some (.int (nI md))]) C dX10_allowed_88 (by decide) rfl ?_
                    refine V_iincN (a := md) (ls1 := [some (.ref (w.2.1 85)), some (.int (nI a)), some (.int (nI b)), some (.int (nI (c1 + 1))), some (.int (nI (2 + i))), some (.int (nI (md + 1)))]) C dX10_allowed_89 rfl (by decide) rfl ?_
                    refine V_goto (tgt := 43) C dX10_allowed_92 (by decide) ?_
                    exact ih43 (md + 1) (c1 + 1) T15 (by omega) (by omega) (acc_y (p := fun md => Al (tM X) (dg (a + 10 * md + 10 ^ (2 + i - 1) * b)) (2 + i)) hc1 (by assumption))
            exact L43 _ 0 c0 T (Nat.lt_succ_self _) (Nat.zero_le _) rfl
      refine V_eqX (X1 := (ma (ma X 85 (upd (X 85) 0 (0 : Int32))) 110 (X 110))) (ma_id rfl) ?_
      exact L33 _ 0 0 (X 110) (Nat.lt_succ_self _) (by omega) rfl
def q_X10_falseAlarms (X : Mem) (h n : Nat) : Int32 → Mem → Prop := fun r X' => ∃ V hv pv T, X' = ma (ma (ma (ma (ma X 85 (upd (X 85) 0 (0 : Int32))) 107 V) 108 pv) 109 hv) 110 T ∧ (IsV (oM X) (gM X) n (X 85 1) V ∧ VoR (oM X) V n hv pv) ∧ r = nI (sumN (fun i => sumN (fun cd => oneIf (Al (tM X) (dg cd) (2 + i) ∧ Rf (tM X) hv pv (dg cd) (2 + i - 1))) (10 ^ (2 + i))) 4)
set_option maxHeartbeats 4000000 in
set_option maxRecDepth 100000 in
theorem k_X10_falseAlarms (w : Wt) (l : Launch) (X : Mem) (h n : Nat) (hO : OInv (oM X) h n) (hG : GInv (gM X) h) (hn : X 85 17 = nI n) (hh : X 85 5 = nI h) : CtI w l yX10_falseAlarms cX10_falseAlarms 4 (some .int) 6 144 [.ref (w.2.1 85)] X (q_X10_falseAlarms X h n) := by
  have n50 := hO.1
  have h1 := hG.1
  have h8 := hG.2.1
  refine CtI_of (by decide +kernel) (Nat.le_of_ble_eq_true rfl) (List.forall_mem_cons.mpr ⟨rfl, (fun _ h => nomatch h)⟩) (ls := [some (.ref (w.2.1 85)), none, none, none]) rfl (args := (#[.ref (w.2.1 85)] : Array Value)) rfl (own := RX10) rfl ?_
  intro p e s m below meth c C
  refine V_aload_n C dX10_falseAlarms_0 rfl ?_
  refine V_iconst (v := (0 : Int32)) C dX10_falseAlarms_1 (by decide) ?_
  refine V_put C fp_X10_105 dX10_falseAlarms_2 (by decide) sh_85 rfl ?_
  refine V_aload_n C dX10_falseAlarms_5 rfl ?_
  refine V_callVU C [] mi_X10_203 (k_X10_vouches w l (ma X 85 (upd (X 85) 0 (0 : Int32))) h n (by rw [oM_ma (by decide)]; exact hO) (by rw [gM_ma (by decide)]; exact hG) hn hh) dX10_falseAlarms_6 sh_85 (by decide) rfl rfl rfl (Nat.le_of_ble_eq_true rfl) (Nat.le_of_ble_eq_true rfl) (Nat.le_of_ble_eq_true rfl) ⟨Nat.le_refl _, Nat.le_refl _⟩ (fun X1 q1 => ?_)
  obtain ⟨V1, hv1, pv1, eX1, hVo1⟩ := q1
  subst X1
  try simp (disch := decide) only [oC_ma, gC_ma, oM_ma, gM_ma, tC_ma, tM_ma, ma_eq, ma_ne] at hVo1
  refine V_iconst (v := (0 : Int32)) C dX10_falseAlarms_9 (by decide) ?_
  refine V_istore_n (ls1 := [some (.ref (w.2.1 85)), some (.int (0 : Int32)), none, none]) C dX10_falseAlarms_10 (by decide) rfl ?_
  refine V_iconst (v := (2 : Int32)) C dX10_falseAlarms_11 (by decide) ?_
  refine V_istore_n (ls1 := [some (.ref (w.2.1 85)), some (.int (0 : Int32)), some (.int (2 : Int32)), none]) C dX10_falseAlarms_12 (by decide) rfl ?_
  have L13 : ∀ (fu : Nat) (i : Nat) (c0 : Nat) (T : Nat → Int32), 4 - i < fu → (i ≤ 4) → (c0 = sumN (fun i => sumN (fun cd => oneIf (Al (tM X) (dg cd) (2 + i) ∧ Rf (tM X) hv1 pv1 (dg cd) (2 + i - 1))) (10 ^ (2 + i))) i) → V p l e ({ frames := 6, cells := 0, slots := 0, locals := 144 } : Room) s m (#[.ref (w.2.1 85)] : Array Value) below meth c w 4 0 0 (EI w below s (#[.ref (w.2.1 85)] : Array Value) 0 0 (q_X10_falseAlarms X h n)) 13 [some (.ref (w.2.1 85)), some (.int (nI c0)), some (.int (nI (2 + i))), none] [] (ma (ma (ma (ma (ma X 85 (upd (X 85) 0 (0 : Int32))) 107 V1) 108 pv1) 109 hv1) 110 T) := by
    intro fu
    induction fu with
    | zero => intro i c0 T hm; exact absurd hm (Nat.not_lt_zero _)
    | succ fu ih13 =>
      intro i c0 T hm13 hi hc
      refine V_iload_n C dX10_falseAlarms_13 rfl ?_
      refine V_bipush (v := (6 : Int32)) C dX10_falseAlarms_14 (by decide) ?_
      refine V_icmp_geN (a := 2 + i) (b := 6) (tgt := 81) C dX10_falseAlarms_16 (by decide) (by omega) (by omega) (fun h16_2 => ?_) (fun h16_2 => ?_)
      · refine V_iload_n C dX10_falseAlarms_81 rfl ?_
        exact V_ireturnI C dX10_falseAlarms_82 ⟨V1, hv1, pv1, T, rfl, hVo1, by rw [hc, show i = 4 by omega]⟩
      · refine V_iconst (v := (0 : Int32)) C dX10_falseAlarms_19 (by decide) ?_
        refine V_istore_n (ls1 := [some (.ref (w.2.1 85)), some (.int (nI c0)), some (.int (nI (2 + i))), some (.int (0 : Int32))]) C dX10_falseAlarms_20 (by decide) rfl ?_
        have L21 : ∀ (fu : Nat) (cd : Nat) (c1 : Nat) (T1 : Nat → Int32), 10 ^ (2 + i) - cd < fu → (cd ≤ 10 ^ (2 + i)) → (c1 = c0 + sumN (fun cd => oneIf (Al (tM X) (dg cd) (2 + i) ∧ Rf (tM X) hv1 pv1 (dg cd) (2 + i - 1))) cd) → V p l e ({ frames := 6, cells := 0, slots := 0, locals := 144 } : Room) s m (#[.ref (w.2.1 85)] : Array Value) below meth c w 4 0 0 (EI w below s (#[.ref (w.2.1 85)] : Array Value) 0 0 (q_X10_falseAlarms X h n)) 21 [some (.ref (w.2.1 85)), some (.int (nI c1)), some (.int (nI (2 + i))), some (.int (nI cd))] [] (ma (ma (ma (ma (ma X 85 (upd (X 85) 0 (0 : Int32))) 107 V1) 108 pv1) 109 hv1) 110 T1) := by
          intro fu
          induction fu with
          | zero => intro cd c1 T1 hm; exact absurd hm (Nat.not_lt_zero _)
          | succ fu ih21 =>
            intro cd c1 T1 hm21 hcd hc1
            refine V_iload_n C dX10_falseAlarms_21 rfl ?_
            refine V_iload_n C dX10_falseAlarms_22 rfl ?_
            refine V_callSI C [.int (nI (2 + i))] ms_X10_214 (k_X10_power w l (2 + i) (ma (ma (ma (ma (ma X 85 (upd (X 85) 0 (0 : Int32))) 107 V1) 108 pv1) 109 hv1) 110 T1) (by omega)) dX10_falseAlarms_23 rfl rfl (Nat.le_of_ble_eq_true rfl) (Nat.le_of_ble_eq_true rfl) (Nat.le_of_ble_eq_true rfl) ⟨Nat.le_refl _, Nat.le_refl _⟩ (fun v3 X3 q3 => ?_)
            obtain ⟨ev3, eX3⟩ := q3; subst X3
            try simp (disch := decide) only [oC_ma, gC_ma, oM_ma, gM_ma, tC_ma, tM_ma, ma_eq, ma_ne] at ev3
            subst v3
            have hpw : 10 ^ (2 + i) ≤ 100000 := pw_5 (by omega)
            refine V_icmp_geN (a := cd) (b := 10 ^ (2 + i)) (tgt := 75) C dX10_falseAlarms_26 (by decide) (by omega) (by omega) (fun h26_4 => ?_) (fun h26_4 => ?_)
            · refine V_iincN (a := 2 + i) (ls1 := [some (.ref (w.2.1 85)), some (.int (nI c1)), some (.int (nI (2 + i + 1))), some (.int (nI cd))]) C dX10_falseAlarms_75 rfl (by decide) rfl ?_
              refine V_goto (tgt := 13) C dX10_falseAlarms_78 (by decide) ?_
              refine V_kill (i := 3) (ls1 := [some (.ref (w.2.1 85)), some (.int (nI c1)), some (.int (nI (2 + i + 1))), none]) rfl ?_
              exact ih13 (i + 1) c1 T1 (by omega) (by omega) (by rw [hc1, show cd = 10 ^ (2 + i) from by omega, hc]; rfl)
            · refine V_iload_n C dX10_falseAlarms_29 rfl ?_
              refine V_aload_n C dX10_falseAlarms_30 rfl ?_
              refine V_iload_n C dX10_falseAlarms_31 rfl ?_
              refine V_iload_n C dX10_falseAlarms_32 rfl ?_
              refine V_callVI C [.int (nI cd), .int (nI (2 + i))] mi_X10_217 (k_X10_isAllowed w l cd (2 + i) (ma (ma (ma (ma (ma X 85 (upd (X 85) 0 (0 : Int32))) 107 V1) 108 pv1) 109 hv1) 110 T1) (by omega) (by omega) (by omega)) dX10_falseAlarms_33 sh_85 (by decide) rfl rfl rfl (Nat.le_of_ble_eq_true rfl) (Nat.le_of_ble_eq_true rfl) (Nat.le_of_ble_eq_true rfl) ⟨Nat.le_refl _, Nat.le_refl _⟩ (fun v5 X5 q5 => ?_)
              obtain ⟨T5, eX5, hT5, hb5⟩ := q5
              rw [ma_ma] at eX5
              subst X5
              try simp (disch := decide) only [oC_ma, gC_ma, oM_ma, gM_ma, tC_ma, tM_ma, ma_eq, ma_ne] at hb5
              refine V_if_eqB (tgt := 66) C hb5 dX10_falseAlarms_36 (by decide) (fun h36_6 => ?_) (fun h36_6 => ?_)
              · refine V_iconst (v := (0 : Int32)) C dX10_falseAlarms_66 (by decide) ?_
                refine V_iaddN (a := c1) (b := 0) C dX10_falseAlarms_67 ?_
                refine V_istore_n (ls1 := [some (.ref (w.2.1 85)), some (.int (nI c1)), some (.int (nI (2 + i))), some (.int (nI cd))]) C dX10_falseAlarms_68 (by decide) rfl ?_
                refine V_iincN (a := cd) (ls1 := [some (.ref (w.2.1 85)), some (.int (nI c1)), some (.int (nI (2 + i))), some (.int (nI (cd + 1)))]) C dX10_falseAlarms_69 rfl (by decide) rfl ?_
                refine V_goto (tgt := 21) C dX10_falseAlarms_72 (by decide) ?_
                exact ih21 (cd + 1) c1 T5 (by omega) (by omega) (acc_n (p := fun cd => Al (tM X) (dg cd) (2 + i) ∧ Rf (tM X) hv1 pv1 (dg cd) (2 + i - 1)) hc1 (by first | exact fun q => absurd q.1 (by assumption) | exact fun q => absurd q.2 (by assumption)))
              · refine V_aload_n C dX10_falseAlarms_39 rfl ?_
                refine V_aload_n C dX10_falseAlarms_40 rfl ?_
                refine V_getr C fl_X10_87 dX10_falseAlarms_41 (by decide) sh_85 rfl ?_
                refine V_iconst (v := (0 : Int32)) C dX10_falseAlarms_44 (by decide) ?_
                refine V_iload_n C dX10_falseAlarms_45 rfl ?_
                refine V_iconst (v := (1 : Int32)) C dX10_falseAlarms_46 (by decide) ?_
                refine V_isubN (a := 2 + i) (b := 1) C dX10_falseAlarms_47 (by omega) ?_
                refine V_aload_n C dX10_falseAlarms_48 rfl ?_
                refine V_getr C fl_X10_87 dX10_falseAlarms_49 (by decide) sh_85 rfl ?_
                refine V_iload_n C dX10_falseAlarms_52 rfl ?_
                refine V_iconst (v := (1 : Int32)) C dX10_falseAlarms_53 (by decide) ?_
                refine V_isubN (a := 2 + i) (b := 1) C dX10_falseAlarms_54 (by omega) ?_
                refine V_ialdN (p0 := 110) (o := (2 + i) - 1) (v := T5 ((2 + i) - 1)) C dX10_falseAlarms_55 sh_110 (by decide) (by omega) (by decide) rfl ?_
                have hq7 : dg cd ((2 + i) - 1) < 10 := dg_lt
                refine V_eqi (y := nI (dg cd ((2 + i) - 1))) (hT5 ((2 + i) - 1) (by omega)) ?_
                refine V_callVI C [.ref (w.2.1 110), .int (0 : Int32), .int (nI ((2 + i) - 1)), .int (nI (dg cd ((2 + i) - 1)))] mi_X10_210 (k_X10_refuses w l 110 0 ((2 + i) - 1) (dg cd ((2 + i) - 1)) (ma (ma (ma (ma (ma X 85 (upd (X 85) 0 (0 : Int32))) 107 V1) 108 pv1) 109 hv1) 110 T5) 6 (dg cd) sh_110 (by decide) (by decide) (fun k hk => by rw [ma_eq, Nat.zero_add]; exact ⟨hT5 k (by omega), dg_lt⟩) (by omega) (by rw [ma_ne (by decide), ma_ne (by decide), ma_eq]; exact VoR_inv hO (Nat.le_refl _) hVo1.2) (by omega) rfl dg_lt) dX10_falseAlarms_56 sh_85 (by decide) rfl rfl rfl (Nat.le_of_ble_eq_true rfl) (Nat.le_of_ble_eq_true rfl) (Nat.le_of_ble_eq_true rfl) ⟨Nat.le_refl _, Nat.le_refl _⟩ (fun v8 X8 q8 => ?_)
                obtain ⟨hb8, eX8⟩ := q8; subst X8
                try simp (disch := decide) only [oC_ma, gC_ma, oM_ma, gM_ma, tC_ma, tM_ma, ma_eq, ma_ne] at hb8
                refine V_if_eqB (tgt := 66) C hb8 dX10_falseAlarms_59 (by decide) (fun h59_9 => ?_) (fun h59_9 => ?_)
                · refine V_iconst (v := (0 : Int32)) C dX10_falseAlarms_66 (by decide) ?_
                  refine V_iaddN (a := c1) (b := 0) C dX10_falseAlarms_67 ?_
                  refine V_istore_n (ls1 := [some (.ref (w.2.1 85)), some (.int (nI c1)), some (.int (nI (2 + i))), some (.int (nI cd))]) C dX10_falseAlarms_68 (by decide) rfl ?_
                  refine V_iincN (a := cd) (ls1 := [some (.ref (w.2.1 85)), some (.int (nI c1)), some (.int (nI (2 + i))), some (.int (nI (cd + 1)))]) C dX10_falseAlarms_69 rfl (by decide) rfl ?_
                  refine V_goto (tgt := 21) C dX10_falseAlarms_72 (by decide) ?_
                  exact ih21 (cd + 1) c1 T5 (by omega) (by omega) (acc_n (p := fun cd => Al (tM X) (dg cd) (2 + i) ∧ Rf (tM X) hv1 pv1 (dg cd) (2 + i - 1)) hc1 (by first | exact fun q => absurd q.1 (by assumption) | exact fun q => absurd q.2 (by assumption)))
                · refine V_iconst (v := (1 : Int32)) C dX10_falseAlarms_62 (by decide) ?_
                  refine V_goto (tgt := 67) C dX10_falseAlarms_63 (by decide) ?_
                  refine V_iaddN (a := c1) (b := 1) C dX10_falseAlarms_67 ?_
                  refine V_istore_n (ls1 := [some (.ref (w.2.1 85)), some (.int (nI (c1 + 1))), some (.int (nI (2 + i))), some (.int (nI cd))]) C dX10_falseAlarms_68 (by decide) rfl ?_
                  refine V_iincN (a := cd) (ls1 := [some (.ref (w.2.1 85)), some (.int (nI (c1 + 1))), some (.int (nI (2 + i))), some (.int (nI (cd + 1)))]) C dX10_falseAlarms_69 rfl (by decide) rfl ?_
                  refine V_goto (tgt := 21) C dX10_falseAlarms_72 (by decide) ?_
                  exact ih21 (cd + 1) (c1 + 1) T5 (by omega) (by omega) (acc_y (p := fun cd => Al (tM X) (dg cd) (2 + i) ∧ Rf (tM X) hv1 pv1 (dg cd) (2 + i - 1)) hc1 ⟨by assumption, by assumption⟩)
        exact L21 _ 0 c0 T (Nat.lt_succ_self _) (Nat.zero_le _) rfl
  refine V_eqX (X1 := (ma (ma (ma (ma (ma X 85 (upd (X 85) 0 (0 : Int32))) 107 V1) 108 pv1) 109 hv1) 110 (X 110))) (ma_id rfl) ?_
  exact L13 _ 0 0 (X 110) (Nat.lt_succ_self _) (by omega) rfl
def q_X10_clique (X : Mem) (R : Nat) (PP : Nat → Nat → Nat) (Z : Nat → Nat) (Th : Nat → Prop) : Int32 → Mem → Prop := fun r X' => KpM X X' ∧ X' 85 0 = 0 ∧ X' 116 = X 116 ∧ r = nI (KF R PP Z Th)
set_option maxHeartbeats 4000000 in
set_option maxRecDepth 100000 in
theorem k_X10_clique (w : Wt) (l : Launch) (X : Mem) (R : Nat) (PP : Nat → Nat → Nat) (Z : Nat → Nat) (Th : Nat → Prop) (hB : RBm X R PP Z Th) : CtI w l yX10_clique cX10_clique 1 (some .int) 4 88 [.ref (w.2.1 85)] X (q_X10_clique X R PP Z Th) := by
  have hR24 := hB.1
  refine CtI_of (by decide +kernel) (Nat.le_of_ble_eq_true rfl) (List.forall_mem_cons.mpr ⟨rfl, (fun _ h => nomatch h)⟩) (ls := [some (.ref (w.2.1 85))]) rfl (args := (#[.ref (w.2.1 85)] : Array Value)) rfl (own := RX10) rfl ?_
  intro p e s m below meth c C
  refine V_aload_n C dX10_clique_0 rfl ?_
  refine V_iconst (v := (0 : Int32)) C dX10_clique_1 (by decide) ?_
  refine V_put C fp_X10_105 dX10_clique_2 (by decide) sh_85 rfl ?_
  refine V_aload_n C dX10_clique_5 rfl ?_
  refine V_callVU C [] mi_X10_235 (k_X10_nears w l (ma X 85 (upd (X 85) 0 (0 : Int32))) R PP Z Th (RBm_85 (by decide) hB)) dX10_clique_6 sh_85 (by decide) rfl rfl rfl (Nat.le_of_ble_eq_true rfl) (Nat.le_of_ble_eq_true rfl) (Nat.le_of_ble_eq_true rfl) ⟨Nat.le_refl _, Nat.le_refl _⟩ (fun X1 q1 => ?_)
  obtain ⟨hO0, hn0, hc0⟩ := nears_to q1
  refine V_aload_n C dX10_clique_9 rfl ?_
  refine V_geti C fl_X10_223 dX10_clique_10 (by decide) sh_85 rfl ?_
  refine V_eqi (y := nI (KF R PP Z Th)) hc0 ?_
  exact V_ireturnI C dX10_clique_13 ⟨(KpM_out hO0).1, (KpM_out hO0).2, (hO0.1 116 (by omega)).trans (ma_ne (by decide)), rfl⟩
def q_X10_inferred (u : Int32) (v : Int32) (rn : Int32) (X : Mem) (R : Nat) (PP : Nat → Nat → Nat) (Z : Nat → Nat) (Th : Nat → Prop) : Int32 → Mem → Prop := fun r X' => (∃ c, Cd1 (Btw u 0 9 ∧ Btw v 0 9 ∧ Btw rn 0 2) c ∧ r = 0 ∧ X' = ma X 85 (upd (X 85) 0 c)) ∨ (∃ a b c, (a < 10 ∧ b < 10 ∧ c < 3 ∧ u = nI a ∧ v = nI b ∧ rn = nI c) ∧ KpM X X' ∧ X' 85 0 = 0 ∧ X' 116 = X 116 ∧ BetR (Nb R PP Z Th) (CuF R PP Z Th c) a b r)
set_option maxHeartbeats 4000000 in
set_option maxRecDepth 100000 in
theorem k_X10_inferred (w : Wt) (l : Launch) (u : Int32) (v : Int32) (rn : Int32) (X : Mem) (R : Nat) (PP : Nat → Nat → Nat) (Z : Nat → Nat) (Th : Nat → Prop) (hB : RBm X R PP Z Th) : CtI w l yX10_inferred cX10_inferred 4 (some .int) 5 116 [.ref (w.2.1 85), .int u, .int v, .int rn] X (q_X10_inferred u v rn X R PP Z Th) := by
  have hR24 := hB.1
  refine CtI_of (by decide +kernel) (Nat.le_of_ble_eq_true rfl) (List.forall_mem_cons.mpr ⟨rfl, (List.forall_mem_cons.mpr ⟨rfl, (List.forall_mem_cons.mpr ⟨rfl, (List.forall_mem_cons.mpr ⟨rfl, (fun _ h => nomatch h)⟩)⟩)⟩)⟩) (ls := [some (.ref (w.2.1 85)), some (.int u), some (.int v), some (.int rn)]) rfl (args := (#[.ref (w.2.1 85), .int u, .int v, .int rn] : Array Value)) rfl (own := RX10) rfl ?_
  intro p e s m below meth c C
  refine V_aload_n C dX10_inferred_0 rfl ?_
  refine V_iload_n C dX10_inferred_1 rfl ?_
  refine V_callSI C [.int u] ms_X10_125 (k_X10_isNet w l u X ) dX10_inferred_2 rfl rfl (Nat.le_of_ble_eq_true rfl) (Nat.le_of_ble_eq_true rfl) (Nat.le_of_ble_eq_true rfl) ⟨Nat.le_refl _, Nat.le_refl _⟩ (fun v1 X1 q1 => ?_)
  obtain ⟨hb1, eX1⟩ := q1; subst X1
  refine V_if_eqB (tgt := 28) C hb1 dX10_inferred_5 (by decide) (fun h5_2 => ?_) (fun h5_2 => ?_)
  · refine V_iconst (v := (1 : Int32)) C dX10_inferred_28 (by decide) ?_
    refine V_callVI C [.int (1 : Int32)] mi_X10_119 (k_X10_isFine_1 w l X ) dX10_inferred_29 sh_85 (by decide) rfl rfl rfl (Nat.le_of_ble_eq_true rfl) (Nat.le_of_ble_eq_true rfl) (Nat.le_of_ble_eq_true rfl) ⟨Nat.le_refl _, Nat.le_refl _⟩ (fun v3 X3 q3 => ?_)
    obtain ⟨ev3, eX3⟩ := q3; subst X3; subst v3
    refine V_if_ne (x := (0 : Int32)) (tgt := 37) C dX10_inferred_32 (by decide) (fun h => absurd h (by decide)) (fun _ => ?_)
    refine V_iconst (v := (0 : Int32)) C dX10_inferred_35 (by decide) ?_
    exact V_ireturnI C dX10_inferred_36 (Or.inl ⟨1, ⟨rfl, (by first | exact fun q => absurd q.1 (by assumption) | exact fun q => absurd q.2.1 (by assumption) | exact fun q => absurd q.2.2 (by assumption))⟩, rfl, rfl⟩)
  · refine V_iload_n C dX10_inferred_8 rfl ?_
    refine V_callSI C [.int v] ms_X10_125 (k_X10_isNet w l v X ) dX10_inferred_9 rfl rfl (Nat.le_of_ble_eq_true rfl) (Nat.le_of_ble_eq_true rfl) (Nat.le_of_ble_eq_true rfl) ⟨Nat.le_refl _, Nat.le_refl _⟩ (fun v5 X5 q5 => ?_)
    obtain ⟨hb5, eX5⟩ := q5; subst X5
    refine V_if_eqB (tgt := 28) C hb5 dX10_inferred_12 (by decide) (fun h12_6 => ?_) (fun h12_6 => ?_)
    · refine V_iconst (v := (1 : Int32)) C dX10_inferred_28 (by decide) ?_
      refine V_callVI C [.int (1 : Int32)] mi_X10_119 (k_X10_isFine_1 w l X ) dX10_inferred_29 sh_85 (by decide) rfl rfl rfl (Nat.le_of_ble_eq_true rfl) (Nat.le_of_ble_eq_true rfl) (Nat.le_of_ble_eq_true rfl) ⟨Nat.le_refl _, Nat.le_refl _⟩ (fun v7 X7 q7 => ?_)
      obtain ⟨ev7, eX7⟩ := q7; subst X7; subst v7
      refine V_if_ne (x := (0 : Int32)) (tgt := 37) C dX10_inferred_32 (by decide) (fun h => absurd h (by decide)) (fun _ => ?_)
      refine V_iconst (v := (0 : Int32)) C dX10_inferred_35 (by decide) ?_
      exact V_ireturnI C dX10_inferred_36 (Or.inl ⟨1, ⟨rfl, (by first | exact fun q => absurd q.1 (by assumption) | exact fun q => absurd q.2.1 (by assumption) | exact fun q => absurd q.2.2 (by assumption))⟩, rfl, rfl⟩)
    · refine V_iload_n C dX10_inferred_15 rfl ?_
      refine V_iconst (v := (0 : Int32)) C dX10_inferred_16 (by decide) ?_
      refine V_iconst (v := (2 : Int32)) C dX10_inferred_17 (by decide) ?_
      refine V_callSI C [.int rn, .int (0 : Int32), .int (2 : Int32)] ms_X10_108 (k_X10_isBetween w l rn (0 : Int32) (2 : Int32) X ) dX10_inferred_18 rfl rfl (Nat.le_of_ble_eq_true rfl) (Nat.le_of_ble_eq_true rfl) (Nat.le_of_ble_eq_true rfl) ⟨Nat.le_refl _, Nat.le_refl _⟩ (fun v9 X9 q9 => ?_)
      obtain ⟨hb9, eX9⟩ := q9; subst X9
      refine V_if_eqB (tgt := 28) C hb9 dX10_inferred_21 (by decide) (fun h21_10 => ?_) (fun h21_10 => ?_)
      · refine V_iconst (v := (1 : Int32)) C dX10_inferred_28 (by decide) ?_
        refine V_callVI C [.int (1 : Int32)] mi_X10_119 (k_X10_isFine_1 w l X ) dX10_inferred_29 sh_85 (by decide) rfl rfl rfl (Nat.le_of_ble_eq_true rfl) (Nat.le_of_ble_eq_true rfl) (Nat.le_of_ble_eq_true rfl) ⟨Nat.le_refl _, Nat.le_refl _⟩ (fun v11 X11 q11 => ?_)
        obtain ⟨ev11, eX11⟩ := q11; subst X11; subst v11
        refine V_if_ne (x := (0 : Int32)) (tgt := 37) C dX10_inferred_32 (by decide) (fun h => absurd h (by decide)) (fun _ => ?_)
        refine V_iconst (v := (0 : Int32)) C dX10_inferred_35 (by decide) ?_
        exact V_ireturnI C dX10_inferred_36 (Or.inl ⟨1, ⟨rfl, (by first | exact fun q => absurd q.1 (by assumption) | exact fun q => absurd q.2.1 (by assumption) | exact fun q => absurd q.2.2 (by assumption))⟩, rfl, rfl⟩)
      · refine V_iconst (v := (0 : Int32)) C dX10_inferred_24 (by decide) ?_
        refine V_goto (tgt := 29) C dX10_inferred_25 (by decide) ?_
        refine V_callVI C [.int (0 : Int32)] mi_X10_119 (k_X10_isFine_0 w l X ) dX10_inferred_29 sh_85 (by decide) rfl rfl rfl (Nat.le_of_ble_eq_true rfl) (Nat.le_of_ble_eq_true rfl) (Nat.le_of_ble_eq_true rfl) ⟨Nat.le_refl _, Nat.le_refl _⟩ (fun v13 X13 q13 => ?_)
        obtain ⟨ev13, eX13⟩ := q13; subst X13; subst v13
        refine V_if_ne (x := (1 : Int32)) (tgt := 37) C dX10_inferred_32 (by decide) (fun _ => ?_) (fun h => absurd h (by decide))
        have hg1 : Btw u 0 9 := by assumption
        obtain ⟨a, ha, ea⟩ := net_at hg1
        subst ea
        have hg2 : Btw v 0 9 := by assumption
        obtain ⟨b, hb, eb⟩ := net_at hg2
        subst eb
        have hg3 : Btw rn 0 2 := by assumption
        obtain ⟨c0, hc0, ec0⟩ := Btw_of (n := 2) (by decide) hg3
        subst ec0
        refine V_aload_n C dX10_inferred_37 rfl ?_
        refine V_iload_n C dX10_inferred_38 rfl ?_
        refine V_callVU C [.int (nI c0)] mi_X10_243 (k_X10_infers w l c0 (ma X 85 (upd (X 85) 0 (0 : Int32))) R PP Z Th (RBm_85 (by decide) hB) (by omega)) dX10_inferred_39 sh_85 (by decide) rfl rfl rfl (Nat.le_of_ble_eq_true rfl) (Nat.le_of_ble_eq_true rfl) (Nat.le_of_ble_eq_true rfl) ⟨Nat.le_refl _, Nat.le_refl _⟩ (fun X15 q15 => ?_)
        obtain ⟨hO15, hn15, hc15, hR15⟩ := q15
        refine V_aload_n C dX10_inferred_42 rfl ?_
        refine V_getr C fl_X10_93 dX10_inferred_43 (by decide) sh_85 rfl ?_
        refine V_bipush (v := (10 : Int32)) C dX10_inferred_46 (by decide) ?_
        refine V_iload_n C dX10_inferred_48 rfl ?_
        refine V_imulN (a := 10) (b := a) C dX10_inferred_49 ?_
        refine V_iload_n C dX10_inferred_50 rfl ?_
        refine V_iaddN (a := 10 * a) (b := b) C dX10_inferred_51 ?_
        refine V_ialdN (p0 := 112) (o := 10 * a + b) (v := X15 112 (10 * a + b)) C dX10_inferred_52 sh_112 (by decide) (by omega) (by decide) rfl ?_
        exact V_ireturnI C dX10_inferred_53 (Or.inr ⟨a, b, c0, ⟨by omega, by omega, by omega, rfl, rfl, rfl⟩, (KpM_out hO15).1, (KpM_out hO15).2, (hO15.1 116 (by omega)).trans (ma_ne (by decide)), hR15 a b (by omega) (by omega)⟩)
def q_X10_cone (v : Int32) (X : Mem) (R : Nat) (PP : Nat → Nat → Nat) (Z : Nat → Nat) (Th : Nat → Prop) : Int32 → Mem → Prop := fun r X' => (∃ c, Cd1 (Btw v 0 9) c ∧ r = 0 ∧ X' = ma X 85 (upd (X 85) 0 c)) ∨ (∃ a, (a < 10 ∧ v = nI a) ∧ KpM X X' ∧ X' 85 0 = 0 ∧ X' 116 = X 116 ∧ SetIs r (Rch (CuF R PP Z Th 2) a))
set_option maxHeartbeats 4000000 in
set_option maxRecDepth 100000 in
theorem k_X10_cone (w : Wt) (l : Launch) (v : Int32) (X : Mem) (R : Nat) (PP : Nat → Nat → Nat) (Z : Nat → Nat) (Th : Nat → Prop) (hB : RBm X R PP Z Th) : CtI w l yX10_cone cX10_cone 2 (some .int) 5 116 [.ref (w.2.1 85), .int v] X (q_X10_cone v X R PP Z Th) := by
  have hR24 := hB.1
  refine CtI_of (by decide +kernel) (Nat.le_of_ble_eq_true rfl) (List.forall_mem_cons.mpr ⟨rfl, (List.forall_mem_cons.mpr ⟨rfl, (fun _ h => nomatch h)⟩)⟩) (ls := [some (.ref (w.2.1 85)), some (.int v)]) rfl (args := (#[.ref (w.2.1 85), .int v] : Array Value)) rfl (own := RX10) rfl ?_
  intro p e s m below meth c C
  refine V_aload_n C dX10_cone_0 rfl ?_
  refine V_iload_n C dX10_cone_1 rfl ?_
  refine V_callSI C [.int v] ms_X10_125 (k_X10_isNet w l v X ) dX10_cone_2 rfl rfl (Nat.le_of_ble_eq_true rfl) (Nat.le_of_ble_eq_true rfl) (Nat.le_of_ble_eq_true rfl) ⟨Nat.le_refl _, Nat.le_refl _⟩ (fun v1 X1 q1 => ?_)
  obtain ⟨hb1, eX1⟩ := q1; subst X1
  refine V_if_eqB (tgt := 12) C hb1 dX10_cone_5 (by decide) (fun h5_2 => ?_) (fun h5_2 => ?_)
  · refine V_iconst (v := (1 : Int32)) C dX10_cone_12 (by decide) ?_
    refine V_callVI C [.int (1 : Int32)] mi_X10_119 (k_X10_isFine_1 w l X ) dX10_cone_13 sh_85 (by decide) rfl rfl rfl (Nat.le_of_ble_eq_true rfl) (Nat.le_of_ble_eq_true rfl) (Nat.le_of_ble_eq_true rfl) ⟨Nat.le_refl _, Nat.le_refl _⟩ (fun v3 X3 q3 => ?_)
    obtain ⟨ev3, eX3⟩ := q3; subst X3; subst v3
    refine V_if_ne (x := (0 : Int32)) (tgt := 21) C dX10_cone_16 (by decide) (fun h => absurd h (by decide)) (fun _ => ?_)
    refine V_iconst (v := (0 : Int32)) C dX10_cone_19 (by decide) ?_
    exact V_ireturnI C dX10_cone_20 (Or.inl ⟨1, ⟨rfl, (by assumption)⟩, rfl, rfl⟩)
  · refine V_iconst (v := (0 : Int32)) C dX10_cone_8 (by decide) ?_
    refine V_goto (tgt := 13) C dX10_cone_9 (by decide) ?_
    refine V_callVI C [.int (0 : Int32)] mi_X10_119 (k_X10_isFine_0 w l X ) dX10_cone_13 sh_85 (by decide) rfl rfl rfl (Nat.le_of_ble_eq_true rfl) (Nat.le_of_ble_eq_true rfl) (Nat.le_of_ble_eq_true rfl) ⟨Nat.le_refl _, Nat.le_refl _⟩ (fun v5 X5 q5 => ?_)
    obtain ⟨ev5, eX5⟩ := q5; subst X5; subst v5
    refine V_if_ne (x := (1 : Int32)) (tgt := 21) C dX10_cone_16 (by decide) (fun _ => ?_) (fun h => absurd h (by decide))
    have hg1 : Btw v 0 9 := by assumption
    obtain ⟨a, ha, ea⟩ := net_at hg1
    subst ea
    refine V_aload_n C dX10_cone_21 rfl ?_
    refine V_iconst (v := (2 : Int32)) C dX10_cone_22 (by decide) ?_
    refine V_callVU C [.int (2 : Int32)] mi_X10_243 (k_X10_infers w l 2 (ma X 85 (upd (X 85) 0 (0 : Int32))) R PP Z Th (RBm_85 (by decide) hB) (by decide)) dX10_cone_23 sh_85 (by decide) rfl rfl rfl (Nat.le_of_ble_eq_true rfl) (Nat.le_of_ble_eq_true rfl) (Nat.le_of_ble_eq_true rfl) ⟨Nat.le_refl _, Nat.le_refl _⟩ (fun X7 q7 => ?_)
    obtain ⟨hO7, hn7, hc7, hR7⟩ := q7
    refine V_aload_n C dX10_cone_26 rfl ?_
    refine V_iload_n C dX10_cone_27 rfl ?_
    refine V_callVI C [.int (nI a)] mi_X10_247 (k_X10_conesOf w l a X7 (Nb R PP Z Th) (CuF R PP Z Th 2) hR7 (fun _ _ h => CuF_Nb h) (fun _ _ h => CuF_lt h) (by omega)) dX10_cone_28 sh_85 (by decide) rfl rfl rfl (Nat.le_of_ble_eq_true rfl) (Nat.le_of_ble_eq_true rfl) (Nat.le_of_ble_eq_true rfl) ⟨Nat.le_refl _, Nat.le_refl _⟩ (fun v8 X8 q8 => ?_)
    obtain ⟨hv8, eX8⟩ := q8; subst X8
    exact V_ireturnI C dX10_cone_31 (Or.inr ⟨a, ⟨by omega, rfl⟩, (KpM_out hO7).1, (KpM_out hO7).2, (hO7.1 116 (by omega)).trans (ma_ne (by decide)), hv8⟩)
def q_X10_coneByPaths (v : Int32) (X : Mem) (R : Nat) (PP : Nat → Nat → Nat) (Z : Nat → Nat) (Th : Nat → Prop) : Int32 → Mem → Prop := fun r X' => (∃ c, Cd1 (Btw v 0 9) c ∧ r = 0 ∧ X' = ma X 85 (upd (X 85) 0 c)) ∨ (∃ a, (a < 10 ∧ v = nI a) ∧ KpM X X' ∧ X' 85 0 = 0 ∧ X' 116 = X 116 ∧ SetIs r (PCone (CuF R PP Z Th 2) PP Z Th R a))
set_option maxHeartbeats 4000000 in
set_option maxRecDepth 100000 in
theorem k_X10_coneByPaths (w : Wt) (l : Launch) (v : Int32) (X : Mem) (R : Nat) (PP : Nat → Nat → Nat) (Z : Nat → Nat) (Th : Nat → Prop) (hB : RBm X R PP Z Th) : CtI w l yX10_coneByPaths cX10_coneByPaths 7 (some .int) 5 116 [.ref (w.2.1 85), .int v] X (q_X10_coneByPaths v X R PP Z Th) := by
  have hR24 := hB.1
  refine CtI_of (by decide +kernel) (Nat.le_of_ble_eq_true rfl) (List.forall_mem_cons.mpr ⟨rfl, (List.forall_mem_cons.mpr ⟨rfl, (fun _ h => nomatch h)⟩)⟩) (ls := [some (.ref (w.2.1 85)), some (.int v), none, none, none, none, none]) rfl (args := (#[.ref (w.2.1 85), .int v] : Array Value)) rfl (own := RX10) rfl ?_
  intro p e s m below meth c C
  refine V_aload_n C dX10_coneByPaths_0 rfl ?_
  refine V_iload_n C dX10_coneByPaths_1 rfl ?_
  refine V_callSI C [.int v] ms_X10_125 (k_X10_isNet w l v X ) dX10_coneByPaths_2 rfl rfl (Nat.le_of_ble_eq_true rfl) (Nat.le_of_ble_eq_true rfl) (Nat.le_of_ble_eq_true rfl) ⟨Nat.le_refl _, Nat.le_refl _⟩ (fun v1 X1 q1 => ?_)
  obtain ⟨hb1, eX1⟩ := q1; subst X1
  refine V_if_eqB (tgt := 12) C hb1 dX10_coneByPaths_5 (by decide) (fun h5_2 => ?_) (fun h5_2 => ?_)
  · refine V_iconst (v := (1 : Int32)) C dX10_coneByPaths_12 (by decide) ?_
    refine V_callVI C [.int (1 : Int32)] mi_X10_119 (k_X10_isFine_1 w l X ) dX10_coneByPaths_13 sh_85 (by decide) rfl rfl rfl (Nat.le_of_ble_eq_true rfl) (Nat.le_of_ble_eq_true rfl) (Nat.le_of_ble_eq_true rfl) ⟨Nat.le_refl _, Nat.le_refl _⟩ (fun v3 X3 q3 => ?_)
    obtain ⟨ev3, eX3⟩ := q3; subst X3; subst v3
    refine V_if_ne (x := (0 : Int32)) (tgt := 21) C dX10_coneByPaths_16 (by decide) (fun h => absurd h (by decide)) (fun _ => ?_)
    refine V_iconst (v := (0 : Int32)) C dX10_coneByPaths_19 (by decide) ?_
    exact V_ireturnI C dX10_coneByPaths_20 (Or.inl ⟨1, ⟨rfl, (by assumption)⟩, rfl, rfl⟩)
  · refine V_iconst (v := (0 : Int32)) C dX10_coneByPaths_8 (by decide) ?_
    refine V_goto (tgt := 13) C dX10_coneByPaths_9 (by decide) ?_
    refine V_callVI C [.int (0 : Int32)] mi_X10_119 (k_X10_isFine_0 w l X ) dX10_coneByPaths_13 sh_85 (by decide) rfl rfl rfl (Nat.le_of_ble_eq_true rfl) (Nat.le_of_ble_eq_true rfl) (Nat.le_of_ble_eq_true rfl) ⟨Nat.le_refl _, Nat.le_refl _⟩ (fun v5 X5 q5 => ?_)
    obtain ⟨ev5, eX5⟩ := q5; subst X5; subst v5
    refine V_if_ne (x := (1 : Int32)) (tgt := 21) C dX10_coneByPaths_16 (by decide) (fun _ => ?_) (fun h => absurd h (by decide))
    have hg1 : Btw v 0 9 := by assumption
    obtain ⟨a, ha, ea⟩ := net_at hg1
    subst ea
    refine V_aload_n C dX10_coneByPaths_21 rfl ?_
    refine V_iconst (v := (2 : Int32)) C dX10_coneByPaths_22 (by decide) ?_
    refine V_callVU C [.int (2 : Int32)] mi_X10_243 (k_X10_infers w l 2 (ma X 85 (upd (X 85) 0 (0 : Int32))) R PP Z Th (RBm_85 (by decide) hB) (by decide)) dX10_coneByPaths_23 sh_85 (by decide) rfl rfl rfl (Nat.le_of_ble_eq_true rfl) (Nat.le_of_ble_eq_true rfl) (Nat.le_of_ble_eq_true rfl) ⟨Nat.le_refl _, Nat.le_refl _⟩ (fun X7 q7 => ?_)
    obtain ⟨hO7, hn7, hc7, hR7⟩ := q7
    have hB4 := RBm_out hO7 (RBm_85 (by decide) hB)
    refine V_iconst (v := (1 : Int32)) C dX10_coneByPaths_26 (by decide) ?_
    refine V_iload_n C dX10_coneByPaths_27 rfl ?_
    refine V_ishl C dX10_coneByPaths_28 ?_
    refine V_eqi (y := nI (2 ^ a)) (shl1 (by omega)) ?_
    refine V_istore_n (ls1 := [some (.ref (w.2.1 85)), some (.int (nI a)), some (.int (nI (2 ^ a))), none, none, none, none]) C dX10_coneByPaths_29 (by decide) rfl ?_
    refine V_iconst (v := (0 : Int32)) C dX10_coneByPaths_30 (by decide) ?_
    refine V_istore_n (ls1 := [some (.ref (w.2.1 85)), some (.int (nI a)), some (.int (nI (2 ^ a))), some (.int (0 : Int32)), none, none, none]) C dX10_coneByPaths_31 (by decide) rfl ?_
    have L32 : ∀ (fu : Nat) (r : Nat) (M : Nat), R - r < fu → (r ≤ R) → (M < 1024 ∧ ∀ b, M.testBit b = true ↔ PCone (CuF R PP Z Th 2) PP Z Th r a b) → V p l e ({ frames := 5, cells := 0, slots := 0, locals := 116 } : Room) s m (#[.ref (w.2.1 85), .int (nI a)] : Array Value) below meth c w 7 0 0 (EI w below s (#[.ref (w.2.1 85), .int (nI a)] : Array Value) 0 0 (q_X10_coneByPaths (nI a) X R PP Z Th)) 32 [some (.ref (w.2.1 85)), some (.int (nI a)), some (.int (nI M)), some (.int (nI r)), none, none, none] [] X7 := by
      intro fu
      induction fu with
      | zero => intro r M hm; exact absurd hm (Nat.not_lt_zero _)
      | succ fu ih32 =>
        intro r M hm32 hr hM
        refine V_iload_n C dX10_coneByPaths_32 rfl ?_
        refine V_aload_n C dX10_coneByPaths_33 rfl ?_
        refine V_geti C fl_X10_154 dX10_coneByPaths_34 (by decide) sh_85 rfl ?_
        refine V_eqi (y := nI R) hB4.2.1 ?_
        refine V_icmp_geN (a := r) (b := R) (tgt := 155) C dX10_coneByPaths_37 (by decide) (by omega) (by omega) (fun h37_8 => ?_) (fun h37_8 => ?_)
        · refine V_iload_n C dX10_coneByPaths_155 rfl ?_
          exact V_ireturnI C dX10_coneByPaths_156 (Or.inr ⟨a, ⟨by omega, rfl⟩, (KpM_out hO7).1, (KpM_out hO7).2, (hO7.1 116 (by omega)).trans (ma_ne (by decide)), M, ⟨hM.1, (show r = R from by omega) ▸ hM.2⟩, rfl⟩)
        · refine V_iconst (v := (0 : Int32)) C dX10_coneByPaths_40 (by decide) ?_
          refine V_istore (ls1 := [some (.ref (w.2.1 85)), some (.int (nI a)), some (.int (nI M)), some (.int (nI r)), some (.int (0 : Int32)), none, none]) C dX10_coneByPaths_41 (by decide) rfl ?_
          refine V_aload_n C dX10_coneByPaths_43 rfl ?_
          refine V_getr C fl_X10_63 dX10_coneByPaths_44 (by decide) sh_85 rfl ?_
          refine V_iload_n C dX10_coneByPaths_47 rfl ?_
          refine V_ialdN (p0 := 102) (o := r) (v := X7 102 r) C dX10_coneByPaths_48 sh_102 (by decide) (by omega) (by decide) rfl ?_
          have hq9 : 1 ≤ Z r ∧ Z r ≤ 6 := ⟨(hB4.2.2 r (by omega)).1, (hB4.2.2 r (by omega)).2.1⟩
          refine V_eqi (y := nI (Z r)) ((hB4.2.2 r (by omega)).2.2.1) ?_
          refine V_iconst (v := (1 : Int32)) C dX10_coneByPaths_49 (by decide) ?_
          refine V_isubN (a := Z r) (b := 1) C dX10_coneByPaths_50 (by omega) ?_
          refine V_istore (ls1 := [some (.ref (w.2.1 85)), some (.int (nI a)), some (.int (nI M)), some (.int (nI r)), some (.int (0 : Int32)), some (.int (nI ((Z r) - 1))), none]) C dX10_coneByPaths_51 (by decide) rfl ?_
          have L53 : ∀ (fu : Nat) (kv : Int32) (j : Nat) (M2 : Nat) (g : Int32), j < fu → (j ≤ Z r) → (kv = nI j - 1) → (PcS (CuF R PP Z Th 2) PP Z Th r a M2 j) → (bI (GoN (CuF R PP Z Th 2) (PP r) (Z r) a j) g) → V p l e ({ frames := 5, cells := 0, slots := 0, locals := 116 } : Room) s m (#[.ref (w.2.1 85), .int (nI a)] : Array Value) below meth c w 7 0 0 (EI w below s (#[.ref (w.2.1 85), .int (nI a)] : Array Value) 0 0 (q_X10_coneByPaths (nI a) X R PP Z Th)) 53 [some (.ref (w.2.1 85)), some (.int (nI a)), some (.int (nI M2)), some (.int (nI r)), some (.int g), some (.int kv), none] [] X7 := by
            intro fu
            induction fu with
            | zero => intro kv j M2 g hm; exact absurd hm (Nat.not_lt_zero _)
            | succ fu ih53 =>
              intro kv j M2 g hm53 hj hkv hM2 hg
              have hZ6 := (hB4.2.2 r (by omega)).2.1
              have hM21 := hM2.1
              refine V_iload C dX10_coneByPaths_53 rfl ?_
              refine V_if_lt (x := kv) (tgt := 149) C dX10_coneByPaths_55 (by decide) (fun h55_10 => ?_) (fun h55_10 => ?_)
              · refine V_iincN (a := r) (ls1 := [some (.ref (w.2.1 85)), some (.int (nI a)), some (.int (nI M2)), some (.int (nI (r + 1))), some (.int g), some (.int kv), none]) C dX10_coneByPaths_149 rfl (by decide) rfl ?_
                refine V_goto (tgt := 32) C dX10_coneByPaths_152 (by decide) ?_
                refine V_kill (i := 4) (ls1 := [some (.ref (w.2.1 85)), some (.int (nI a)), some (.int (nI M2)), some (.int (nI (r + 1))), none, some (.int kv), none]) rfl ?_
                refine V_kill (i := 5) (ls1 := [some (.ref (w.2.1 85)), some (.int (nI a)), some (.int (nI M2)), some (.int (nI (r + 1))), none, none, none]) rfl ?_
                exact ih32 (r + 1) M2 (by omega) (by omega) (by first | exact PcS_no hM2 (by assumption) | exact PcS_end ((kv_0 (j := j) (by omega) (hkv ▸ (by assumption))) ▸ hM2))
              · obtain ⟨k, hjk, ek⟩ := kv_1 (j := j) (hkv ▸ (by assumption))
                have ek2 : kv = nI k := hkv.trans ek
                subst ek2
                subst hjk
                refine V_aload_n C dX10_coneByPaths_58 rfl ?_
                refine V_iload_n C dX10_coneByPaths_59 rfl ?_
                refine V_callVI C [.int (nI r)] mi_X10_220 (k_X10_isUsed w l r X7 R PP Z Th hB4 (by omega)) dX10_coneByPaths_60 sh_85 (by decide) rfl rfl rfl (Nat.le_of_ble_eq_true rfl) (Nat.le_of_ble_eq_true rfl) (Nat.le_of_ble_eq_true rfl) ⟨Nat.le_refl _, Nat.le_refl _⟩ (fun v11 X11 q11 => ?_)
                obtain ⟨hb11, eX11⟩ := q11; subst X11
                refine V_if_eqB (tgt := 149) C hb11 dX10_coneByPaths_63 (by decide) (fun h63_12 => ?_) (fun h63_12 => ?_)
                · refine V_iincN (a := r) (ls1 := [some (.ref (w.2.1 85)), some (.int (nI a)), some (.int (nI M2)), some (.int (nI (r + 1))), some (.int g), some (.int (nI k)), none]) C dX10_coneByPaths_149 rfl (by decide) rfl ?_
                  refine V_goto (tgt := 32) C dX10_coneByPaths_152 (by decide) ?_
                  refine V_kill (i := 4) (ls1 := [some (.ref (w.2.1 85)), some (.int (nI a)), some (.int (nI M2)), some (.int (nI (r + 1))), none, some (.int (nI k)), none]) rfl ?_
                  refine V_kill (i := 5) (ls1 := [some (.ref (w.2.1 85)), some (.int (nI a)), some (.int (nI M2)), some (.int (nI (r + 1))), none, none, none]) rfl ?_
                  exact ih32 (r + 1) M2 (by omega) (by omega) (by first | exact PcS_no hM2 (by assumption) | exact PcS_end ((kv_0 (j := j) (by omega) (hkv ▸ (by assumption))) ▸ hM2))
                · refine V_aload_n C dX10_coneByPaths_66 rfl ?_
                  refine V_getr C fl_X10_60 dX10_coneByPaths_67 (by decide) sh_85 rfl ?_
                  refine V_bipush (v := (6 : Int32)) C dX10_coneByPaths_70 (by decide) ?_
                  refine V_iload_n C dX10_coneByPaths_72 rfl ?_
                  refine V_imulN (a := 6) (b := r) C dX10_coneByPaths_73 ?_
                  refine V_iload C dX10_coneByPaths_74 rfl ?_
                  refine V_iaddN (a := 6 * r) (b := k) C dX10_coneByPaths_76 ?_
                  refine V_ialdN (p0 := 101) (o := 6 * r + k) (v := X7 101 (6 * r + k)) C dX10_coneByPaths_77 sh_101 (by decide) (by omega) (by decide) rfl ?_
                  have hq13 : PP r k < 10 := (PAt_i (hB4.2.2 r (by omega)).2.2.2.1 (k := 6 * r + k) (i := k) (by omega) (by omega)).2
                  refine V_eqi (y := nI (PP r k)) ((PAt_i (hB4.2.2 r (by omega)).2.2.2.1 (k := 6 * r + k) (i := k) (by omega) (by omega)).1) ?_
                  refine V_istore (ls1 := [some (.ref (w.2.1 85)), some (.int (nI a)), some (.int (nI M2)), some (.int (nI r)), some (.int g), some (.int (nI k)), some (.int (nI (PP r k)))]) C dX10_coneByPaths_78 (by decide) rfl ?_
                  refine V_iload C dX10_coneByPaths_80 rfl ?_
                  refine V_iload_n C dX10_coneByPaths_82 rfl ?_
                  refine V_icmp_eqN (a := PP r k) (b := a) (tgt := 120) C dX10_coneByPaths_83 (by decide) (by omega) (by omega) (fun h83_14 => ?_) (fun h83_14 => ?_)
                  · refine V_iconst (v := (1 : Int32)) C dX10_coneByPaths_120 (by decide) ?_
                    refine V_goto (tgt := 125) C dX10_coneByPaths_121 (by decide) ?_
                    refine V_istore (ls1 := [some (.ref (w.2.1 85)), some (.int (nI a)), some (.int (nI M2)), some (.int (nI r)), some (.int (1 : Int32)), some (.int (nI k)), some (.int (nI (PP r k)))]) C dX10_coneByPaths_125 (by decide) rfl ?_
                    have hgo : GoN (CuF R PP Z Th 2) (PP r) (Z r) a k := (by first | exact GoN_1 (by omega) (by assumption) | exact GoN_2 (by omega) (by assumption) ((BetR_1 (fun _ _ h => CuF_Nb h) (hR7 (PP r k) (PP r (k + 1)) (by omega) (by omega))).mp (by assumption)))
                    refine V_iload_n C dX10_coneByPaths_127 rfl ?_
                    refine V_iload C dX10_coneByPaths_128 rfl ?_
                    refine V_if_eq (x := (1 : Int32)) (tgt := 140) C dX10_coneByPaths_130 (by decide) (fun h => absurd h (by decide)) (fun _ => ?_)
                    refine V_iconst (v := (1 : Int32)) C dX10_coneByPaths_133 (by decide) ?_
                    refine V_iload C dX10_coneByPaths_134 rfl ?_
                    refine V_ishl C dX10_coneByPaths_136 ?_
                    refine V_eqi (y := nI (2 ^ (PP r k))) (shl1 (by omega)) ?_
                    refine V_goto (tgt := 141) C dX10_coneByPaths_137 (by decide) ?_
                    refine V_ior C dX10_coneByPaths_141 ?_
                    refine V_eqi (y := nI (M2 ||| (2 ^ (PP r k)))) (nI_or _ _) ?_
                    refine V_istore_n (ls1 := [some (.ref (w.2.1 85)), some (.int (nI a)), some (.int (nI (M2 ||| (2 ^ (PP r k))))), some (.int (nI r)), some (.int (1 : Int32)), some (.int (nI k)), some (.int (nI (PP r k)))]) C dX10_coneByPaths_142 (by decide) rfl ?_
                    refine V_iinc (v := (nI k + -1)) (ls1 := [some (.ref (w.2.1 85)), some (.int (nI a)), some (.int (nI (M2 ||| (2 ^ (PP r k))))), some (.int (nI r)), some (.int (1 : Int32)), some (.int (nI k + -1)), some (.int (nI (PP r k)))]) C dX10_coneByPaths_143 rfl rfl (by decide) rfl ?_
                    refine V_goto (tgt := 53) C dX10_coneByPaths_146 (by decide) ?_
                    refine V_kill (i := 6) (ls1 := [some (.ref (w.2.1 85)), some (.int (nI a)), some (.int (nI (M2 ||| (2 ^ (PP r k))))), some (.int (nI r)), some (.int (1 : Int32)), some (.int (nI k + -1)), none]) rfl ?_
                    exact ih53 (nI k + -1) k (M2 ||| (2 ^ (PP r k))) (1 : Int32) (by omega) (by omega) kv_s (PcS_y hM2 (by assumption) (by omega) (by omega) (by assumption)) (bI.t hgo)
                  · refine V_iload C dX10_coneByPaths_86 rfl ?_
                    refine V_if_eqB (tgt := 124) C hg dX10_coneByPaths_88 (by decide) (fun h88_16 => ?_) (fun h88_16 => ?_)
                    · refine V_iconst (v := (0 : Int32)) C dX10_coneByPaths_124 (by decide) ?_
                      refine V_istore (ls1 := [some (.ref (w.2.1 85)), some (.int (nI a)), some (.int (nI M2)), some (.int (nI r)), some (.int (0 : Int32)), some (.int (nI k)), some (.int (nI (PP r k)))]) C dX10_coneByPaths_125 (by decide) rfl ?_
                      have hgo : ¬ GoN (CuF R PP Z Th 2) (PP r) (Z r) a k := (by first | exact GoN_3 (by omega) (by assumption) (by assumption) | exact GoN_4 (by omega) (by assumption) (fun q => absurd ((BetR_1 (fun _ _ h => CuF_Nb h) (hR7 (PP r k) (PP r (k + 1)) (by omega) (by omega))).mpr q) (by assumption)))
                      refine V_iload_n C dX10_coneByPaths_127 rfl ?_
                      refine V_iload C dX10_coneByPaths_128 rfl ?_
                      refine V_if_eq (x := (0 : Int32)) (tgt := 140) C dX10_coneByPaths_130 (by decide) (fun _ => ?_) (fun h => absurd h (by decide))
                      refine V_iconst (v := (0 : Int32)) C dX10_coneByPaths_140 (by decide) ?_
                      refine V_ior C dX10_coneByPaths_141 ?_
                      refine V_eqi (y := nI M2) (or_zero _) ?_
                      refine V_istore_n (ls1 := [some (.ref (w.2.1 85)), some (.int (nI a)), some (.int (nI M2)), some (.int (nI r)), some (.int (0 : Int32)), some (.int (nI k)), some (.int (nI (PP r k)))]) C dX10_coneByPaths_142 (by decide) rfl ?_
                      refine V_iinc (v := (nI k + -1)) (ls1 := [some (.ref (w.2.1 85)), some (.int (nI a)), some (.int (nI M2)), some (.int (nI r)), some (.int (0 : Int32)), some (.int (nI k + -1)), some (.int (nI (PP r k)))]) C dX10_coneByPaths_143 rfl rfl (by decide) rfl ?_
                      refine V_goto (tgt := 53) C dX10_coneByPaths_146 (by decide) ?_
                      refine V_kill (i := 6) (ls1 := [some (.ref (w.2.1 85)), some (.int (nI a)), some (.int (nI M2)), some (.int (nI r)), some (.int (0 : Int32)), some (.int (nI k + -1)), none]) rfl ?_
                      exact ih53 (nI k + -1) k M2 (0 : Int32) (by omega) (by omega) kv_s (PcS_n hM2 (by assumption)) (bI.f hgo)
                    · have hk1 : k + 1 < Z r := GoN_lt (by assumption)
                      refine V_aload_n C dX10_coneByPaths_91 rfl ?_
                      refine V_getr C fl_X10_93 dX10_coneByPaths_92 (by decide) sh_85 rfl ?_
                      refine V_bipush (v := (10 : Int32)) C dX10_coneByPaths_95 (by decide) ?_
                      refine V_iload C dX10_coneByPaths_97 rfl ?_
                      refine V_imulN (a := 10) (b := PP r k) C dX10_coneByPaths_99 ?_
                      refine V_aload_n C dX10_coneByPaths_100 rfl ?_
                      refine V_getr C fl_X10_60 dX10_coneByPaths_101 (by decide) sh_85 rfl ?_
                      refine V_bipush (v := (6 : Int32)) C dX10_coneByPaths_104 (by decide) ?_
                      refine V_iload_n C dX10_coneByPaths_106 rfl ?_
                      refine V_imulN (a := 6) (b := r) C dX10_coneByPaths_107 ?_
                      refine V_iload C dX10_coneByPaths_108 rfl ?_
                      refine V_iaddN (a := 6 * r) (b := k) C dX10_coneByPaths_110 ?_
                      refine V_iconst (v := (1 : Int32)) C dX10_coneByPaths_111 (by decide) ?_
                      refine V_iaddN (a := 6 * r + k) (b := 1) C dX10_coneByPaths_112 ?_
                      refine V_ialdN (p0 := 101) (o := 6 * r + k + 1) (v := X7 101 (6 * r + k + 1)) C dX10_coneByPaths_113 sh_101 (by decide) (by omega) (by decide) rfl ?_
                      have hq18 : PP r (k + 1) < 10 := (PAt_i (hB4.2.2 r (by omega)).2.2.2.1 (k := 6 * r + k + 1) (i := k + 1) (by omega) (by omega)).2
                      refine V_eqi (y := nI (PP r (k + 1))) ((PAt_i (hB4.2.2 r (by omega)).2.2.2.1 (k := 6 * r + k + 1) (i := k + 1) (by omega) (by omega)).1) ?_
                      refine V_iaddN (a := 10 * (PP r k)) (b := PP r (k + 1)) C dX10_coneByPaths_114 ?_
                      refine V_ialdN (p0 := 112) (o := 10 * (PP r k) + (PP r (k + 1))) (v := X7 112 (10 * (PP r k) + (PP r (k + 1)))) C dX10_coneByPaths_115 sh_112 (by decide) (by omega) (by decide) rfl ?_
                      refine V_iconst (v := (1 : Int32)) C dX10_coneByPaths_116 (by decide) ?_
                      refine V_icmp_ne (x := X7 112 (10 * (PP r k) + (PP r (k + 1)))) (y := (1 : Int32)) (tgt := 124) C dX10_coneByPaths_117 (by decide) (fun h117_19 => ?_) (fun h117_19 => ?_)
                      · refine V_iconst (v := (0 : Int32)) C dX10_coneByPaths_124 (by decide) ?_
                        refine V_istore (ls1 := [some (.ref (w.2.1 85)), some (.int (nI a)), some (.int (nI M2)), some (.int (nI r)), some (.int (0 : Int32)), some (.int (nI k)), some (.int (nI (PP r k)))]) C dX10_coneByPaths_125 (by decide) rfl ?_
                        have hgo : ¬ GoN (CuF R PP Z Th 2) (PP r) (Z r) a k := (by first | exact GoN_3 (by omega) (by assumption) (by assumption) | exact GoN_4 (by omega) (by assumption) (fun q => absurd ((BetR_1 (fun _ _ h => CuF_Nb h) (hR7 (PP r k) (PP r (k + 1)) (by omega) (by omega))).mpr q) (by assumption)))
                        refine V_iload_n C dX10_coneByPaths_127 rfl ?_
                        refine V_iload C dX10_coneByPaths_128 rfl ?_
                        refine V_if_eq (x := (0 : Int32)) (tgt := 140) C dX10_coneByPaths_130 (by decide) (fun _ => ?_) (fun h => absurd h (by decide))
                        refine V_iconst (v := (0 : Int32)) C dX10_coneByPaths_140 (by decide) ?_
                        refine V_ior C dX10_coneByPaths_141 ?_
                        refine V_eqi (y := nI M2) (or_zero _) ?_
                        refine V_istore_n (ls1 := [some (.ref (w.2.1 85)), some (.int (nI a)), some (.int (nI M2)), some (.int (nI r)), some (.int (0 : Int32)), some (.int (nI k)), some (.int (nI (PP r k)))]) C dX10_coneByPaths_142 (by decide) rfl ?_
                        refine V_iinc (v := (nI k + -1)) (ls1 := [some (.ref (w.2.1 85)), some (.int (nI a)), some (.int (nI M2)), some (.int (nI r)), some (.int (0 : Int32)), some (.int (nI k + -1)), some (.int (nI (PP r k)))]) C dX10_coneByPaths_143 rfl rfl (by decide) rfl ?_
                        refine V_goto (tgt := 53) C dX10_coneByPaths_146 (by decide) ?_
                        refine V_kill (i := 6) (ls1 := [some (.ref (w.2.1 85)), some (.int (nI a)), some (.int (nI M2)), some (.int (nI r)), some (.int (0 : Int32)), some (.int (nI k + -1)), none]) rfl ?_
                        exact ih53 (nI k + -1) k M2 (0 : Int32) (by omega) (by omega) kv_s (PcS_n hM2 (by assumption)) (bI.f hgo)
                      · refine V_iconst (v := (1 : Int32)) C dX10_coneByPaths_120 (by decide) ?_
                        refine V_goto (tgt := 125) C dX10_coneByPaths_121 (by decide) ?_
                        refine V_istore (ls1 := [some (.ref (w.2.1 85)), some (.int (nI a)), some (.int (nI M2)), some (.int (nI r)), some (.int (1 : Int32)), some (.int (nI k)), some (.int (nI (PP r k)))]) C dX10_coneByPaths_125 (by decide) rfl ?_
                        have hgo : GoN (CuF R PP Z Th 2) (PP r) (Z r) a k := (by first | exact GoN_1 (by omega) (by assumption) | exact GoN_2 (by omega) (by assumption) ((BetR_1 (fun _ _ h => CuF_Nb h) (hR7 (PP r k) (PP r (k + 1)) (by omega) (by omega))).mp (by assumption)))
                        refine V_iload_n C dX10_coneByPaths_127 rfl ?_
                        refine V_iload C dX10_coneByPaths_128 rfl ?_
                        refine V_if_eq (x := (1 : Int32)) (tgt := 140) C dX10_coneByPaths_130 (by decide) (fun h => absurd h (by decide)) (fun _ => ?_)
                        refine V_iconst (v := (1 : Int32)) C dX10_coneByPaths_133 (by decide) ?_
                        refine V_iload C dX10_coneByPaths_134 rfl ?_
                        refine V_ishl C dX10_coneByPaths_136 ?_
                        refine V_eqi (y := nI (2 ^ (PP r k))) (shl1 (by omega)) ?_
                        refine V_goto (tgt := 141) C dX10_coneByPaths_137 (by decide) ?_
                        refine V_ior C dX10_coneByPaths_141 ?_
                        refine V_eqi (y := nI (M2 ||| (2 ^ (PP r k)))) (nI_or _ _) ?_
                        refine V_istore_n (ls1 := [some (.ref (w.2.1 85)), some (.int (nI a)), some (.int (nI (M2 ||| (2 ^ (PP r k))))), some (.int (nI r)), some (.int (1 : Int32)), some (.int (nI k)), some (.int (nI (PP r k)))]) C dX10_coneByPaths_142 (by decide) rfl ?_
                        refine V_iinc (v := (nI k + -1)) (ls1 := [some (.ref (w.2.1 85)), some (.int (nI a)), some (.int (nI (M2 ||| (2 ^ (PP r k))))), some (.int (nI r)), some (.int (1 : Int32)), some (.int (nI k + -1)), some (.int (nI (PP r k)))]) C dX10_coneByPaths_143 rfl rfl (by decide) rfl ?_
                        refine V_goto (tgt := 53) C dX10_coneByPaths_146 (by decide) ?_
                        refine V_kill (i := 6) (ls1 := [some (.ref (w.2.1 85)), some (.int (nI a)), some (.int (nI (M2 ||| (2 ^ (PP r k))))), some (.int (nI r)), some (.int (1 : Int32)), some (.int (nI k + -1)), none]) rfl ?_
                        exact ih53 (nI k + -1) k (M2 ||| (2 ^ (PP r k))) (1 : Int32) (by omega) (by omega) kv_s (PcS_y hM2 (by assumption) (by omega) (by omega) (by assumption)) (bI.t hgo)
          exact L53 _ (nI ((Z r) - 1)) (Z r) M (0 : Int32) (Nat.lt_succ_self _) (by omega) ((pk_sub (a := Z r) (b := 1) (hB4.2.2 r (by omega)).1).symm) (PcS_0 hM.1 hM.2) (bI.f GoN_z)
    exact L32 _ 0 (2 ^ a) (Nat.lt_succ_self _) (by omega) (PC_0 (by omega))
def q_X10_addresses (v : Int32) (X : Mem) (R : Nat) (PP : Nat → Nat → Nat) (Z : Nat → Nat) (Th : Nat → Prop) : Int32 → Mem → Prop := fun r X' => (∃ c, Cd1 (Btw v 0 9) c ∧ r = 0 ∧ X' = ma X 85 (upd (X 85) 0 c)) ∨ (∃ a S, (a < 10 ∧ v = nI a) ∧ (S < 1024 ∧ ∀ b, S.testBit b = true ↔ Rch (CuF R PP Z Th 2) a b) ∧ KpM X X' ∧ X' 85 0 = 0 ∧ X' 116 = X 116 ∧ r = nI (sumN (fun ad => oneIf (ReA (X 103) (X 104) PP Th S ad R)) 256))
set_option maxHeartbeats 4000000 in
set_option maxRecDepth 100000 in
theorem k_X10_addresses (w : Wt) (l : Launch) (v : Int32) (X : Mem) (R : Nat) (PP : Nat → Nat → Nat) (Z : Nat → Nat) (Th : Nat → Prop) (hB : RBm X R PP Z Th) (hVL : VLI (X 103) (X 104) R) : CtI w l yX10_addresses cX10_addresses 6 (some .int) 5 116 [.ref (w.2.1 85), .int v] X (q_X10_addresses v X R PP Z Th) := by
  have hR24 := hB.1
  refine CtI_of (by decide +kernel) (Nat.le_of_ble_eq_true rfl) (List.forall_mem_cons.mpr ⟨rfl, (List.forall_mem_cons.mpr ⟨rfl, (fun _ h => nomatch h)⟩)⟩) (ls := [some (.ref (w.2.1 85)), some (.int v), none, none, none, none]) rfl (args := (#[.ref (w.2.1 85), .int v] : Array Value)) rfl (own := RX10) rfl ?_
  intro p e s m below meth c C
  refine V_aload_n C dX10_addresses_0 rfl ?_
  refine V_iload_n C dX10_addresses_1 rfl ?_
  refine V_callSI C [.int v] ms_X10_125 (k_X10_isNet w l v X ) dX10_addresses_2 rfl rfl (Nat.le_of_ble_eq_true rfl) (Nat.le_of_ble_eq_true rfl) (Nat.le_of_ble_eq_true rfl) ⟨Nat.le_refl _, Nat.le_refl _⟩ (fun v1 X1 q1 => ?_)
  obtain ⟨hb1, eX1⟩ := q1; subst X1
  refine V_if_eqB (tgt := 12) C hb1 dX10_addresses_5 (by decide) (fun h5_2 => ?_) (fun h5_2 => ?_)
  · refine V_iconst (v := (1 : Int32)) C dX10_addresses_12 (by decide) ?_
    refine V_callVI C [.int (1 : Int32)] mi_X10_119 (k_X10_isFine_1 w l X ) dX10_addresses_13 sh_85 (by decide) rfl rfl rfl (Nat.le_of_ble_eq_true rfl) (Nat.le_of_ble_eq_true rfl) (Nat.le_of_ble_eq_true rfl) ⟨Nat.le_refl _, Nat.le_refl _⟩ (fun v3 X3 q3 => ?_)
    obtain ⟨ev3, eX3⟩ := q3; subst X3; subst v3
    refine V_if_ne (x := (0 : Int32)) (tgt := 21) C dX10_addresses_16 (by decide) (fun h => absurd h (by decide)) (fun _ => ?_)
    refine V_iconst (v := (0 : Int32)) C dX10_addresses_19 (by decide) ?_
    exact V_ireturnI C dX10_addresses_20 (Or.inl ⟨1, ⟨rfl, (by assumption)⟩, rfl, rfl⟩)
  · refine V_iconst (v := (0 : Int32)) C dX10_addresses_8 (by decide) ?_
    refine V_goto (tgt := 13) C dX10_addresses_9 (by decide) ?_
    refine V_callVI C [.int (0 : Int32)] mi_X10_119 (k_X10_isFine_0 w l X ) dX10_addresses_13 sh_85 (by decide) rfl rfl rfl (Nat.le_of_ble_eq_true rfl) (Nat.le_of_ble_eq_true rfl) (Nat.le_of_ble_eq_true rfl) ⟨Nat.le_refl _, Nat.le_refl _⟩ (fun v5 X5 q5 => ?_)
    obtain ⟨ev5, eX5⟩ := q5; subst X5; subst v5
    refine V_if_ne (x := (1 : Int32)) (tgt := 21) C dX10_addresses_16 (by decide) (fun _ => ?_) (fun h => absurd h (by decide))
    have hg1 : Btw v 0 9 := by assumption
    obtain ⟨a, ha, ea⟩ := net_at hg1
    subst ea
    refine V_aload_n C dX10_addresses_21 rfl ?_
    refine V_iconst (v := (2 : Int32)) C dX10_addresses_22 (by decide) ?_
    refine V_callVU C [.int (2 : Int32)] mi_X10_243 (k_X10_infers w l 2 (ma X 85 (upd (X 85) 0 (0 : Int32))) R PP Z Th (RBm_85 (by decide) hB) (by decide)) dX10_addresses_23 sh_85 (by decide) rfl rfl rfl (Nat.le_of_ble_eq_true rfl) (Nat.le_of_ble_eq_true rfl) (Nat.le_of_ble_eq_true rfl) ⟨Nat.le_refl _, Nat.le_refl _⟩ (fun X7 q7 => ?_)
    obtain ⟨hO7, hn7, hc7, hR7⟩ := q7
    have hB4 := RBm_out hO7 (RBm_85 (by decide) hB)
    refine V_aload_n C dX10_addresses_26 rfl ?_
    refine V_iload_n C dX10_addresses_27 rfl ?_
    refine V_callVI C [.int (nI a)] mi_X10_247 (k_X10_conesOf w l a X7 (Nb R PP Z Th) (CuF R PP Z Th 2) hR7 (fun _ _ h => CuF_Nb h) (fun _ _ h => CuF_lt h) (by omega)) dX10_addresses_28 sh_85 (by decide) rfl rfl rfl (Nat.le_of_ble_eq_true rfl) (Nat.le_of_ble_eq_true rfl) (Nat.le_of_ble_eq_true rfl) ⟨Nat.le_refl _, Nat.le_refl _⟩ (fun v8 X8 q8 => ?_)
    obtain ⟨hv8, eX8⟩ := q8; subst X8
    obtain ⟨S, ⟨hS1, hS2⟩, eS⟩ := hv8
    refine V_eqi eS ?_
    refine V_istore_n (ls1 := [some (.ref (w.2.1 85)), some (.int (nI a)), some (.int (nI S)), none, none, none]) C dX10_addresses_31 (by decide) rfl ?_
    refine V_iconst (v := (0 : Int32)) C dX10_addresses_32 (by decide) ?_
    refine V_istore_n (ls1 := [some (.ref (w.2.1 85)), some (.int (nI a)), some (.int (nI S)), some (.int (0 : Int32)), none, none]) C dX10_addresses_33 (by decide) rfl ?_
    have L34 : ∀ (fu : Nat) (q0 : Nat) (f : Nat → Int32), 256 - q0 < fu → (q0 ≤ 256) → (∀ x, x < q0 → f x = 0) → V p l e ({ frames := 5, cells := 0, slots := 0, locals := 116 } : Room) s m (#[.ref (w.2.1 85), .int (nI a)] : Array Value) below meth c w 6 0 0 (EI w below s (#[.ref (w.2.1 85), .int (nI a)] : Array Value) 0 0 (q_X10_addresses (nI a) X R PP Z Th)) 34 [some (.ref (w.2.1 85)), some (.int (nI a)), some (.int (nI S)), some (.int (nI q0)), none, none] [] (ma X7 115 f) := by
      intro fu
      induction fu with
      | zero => intro q0 f hm; exact absurd hm (Nat.not_lt_zero _)
      | succ fu ih34 =>
        intro q0 f hm34 hq hz
        refine V_iload_n C dX10_addresses_34 rfl ?_
        refine V_sipush (v := (256 : Int32)) C dX10_addresses_35 (by decide) ?_
        refine V_icmp_geN (a := q0) (b := 256) (tgt := 54) C dX10_addresses_38 (by decide) (by omega) (by omega) (fun h38_9 => ?_) (fun h38_9 => ?_)
        · refine V_iconst (v := (0 : Int32)) C dX10_addresses_54 (by decide) ?_
          refine V_istore_n (ls1 := [some (.ref (w.2.1 85)), some (.int (nI a)), some (.int (nI S)), some (.int (0 : Int32)), none, none]) C dX10_addresses_55 (by decide) rfl ?_
          have L56 : ∀ (fu : Nat) (r : Nat) (f2 : Nat → Int32), R - r < fu → (r ≤ R) → (∀ x, x < 256 → bI (ReA (X 103) (X 104) PP Th S x r) (f2 x)) → V p l e ({ frames := 5, cells := 0, slots := 0, locals := 116 } : Room) s m (#[.ref (w.2.1 85), .int (nI a)] : Array Value) below meth c w 6 0 0 (EI w below s (#[.ref (w.2.1 85), .int (nI a)] : Array Value) 0 0 (q_X10_addresses (nI a) X R PP Z Th)) 56 [some (.ref (w.2.1 85)), some (.int (nI a)), some (.int (nI S)), some (.int (nI r)), none, none] [] (ma X7 115 f2) := by
            intro fu
            induction fu with
            | zero => intro r f2 hm; exact absurd hm (Nat.not_lt_zero _)
            | succ fu ih56 =>
              intro r f2 hm56 hr hf2
              refine V_iload_n C dX10_addresses_56 rfl ?_
              refine V_aload_n C dX10_addresses_57 rfl ?_
              refine V_geti C fl_X10_154 dX10_addresses_58 (by decide) sh_85 rfl ?_
              refine V_eqi (y := X7 85 25) rfl ?_
              refine V_eqi (y := nI R) hB4.2.1 ?_
              refine V_icmp_geN (a := r) (b := R) (tgt := 153) C dX10_addresses_61 (by decide) (by omega) (by omega) (fun h61_10 => ?_) (fun h61_10 => ?_)
              · refine V_iconst (v := (0 : Int32)) C dX10_addresses_153 (by decide) ?_
                refine V_istore_n (ls1 := [some (.ref (w.2.1 85)), some (.int (nI a)), some (.int (nI S)), some (.int (0 : Int32)), none, none]) C dX10_addresses_154 (by decide) rfl ?_
                refine V_iconst (v := (0 : Int32)) C dX10_addresses_155 (by decide) ?_
                refine V_istore (ls1 := [some (.ref (w.2.1 85)), some (.int (nI a)), some (.int (nI S)), some (.int (0 : Int32)), some (.int (0 : Int32)), none]) C dX10_addresses_156 (by decide) rfl ?_
                have L158 : ∀ (fu : Nat) (k : Nat) (c0 : Nat), 256 - k < fu → (k ≤ 256) → (c0 = sumN (fun ad => oneIf (ReA (X 103) (X 104) PP Th S ad r)) k) → V p l e ({ frames := 5, cells := 0, slots := 0, locals := 116 } : Room) s m (#[.ref (w.2.1 85), .int (nI a)] : Array Value) below meth c w 6 0 0 (EI w below s (#[.ref (w.2.1 85), .int (nI a)] : Array Value) 0 0 (q_X10_addresses (nI a) X R PP Z Th)) 158 [some (.ref (w.2.1 85)), some (.int (nI a)), some (.int (nI S)), some (.int (nI c0)), some (.int (nI k)), none] [] (ma X7 115 f2) := by
                  intro fu
                  induction fu with
                  | zero => intro k c0 hm; exact absurd hm (Nat.not_lt_zero _)
                  | succ fu ih158 =>
                    intro k c0 hm158 hk hc
                    refine V_iload C dX10_addresses_158 rfl ?_
                    refine V_sipush (v := (256 : Int32)) C dX10_addresses_160 (by decide) ?_
                    refine V_icmp_geN (a := k) (b := 256) (tgt := 190) C dX10_addresses_163 (by decide) (by omega) (by omega) (fun h163_11 => ?_) (fun h163_11 => ?_)
                    · refine V_iload_n C dX10_addresses_190 rfl ?_
                      exact V_ireturnI C dX10_addresses_191 (Or.inr ⟨a, S, ⟨by omega, rfl⟩, ⟨hS1, hS2⟩, KpM_put (by decide) (KpM_out hO7).1, (KpM_out hO7).2, (ma_ne (by decide)).trans ((hO7.1 116 (by omega)).trans (ma_ne (by decide))), by rw [hc, show k = 256 by omega, show r = R by omega]⟩)
                    · refine V_iload_n C dX10_addresses_166 rfl ?_
                      refine V_aload_n C dX10_addresses_167 rfl ?_
                      refine V_getr C fl_X10_102 dX10_addresses_168 (by decide) sh_85 rfl ?_
                      refine V_iload C dX10_addresses_171 rfl ?_
                      refine V_baldN (p0 := 115) (o := k) (v := f2 k) C dX10_addresses_173 sh_115 (by decide) (by omega) (by decide) rfl ?_
                      have hb12 := hf2 k (by omega)
                      refine V_if_eqB (tgt := 181) C hb12 dX10_addresses_174 (by decide) (fun h174_13 => ?_) (fun h174_13 => ?_)
                      · refine V_iconst (v := (0 : Int32)) C dX10_addresses_181 (by decide) ?_
                        refine V_iaddN (a := c0) (b := 0) C dX10_addresses_182 ?_
                        refine V_istore_n (ls1 := [some (.ref (w.2.1 85)), some (.int (nI a)), some (.int (nI S)), some (.int (nI c0)), some (.int (nI k)), none]) C dX10_addresses_183 (by decide) rfl ?_
                        refine V_iincN (a := k) (ls1 := [some (.ref (w.2.1 85)), some (.int (nI a)), some (.int (nI S)), some (.int (nI c0)), some (.int (nI (k + 1))), none]) C dX10_addresses_184 rfl (by decide) rfl ?_
                        refine V_goto (tgt := 158) C dX10_addresses_187 (by decide) ?_
                        exact ih158 (k + 1) c0 (by omega) (by omega) (by rw [hc]; exact (sum_n (p := fun ad => ReA (X 103) (X 104) PP Th S ad r) (by assumption)).symm)
                      · refine V_iconst (v := (1 : Int32)) C dX10_addresses_177 (by decide) ?_
                        refine V_goto (tgt := 182) C dX10_addresses_178 (by decide) ?_
                        refine V_iaddN (a := c0) (b := 1) C dX10_addresses_182 ?_
                        refine V_istore_n (ls1 := [some (.ref (w.2.1 85)), some (.int (nI a)), some (.int (nI S)), some (.int (nI (c0 + 1))), some (.int (nI k)), none]) C dX10_addresses_183 (by decide) rfl ?_
                        refine V_iincN (a := k) (ls1 := [some (.ref (w.2.1 85)), some (.int (nI a)), some (.int (nI S)), some (.int (nI (c0 + 1))), some (.int (nI (k + 1))), none]) C dX10_addresses_184 rfl (by decide) rfl ?_
                        refine V_goto (tgt := 158) C dX10_addresses_187 (by decide) ?_
                        exact ih158 (k + 1) (c0 + 1) (by omega) (by omega) (by rw [hc]; exact (sum_y (p := fun ad => ReA (X 103) (X 104) PP Th S ad r) (by assumption)).symm)
                exact L158 _ 0 0 (Nat.lt_succ_self _) (by omega) rfl
              · refine V_aload_n C dX10_addresses_64 rfl ?_
                refine V_getr C fl_X10_72 dX10_addresses_65 (by decide) sh_85 rfl ?_
                refine V_iload_n C dX10_addresses_68 rfl ?_
                refine V_baldN (p0 := 105) (o := r) (v := X7 105 r) C dX10_addresses_69 sh_105 (by decide) (by omega) (by decide) rfl ?_
                refine V_if_eq (x := X7 105 r) (tgt := 94) C dX10_addresses_70 (by decide) (fun h70_14 => ?_) (fun h70_14 => ?_)
                · refine V_iconst (v := (0 : Int32)) C dX10_addresses_94 (by decide) ?_
                  refine V_istore (ls1 := [some (.ref (w.2.1 85)), some (.int (nI a)), some (.int (nI S)), some (.int (nI r)), some (.int (0 : Int32)), none]) C dX10_addresses_95 (by decide) rfl ?_
                  obtain ⟨va, vb, hva, hvb, eva, evb, hal⟩ := hVL r (by omega)
                  have hle := blk_le hva hvb hal
                  refine V_aload_n C dX10_addresses_97 rfl ?_
                  refine V_getr C fl_X10_66 dX10_addresses_98 (by decide) sh_85 rfl ?_
                  refine V_iload_n C dX10_addresses_101 rfl ?_
                  refine V_ialdN (p0 := 103) (o := r) (v := X7 103 r) C dX10_addresses_102 sh_103 (by decide) (by omega) (by decide) rfl ?_
                  refine V_eqi (y := nI va) ((congrFun (hO7.1 103 (by omega)) r).trans eva) ?_
                  refine V_istore (ls1 := [some (.ref (w.2.1 85)), some (.int (nI a)), some (.int (nI S)), some (.int (nI r)), some (.int (0 : Int32)), some (.int (nI va))]) C dX10_addresses_103 (by decide) rfl ?_
                  refine V_iload C dX10_addresses_105 rfl ?_
                  refine V_if_eq (x := (0 : Int32)) (tgt := 147) C dX10_addresses_107 (by decide) (fun _ => ?_) (fun h => absurd h (by decide))
                  refine V_iincN (a := r) (ls1 := [some (.ref (w.2.1 85)), some (.int (nI a)), some (.int (nI S)), some (.int (nI (r + 1))), some (.int (0 : Int32)), some (.int (nI va))]) C dX10_addresses_147 rfl (by decide) rfl ?_
                  refine V_goto (tgt := 56) C dX10_addresses_150 (by decide) ?_
                  refine V_kill (i := 4) (ls1 := [some (.ref (w.2.1 85)), some (.int (nI a)), some (.int (nI S)), some (.int (nI (r + 1))), none, some (.int (nI va))]) rfl ?_
                  refine V_kill (i := 5) (ls1 := [some (.ref (w.2.1 85)), some (.int (nI a)), some (.int (nI S)), some (.int (nI (r + 1))), none, none]) rfl ?_
                  exact ih56 (r + 1) f2 (by omega) (by omega) (fun x hx => (hf2 x hx).congr (AdN (by first | exact fun q => absurd ((hB4.2.2 r (by omega)).2.2.2.2.mpr q.1) (by assumption) | exact fun q => absurd (tb_iff.mp q.2) (by assumption) | exact fun q => absurd (by assumption) ((hB4.2.2 r (by omega)).2.2.2.2.mpr q.1))))
                · have hZ1 := (hB4.2.2 r (by omega)).1
                  refine V_iload_n C dX10_addresses_73 rfl ?_
                  refine V_aload_n C dX10_addresses_74 rfl ?_
                  refine V_getr C fl_X10_60 dX10_addresses_75 (by decide) sh_85 rfl ?_
                  refine V_bipush (v := (6 : Int32)) C dX10_addresses_78 (by decide) ?_
                  refine V_iload_n C dX10_addresses_80 rfl ?_
                  refine V_imulN (a := 6) (b := r) C dX10_addresses_81 ?_
                  refine V_ialdN (p0 := 101) (o := 6 * r) (v := X7 101 (6 * r)) C dX10_addresses_82 sh_101 (by decide) (by omega) (by decide) rfl ?_
                  have hq16 : PP r 0 < 10 := (PAt_i (hB4.2.2 r (by omega)).2.2.2.1 (k := 6 * r) (i := 0) (by omega) (by omega)).2
                  refine V_eqi (y := nI (PP r 0)) ((PAt_i (hB4.2.2 r (by omega)).2.2.2.1 (k := 6 * r) (i := 0) (by omega) (by omega)).1) ?_
                  refine V_ishr C dX10_addresses_83 ?_
                  refine V_iconst (v := (1 : Int32)) C dX10_addresses_84 (by decide) ?_
                  refine V_iand C dX10_addresses_85 ?_
                  refine V_eqi (y := nI (S / 2 ^ (PP r 0) % 2)) (bit_val (by omega) (by omega)) ?_
                  refine V_iconst (v := (1 : Int32)) C dX10_addresses_86 (by decide) ?_
                  refine V_icmp_neN (a := S / 2 ^ (PP r 0) % 2) (b := 1) (tgt := 94) C dX10_addresses_87 (by decide) (by omega) (by omega) (fun h87_17 => ?_) (fun h87_17 => ?_)
                  · refine V_iconst (v := (0 : Int32)) C dX10_addresses_94 (by decide) ?_
                    refine V_istore (ls1 := [some (.ref (w.2.1 85)), some (.int (nI a)), some (.int (nI S)), some (.int (nI r)), some (.int (0 : Int32)), none]) C dX10_addresses_95 (by decide) rfl ?_
                    obtain ⟨va, vb, hva, hvb, eva, evb, hal⟩ := hVL r (by omega)
                    have hle := blk_le hva hvb hal
                    refine V_aload_n C dX10_addresses_97 rfl ?_
                    refine V_getr C fl_X10_66 dX10_addresses_98 (by decide) sh_85 rfl ?_
                    refine V_iload_n C dX10_addresses_101 rfl ?_
                    refine V_ialdN (p0 := 103) (o := r) (v := X7 103 r) C dX10_addresses_102 sh_103 (by decide) (by omega) (by decide) rfl ?_
                    refine V_eqi (y := nI va) ((congrFun (hO7.1 103 (by omega)) r).trans eva) ?_
                    refine V_istore (ls1 := [some (.ref (w.2.1 85)), some (.int (nI a)), some (.int (nI S)), some (.int (nI r)), some (.int (0 : Int32)), some (.int (nI va))]) C dX10_addresses_103 (by decide) rfl ?_
                    refine V_iload C dX10_addresses_105 rfl ?_
                    refine V_if_eq (x := (0 : Int32)) (tgt := 147) C dX10_addresses_107 (by decide) (fun _ => ?_) (fun h => absurd h (by decide))
                    refine V_iincN (a := r) (ls1 := [some (.ref (w.2.1 85)), some (.int (nI a)), some (.int (nI S)), some (.int (nI (r + 1))), some (.int (0 : Int32)), some (.int (nI va))]) C dX10_addresses_147 rfl (by decide) rfl ?_
                    refine V_goto (tgt := 56) C dX10_addresses_150 (by decide) ?_
                    refine V_kill (i := 4) (ls1 := [some (.ref (w.2.1 85)), some (.int (nI a)), some (.int (nI S)), some (.int (nI (r + 1))), none, some (.int (nI va))]) rfl ?_
                    refine V_kill (i := 5) (ls1 := [some (.ref (w.2.1 85)), some (.int (nI a)), some (.int (nI S)), some (.int (nI (r + 1))), none, none]) rfl ?_
                    exact ih56 (r + 1) f2 (by omega) (by omega) (fun x hx => (hf2 x hx).congr (AdN (by first | exact fun q => absurd ((hB4.2.2 r (by omega)).2.2.2.2.mpr q.1) (by assumption) | exact fun q => absurd (tb_iff.mp q.2) (by assumption) | exact fun q => absurd (by assumption) ((hB4.2.2 r (by omega)).2.2.2.2.mpr q.1))))
                  · refine V_iconst (v := (1 : Int32)) C dX10_addresses_90 (by decide) ?_
                    refine V_goto (tgt := 95) C dX10_addresses_91 (by decide) ?_
                    refine V_istore (ls1 := [some (.ref (w.2.1 85)), some (.int (nI a)), some (.int (nI S)), some (.int (nI r)), some (.int (1 : Int32)), none]) C dX10_addresses_95 (by decide) rfl ?_
                    obtain ⟨va, vb, hva, hvb, eva, evb, hal⟩ := hVL r (by omega)
                    have hle := blk_le hva hvb hal
                    refine V_aload_n C dX10_addresses_97 rfl ?_
                    refine V_getr C fl_X10_66 dX10_addresses_98 (by decide) sh_85 rfl ?_
                    refine V_iload_n C dX10_addresses_101 rfl ?_
                    refine V_ialdN (p0 := 103) (o := r) (v := X7 103 r) C dX10_addresses_102 sh_103 (by decide) (by omega) (by decide) rfl ?_
                    refine V_eqi (y := nI va) ((congrFun (hO7.1 103 (by omega)) r).trans eva) ?_
                    refine V_istore (ls1 := [some (.ref (w.2.1 85)), some (.int (nI a)), some (.int (nI S)), some (.int (nI r)), some (.int (1 : Int32)), some (.int (nI va))]) C dX10_addresses_103 (by decide) rfl ?_
                    have L105 : ∀ (fu : Nat) (k : Nat) (f3 : Nat → Int32), va + 2 ^ (8 - vb) - k < fu → (va ≤ k) → (k ≤ va + 2 ^ (8 - vb)) → (∀ x, x < 256 → bI (ReA (X 103) (X 104) PP Th S x r ∨ (va ≤ x ∧ x < k)) (f3 x)) → V p l e ({ frames := 5, cells := 0, slots := 0, locals := 116 } : Room) s m (#[.ref (w.2.1 85), .int (nI a)] : Array Value) below meth c w 6 0 0 (EI w below s (#[.ref (w.2.1 85), .int (nI a)] : Array Value) 0 0 (q_X10_addresses (nI a) X R PP Z Th)) 105 [some (.ref (w.2.1 85)), some (.int (nI a)), some (.int (nI S)), some (.int (nI r)), some (.int (1 : Int32)), some (.int (nI k))] [] (ma X7 115 f3) := by
                      intro fu
                      induction fu with
                      | zero => intro k f3 hm; exact absurd hm (Nat.not_lt_zero _)
                      | succ fu ih105 =>
                        intro k f3 hm105 hk1 hk2 hf3
                        refine V_iload C dX10_addresses_105 rfl ?_
                        refine V_if_eq (x := (1 : Int32)) (tgt := 147) C dX10_addresses_107 (by decide) (fun h => absurd h (by decide)) (fun _ => ?_)
                        refine V_iload C dX10_addresses_110 rfl ?_
                        refine V_aload_n C dX10_addresses_112 rfl ?_
                        refine V_getr C fl_X10_66 dX10_addresses_113 (by decide) sh_85 rfl ?_
                        refine V_iload_n C dX10_addresses_116 rfl ?_
                        refine V_ialdN (p0 := 103) (o := r) (v := X7 103 r) C dX10_addresses_117 sh_103 (by decide) (by omega) (by decide) rfl ?_
                        refine V_eqi (y := nI va) ((congrFun (hO7.1 103 (by omega)) r).trans eva) ?_
                        refine V_iconst (v := (1 : Int32)) C dX10_addresses_118 (by decide) ?_
                        refine V_bipush (v := (8 : Int32)) C dX10_addresses_119 (by decide) ?_
                        refine V_aload_n C dX10_addresses_121 rfl ?_
                        refine V_getr C fl_X10_69 dX10_addresses_122 (by decide) sh_85 rfl ?_
                        refine V_iload_n C dX10_addresses_125 rfl ?_
                        refine V_ialdN (p0 := 104) (o := r) (v := X7 104 r) C dX10_addresses_126 sh_104 (by decide) (by omega) (by decide) rfl ?_
                        refine V_eqi (y := nI vb) ((congrFun (hO7.1 104 (by omega)) r).trans evb) ?_
                        refine V_isubN (a := 8) (b := vb) C dX10_addresses_127 (by omega) ?_
                        refine V_ishl C dX10_addresses_128 ?_
                        refine V_eqi (y := nI (2 ^ (8 - vb))) (shl1 (by omega)) ?_
                        refine V_iaddN (a := va) (b := 2 ^ (8 - vb)) C dX10_addresses_129 ?_
                        refine V_icmp_geN (a := k) (b := va + (2 ^ (8 - vb))) (tgt := 147) C dX10_addresses_130 (by decide) (by omega) (by omega) (fun h130_20 => ?_) (fun h130_20 => ?_)
                        · refine V_iincN (a := r) (ls1 := [some (.ref (w.2.1 85)), some (.int (nI a)), some (.int (nI S)), some (.int (nI (r + 1))), some (.int (1 : Int32)), some (.int (nI k))]) C dX10_addresses_147 rfl (by decide) rfl ?_
                          refine V_goto (tgt := 56) C dX10_addresses_150 (by decide) ?_
                          refine V_kill (i := 4) (ls1 := [some (.ref (w.2.1 85)), some (.int (nI a)), some (.int (nI S)), some (.int (nI (r + 1))), none, some (.int (nI k))]) rfl ?_
                          refine V_kill (i := 5) (ls1 := [some (.ref (w.2.1 85)), some (.int (nI a)), some (.int (nI S)), some (.int (nI (r + 1))), none, none]) rfl ?_
                          exact ih56 (r + 1) f3 (by omega) (by omega) (fun x hx => (hf3 x hx).congr (AdL hx hva hvb hal eva evb ((hB4.2.2 r (by omega)).2.2.2.2.mp (by assumption)) (tb_iff.mpr (by assumption)) (by omega)))
                        · refine V_aload_n C dX10_addresses_133 rfl ?_
                          refine V_getr C fl_X10_102 dX10_addresses_134 (by decide) sh_85 rfl ?_
                          refine V_iload C dX10_addresses_137 rfl ?_
                          refine V_iconst (v := (1 : Int32)) C dX10_addresses_139 (by decide) ?_
                          refine V_bastN (p0 := 115) (o := k) (X1 := (ma X7 115 (upd (f3) k (1 : Int32)))) C dX10_addresses_140 sh_115 (by decide) (by omega) (by decide) (Or.inr rfl) (ma_ma _ _ _ _) ?_
                          refine V_iincN (a := k) (ls1 := [some (.ref (w.2.1 85)), some (.int (nI a)), some (.int (nI S)), some (.int (nI r)), some (.int (1 : Int32)), some (.int (nI (k + 1)))]) C dX10_addresses_141 rfl (by decide) rfl ?_
                          refine V_goto (tgt := 105) C dX10_addresses_144 (by decide) ?_
                          exact ih105 (k + 1) (upd (f3) k (1 : Int32)) (by omega) (by omega) (by omega) (put_at hk1 hf3)
                    exact L105 _ va f2 (Nat.lt_succ_self _) (Nat.le_refl _) (by omega) (fun x hx => (hf2 x hx).congr ⟨Or.inl, fun q => q.elim id (fun q => absurd q.1 (by omega))⟩)
          exact L56 _ 0 f (Nat.lt_succ_self _) (by omega) (fun x hx => by rw [hz x (by omega)]; exact bI.f ReA_0)
        · refine V_aload_n C dX10_addresses_41 rfl ?_
          refine V_getr C fl_X10_102 dX10_addresses_42 (by decide) sh_85 rfl ?_
          refine V_iload_n C dX10_addresses_45 rfl ?_
          refine V_iconst (v := (0 : Int32)) C dX10_addresses_46 (by decide) ?_
          refine V_bastN (p0 := 115) (o := q0) (X1 := (ma X7 115 (upd (f) q0 (0 : Int32)))) C dX10_addresses_47 sh_115 (by decide) (by omega) (by decide) (Or.inl rfl) (ma_ma _ _ _ _) ?_
          refine V_iincN (a := q0) (ls1 := [some (.ref (w.2.1 85)), some (.int (nI a)), some (.int (nI S)), some (.int (nI (q0 + 1))), none, none]) C dX10_addresses_48 rfl (by decide) rfl ?_
          refine V_goto (tgt := 34) C dX10_addresses_51 (by decide) ?_
          exact ih34 (q0 + 1) (upd (f) q0 (0 : Int32)) (by omega) (by omega) (by intro x h1; rcases lt_succ_or.mp h1 with h1 | rfl; rw [upd_ne (by omega)]; exact hz x h1; exact upd_eq _ _ _)
    refine V_eqX (X1 := (ma X7 115 (X7 115))) (ma_id rfl) ?_
    exact L34 _ 0 (X7 115) (Nat.lt_succ_self _) (by omega) (fun x h => absurd h (Nat.not_lt_zero _))
