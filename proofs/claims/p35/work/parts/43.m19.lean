def q_X9_judged (v : Int32) (X : Mem) (h n : Nat) : Int32 → Mem → Prop := fun r X' => Btw v 0 (nI n - 1) ∧ ∃ o, o < n ∧ v = nI o ∧ ∃ V, X' = ma X 18 V ∧ IsV (oC X) (gC X) n (X 1 0) V ∧ r = V o
def r_X9_judged (v : Int32) (X : Mem) (h n : Nat) : String → Mem → Prop := fun E X' => X' = X ∧ E = eIO ∧ ¬ (Btw v 0 (nI n - 1))
set_option maxHeartbeats 4000000 in
set_option maxRecDepth 100000 in
theorem k_X9_judged (w : Wt) (l : Launch) (v : Int32) (X : Mem) (h n : Nat) (hO : OInv (oC X) h n) (hG : GInv (gC X) h) (hn : X 6 0 = nI n) (hh : X 1 1 = nI h) : CtXI w l yX9_judged cX9_judged 2 (some .int) 7 159 1 [.ref (w.2.1 0), .int v] X (q_X9_judged v X h n) (r_X9_judged v X h n) := by
  have n50 := hO.1
  have h1 := hG.1
  have h8 := hG.2.1
  refine CtXI_of (by decide +kernel) (Nat.le_of_ble_eq_true rfl) (List.forall_mem_cons.mpr ⟨rfl, (List.forall_mem_cons.mpr ⟨rfl, (fun _ h => nomatch h)⟩)⟩) (ls := [some (.ref (w.2.1 0)), some (.int v)]) rfl (args := (#[.ref (w.2.1 0), .int v] : Array Value)) rfl (own := RX9) rfl ?_
  intro p e s m below meth c C ht hD
  refine V_aload_n C dX9_judged_0 rfl ?_
  refine V_iload_n C dX9_judged_1 rfl ?_
  refine V_xcallVUI C ht hD [.int v] mi_X9_132 pl_X9_132 (k_X9_needObject w l v X n hn n50) dX9_judged_2 sh_0 (by decide) rfl rfl rfl (Nat.le_of_ble_eq_true rfl) (Nat.le_of_ble_eq_true rfl) (Nat.le_of_ble_eq_true rfl) ⟨by decide, by decide⟩ ⟨by decide, by decide⟩ (fun E X1 h => h) (fun X1 q1 => ?_)
  obtain ⟨hg1, eX1⟩ := q1; subst X1
  obtain ⟨o, ho, eo⟩ := hg1.2
  subst v
  refine V_aload_n C dX9_judged_5 rfl ?_
  refine V_getr C fl_X9_28 dX9_judged_6 (by decide) sh_0 rfl ?_
  refine V_callVU C [] mi_X9_190 (k_X2_judgeAll w l X h n hO hG hn hh) dX9_judged_9 sh_17 (by decide) rfl rfl rfl (Nat.le_of_ble_eq_true rfl) (Nat.le_of_ble_eq_true rfl) (Nat.le_of_ble_eq_true rfl) ⟨by decide, by decide⟩ (fun X2 q2 => ?_)
  obtain ⟨V2, eX2, hV2⟩ := q2
  subst X2
  refine V_aload_n C dX9_judged_12 rfl ?_
  refine V_getr C fl_X9_28 dX9_judged_13 (by decide) sh_0 rfl ?_
  refine V_getr C fl_X9_193 dX9_judged_16 (by decide) sh_17 rfl ?_
  refine V_iload_n C dX9_judged_19 rfl ?_
  refine V_ialdN (p0 := 18) (o := o) (v := V2 o) C dX9_judged_20 sh_18 (by decide) (by omega) (by decide) rfl ?_
  exact V_ireturnX C dX9_judged_21 (by decide) (by decide) ⟨hg1.1, o, by omega, rfl, V2, rfl, hV2, rfl⟩
def q_X9_has (hd : Int32) (v : Int32) (b : Int32) (X : Mem) (h n : Nat) : Int32 → Mem → Prop := fun r X' => (Btw hd 0 (nI (h - 1)) ∧ Blk v b) ∧ ∃ V, X' = ma X 18 V ∧ IsV (oC X) (gC X) n (X 1 0) V ∧ bI (HasB (oC X) V n hd v b) r
def r_X9_has (hd : Int32) (v : Int32) (b : Int32) (X : Mem) (h n : Nat) : String → Mem → Prop := fun E X' => X' = X ∧ Flt2 eIO eIA (Btw hd 0 (nI (h - 1))) (Blk v b) E
set_option maxHeartbeats 4000000 in
set_option maxRecDepth 100000 in
theorem k_X9_has (w : Wt) (l : Launch) (hd : Int32) (v : Int32) (b : Int32) (X : Mem) (h n : Nat) (hO : OInv (oC X) h n) (hG : GInv (gC X) h) (hn : X 6 0 = nI n) (hh : X 1 1 = nI h) : CtXI w l yX9_has cX9_has 4 (some .boolean) 8 159 4 [.ref (w.2.1 0), .int hd, .int v, .int b] X (q_X9_has hd v b X h n) (r_X9_has hd v b X h n) := by
  have n50 := hO.1
  have h1 := hG.1
  have h8 := hG.2.1
  refine CtXI_of (by decide +kernel) (Nat.le_of_ble_eq_true rfl) (List.forall_mem_cons.mpr ⟨rfl, (List.forall_mem_cons.mpr ⟨rfl, (List.forall_mem_cons.mpr ⟨rfl, (List.forall_mem_cons.mpr ⟨rfl, (fun _ h => nomatch h)⟩)⟩)⟩)⟩) (ls := [some (.ref (w.2.1 0)), some (.int hd), some (.int v), some (.int b)]) rfl (args := (#[.ref (w.2.1 0), .int hd, .int v, .int b] : Array Value)) rfl (own := RX9) rfl ?_
  intro p e s m below meth c C ht hD
  refine V_aload_n C dX9_has_0 rfl ?_
  refine V_iload_n C dX9_has_1 rfl ?_
  refine V_xcallVUI C ht hD [.int hd] mi_X9_73 pl_X9_73 (k_X9_needHolder w l hd X h hh h1 h8) dX9_has_2 sh_0 (by decide) rfl rfl rfl (Nat.le_of_ble_eq_true rfl) (Nat.le_of_ble_eq_true rfl) (Nat.le_of_ble_eq_true rfl) ⟨by decide, by decide⟩ ⟨by decide, by decide⟩ (fun E X1 h => ⟨h.1, Or.inl ⟨h.2.1, h.2.2⟩⟩) (fun X1 q1 => ?_)
  obtain ⟨hg1, eX1⟩ := q1; subst X1
  refine V_iload_n C dX9_has_5 rfl ?_
  refine V_iload_n C dX9_has_6 rfl ?_
  refine V_xcallSUI C ht hD [.int v, .int b] ms_X9_119 pl_X9_119 (k_X9_needBlock w l v b X ) dX9_has_7 rfl rfl (Nat.le_of_ble_eq_true rfl) (Nat.le_of_ble_eq_true rfl) (Nat.le_of_ble_eq_true rfl) ⟨by decide, by decide⟩ ⟨by decide, by decide⟩ (fun E X1 h => ⟨h.1, Or.inr ⟨h.2.1, hg1, h.2.2⟩⟩) (fun X2 q2 => ?_)
  obtain ⟨hg2, eX2⟩ := q2; subst X2
  refine V_aload_n C dX9_has_10 rfl ?_
  refine V_getr C fl_X9_28 dX9_has_11 (by decide) sh_0 rfl ?_
  refine V_callVU C [] mi_X9_190 (k_X2_judgeAll w l X h n hO hG hn hh) dX9_has_14 sh_17 (by decide) rfl rfl rfl (Nat.le_of_ble_eq_true rfl) (Nat.le_of_ble_eq_true rfl) (Nat.le_of_ble_eq_true rfl) ⟨by decide, by decide⟩ (fun X3 q3 => ?_)
  obtain ⟨V3, eX3, hV3⟩ := q3
  subst X3
  refine V_aload_n C dX9_has_17 rfl ?_
  refine V_getr C fl_X9_28 dX9_has_18 (by decide) sh_0 rfl ?_
  refine V_iload_n C dX9_has_21 rfl ?_
  refine V_iload_n C dX9_has_22 rfl ?_
  refine V_iload_n C dX9_has_23 rfl ?_
  refine V_callVI C [.int hd, .int v, .int b] mi_X9_196 (k_X2_holds w l hd v b (ma X 18 V3) n hn n50) dX9_has_24 sh_17 (by decide) rfl rfl rfl (Nat.le_of_ble_eq_true rfl) (Nat.le_of_ble_eq_true rfl) (Nat.le_of_ble_eq_true rfl) ⟨by decide, by decide⟩ (fun v4 X4 q4 => ?_)
  obtain ⟨hb4, eX4⟩ := q4; subst X4
  try simp (disch := decide) only [oC_ma, gC_ma, oM_ma, gM_ma, tC_ma, tM_ma, ma_eq, ma_ne] at hb4
  exact V_zreturnX C dX9_has_27 hb4.z (by decide) (by decide) ⟨⟨hg1, hg2⟩, V3, rfl, hV3, hb4⟩
def q_X9_hasByChains (hd : Int32) (v : Int32) (b : Int32) (X : Mem) (h n : Nat) : Int32 → Mem → Prop := fun r X' => (Btw hd 0 (nI (h - 1)) ∧ Blk v b) ∧ ∃ a, a < h ∧ hd = nI a ∧ ∃ T, X' = ma X 19 T ∧ bI (Rx (oC X) (gC X) (X 1 0) n (nI a) v b) r
def r_X9_hasByChains (hd : Int32) (v : Int32) (b : Int32) (X : Mem) (h n : Nat) : String → Mem → Prop := fun E X' => X' = X ∧ Flt2 eIO eIA (Btw hd 0 (nI (h - 1))) (Blk v b) E
set_option maxHeartbeats 4000000 in
set_option maxRecDepth 100000 in
theorem k_X9_hasByChains (w : Wt) (l : Launch) (hd : Int32) (v : Int32) (b : Int32) (X : Mem) (h n : Nat) (hO : OInv (oC X) h n) (hG : GInv (gC X) h) (hn : X 6 0 = nI n) (hh : X 1 1 = nI h) : CtXI w l yX9_hasByChains cX9_hasByChains 4 (some .boolean) 25 686 4 [.ref (w.2.1 0), .int hd, .int v, .int b] X (q_X9_hasByChains hd v b X h n) (r_X9_hasByChains hd v b X h n) := by
  have n50 := hO.1
  have h1 := hG.1
  have h8 := hG.2.1
  refine CtXI_of (by decide +kernel) (Nat.le_of_ble_eq_true rfl) (List.forall_mem_cons.mpr ⟨rfl, (List.forall_mem_cons.mpr ⟨rfl, (List.forall_mem_cons.mpr ⟨rfl, (List.forall_mem_cons.mpr ⟨rfl, (fun _ h => nomatch h)⟩)⟩)⟩)⟩) (ls := [some (.ref (w.2.1 0)), some (.int hd), some (.int v), some (.int b)]) rfl (args := (#[.ref (w.2.1 0), .int hd, .int v, .int b] : Array Value)) rfl (own := RX9) rfl ?_
  intro p e s m below meth c C ht hD
  refine V_aload_n C dX9_hasByChains_0 rfl ?_
  refine V_iload_n C dX9_hasByChains_1 rfl ?_
  refine V_xcallVUI C ht hD [.int hd] mi_X9_73 pl_X9_73 (k_X9_needHolder w l hd X h hh h1 h8) dX9_hasByChains_2 sh_0 (by decide) rfl rfl rfl (Nat.le_of_ble_eq_true rfl) (Nat.le_of_ble_eq_true rfl) (Nat.le_of_ble_eq_true rfl) ⟨by decide, by decide⟩ ⟨by decide, by decide⟩ (fun E X1 h => ⟨h.1, Or.inl ⟨h.2.1, h.2.2⟩⟩) (fun X1 q1 => ?_)
  obtain ⟨hg1, eX1⟩ := q1; subst X1
  refine V_iload_n C dX9_hasByChains_5 rfl ?_
  refine V_iload_n C dX9_hasByChains_6 rfl ?_
  refine V_xcallSUI C ht hD [.int v, .int b] ms_X9_119 pl_X9_119 (k_X9_needBlock w l v b X ) dX9_hasByChains_7 rfl rfl (Nat.le_of_ble_eq_true rfl) (Nat.le_of_ble_eq_true rfl) (Nat.le_of_ble_eq_true rfl) ⟨by decide, by decide⟩ ⟨by decide, by decide⟩ (fun E X1 h => ⟨h.1, Or.inr ⟨h.2.1, hg1, h.2.2⟩⟩) (fun X2 q2 => ?_)
  obtain ⟨hg2, eX2⟩ := q2; subst X2
  obtain ⟨a, ha, ea⟩ := Btw_hd h1 (by omega) hg1
  subst hd
  refine V_aload_n C dX9_hasByChains_10 rfl ?_
  refine V_getr C fl_X9_28 dX9_hasByChains_11 (by decide) sh_0 rfl ?_
  refine V_iload_n C dX9_hasByChains_14 rfl ?_
  refine V_iload_n C dX9_hasByChains_15 rfl ?_
  refine V_iload_n C dX9_hasByChains_16 rfl ?_
  refine V_callVI C [.int (nI a), .int v, .int b] mi_X9_200 (k_X2_holdsByChains w l a v b X h n hO hG hn (by omega)) dX9_hasByChains_17 sh_17 (by decide) rfl rfl rfl (Nat.le_of_ble_eq_true rfl) (show ((24)) + 1 ≤ 25 from by omega) (show 8 + (5 + 11) + ((662)) ≤ 686 from by omega) ⟨by decide, by decide⟩ (fun v3 X3 q3 => ?_)
  obtain ⟨T3, eX3, hb3⟩ := q3; subst X3
  exact V_zreturnX C dX9_hasByChains_20 hb3.z (by decide) (by decide) ⟨⟨hg1, hg2⟩, a, by omega, rfl, _, rfl, hb3⟩
def q_X9_state (nt : Int32) (v : Int32) (b : Int32) (X : Mem) (h n : Nat) : Int32 → Mem → Prop := fun r X' => (Btw nt 0 9 ∧ Blk v b) ∧ ∃ V, X' = ma X 18 V ∧ IsV (oC X) (gC X) n (X 1 0) V ∧ StR (oC X) V n nt v b r
def r_X9_state (nt : Int32) (v : Int32) (b : Int32) (X : Mem) (h n : Nat) : String → Mem → Prop := fun E X' => X' = X ∧ Flt2 eIO eIA (Btw nt 0 9) (Blk v b) E
set_option maxHeartbeats 4000000 in
set_option maxRecDepth 100000 in
theorem k_X9_state (w : Wt) (l : Launch) (nt : Int32) (v : Int32) (b : Int32) (X : Mem) (h n : Nat) (hO : OInv (oC X) h n) (hG : GInv (gC X) h) (hn : X 6 0 = nI n) (hh : X 1 1 = nI h) : CtXI w l yX9_state cX9_state 4 (some .int) 8 159 4 [.ref (w.2.1 0), .int nt, .int v, .int b] X (q_X9_state nt v b X h n) (r_X9_state nt v b X h n) := by
  have n50 := hO.1
  have h1 := hG.1
  have h8 := hG.2.1
  refine CtXI_of (by decide +kernel) (Nat.le_of_ble_eq_true rfl) (List.forall_mem_cons.mpr ⟨rfl, (List.forall_mem_cons.mpr ⟨rfl, (List.forall_mem_cons.mpr ⟨rfl, (List.forall_mem_cons.mpr ⟨rfl, (fun _ h => nomatch h)⟩)⟩)⟩)⟩) (ls := [some (.ref (w.2.1 0)), some (.int nt), some (.int v), some (.int b)]) rfl (args := (#[.ref (w.2.1 0), .int nt, .int v, .int b] : Array Value)) rfl (own := RX9) rfl ?_
  intro p e s m below meth c C ht hD
  refine V_iload_n C dX9_state_0 rfl ?_
  refine V_xcallSUI C ht hD [.int nt] ms_X9_92 pl_X9_92 (k_X9_needNet w l nt X ) dX9_state_1 rfl rfl (Nat.le_of_ble_eq_true rfl) (Nat.le_of_ble_eq_true rfl) (Nat.le_of_ble_eq_true rfl) ⟨by decide, by decide⟩ ⟨by decide, by decide⟩ (fun E X1 h => ⟨h.1, Or.inl ⟨h.2.1, h.2.2⟩⟩) (fun X1 q1 => ?_)
  obtain ⟨hg1, eX1⟩ := q1; subst X1
  refine V_iload_n C dX9_state_4 rfl ?_
  refine V_iload_n C dX9_state_5 rfl ?_
  refine V_xcallSUI C ht hD [.int v, .int b] ms_X9_119 pl_X9_119 (k_X9_needBlock w l v b X ) dX9_state_6 rfl rfl (Nat.le_of_ble_eq_true rfl) (Nat.le_of_ble_eq_true rfl) (Nat.le_of_ble_eq_true rfl) ⟨by decide, by decide⟩ ⟨by decide, by decide⟩ (fun E X1 h => ⟨h.1, Or.inr ⟨h.2.1, hg1, h.2.2⟩⟩) (fun X2 q2 => ?_)
  obtain ⟨hg2, eX2⟩ := q2; subst X2
  refine V_aload_n C dX9_state_9 rfl ?_
  refine V_getr C fl_X9_28 dX9_state_10 (by decide) sh_0 rfl ?_
  refine V_callVU C [] mi_X9_190 (k_X2_judgeAll w l X h n hO hG hn hh) dX9_state_13 sh_17 (by decide) rfl rfl rfl (Nat.le_of_ble_eq_true rfl) (Nat.le_of_ble_eq_true rfl) (Nat.le_of_ble_eq_true rfl) ⟨by decide, by decide⟩ (fun X3 q3 => ?_)
  obtain ⟨V3, eX3, hV3⟩ := q3
  subst X3
  refine V_aload_n C dX9_state_16 rfl ?_
  refine V_getr C fl_X9_28 dX9_state_17 (by decide) sh_0 rfl ?_
  refine V_iload_n C dX9_state_20 rfl ?_
  refine V_iload_n C dX9_state_21 rfl ?_
  refine V_iload_n C dX9_state_22 rfl ?_
  refine V_callVI C [.int nt, .int v, .int b] mi_X9_203 (k_X2_originState w l nt v b (ma X 18 V3) n hn n50) dX9_state_23 sh_17 (by decide) rfl rfl rfl (Nat.le_of_ble_eq_true rfl) (Nat.le_of_ble_eq_true rfl) (Nat.le_of_ble_eq_true rfl) ⟨by decide, by decide⟩ (fun v4 X4 q4 => ?_)
  obtain ⟨hv4, eX4⟩ := q4; subst X4
  try simp (disch := decide) only [oC_ma, gC_ma, oM_ma, gM_ma, tC_ma, tM_ma, ma_eq, ma_ne] at hv4
  exact V_ireturnX C dX9_state_26 (by decide) (by decide) ⟨⟨hg1, hg2⟩, V3, rfl, hV3, hv4⟩
def q_X9_alter (v : Int32) (ex : Int32) (X : Mem) (h n : Nat) : Int32 → Mem → Prop := fun r X' => Btw v 0 (nI n - 1) ∧ ∃ o, o < n ∧ v = nI o ∧ (¬ X 7 o = 0 ∧ Btw ex 0 (if X 7 o = 1 then 8 else 1023)) ∧ r = X 12 o ∧ X' = ma X 12 (upd (X 12) o ex)
def r_X9_alter (v : Int32) (ex : Int32) (X : Mem) (h n : Nat) : String → Mem → Prop := fun E X' => X' = X ∧ Flt3a (Btw v 0 (nI n - 1)) (∀ o, o < n → v = nI o → ¬ X 7 o = 0) (∀ o, o < n → v = nI o → Btw ex 0 (if X 7 o = 1 then 8 else 1023)) E
set_option maxHeartbeats 4000000 in
set_option maxRecDepth 100000 in
theorem k_X9_alter (w : Wt) (l : Launch) (v : Int32) (ex : Int32) (X : Mem) (h n : Nat) (hO : OInv (oC X) h n) (hn : X 6 0 = nI n) : CtXI w l yX9_alter cX9_alter 4 (some .int) 7 104 3 [.ref (w.2.1 0), .int v, .int ex] X (q_X9_alter v ex X h n) (r_X9_alter v ex X h n) := by
  have n50 := hO.1
  refine CtXI_of (by decide +kernel) (Nat.le_of_ble_eq_true rfl) (List.forall_mem_cons.mpr ⟨rfl, (List.forall_mem_cons.mpr ⟨rfl, (List.forall_mem_cons.mpr ⟨rfl, (fun _ h => nomatch h)⟩)⟩)⟩) (ls := [some (.ref (w.2.1 0)), some (.int v), some (.int ex), none]) rfl (args := (#[.ref (w.2.1 0), .int v, .int ex] : Array Value)) rfl (own := RX9) rfl ?_
  intro p e s m below meth c C ht hD
  refine V_aload_n C dX9_alter_0 rfl ?_
  refine V_iload_n C dX9_alter_1 rfl ?_
  refine V_xcallVUI C ht hD [.int v] mi_X9_132 pl_X9_132 (k_X9_needObject w l v X n hn n50) dX9_alter_2 sh_0 (by decide) rfl rfl rfl (Nat.le_of_ble_eq_true rfl) (Nat.le_of_ble_eq_true rfl) (Nat.le_of_ble_eq_true rfl) ⟨by decide, by decide⟩ ⟨by decide, by decide⟩ (fun E X1 h => ⟨h.1, Or.inl ⟨h.2.1, h.2.2⟩⟩) (fun X1 q1 => ?_)
  obtain ⟨hg1, eX1⟩ := q1; subst X1
  obtain ⟨o, ho, eo⟩ := hg1.2
  subst v
  refine V_aload_n C dX9_alter_5 rfl ?_
  refine V_getr C fl_X9_19 dX9_alter_6 (by decide) sh_0 rfl ?_
  refine V_getr C fl_X9_139 dX9_alter_9 (by decide) sh_6 rfl ?_
  refine V_iload_n C dX9_alter_12 rfl ?_
  refine V_ialdN (p0 := 7) (o := o) (v := X 7 o) C dX9_alter_13 sh_7 (by decide) (by omega) (by decide) rfl ?_
  obtain ⟨a2, ha2, ea2⟩ := (hO.2 o (by omega)).2.1
  have ia2 : ix (nI a2) = a2 := ix_nI (by omega)
  refine V_eqi ea2 ?_
  refine V_if_neN (a := a2) (tgt := 27) C dX9_alter_14 (by decide) (by omega) (fun h14_3 => ?_) (fun h14_3 => ?_)
  · refine V_iload_n C dX9_alter_27 rfl ?_
    refine V_iconst (v := (0 : Int32)) C dX9_alter_28 (by decide) ?_
    refine V_aload_n C dX9_alter_29 rfl ?_
    refine V_getr C fl_X9_19 dX9_alter_30 (by decide) sh_0 rfl ?_
    refine V_getr C fl_X9_139 dX9_alter_33 (by decide) sh_6 rfl ?_
    refine V_iload_n C dX9_alter_36 rfl ?_
    refine V_ialdN (p0 := 7) (o := o) (v := X 7 o) C dX9_alter_37 sh_7 (by decide) (by omega) (by decide) rfl ?_
    refine V_eqi ea2 ?_
    refine V_iconst (v := (1 : Int32)) C dX9_alter_38 (by decide) ?_
    refine V_icmp_neN (a := a2) (b := 1) (tgt := 47) C dX9_alter_39 (by decide) (by omega) (by omega) (fun h39_4 => ?_) (fun h39_4 => ?_)
    · refine V_sipush (v := (1023 : Int32)) C dX9_alter_47 (by decide) ?_
      refine V_xcallSUI C ht hD [.int ex, .int (0 : Int32), .int (1023 : Int32)] ms_X9_104 pl_X9_104 (k_X9_needRange w l ex (0 : Int32) (1023 : Int32) X ) dX9_alter_50 rfl rfl (Nat.le_of_ble_eq_true rfl) (Nat.le_of_ble_eq_true rfl) (Nat.le_of_ble_eq_true rfl) ⟨by decide, by decide⟩ ⟨by decide, by decide⟩ (fun E X1 h => ⟨h.1, Or.inr (Or.inr ⟨h.2.1, hg1.1, alt_b n50 (by omega) ha2 ea2 (by omega), fun q => h.2.2 (alt_2 ha2 ea2 (by omega) (q o (by omega) rfl))⟩)⟩) (fun X5 q5 => ?_)
      obtain ⟨hg5, eX5⟩ := q5; subst X5
      refine V_aload_n C dX9_alter_53 rfl ?_
      refine V_getr C fl_X9_19 dX9_alter_54 (by decide) sh_0 rfl ?_
      refine V_getr C fl_X9_144 dX9_alter_57 (by decide) sh_6 rfl ?_
      refine V_iload_n C dX9_alter_60 rfl ?_
      refine V_ialdN (p0 := 12) (o := o) (v := X 12 o) C dX9_alter_61 sh_12 (by decide) (by omega) (by decide) rfl ?_
      refine V_istore_n (ls1 := [some (.ref (w.2.1 0)), some (.int (nI o)), some (.int ex), some (.int (X 12 o))]) C dX9_alter_62 (by decide) rfl ?_
      refine V_aload_n C dX9_alter_63 rfl ?_
      refine V_getr C fl_X9_19 dX9_alter_64 (by decide) sh_0 rfl ?_
      refine V_getr C fl_X9_144 dX9_alter_67 (by decide) sh_6 rfl ?_
      refine V_iload_n C dX9_alter_70 rfl ?_
      refine V_iload_n C dX9_alter_71 rfl ?_
      refine V_iastN (p0 := 12) (o := o) (X1 := (ma X 12 (upd (X 12) o ex))) C dX9_alter_72 sh_12 (by decide) (by omega) (by decide) rfl ?_
      refine V_iload_n C dX9_alter_73 rfl ?_
      exact V_ireturnX C dX9_alter_74 (by decide) (by decide) ⟨hg1.1, o, by omega, rfl, ⟨fun q => alt_b n50 (by omega) ha2 ea2 (by omega) o (by omega) rfl q, alt_2r ha2 ea2 (by omega) hg5⟩, rfl, rfl⟩
    · refine V_bipush (v := (8 : Int32)) C dX9_alter_42 (by decide) ?_
      refine V_goto (tgt := 50) C dX9_alter_44 (by decide) ?_
      refine V_xcallSUI C ht hD [.int ex, .int (0 : Int32), .int (8 : Int32)] ms_X9_104 pl_X9_104 (k_X9_needRange w l ex (0 : Int32) (8 : Int32) X ) dX9_alter_50 rfl rfl (Nat.le_of_ble_eq_true rfl) (Nat.le_of_ble_eq_true rfl) (Nat.le_of_ble_eq_true rfl) ⟨by decide, by decide⟩ ⟨by decide, by decide⟩ (fun E X1 h => ⟨h.1, Or.inr (Or.inr ⟨h.2.1, hg1.1, alt_b n50 (by omega) ha2 ea2 (by omega), fun q => h.2.2 (alt_1 ha2 ea2 (by omega) (q o (by omega) rfl))⟩)⟩) (fun X6 q6 => ?_)
      obtain ⟨hg6, eX6⟩ := q6; subst X6
      refine V_aload_n C dX9_alter_53 rfl ?_
      refine V_getr C fl_X9_19 dX9_alter_54 (by decide) sh_0 rfl ?_
      refine V_getr C fl_X9_144 dX9_alter_57 (by decide) sh_6 rfl ?_
      refine V_iload_n C dX9_alter_60 rfl ?_
      refine V_ialdN (p0 := 12) (o := o) (v := X 12 o) C dX9_alter_61 sh_12 (by decide) (by omega) (by decide) rfl ?_
      refine V_istore_n (ls1 := [some (.ref (w.2.1 0)), some (.int (nI o)), some (.int ex), some (.int (X 12 o))]) C dX9_alter_62 (by decide) rfl ?_
      refine V_aload_n C dX9_alter_63 rfl ?_
      refine V_getr C fl_X9_19 dX9_alter_64 (by decide) sh_0 rfl ?_
      refine V_getr C fl_X9_144 dX9_alter_67 (by decide) sh_6 rfl ?_
      refine V_iload_n C dX9_alter_70 rfl ?_
      refine V_iload_n C dX9_alter_71 rfl ?_
      refine V_iastN (p0 := 12) (o := o) (X1 := (ma X 12 (upd (X 12) o ex))) C dX9_alter_72 sh_12 (by decide) (by omega) (by decide) rfl ?_
      refine V_iload_n C dX9_alter_73 rfl ?_
      exact V_ireturnX C dX9_alter_74 (by decide) (by decide) ⟨hg1.1, o, by omega, rfl, ⟨fun q => alt_b n50 (by omega) ha2 ea2 (by omega) o (by omega) rfl q, alt_1r ha2 ea2 (by omega) hg6⟩, rfl, rfl⟩
  · exact V_throwS C ht hD tw_81 (List.mem_of_getElem? (i := 3) rfl) (by decide +kernel) dX9_alter_17 dX9_alter_20 dX9_alter_21 dX9_alter_23 dX9_alter_26 ⟨by decide, by decide⟩ ⟨by decide, by decide⟩ ⟨by decide, by decide⟩ ⟨rfl, Or.inr (Or.inl ⟨rfl, hg1.1, fun q => q o (by omega) rfl (alt_0 ea2 (by omega))⟩)⟩
