def q_X9_grant (is : Int32) (wm : Int32) (vl : Int32) (ln : Int32) (dd : Int32) (X : Mem) (h n : Nat) : Int32 → Mem → Prop := fun r X' => r = nI n ∧ ((Btw is 0 (nI (h - 1)) ∧ Btw wm 0 (nI (h - 1))) ∧ (Blk vl ln ∧ Btw dd 0 1000) ∧ n < 50) ∧ ∃ a, a < h ∧ is = nI a ∧ X' = ma (ma (ma (ma (ma (ma (ma (ma (ma X 7 (upd (X 7) n (0 : Int32))) 8 (upd (X 8) n (nI a))) 9 (upd (X 9) n wm)) 10 (upd (X 10) n vl)) 11 (upd (X 11) n ln)) 12 (upd (X 12) n (0 : Int32))) 13 (upd (X 13) n (X 1 0 + dd))) 6 (upd (X 6) 0 (nI (n + 1)))) 14 (upd ((ma (ma (ma (ma (ma (ma (ma (ma X 7 (upd (X 7) n (0 : Int32))) 8 (upd (X 8) n (nI a))) 9 (upd (X 9) n wm)) 10 (upd (X 10) n vl)) 11 (upd (X 11) n ln)) 12 (upd (X 12) n (0 : Int32))) 13 (upd (X 13) n (X 1 0 + dd))) 6 (upd (X 6) 0 (nI (n + 1)))) 14) n (sigS (oC (ma (ma (ma (ma (ma (ma (ma (ma X 7 (upd (X 7) n (0 : Int32))) 8 (upd (X 8) n (nI a))) 9 (upd (X 9) n wm)) 10 (upd (X 10) n vl)) 11 (upd (X 11) n ln)) 12 (upd (X 12) n (0 : Int32))) 13 (upd (X 13) n (X 1 0 + dd))) 6 (upd (X 6) 0 (nI (n + 1))))) n ((ma (ma (ma (ma (ma (ma (ma (ma X 7 (upd (X 7) n (0 : Int32))) 8 (upd (X 8) n (nI a))) 9 (upd (X 9) n wm)) 10 (upd (X 10) n vl)) 11 (upd (X 11) n ln)) 12 (upd (X 12) n (0 : Int32))) 13 (upd (X 13) n (X 1 0 + dd))) 6 (upd (X 6) 0 (nI (n + 1)))) 3 a)))
def r_X9_grant (is : Int32) (wm : Int32) (vl : Int32) (ln : Int32) (dd : Int32) (X : Mem) (h n : Nat) : String → Mem → Prop := fun E X' => X' = X ∧ Flt3 (Btw is 0 (nI (h - 1)) ∧ Btw wm 0 (nI (h - 1))) (Blk vl ln ∧ Btw dd 0 1000) (n < 50) E
set_option maxHeartbeats 4000000 in
set_option maxRecDepth 100000 in
theorem k_X9_grant (w : Wt) (l : Launch) (is : Int32) (wm : Int32) (vl : Int32) (ln : Int32) (dd : Int32) (X : Mem) (h n : Nat) (hh : X 1 1 = nI h) (h1 : 1 ≤ h) (h8 : h ≤ 8) (hn : X 6 0 = nI n) (n50 : n ≤ 50) : CtXI w l yX9_grant cX9_grant 6 (some .int) 8 125 7 [.ref (w.2.1 0), .int is, .int wm, .int vl, .int ln, .int dd] X (q_X9_grant is wm vl ln dd X h n) (r_X9_grant is wm vl ln dd X h n) := by
  refine CtXI_of (by decide +kernel) (Nat.le_of_ble_eq_true rfl) (List.forall_mem_cons.mpr ⟨rfl, (List.forall_mem_cons.mpr ⟨rfl, (List.forall_mem_cons.mpr ⟨rfl, (List.forall_mem_cons.mpr ⟨rfl, (List.forall_mem_cons.mpr ⟨rfl, (List.forall_mem_cons.mpr ⟨rfl, (fun _ h => nomatch h)⟩)⟩)⟩)⟩)⟩)⟩) (ls := [some (.ref (w.2.1 0)), some (.int is), some (.int wm), some (.int vl), some (.int ln), some (.int dd)]) rfl (args := (#[.ref (w.2.1 0), .int is, .int wm, .int vl, .int ln, .int dd] : Array Value)) rfl (own := RX9) rfl ?_
  intro p e s m below meth c C ht hD
  refine V_aload_n C dX9_grant_0 rfl ?_
  refine V_iload_n C dX9_grant_1 rfl ?_
  refine V_xcallVUI C ht hD [.int is] mi_X9_73 pl_X9_73 (k_X9_needHolder w l is X h hh h1 h8) dX9_grant_2 sh_0 (by decide) rfl rfl rfl (Nat.le_of_ble_eq_true rfl) (Nat.le_of_ble_eq_true rfl) (Nat.le_of_ble_eq_true rfl) ⟨by decide, by decide⟩ ⟨by decide, by decide⟩ (fun E X1 h => ⟨h.1, Or.inl ⟨h.2.1, fun q => h.2.2 q.1⟩⟩) (fun X1 q1 => ?_)
  obtain ⟨hg1, eX1⟩ := q1; subst X1
  refine V_aload_n C dX9_grant_5 rfl ?_
  refine V_iload_n C dX9_grant_6 rfl ?_
  refine V_xcallVUI C ht hD [.int wm] mi_X9_73 pl_X9_73 (k_X9_needHolder w l wm X h hh h1 h8) dX9_grant_7 sh_0 (by decide) rfl rfl rfl (Nat.le_of_ble_eq_true rfl) (Nat.le_of_ble_eq_true rfl) (Nat.le_of_ble_eq_true rfl) ⟨by decide, by decide⟩ ⟨by decide, by decide⟩ (fun E X1 h => ⟨h.1, Or.inl ⟨h.2.1, fun q => h.2.2 q.2⟩⟩) (fun X2 q2 => ?_)
  obtain ⟨hg2, eX2⟩ := q2; subst X2
  refine V_iload_n C dX9_grant_10 rfl ?_
  refine V_iload C dX9_grant_11 rfl ?_
  refine V_xcallSUI C ht hD [.int vl, .int ln] ms_X9_119 pl_X9_119 (k_X9_needBlock w l vl ln X ) dX9_grant_13 rfl rfl (Nat.le_of_ble_eq_true rfl) (Nat.le_of_ble_eq_true rfl) (Nat.le_of_ble_eq_true rfl) ⟨by decide, by decide⟩ ⟨by decide, by decide⟩ (fun E X1 h => ⟨h.1, Or.inr (Or.inl ⟨h.2.1, ⟨hg1, hg2⟩, fun q => h.2.2 q.1⟩)⟩) (fun X3 q3 => ?_)
  obtain ⟨hg3, eX3⟩ := q3; subst X3
  refine V_iload C dX9_grant_16 rfl ?_
  refine V_iconst (v := (0 : Int32)) C dX9_grant_18 (by decide) ?_
  refine V_sipush (v := (1000 : Int32)) C dX9_grant_19 (by decide) ?_
  refine V_xcallSUI C ht hD [.int dd, .int (0 : Int32), .int (1000 : Int32)] ms_X9_104 pl_X9_104 (k_X9_needRange w l dd (0 : Int32) (1000 : Int32) X ) dX9_grant_22 rfl rfl (Nat.le_of_ble_eq_true rfl) (Nat.le_of_ble_eq_true rfl) (Nat.le_of_ble_eq_true rfl) ⟨by decide, by decide⟩ ⟨by decide, by decide⟩ (fun E X1 h => ⟨h.1, Or.inr (Or.inl ⟨h.2.1, ⟨hg1, hg2⟩, fun q => h.2.2 q.2⟩)⟩) (fun X4 q4 => ?_)
  obtain ⟨hg4, eX4⟩ := q4; subst X4
  refine V_aload_n C dX9_grant_25 rfl ?_
  refine V_xcallVUI C ht hD [] mi_X9_123 pl_X9_123 (k_X9_needRoomForObject w l X n hn n50) dX9_grant_26 sh_0 (by decide) rfl rfl rfl (Nat.le_of_ble_eq_true rfl) (Nat.le_of_ble_eq_true rfl) (Nat.le_of_ble_eq_true rfl) ⟨by decide, by decide⟩ ⟨by decide, by decide⟩ (fun E X1 h => ⟨h.1, Or.inr (Or.inr ⟨h.2.1, ⟨hg1, hg2⟩, ⟨hg3, hg4⟩, fun q => h.2.2 q⟩)⟩) (fun X5 q5 => ?_)
  obtain ⟨hg5, eX5⟩ := q5; subst X5
  obtain ⟨a, ha, ea⟩ := Btw_hd h1 (by omega) hg1
  subst is
  refine V_aload_n C dX9_grant_29 rfl ?_
  refine V_aload_n C dX9_grant_30 rfl ?_
  refine V_getr C fl_X9_19 dX9_grant_31 (by decide) sh_0 rfl ?_
  refine V_iconst (v := (0 : Int32)) C dX9_grant_34 (by decide) ?_
  refine V_iload_n C dX9_grant_35 rfl ?_
  refine V_iload_n C dX9_grant_36 rfl ?_
  refine V_iload_n C dX9_grant_37 rfl ?_
  refine V_iload C dX9_grant_38 rfl ?_
  refine V_iconst (v := (0 : Int32)) C dX9_grant_40 (by decide) ?_
  refine V_aload_n C dX9_grant_41 rfl ?_
  refine V_getr C fl_X9_10 dX9_grant_42 (by decide) sh_0 rfl ?_
  refine V_geti C fl_X9_111 dX9_grant_45 (by decide) sh_1 rfl ?_
  refine V_iload C dX9_grant_48 rfl ?_
  refine V_iadd C dX9_grant_50 ?_
  refine V_callVI C [.int (0 : Int32), .int (nI a), .int wm, .int vl, .int ln, .int (0 : Int32), .int ((X 1 0) + dd)] mi_X9_126 (k_X7_add w l (0 : Int32) (nI a) wm vl ln (0 : Int32) ((X 1 0) + dd) X n hn (by omega)) dX9_grant_51 sh_6 (by decide) rfl rfl rfl (Nat.le_of_ble_eq_true rfl) (Nat.le_of_ble_eq_true rfl) (Nat.le_of_ble_eq_true rfl) ⟨by decide, by decide⟩ (fun v6 X6 q6 => ?_)
  obtain ⟨ev6, eX6⟩ := q6; subst X6; subst v6
  refine V_callVI C [.int (nI n)] mi_X9_129 (k_X9_keep w l n (ma (ma (ma (ma (ma (ma (ma (ma X 7 (upd (X 7) n (0 : Int32))) 8 (upd (X 8) n (nI a))) 9 (upd (X 9) n wm)) 10 (upd (X 10) n vl)) 11 (upd (X 11) n ln)) 12 (upd (X 12) n (0 : Int32))) 13 (upd (X 13) n ((X 1 0) + dd))) 6 (upd (X 6) 0 (nI (n + 1)))) a (by omega) (by show upd (X 8) n (nI a) n = nI a; exact upd_eq _ _ _) (by omega)) dX9_grant_54 sh_0 (by decide) rfl rfl rfl (Nat.le_of_ble_eq_true rfl) (Nat.le_of_ble_eq_true rfl) (Nat.le_of_ble_eq_true rfl) ⟨by decide, by decide⟩ (fun v7 X7 q7 => ?_)
  obtain ⟨ev7, eX7⟩ := q7; subst X7; subst v7
  exact V_ireturnX C dX9_grant_57 (by decide) (by decide) ⟨rfl, ⟨⟨hg1, hg2⟩, ⟨hg3, hg4⟩, hg5⟩, a, by assumption, rfl, rfl⟩
def q_X9_origin (is : Int32) (wm : Int32) (vl : Int32) (ln : Int32) (mo : Int32) (dd : Int32) (X : Mem) (h n : Nat) : Int32 → Mem → Prop := fun r X' => r = nI n ∧ ((Btw is 0 (nI (h - 1)) ∧ Btw wm 0 9) ∧ (Blk vl ln ∧ Btw mo 0 8 ∧ Btw dd 0 1000) ∧ n < 50) ∧ ∃ a, a < h ∧ is = nI a ∧ X' = ma (ma (ma (ma (ma (ma (ma (ma (ma X 7 (upd (X 7) n (1 : Int32))) 8 (upd (X 8) n (nI a))) 9 (upd (X 9) n wm)) 10 (upd (X 10) n vl)) 11 (upd (X 11) n ln)) 12 (upd (X 12) n mo)) 13 (upd (X 13) n (X 1 0 + dd))) 6 (upd (X 6) 0 (nI (n + 1)))) 14 (upd ((ma (ma (ma (ma (ma (ma (ma (ma X 7 (upd (X 7) n (1 : Int32))) 8 (upd (X 8) n (nI a))) 9 (upd (X 9) n wm)) 10 (upd (X 10) n vl)) 11 (upd (X 11) n ln)) 12 (upd (X 12) n mo)) 13 (upd (X 13) n (X 1 0 + dd))) 6 (upd (X 6) 0 (nI (n + 1)))) 14) n (sigS (oC (ma (ma (ma (ma (ma (ma (ma (ma X 7 (upd (X 7) n (1 : Int32))) 8 (upd (X 8) n (nI a))) 9 (upd (X 9) n wm)) 10 (upd (X 10) n vl)) 11 (upd (X 11) n ln)) 12 (upd (X 12) n mo)) 13 (upd (X 13) n (X 1 0 + dd))) 6 (upd (X 6) 0 (nI (n + 1))))) n ((ma (ma (ma (ma (ma (ma (ma (ma X 7 (upd (X 7) n (1 : Int32))) 8 (upd (X 8) n (nI a))) 9 (upd (X 9) n wm)) 10 (upd (X 10) n vl)) 11 (upd (X 11) n ln)) 12 (upd (X 12) n mo)) 13 (upd (X 13) n (X 1 0 + dd))) 6 (upd (X 6) 0 (nI (n + 1)))) 3 a)))
def r_X9_origin (is : Int32) (wm : Int32) (vl : Int32) (ln : Int32) (mo : Int32) (dd : Int32) (X : Mem) (h n : Nat) : String → Mem → Prop := fun E X' => X' = X ∧ Flt3 (Btw is 0 (nI (h - 1)) ∧ Btw wm 0 9) (Blk vl ln ∧ Btw mo 0 8 ∧ Btw dd 0 1000) (n < 50) E
set_option maxHeartbeats 4000000 in
set_option maxRecDepth 100000 in
theorem k_X9_origin (w : Wt) (l : Launch) (is : Int32) (wm : Int32) (vl : Int32) (ln : Int32) (mo : Int32) (dd : Int32) (X : Mem) (h n : Nat) (hh : X 1 1 = nI h) (h1 : 1 ≤ h) (h8 : h ≤ 8) (hn : X 6 0 = nI n) (n50 : n ≤ 50) : CtXI w l yX9_origin cX9_origin 7 (some .int) 8 125 8 [.ref (w.2.1 0), .int is, .int wm, .int vl, .int ln, .int mo, .int dd] X (q_X9_origin is wm vl ln mo dd X h n) (r_X9_origin is wm vl ln mo dd X h n) := by
  refine CtXI_of (by decide +kernel) (Nat.le_of_ble_eq_true rfl) (List.forall_mem_cons.mpr ⟨rfl, (List.forall_mem_cons.mpr ⟨rfl, (List.forall_mem_cons.mpr ⟨rfl, (List.forall_mem_cons.mpr ⟨rfl, (List.forall_mem_cons.mpr ⟨rfl, (List.forall_mem_cons.mpr ⟨rfl, (List.forall_mem_cons.mpr ⟨rfl, (fun _ h => nomatch h)⟩)⟩)⟩)⟩)⟩)⟩)⟩) (ls := [some (.ref (w.2.1 0)), some (.int is), some (.int wm), some (.int vl), some (.int ln), some (.int mo), some (.int dd)]) rfl (args := (#[.ref (w.2.1 0), .int is, .int wm, .int vl, .int ln, .int mo, .int dd] : Array Value)) rfl (own := RX9) rfl ?_
  intro p e s m below meth c C ht hD
  refine V_aload_n C dX9_origin_0 rfl ?_
  refine V_iload_n C dX9_origin_1 rfl ?_
  refine V_xcallVUI C ht hD [.int is] mi_X9_73 pl_X9_73 (k_X9_needHolder w l is X h hh h1 h8) dX9_origin_2 sh_0 (by decide) rfl rfl rfl (Nat.le_of_ble_eq_true rfl) (Nat.le_of_ble_eq_true rfl) (Nat.le_of_ble_eq_true rfl) ⟨by decide, by decide⟩ ⟨by decide, by decide⟩ (fun E X1 h => ⟨h.1, Or.inl ⟨h.2.1, fun q => h.2.2 q.1⟩⟩) (fun X1 q1 => ?_)
  obtain ⟨hg1, eX1⟩ := q1; subst X1
  refine V_iload_n C dX9_origin_5 rfl ?_
  refine V_xcallSUI C ht hD [.int wm] ms_X9_92 pl_X9_92 (k_X9_needNet w l wm X ) dX9_origin_6 rfl rfl (Nat.le_of_ble_eq_true rfl) (Nat.le_of_ble_eq_true rfl) (Nat.le_of_ble_eq_true rfl) ⟨by decide, by decide⟩ ⟨by decide, by decide⟩ (fun E X1 h => ⟨h.1, Or.inl ⟨h.2.1, fun q => h.2.2 q.2⟩⟩) (fun X2 q2 => ?_)
  obtain ⟨hg2, eX2⟩ := q2; subst X2
  refine V_iload_n C dX9_origin_9 rfl ?_
  refine V_iload C dX9_origin_10 rfl ?_
  refine V_xcallSUI C ht hD [.int vl, .int ln] ms_X9_119 pl_X9_119 (k_X9_needBlock w l vl ln X ) dX9_origin_12 rfl rfl (Nat.le_of_ble_eq_true rfl) (Nat.le_of_ble_eq_true rfl) (Nat.le_of_ble_eq_true rfl) ⟨by decide, by decide⟩ ⟨by decide, by decide⟩ (fun E X1 h => ⟨h.1, Or.inr (Or.inl ⟨h.2.1, ⟨hg1, hg2⟩, fun q => h.2.2 q.1⟩)⟩) (fun X3 q3 => ?_)
  obtain ⟨hg3, eX3⟩ := q3; subst X3
  refine V_iload C dX9_origin_15 rfl ?_
  refine V_iconst (v := (0 : Int32)) C dX9_origin_17 (by decide) ?_
  refine V_bipush (v := (8 : Int32)) C dX9_origin_18 (by decide) ?_
  refine V_xcallSUI C ht hD [.int mo, .int (0 : Int32), .int (8 : Int32)] ms_X9_104 pl_X9_104 (k_X9_needRange w l mo (0 : Int32) (8 : Int32) X ) dX9_origin_20 rfl rfl (Nat.le_of_ble_eq_true rfl) (Nat.le_of_ble_eq_true rfl) (Nat.le_of_ble_eq_true rfl) ⟨by decide, by decide⟩ ⟨by decide, by decide⟩ (fun E X1 h => ⟨h.1, Or.inr (Or.inl ⟨h.2.1, ⟨hg1, hg2⟩, fun q => h.2.2 q.2.1⟩)⟩) (fun X4 q4 => ?_)
  obtain ⟨hg4, eX4⟩ := q4; subst X4
  refine V_iload C dX9_origin_23 rfl ?_
  refine V_iconst (v := (0 : Int32)) C dX9_origin_25 (by decide) ?_
  refine V_sipush (v := (1000 : Int32)) C dX9_origin_26 (by decide) ?_
  refine V_xcallSUI C ht hD [.int dd, .int (0 : Int32), .int (1000 : Int32)] ms_X9_104 pl_X9_104 (k_X9_needRange w l dd (0 : Int32) (1000 : Int32) X ) dX9_origin_29 rfl rfl (Nat.le_of_ble_eq_true rfl) (Nat.le_of_ble_eq_true rfl) (Nat.le_of_ble_eq_true rfl) ⟨by decide, by decide⟩ ⟨by decide, by decide⟩ (fun E X1 h => ⟨h.1, Or.inr (Or.inl ⟨h.2.1, ⟨hg1, hg2⟩, fun q => h.2.2 q.2.2⟩)⟩) (fun X5 q5 => ?_)
  obtain ⟨hg5, eX5⟩ := q5; subst X5
  refine V_aload_n C dX9_origin_32 rfl ?_
  refine V_xcallVUI C ht hD [] mi_X9_123 pl_X9_123 (k_X9_needRoomForObject w l X n hn n50) dX9_origin_33 sh_0 (by decide) rfl rfl rfl (Nat.le_of_ble_eq_true rfl) (Nat.le_of_ble_eq_true rfl) (Nat.le_of_ble_eq_true rfl) ⟨by decide, by decide⟩ ⟨by decide, by decide⟩ (fun E X1 h => ⟨h.1, Or.inr (Or.inr ⟨h.2.1, ⟨hg1, hg2⟩, ⟨hg3, hg4, hg5⟩, fun q => h.2.2 q⟩)⟩) (fun X6 q6 => ?_)
  obtain ⟨hg6, eX6⟩ := q6; subst X6
  obtain ⟨a, ha, ea⟩ := Btw_hd h1 (by omega) hg1
  subst is
  refine V_aload_n C dX9_origin_36 rfl ?_
  refine V_aload_n C dX9_origin_37 rfl ?_
  refine V_getr C fl_X9_19 dX9_origin_38 (by decide) sh_0 rfl ?_
  refine V_iconst (v := (1 : Int32)) C dX9_origin_41 (by decide) ?_
  refine V_iload_n C dX9_origin_42 rfl ?_
  refine V_iload_n C dX9_origin_43 rfl ?_
  refine V_iload_n C dX9_origin_44 rfl ?_
  refine V_iload C dX9_origin_45 rfl ?_
  refine V_iload C dX9_origin_47 rfl ?_
  refine V_aload_n C dX9_origin_49 rfl ?_
  refine V_getr C fl_X9_10 dX9_origin_50 (by decide) sh_0 rfl ?_
  refine V_geti C fl_X9_111 dX9_origin_53 (by decide) sh_1 rfl ?_
  refine V_iload C dX9_origin_56 rfl ?_
  refine V_iadd C dX9_origin_58 ?_
  refine V_callVI C [.int (1 : Int32), .int (nI a), .int wm, .int vl, .int ln, .int mo, .int ((X 1 0) + dd)] mi_X9_126 (k_X7_add w l (1 : Int32) (nI a) wm vl ln mo ((X 1 0) + dd) X n hn (by omega)) dX9_origin_59 sh_6 (by decide) rfl rfl rfl (Nat.le_of_ble_eq_true rfl) (Nat.le_of_ble_eq_true rfl) (Nat.le_of_ble_eq_true rfl) ⟨by decide, by decide⟩ (fun v7 X7 q7 => ?_)
  obtain ⟨ev7, eX7⟩ := q7; subst X7; subst v7
  refine V_callVI C [.int (nI n)] mi_X9_129 (k_X9_keep w l n (ma (ma (ma (ma (ma (ma (ma (ma X 7 (upd (X 7) n (1 : Int32))) 8 (upd (X 8) n (nI a))) 9 (upd (X 9) n wm)) 10 (upd (X 10) n vl)) 11 (upd (X 11) n ln)) 12 (upd (X 12) n mo)) 13 (upd (X 13) n ((X 1 0) + dd))) 6 (upd (X 6) 0 (nI (n + 1)))) a (by omega) (by show upd (X 8) n (nI a) n = nI a; exact upd_eq _ _ _) (by omega)) dX9_origin_62 sh_0 (by decide) rfl rfl rfl (Nat.le_of_ble_eq_true rfl) (Nat.le_of_ble_eq_true rfl) (Nat.le_of_ble_eq_true rfl) ⟨by decide, by decide⟩ (fun v8 X8 q8 => ?_)
  obtain ⟨ev8, eX8⟩ := q8; subst X8; subst v8
  exact V_ireturnX C dX9_origin_65 (by decide) (by decide) ⟨rfl, ⟨⟨hg1, hg2⟩, ⟨hg3, hg4, hg5⟩, hg6⟩, a, by assumption, rfl, rfl⟩
def q_X9_vouch (is : Int32) (wm : Int32) (pv : Int32) (dd : Int32) (X : Mem) (h n : Nat) : Int32 → Mem → Prop := fun r X' => r = nI n ∧ ((Btw is 0 (nI (h - 1)) ∧ Btw wm 0 9) ∧ (Btw pv 0 1023 ∧ Btw dd 0 1000) ∧ n < 50) ∧ ∃ a, a < h ∧ is = nI a ∧ X' = ma (ma (ma (ma (ma (ma (ma (ma (ma X 7 (upd (X 7) n (2 : Int32))) 8 (upd (X 8) n (nI a))) 9 (upd (X 9) n wm)) 10 (upd (X 10) n (0 : Int32))) 11 (upd (X 11) n (0 : Int32))) 12 (upd (X 12) n pv)) 13 (upd (X 13) n (X 1 0 + dd))) 6 (upd (X 6) 0 (nI (n + 1)))) 14 (upd ((ma (ma (ma (ma (ma (ma (ma (ma X 7 (upd (X 7) n (2 : Int32))) 8 (upd (X 8) n (nI a))) 9 (upd (X 9) n wm)) 10 (upd (X 10) n (0 : Int32))) 11 (upd (X 11) n (0 : Int32))) 12 (upd (X 12) n pv)) 13 (upd (X 13) n (X 1 0 + dd))) 6 (upd (X 6) 0 (nI (n + 1)))) 14) n (sigS (oC (ma (ma (ma (ma (ma (ma (ma (ma X 7 (upd (X 7) n (2 : Int32))) 8 (upd (X 8) n (nI a))) 9 (upd (X 9) n wm)) 10 (upd (X 10) n (0 : Int32))) 11 (upd (X 11) n (0 : Int32))) 12 (upd (X 12) n pv)) 13 (upd (X 13) n (X 1 0 + dd))) 6 (upd (X 6) 0 (nI (n + 1))))) n ((ma (ma (ma (ma (ma (ma (ma (ma X 7 (upd (X 7) n (2 : Int32))) 8 (upd (X 8) n (nI a))) 9 (upd (X 9) n wm)) 10 (upd (X 10) n (0 : Int32))) 11 (upd (X 11) n (0 : Int32))) 12 (upd (X 12) n pv)) 13 (upd (X 13) n (X 1 0 + dd))) 6 (upd (X 6) 0 (nI (n + 1)))) 3 a)))
def r_X9_vouch (is : Int32) (wm : Int32) (pv : Int32) (dd : Int32) (X : Mem) (h n : Nat) : String → Mem → Prop := fun E X' => X' = X ∧ Flt3 (Btw is 0 (nI (h - 1)) ∧ Btw wm 0 9) (Btw pv 0 1023 ∧ Btw dd 0 1000) (n < 50) E
set_option maxHeartbeats 4000000 in
set_option maxRecDepth 100000 in
theorem k_X9_vouch (w : Wt) (l : Launch) (is : Int32) (wm : Int32) (pv : Int32) (dd : Int32) (X : Mem) (h n : Nat) (hh : X 1 1 = nI h) (h1 : 1 ≤ h) (h8 : h ≤ 8) (hn : X 6 0 = nI n) (n50 : n ≤ 50) : CtXI w l yX9_vouch cX9_vouch 5 (some .int) 7 108 5 [.ref (w.2.1 0), .int is, .int wm, .int pv, .int dd] X (q_X9_vouch is wm pv dd X h n) (r_X9_vouch is wm pv dd X h n) := by
  refine CtXI_of (by decide +kernel) (Nat.le_of_ble_eq_true rfl) (List.forall_mem_cons.mpr ⟨rfl, (List.forall_mem_cons.mpr ⟨rfl, (List.forall_mem_cons.mpr ⟨rfl, (List.forall_mem_cons.mpr ⟨rfl, (List.forall_mem_cons.mpr ⟨rfl, (fun _ h => nomatch h)⟩)⟩)⟩)⟩)⟩) (ls := [some (.ref (w.2.1 0)), some (.int is), some (.int wm), some (.int pv), some (.int dd)]) rfl (args := (#[.ref (w.2.1 0), .int is, .int wm, .int pv, .int dd] : Array Value)) rfl (own := RX9) rfl ?_
  intro p e s m below meth c C ht hD
  refine V_aload_n C dX9_vouch_0 rfl ?_
  refine V_iload_n C dX9_vouch_1 rfl ?_
  refine V_xcallVUI C ht hD [.int is] mi_X9_73 pl_X9_73 (k_X9_needHolder w l is X h hh h1 h8) dX9_vouch_2 sh_0 (by decide) rfl rfl rfl (Nat.le_of_ble_eq_true rfl) (Nat.le_of_ble_eq_true rfl) (Nat.le_of_ble_eq_true rfl) ⟨by decide, by decide⟩ ⟨by decide, by decide⟩ (fun E X1 h => ⟨h.1, Or.inl ⟨h.2.1, fun q => h.2.2 q.1⟩⟩) (fun X1 q1 => ?_)
  obtain ⟨hg1, eX1⟩ := q1; subst X1
  refine V_iload_n C dX9_vouch_5 rfl ?_
  refine V_xcallSUI C ht hD [.int wm] ms_X9_92 pl_X9_92 (k_X9_needNet w l wm X ) dX9_vouch_6 rfl rfl (Nat.le_of_ble_eq_true rfl) (Nat.le_of_ble_eq_true rfl) (Nat.le_of_ble_eq_true rfl) ⟨by decide, by decide⟩ ⟨by decide, by decide⟩ (fun E X1 h => ⟨h.1, Or.inl ⟨h.2.1, fun q => h.2.2 q.2⟩⟩) (fun X2 q2 => ?_)
  obtain ⟨hg2, eX2⟩ := q2; subst X2
  refine V_iload_n C dX9_vouch_9 rfl ?_
  refine V_iconst (v := (0 : Int32)) C dX9_vouch_10 (by decide) ?_
  refine V_sipush (v := (1023 : Int32)) C dX9_vouch_11 (by decide) ?_
  refine V_xcallSUI C ht hD [.int pv, .int (0 : Int32), .int (1023 : Int32)] ms_X9_104 pl_X9_104 (k_X9_needRange w l pv (0 : Int32) (1023 : Int32) X ) dX9_vouch_14 rfl rfl (Nat.le_of_ble_eq_true rfl) (Nat.le_of_ble_eq_true rfl) (Nat.le_of_ble_eq_true rfl) ⟨by decide, by decide⟩ ⟨by decide, by decide⟩ (fun E X1 h => ⟨h.1, Or.inr (Or.inl ⟨h.2.1, ⟨hg1, hg2⟩, fun q => h.2.2 q.1⟩)⟩) (fun X3 q3 => ?_)
  obtain ⟨hg3, eX3⟩ := q3; subst X3
  refine V_iload C dX9_vouch_17 rfl ?_
  refine V_iconst (v := (0 : Int32)) C dX9_vouch_19 (by decide) ?_
  refine V_sipush (v := (1000 : Int32)) C dX9_vouch_20 (by decide) ?_
  refine V_xcallSUI C ht hD [.int dd, .int (0 : Int32), .int (1000 : Int32)] ms_X9_104 pl_X9_104 (k_X9_needRange w l dd (0 : Int32) (1000 : Int32) X ) dX9_vouch_23 rfl rfl (Nat.le_of_ble_eq_true rfl) (Nat.le_of_ble_eq_true rfl) (Nat.le_of_ble_eq_true rfl) ⟨by decide, by decide⟩ ⟨by decide, by decide⟩ (fun E X1 h => ⟨h.1, Or.inr (Or.inl ⟨h.2.1, ⟨hg1, hg2⟩, fun q => h.2.2 q.2⟩)⟩) (fun X4 q4 => ?_)
  obtain ⟨hg4, eX4⟩ := q4; subst X4
  refine V_aload_n C dX9_vouch_26 rfl ?_
  refine V_xcallVUI C ht hD [] mi_X9_123 pl_X9_123 (k_X9_needRoomForObject w l X n hn n50) dX9_vouch_27 sh_0 (by decide) rfl rfl rfl (Nat.le_of_ble_eq_true rfl) (Nat.le_of_ble_eq_true rfl) (Nat.le_of_ble_eq_true rfl) ⟨by decide, by decide⟩ ⟨by decide, by decide⟩ (fun E X1 h => ⟨h.1, Or.inr (Or.inr ⟨h.2.1, ⟨hg1, hg2⟩, ⟨hg3, hg4⟩, fun q => h.2.2 q⟩)⟩) (fun X5 q5 => ?_)
  obtain ⟨hg5, eX5⟩ := q5; subst X5
  obtain ⟨a, ha, ea⟩ := Btw_hd h1 (by omega) hg1
  subst is
  refine V_aload_n C dX9_vouch_30 rfl ?_
  refine V_aload_n C dX9_vouch_31 rfl ?_
  refine V_getr C fl_X9_19 dX9_vouch_32 (by decide) sh_0 rfl ?_
  refine V_iconst (v := (2 : Int32)) C dX9_vouch_35 (by decide) ?_
  refine V_iload_n C dX9_vouch_36 rfl ?_
  refine V_iload_n C dX9_vouch_37 rfl ?_
  refine V_iconst (v := (0 : Int32)) C dX9_vouch_38 (by decide) ?_
  refine V_iconst (v := (0 : Int32)) C dX9_vouch_39 (by decide) ?_
  refine V_iload_n C dX9_vouch_40 rfl ?_
  refine V_aload_n C dX9_vouch_41 rfl ?_
  refine V_getr C fl_X9_10 dX9_vouch_42 (by decide) sh_0 rfl ?_
  refine V_geti C fl_X9_111 dX9_vouch_45 (by decide) sh_1 rfl ?_
  refine V_iload C dX9_vouch_48 rfl ?_
  refine V_iadd C dX9_vouch_50 ?_
  refine V_callVI C [.int (2 : Int32), .int (nI a), .int wm, .int (0 : Int32), .int (0 : Int32), .int pv, .int ((X 1 0) + dd)] mi_X9_126 (k_X7_add w l (2 : Int32) (nI a) wm (0 : Int32) (0 : Int32) pv ((X 1 0) + dd) X n hn (by omega)) dX9_vouch_51 sh_6 (by decide) rfl rfl rfl (Nat.le_of_ble_eq_true rfl) (Nat.le_of_ble_eq_true rfl) (Nat.le_of_ble_eq_true rfl) ⟨by decide, by decide⟩ (fun v6 X6 q6 => ?_)
  obtain ⟨ev6, eX6⟩ := q6; subst X6; subst v6
  refine V_callVI C [.int (nI n)] mi_X9_129 (k_X9_keep w l n (ma (ma (ma (ma (ma (ma (ma (ma X 7 (upd (X 7) n (2 : Int32))) 8 (upd (X 8) n (nI a))) 9 (upd (X 9) n wm)) 10 (upd (X 10) n (0 : Int32))) 11 (upd (X 11) n (0 : Int32))) 12 (upd (X 12) n pv)) 13 (upd (X 13) n ((X 1 0) + dd))) 6 (upd (X 6) 0 (nI (n + 1)))) a (by omega) (by show upd (X 8) n (nI a) n = nI a; exact upd_eq _ _ _) (by omega)) dX9_vouch_54 sh_0 (by decide) rfl rfl rfl (Nat.le_of_ble_eq_true rfl) (Nat.le_of_ble_eq_true rfl) (Nat.le_of_ble_eq_true rfl) ⟨by decide, by decide⟩ (fun v7 X7 q7 => ?_)
  obtain ⟨ev7, eX7⟩ := q7; subst X7; subst v7
  exact V_ireturnX C dX9_vouch_57 (by decide) (by decide) ⟨rfl, ⟨⟨hg1, hg2⟩, ⟨hg3, hg4⟩, hg5⟩, a, by assumption, rfl, rfl⟩
