def q_X7_add (k : Int32) (is : Int32) (wm : Int32) (vl : Int32) (ln : Int32) (ex : Int32) (dy : Int32) (X : Mem) (n : Nat) : Int32 → Mem → Prop := fun r X' => r = nI n ∧ X' = (ma (ma (ma (ma (ma (ma (ma (ma X 7 (upd (X 7) n k)) 8 (upd (X 8) n is)) 9 (upd (X 9) n wm)) 10 (upd (X 10) n vl)) 11 (upd (X 11) n ln)) 12 (upd (X 12) n ex)) 13 (upd (X 13) n dy)) 6 (upd (X 6) 0 (nI (n + 1))))
set_option maxHeartbeats 4000000 in
set_option maxRecDepth 100000 in
theorem k_X7_add (w : Wt) (l : Launch) (k : Int32) (is : Int32) (wm : Int32) (vl : Int32) (ln : Int32) (ex : Int32) (dy : Int32) (X : Mem) (n : Nat) (hn : X 6 0 = nI n) (n50 : n < 50) : CtI w l yX7_add cX7_add 9 (some .int) 1 20 [.ref (w.2.1 6), .int k, .int is, .int wm, .int vl, .int ln, .int ex, .int dy] X (q_X7_add k is wm vl ln ex dy X n) := by
  refine CtI_of (by decide +kernel) (Nat.le_of_ble_eq_true rfl) (List.forall_mem_cons.mpr ⟨rfl, (List.forall_mem_cons.mpr ⟨rfl, (List.forall_mem_cons.mpr ⟨rfl, (List.forall_mem_cons.mpr ⟨rfl, (List.forall_mem_cons.mpr ⟨rfl, (List.forall_mem_cons.mpr ⟨rfl, (List.forall_mem_cons.mpr ⟨rfl, (List.forall_mem_cons.mpr ⟨rfl, (fun _ h => nomatch h)⟩)⟩)⟩)⟩)⟩)⟩)⟩)⟩) (ls := [some (.ref (w.2.1 6)), some (.int k), some (.int is), some (.int wm), some (.int vl), some (.int ln), some (.int ex), some (.int dy), none]) rfl (args := (#[.ref (w.2.1 6), .int k, .int is, .int wm, .int vl, .int ln, .int ex, .int dy] : Array Value)) rfl (own := RX7) rfl ?_
  intro p e s m below meth c C
  refine V_aload_n C dX7_add_0 rfl ?_
  refine V_geti C fl_X7_9 dX7_add_1 (by decide) sh_6 rfl ?_
  refine V_eqi (y := nI n) hn ?_
  refine V_istore (ls1 := [some (.ref (w.2.1 6)), some (.int k), some (.int is), some (.int wm), some (.int vl), some (.int ln), some (.int ex), some (.int dy), some (.int (nI n))]) C dX7_add_4 (by decide) rfl ?_
  refine V_aload_n C dX7_add_6 rfl ?_
  refine V_getr C fl_X7_15 dX7_add_7 (by decide) sh_6 rfl ?_
  refine V_iload C dX7_add_10 rfl ?_
  refine V_iload_n C dX7_add_12 rfl ?_
  refine V_iastN (p0 := 7) (o := n) (X1 := (ma X 7 (upd (X 7) n k))) C dX7_add_13 sh_7 (by decide) (by omega) (by decide) rfl ?_
  refine V_aload_n C dX7_add_14 rfl ?_
  refine V_getr C fl_X7_19 dX7_add_15 (by decide) sh_6 rfl ?_
  refine V_iload C dX7_add_18 rfl ?_
  refine V_iload_n C dX7_add_20 rfl ?_
  refine V_iastN (p0 := 8) (o := n) (X1 := (ma (ma X 7 (upd (X 7) n k)) 8 (upd (X 8) n is))) C dX7_add_21 sh_8 (by decide) (by omega) (by decide) rfl ?_
  refine V_aload_n C dX7_add_22 rfl ?_
  refine V_getr C fl_X7_22 dX7_add_23 (by decide) sh_6 rfl ?_
  refine V_iload C dX7_add_26 rfl ?_
  refine V_iload_n C dX7_add_28 rfl ?_
  refine V_iastN (p0 := 9) (o := n) (X1 := (ma (ma (ma X 7 (upd (X 7) n k)) 8 (upd (X 8) n is)) 9 (upd (X 9) n wm))) C dX7_add_29 sh_9 (by decide) (by omega) (by decide) rfl ?_
  refine V_aload_n C dX7_add_30 rfl ?_
  refine V_getr C fl_X7_25 dX7_add_31 (by decide) sh_6 rfl ?_
  refine V_iload C dX7_add_34 rfl ?_
  refine V_iload C dX7_add_36 rfl ?_
  refine V_iastN (p0 := 10) (o := n) (X1 := (ma (ma (ma (ma X 7 (upd (X 7) n k)) 8 (upd (X 8) n is)) 9 (upd (X 9) n wm)) 10 (upd (X 10) n vl))) C dX7_add_38 sh_10 (by decide) (by omega) (by decide) rfl ?_
  refine V_aload_n C dX7_add_39 rfl ?_
  refine V_getr C fl_X7_28 dX7_add_40 (by decide) sh_6 rfl ?_
  refine V_iload C dX7_add_43 rfl ?_
  refine V_iload C dX7_add_45 rfl ?_
  refine V_iastN (p0 := 11) (o := n) (X1 := (ma (ma (ma (ma (ma X 7 (upd (X 7) n k)) 8 (upd (X 8) n is)) 9 (upd (X 9) n wm)) 10 (upd (X 10) n vl)) 11 (upd (X 11) n ln))) C dX7_add_47 sh_11 (by decide) (by omega) (by decide) rfl ?_
  refine V_aload_n C dX7_add_48 rfl ?_
  refine V_getr C fl_X7_31 dX7_add_49 (by decide) sh_6 rfl ?_
  refine V_iload C dX7_add_52 rfl ?_
  refine V_iload C dX7_add_54 rfl ?_
  refine V_iastN (p0 := 12) (o := n) (X1 := (ma (ma (ma (ma (ma (ma X 7 (upd (X 7) n k)) 8 (upd (X 8) n is)) 9 (upd (X 9) n wm)) 10 (upd (X 10) n vl)) 11 (upd (X 11) n ln)) 12 (upd (X 12) n ex))) C dX7_add_56 sh_12 (by decide) (by omega) (by decide) rfl ?_
  refine V_aload_n C dX7_add_57 rfl ?_
  refine V_getr C fl_X7_34 dX7_add_58 (by decide) sh_6 rfl ?_
  refine V_iload C dX7_add_61 rfl ?_
  refine V_iload C dX7_add_63 rfl ?_
  refine V_iastN (p0 := 13) (o := n) (X1 := (ma (ma (ma (ma (ma (ma (ma X 7 (upd (X 7) n k)) 8 (upd (X 8) n is)) 9 (upd (X 9) n wm)) 10 (upd (X 10) n vl)) 11 (upd (X 11) n ln)) 12 (upd (X 12) n ex)) 13 (upd (X 13) n dy))) C dX7_add_65 sh_13 (by decide) (by omega) (by decide) rfl ?_
  refine V_aload_n C dX7_add_66 rfl ?_
  refine V_dup C dX7_add_67 rfl ?_
  refine V_geti C fl_X7_9 dX7_add_68 (by decide) sh_6 rfl ?_
  refine V_eqi (y := X 6 0) rfl ?_
  refine V_eqi (y := nI n) hn ?_
  refine V_iconst (v := (1 : Int32)) C dX7_add_71 (by decide) ?_
  refine V_iaddN (a := n) (b := 1) C dX7_add_72 ?_
  refine V_put C fp_X7_9 dX7_add_73 (by decide) sh_6 rfl ?_
  refine V_eqX (X1 := (ma (ma (ma (ma (ma (ma (ma (ma X 7 (upd (X 7) n k)) 8 (upd (X 8) n is)) 9 (upd (X 9) n wm)) 10 (upd (X 10) n vl)) 11 (upd (X 11) n ln)) 12 (upd (X 12) n ex)) 13 (upd (X 13) n dy)) 6 (upd (X 6) 0 (nI (n + 1))))) rfl ?_
  refine V_iload C dX7_add_76 rfl ?_
  exact V_ireturnI C dX7_add_78 ⟨rfl, rfl⟩
def q_X9_putSignature (o : Nat) (X : Mem) (a : Nat) : Int32 → Mem → Prop := fun r X' => r = sigS (oC X) o (X 3 a) ∧ X' = ma X 14 (upd (X 14) o (sigS (oC X) o (X 3 a)))
set_option maxHeartbeats 4000000 in
set_option maxRecDepth 100000 in
theorem k_X9_putSignature (w : Wt) (l : Launch) (o : Nat) (X : Mem) (a : Nat) (ho : o < 50) (hi : X 8 o = nI a) (ha : a < 8) : CtI w l yX9_putSignature cX9_putSignature 3 (some .int) 3 65 [.ref (w.2.1 0), .int (nI o)] X (q_X9_putSignature o X a) := by
  refine CtI_of (by decide +kernel) (Nat.le_of_ble_eq_true rfl) (List.forall_mem_cons.mpr ⟨rfl, (List.forall_mem_cons.mpr ⟨rfl, (fun _ h => nomatch h)⟩)⟩) (ls := [some (.ref (w.2.1 0)), some (.int (nI o)), none]) rfl (args := (#[.ref (w.2.1 0), .int (nI o)] : Array Value)) rfl (own := RX9) rfl ?_
  intro p e s m below meth c C
  refine V_aload_n C dX9_putSignature_0 rfl ?_
  refine V_getr C fl_X9_19 dX9_putSignature_1 (by decide) sh_0 rfl ?_
  refine V_iload_n C dX9_putSignature_4 rfl ?_
  refine V_aload_n C dX9_putSignature_5 rfl ?_
  refine V_getr C fl_X9_10 dX9_putSignature_6 (by decide) sh_0 rfl ?_
  refine V_getr C fl_X9_99 dX9_putSignature_9 (by decide) sh_1 rfl ?_
  refine V_aload_n C dX9_putSignature_12 rfl ?_
  refine V_getr C fl_X9_19 dX9_putSignature_13 (by decide) sh_0 rfl ?_
  refine V_getr C fl_X9_289 dX9_putSignature_16 (by decide) sh_6 rfl ?_
  refine V_iload_n C dX9_putSignature_19 rfl ?_
  refine V_ialdN (p0 := 8) (o := o) (v := X 8 o) C dX9_putSignature_20 sh_8 (by decide) (by omega) (by decide) rfl ?_
  refine V_eqi (y := nI a) hi ?_
  refine V_ialdN (p0 := 3) (o := a) (v := X 3 a) C dX9_putSignature_21 sh_3 (by decide) (by omega) (by decide) rfl ?_
  refine V_callVI C [.int (nI o), .int (X 3 a)] mi_X9_292 (k_X7_signatureBy w l o (X 3 a) X ho) dX9_putSignature_22 sh_6 (by decide) rfl rfl rfl (Nat.le_of_ble_eq_true rfl) (Nat.le_of_ble_eq_true rfl) (Nat.le_of_ble_eq_true rfl) ⟨Nat.le_refl _, Nat.le_refl _⟩ (fun v1 X1 q1 => ?_)
  obtain ⟨ev1, eX1⟩ := q1; subst X1
  subst v1
  refine V_istore_n (ls1 := [some (.ref (w.2.1 0)), some (.int (nI o)), some (.int (sigS (oC X) o (X 3 a)))]) C dX9_putSignature_25 (by decide) rfl ?_
  refine V_aload_n C dX9_putSignature_26 rfl ?_
  refine V_getr C fl_X9_19 dX9_putSignature_27 (by decide) sh_0 rfl ?_
  refine V_getr C fl_X9_295 dX9_putSignature_30 (by decide) sh_6 rfl ?_
  refine V_iload_n C dX9_putSignature_33 rfl ?_
  refine V_iload_n C dX9_putSignature_34 rfl ?_
  refine V_iastN (p0 := 14) (o := o) (X1 := (ma X 14 (upd (X 14) o (sigS (oC X) o (X 3 a))))) C dX9_putSignature_35 sh_14 (by decide) (by omega) (by decide) rfl ?_
  refine V_iload_n C dX9_putSignature_36 rfl ?_
  exact V_ireturnI C dX9_putSignature_37 ⟨rfl, rfl⟩
def q_X9_keep (o : Nat) (X : Mem) (a : Nat) : Int32 → Mem → Prop := fun r X' => r = nI o ∧ X' = ma X 14 (upd (X 14) o (sigS (oC X) o (X 3 a)))
set_option maxHeartbeats 4000000 in
set_option maxRecDepth 100000 in
theorem k_X9_keep (w : Wt) (l : Launch) (o : Nat) (X : Mem) (a : Nat) (ho : o < 50) (hi : X 8 o = nI a) (ha : a < 8) : CtI w l yX9_keep cX9_keep 2 (some .int) 4 87 [.ref (w.2.1 0), .int (nI o)] X (q_X9_keep o X a) := by
  refine CtI_of (by decide +kernel) (Nat.le_of_ble_eq_true rfl) (List.forall_mem_cons.mpr ⟨rfl, (List.forall_mem_cons.mpr ⟨rfl, (fun _ h => nomatch h)⟩)⟩) (ls := [some (.ref (w.2.1 0)), some (.int (nI o))]) rfl (args := (#[.ref (w.2.1 0), .int (nI o)] : Array Value)) rfl (own := RX9) rfl ?_
  intro p e s m below meth c C
  refine V_aload_n C dX9_keep_0 rfl ?_
  refine V_iload_n C dX9_keep_1 rfl ?_
  refine V_callVI C [.int (nI o)] mi_X9_147 (k_X9_putSignature w l o X a ho hi ha) dX9_keep_2 sh_0 (by decide) rfl rfl rfl (Nat.le_of_ble_eq_true rfl) (Nat.le_of_ble_eq_true rfl) (Nat.le_of_ble_eq_true rfl) ⟨Nat.le_refl _, Nat.le_refl _⟩ (fun v1 X1 q1 => ?_)
  obtain ⟨ev1, eX1⟩ := q1; subst X1; subst v1
  refine V_pop C dX9_keep_5 rfl ?_
  refine V_iload_n C dX9_keep_6 rfl ?_
  exact V_ireturnI C dX9_keep_7 ⟨rfl, rfl⟩
