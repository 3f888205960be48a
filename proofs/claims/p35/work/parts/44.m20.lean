def q_X7_listRevokedOf (v : Int32) (X : Mem) (n : Nat) : Int32 → Mem → Prop := fun r X' => r = nI (sumN (fun x => oneIf (X 8 x = v ∧ ¬ X 15 x = 0)) n) ∧ X' = ma X 16 (LsR (X 8) (X 15) (X 16) v n)
set_option maxHeartbeats 4000000 in
set_option maxRecDepth 100000 in
theorem k_X7_listRevokedOf (w : Wt) (l : Launch) (v : Int32) (X : Mem) (n : Nat) (hn : X 6 0 = nI n) (n50 : n ≤ 50) : CtI w l yX7_listRevokedOf cX7_listRevokedOf 4 (some .int) 1 20 [.ref (w.2.1 6), .int v] X (q_X7_listRevokedOf v X n) := by
  refine CtI_of (by decide +kernel) (Nat.le_of_ble_eq_true rfl) (List.forall_mem_cons.mpr ⟨rfl, (List.forall_mem_cons.mpr ⟨rfl, (fun _ h => nomatch h)⟩)⟩) (ls := [some (.ref (w.2.1 6)), some (.int v), none, none]) rfl (args := (#[.ref (w.2.1 6), .int v] : Array Value)) rfl (own := RX7) rfl ?_
  intro p e s m below meth c C
  refine V_iconst (v := (0 : Int32)) C dX7_listRevokedOf_0 (by decide) ?_
  refine V_istore_n (ls1 := [some (.ref (w.2.1 6)), some (.int v), some (.int (0 : Int32)), none]) C dX7_listRevokedOf_1 (by decide) rfl ?_
  refine V_iconst (v := (0 : Int32)) C dX7_listRevokedOf_2 (by decide) ?_
  refine V_istore_n (ls1 := [some (.ref (w.2.1 6)), some (.int v), some (.int (0 : Int32)), some (.int (0 : Int32))]) C dX7_listRevokedOf_3 (by decide) rfl ?_
  have L4 : ∀ (fu : Nat) (mm : Nat) (o : Nat) (L : Nat → Int32), n - o < fu → (o ≤ n) → (mm = sumN (fun x => oneIf (X 8 x = v ∧ ¬ X 15 x = 0)) o) → (L = LsR (X 8) (X 15) (X 16) v o) → V p l e ({ frames := 1, cells := 0, slots := 0, locals := 20 } : Room) s m (#[.ref (w.2.1 6), .int v] : Array Value) below meth c w 4 0 0 (EI w below s (#[.ref (w.2.1 6), .int v] : Array Value) 0 0 (q_X7_listRevokedOf v X n)) 4 [some (.ref (w.2.1 6)), some (.int v), some (.int (nI mm)), some (.int (nI o))] [] (ma X 16 L) := by
    intro fu
    induction fu with
    | zero => intro mm o L hm; exact absurd hm (Nat.not_lt_zero _)
    | succ fu ih4 =>
      intro mm o L hm4 ho hm hL
      refine V_iload_n C dX7_listRevokedOf_4 rfl ?_
      refine V_aload_n C dX7_listRevokedOf_5 rfl ?_
      refine V_geti C fl_X7_9 dX7_listRevokedOf_6 (by decide) sh_6 rfl ?_
      refine V_eqi (y := X 6 0) rfl ?_
      refine V_eqi (y := nI n) hn ?_
      refine V_icmp_geN (a := o) (b := n) (tgt := 47) C dX7_listRevokedOf_9 (by decide) (by omega) (by omega) (fun h9_1 => ?_) (fun h9_1 => ?_)
      · refine V_iload_n C dX7_listRevokedOf_47 rfl ?_
        exact V_ireturnI C dX7_listRevokedOf_48 ⟨by rw [hm, show o = n by omega], by rw [hL, show o = n by omega]⟩
      · refine V_aload_n C dX7_listRevokedOf_12 rfl ?_
        refine V_getr C fl_X7_19 dX7_listRevokedOf_13 (by decide) sh_6 rfl ?_
        refine V_iload_n C dX7_listRevokedOf_16 rfl ?_
        refine V_ialdN (p0 := 8) (o := o) (v := X 8 o) C dX7_listRevokedOf_17 sh_8 (by decide) (by omega) (by decide) rfl ?_
        refine V_iload_n C dX7_listRevokedOf_18 rfl ?_
        refine V_icmp_ne (x := X 8 o) (y := v) (tgt := 41) C dX7_listRevokedOf_19 (by decide) (fun h19_2 => ?_) (fun h19_2 => ?_)
        · refine V_iincN (a := o) (ls1 := [some (.ref (w.2.1 6)), some (.int v), some (.int (nI mm)), some (.int (nI (o + 1)))]) C dX7_listRevokedOf_41 rfl (by decide) rfl ?_
          refine V_goto (tgt := 4) C dX7_listRevokedOf_44 (by decide) ?_
          exact ih4 mm (o + 1) L (by omega) (by omega) (by rw [hm]; exact (sum_n (by first | exact fun q => absurd q.1 (by assumption) | exact fun q => absurd (by assumption) q.2)).symm) (by rw [hL]; exact (LsR_s0 (by first | exact fun q => absurd q.1 (by assumption) | exact fun q => absurd (by assumption) q.2)).symm)
        · refine V_aload_n C dX7_listRevokedOf_22 rfl ?_
          refine V_getr C fl_X7_40 dX7_listRevokedOf_23 (by decide) sh_6 rfl ?_
          refine V_iload_n C dX7_listRevokedOf_26 rfl ?_
          refine V_baldN (p0 := 15) (o := o) (v := X 15 o) C dX7_listRevokedOf_27 sh_15 (by decide) (by omega) (by decide) rfl ?_
          refine V_if_eq (x := X 15 o) (tgt := 41) C dX7_listRevokedOf_28 (by decide) (fun h28_3 => ?_) (fun h28_3 => ?_)
          · refine V_iincN (a := o) (ls1 := [some (.ref (w.2.1 6)), some (.int v), some (.int (nI mm)), some (.int (nI (o + 1)))]) C dX7_listRevokedOf_41 rfl (by decide) rfl ?_
            refine V_goto (tgt := 4) C dX7_listRevokedOf_44 (by decide) ?_
            exact ih4 mm (o + 1) L (by omega) (by omega) (by rw [hm]; exact (sum_n (by first | exact fun q => absurd q.1 (by assumption) | exact fun q => absurd (by assumption) q.2)).symm) (by rw [hL]; exact (LsR_s0 (by first | exact fun q => absurd q.1 (by assumption) | exact fun q => absurd (by assumption) q.2)).symm)
          · refine V_aload_n C dX7_listRevokedOf_31 rfl ?_
            refine V_getr C fl_X7_44 dX7_listRevokedOf_32 (by decide) sh_6 rfl ?_
            refine V_iload_n C dX7_listRevokedOf_35 rfl ?_
            refine V_iconst (v := (1 : Int32)) C dX7_listRevokedOf_36 (by decide) ?_
            refine V_bastN (p0 := 16) (o := o) (X1 := (ma X 16 (upd (L) o (1 : Int32)))) C dX7_listRevokedOf_37 sh_16 (by decide) (by omega) (by decide) (Or.inr rfl) (ma_ma _ _ _ _) ?_
            refine V_iincN (a := mm) (ls1 := [some (.ref (w.2.1 6)), some (.int v), some (.int (nI (mm + 1))), some (.int (nI o))]) C dX7_listRevokedOf_38 rfl (by decide) rfl ?_
            refine V_iincN (a := o) (ls1 := [some (.ref (w.2.1 6)), some (.int v), some (.int (nI (mm + 1))), some (.int (nI (o + 1)))]) C dX7_listRevokedOf_41 rfl (by decide) rfl ?_
            refine V_goto (tgt := 4) C dX7_listRevokedOf_44 (by decide) ?_
            exact ih4 (mm + 1) (o + 1) (upd (L) o (1 : Int32)) (by omega) (by omega) (by rw [hm]; exact (sum_y ⟨by assumption, by assumption⟩).symm) (by rw [hL]; exact LsR_s1 (by assumption) (by assumption))
  refine V_eqX (X1 := (ma X 16 (X 16))) (ma_id rfl) ?_
  exact L4 _ 0 0 (X 16) (Nat.lt_succ_self _) (by omega) rfl LsR_0
def q_X9_publish (v : Int32) (dy : Int32) (X : Mem) (h n : Nat) : Int32 → Mem → Prop := fun r X' => (Btw v 0 (nI (h - 1)) ∧ Btw dy 0 100) ∧ r = nI (sumN (fun x => oneIf (X 8 x = v ∧ ¬ X 15 x = 0)) n) ∧ ∃ a, a < h ∧ v = nI a ∧ X' = ma (ma X 4 (upd (X 4) a (X 1 0 + dy))) 16 (LsR (X 8) (X 15) (X 16) v n)
def r_X9_publish (v : Int32) (dy : Int32) (X : Mem) (h n : Nat) : String → Mem → Prop := fun E X' => X' = X ∧ Flt2 eIO eIA (Btw v 0 (nI (h - 1))) (Btw dy 0 100) E
set_option maxHeartbeats 4000000 in
set_option maxRecDepth 100000 in
theorem k_X9_publish (w : Wt) (l : Launch) (v : Int32) (dy : Int32) (X : Mem) (h n : Nat) (hh : X 1 1 = nI h) (h1 : 1 ≤ h) (h8 : h ≤ 8) (hn : X 6 0 = nI n) (n50 : n ≤ 50) : CtXI w l yX9_publish cX9_publish 3 (some .int) 7 104 2 [.ref (w.2.1 0), .int v, .int dy] X (q_X9_publish v dy X h n) (r_X9_publish v dy X h n) := by
  refine CtXI_of (by decide +kernel) (Nat.le_of_ble_eq_true rfl) (List.forall_mem_cons.mpr ⟨rfl, (List.forall_mem_cons.mpr ⟨rfl, (List.forall_mem_cons.mpr ⟨rfl, (fun _ h => nomatch h)⟩)⟩)⟩) (ls := [some (.ref (w.2.1 0)), some (.int v), some (.int dy)]) rfl (args := (#[.ref (w.2.1 0), .int v, .int dy] : Array Value)) rfl (own := RX9) rfl ?_
  intro p e s m below meth c C ht hD
  refine V_aload_n C dX9_publish_0 rfl ?_
  refine V_iload_n C dX9_publish_1 rfl ?_
  refine V_xcallVUI C ht hD [.int v] mi_X9_73 pl_X9_73 (k_X9_needHolder w l v X h hh h1 h8) dX9_publish_2 sh_0 (by decide) rfl rfl rfl (Nat.le_of_ble_eq_true rfl) (Nat.le_of_ble_eq_true rfl) (Nat.le_of_ble_eq_true rfl) ⟨by decide, by decide⟩ ⟨by decide, by decide⟩ (fun E X1 h => ⟨h.1, Or.inl ⟨h.2.1, h.2.2⟩⟩) (fun X1 q1 => ?_)
  obtain ⟨hg1, eX1⟩ := q1; subst X1
  refine V_iload_n C dX9_publish_5 rfl ?_
  refine V_iconst (v := (0 : Int32)) C dX9_publish_6 (by decide) ?_
  refine V_bipush (v := (100 : Int32)) C dX9_publish_7 (by decide) ?_
  refine V_xcallSUI C ht hD [.int dy, .int (0 : Int32), .int (100 : Int32)] ms_X9_104 pl_X9_104 (k_X9_needRange w l dy (0 : Int32) (100 : Int32) X ) dX9_publish_9 rfl rfl (Nat.le_of_ble_eq_true rfl) (Nat.le_of_ble_eq_true rfl) (Nat.le_of_ble_eq_true rfl) ⟨by decide, by decide⟩ ⟨by decide, by decide⟩ (fun E X1 h => ⟨h.1, Or.inr ⟨h.2.1, hg1, h.2.2⟩⟩) (fun X2 q2 => ?_)
  obtain ⟨hg2, eX2⟩ := q2; subst X2
  obtain ⟨a, ha, ea⟩ := Btw_hd h1 (by omega) hg1
  subst v
  refine V_aload_n C dX9_publish_12 rfl ?_
  refine V_getr C fl_X9_10 dX9_publish_13 (by decide) sh_0 rfl ?_
  refine V_getr C fl_X9_108 dX9_publish_16 (by decide) sh_1 rfl ?_
  refine V_iload_n C dX9_publish_19 rfl ?_
  refine V_aload_n C dX9_publish_20 rfl ?_
  refine V_getr C fl_X9_10 dX9_publish_21 (by decide) sh_0 rfl ?_
  refine V_geti C fl_X9_111 dX9_publish_24 (by decide) sh_1 rfl ?_
  refine V_iload_n C dX9_publish_27 rfl ?_
  refine V_iadd C dX9_publish_28 ?_
  refine V_iastN (p0 := 4) (o := a) (X1 := (ma X 4 (upd (X 4) a ((X 1 0) + dy)))) C dX9_publish_29 sh_4 (by decide) (by omega) (by decide) rfl ?_
  refine V_aload_n C dX9_publish_30 rfl ?_
  refine V_getr C fl_X9_19 dX9_publish_31 (by decide) sh_0 rfl ?_
  refine V_iload_n C dX9_publish_34 rfl ?_
  refine V_callVI C [.int (nI a)] mi_X9_114 (k_X7_listRevokedOf w l (nI a) (ma X 4 (upd (X 4) a ((X 1 0) + dy))) n hn n50) dX9_publish_35 sh_6 (by decide) rfl rfl rfl (Nat.le_of_ble_eq_true rfl) (Nat.le_of_ble_eq_true rfl) (Nat.le_of_ble_eq_true rfl) ⟨by decide, by decide⟩ (fun v3 X3 q3 => ?_)
  obtain ⟨ev3, eX3⟩ := q3; subst X3; subst v3
  exact V_ireturnX C dX9_publish_38 (by decide) (by decide) ⟨⟨hg1, hg2⟩, rfl, a, by omega, rfl, rfl⟩
