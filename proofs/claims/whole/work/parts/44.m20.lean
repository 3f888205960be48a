def q_X7_listRevokedOf (v : Int32) (X : Mem) (n : Nat) : Int32 → Mem → Prop := fun r X' => r = nI (sumN (fun x => oneIf (X 8 x = v ∧ ¬ X 15 x = 0)) n) ∧ X' = ma X 16 (LsR (X 8) (X 15) (X 16) v n)
set_option maxHeartbeats 4000000 in
set_option maxRecDepth 100000 in
theorem k_X7_listRevokedOf (w : Wt) (l : Launch) (v : Int32) (X : Mem) (n : Nat) (hn : X 6 0 = nI n) (n50 : n ≤ 50) : CtI w l yX7_listRevokedOf cX7_listRevokedOf 4 (some .int) 1 20 [.ref (w.2.1 6), .int v] X (q_X7_listRevokedOf v X n) := by
  refine CtI_of (by decide +kernel) (Nat.le_of_ble_eq_true rfl) (List.forall_mem_cons.mpr ⟨rfl, (List.forall_mem_cons.mpr ⟨rfl, (fun _ h => nomatch h)⟩)⟩) (ls := [some (.ref (w.2.1 6)), some (.int v), none, none]) rfl (args := (#[.ref (w.2.1 6), .int v] : Array Value)) rfl (own := RX7) rfl ?_
  intro p e s m below meth c C
  refine V_iconst (v := (0 : Int32)) C dX7_listRevokedOf_0 (by decide) ?_
  refine V_istore_n (ls1 := [some (.ref (w.2.1 6)), some (.int v), some (.int (0 : Int32)), none]) C dX7_listRevokedOf_1 (by decide) rfl ?_
  refine V_iconst (v := (0 : Int32)) C dX7_listRevokedOf_2 (by decide) ?_
  refine V_istore_n (ls1 := [some (.ref (w.2.1 6)), some (.int v), some (.int (0 : Int32)), some (.int (0 : Int32))]) C dX7_listRevokedOf_3 (by decide) rfl ?_
  have L4 : ∀ (fu : Nat) (mm : Nat) (o : Nat) (L : Nat → Int32), n - o < fu → (o ≤ n) → (mm = sumN (fun x => oneIf (X 8 x = v ∧ ¬ X 15 x = 0)) o) → (L = LsR (X 8) (X 15) (X 16) v o) → V p l e ({ frames := 1, cells := 0, slots := 0, locals := 20 } : Room) s m (#[.ref (w.2.1 6), .int v] : Array Value) below meth c w 4 0 0 (EI w below s (#[.ref (w.2.1 6), .int v] : Array Value) 0 0 (q_X7_listRevokedOf v X n)) 4 [some (.ref (w.2.1 6)), some (.int v), some (.int (nI mm)), some (.int (nI o))] [] (ma X 16 L) := by
    intro fu
    induction fu with
    | zero => intro mm o L hm; exact absurd hm (Nat.not_lt_zero _)
    | succ fu ih4 =>
      intro mm o L hm4 ho hm hL
      refine V_iload_n C dX7_listRevokedOf_4 rfl ?_
      refine V_aload_n C dX7_listRevokedOf_5 rfl ?_
      refine V_geti C fl_X7_9 dX7_listRevokedOf_6 (by decide) sh_6 rfl ?_
      refine V_eqi (y := X 6 0) rfl ?_
      refine V_eqi (y := nI n) hn ?_
      refine V_icmp_geN (a := o) (b := n) (tgt := 47) C dX7_listRevokedOf_9 (by decide) (by omega) (by omega) (fun h9_1 => ?_) (fun h9_1 => ?_)
      · refine V_iload_n C dX7_listRevokedOf_47 rfl ?_
        exact V_ireturnI C dX7_listRevokedOf_48 ⟨by rw [hm, show o = n by omega], by rw [hL, show o = n by omega]⟩
      · refine V_aload_n C dX7_listRevokedOf_12 rfl ?_
        refine V_getr C fl_X7_19 dX7_listRevokedOf_13 (by decide) sh_6 rfl ?_
        refine V_iload_n C dX7_listRevokedOf_16 rfl ?_
        refine V_ialdN (p0 := 8) (o := o) (v := X 8 o) C dX7_listRevokedOf_17 sh_8 (by decide) (by omega) (by decide) rfl ?_
        refine V_iload_n C dX7_listRevokedOf_18 rfl ?_
        refine V_icmp_ne (x := X 8 o) (y := v) (tgt := 41) C dX7_listRevokedOf_19 (by decide) (fun h19_2 => ?_) (fun h19_2 => ?_)
        · refine V_iincN (a := o) (ls1 := [some (.ref (w.2.1 6)), some (.int v), some (.int (nI mm)), some (.int (nI (o + 1)))]) C dX7_listRevokedOf_41 rfl (by decide) rfl ?_
          refine V_goto (tgt := 4) C dX7_listRevokedOf_44 (by decide) ?_
          exact ih4 mm (o + 1) L (by omega) (by omega) (by rw [hm]; exact (sum_n (by first | exact fun q => absurd q.1 (by assumption) | exact fun q => absurd (by assumption) q.2)).symm) (by rw [hL]; exact (LsR_s0 (by first | exact fun q => absurd q.1 (by assumption) | exact fun q => absurd (by assumption) q.2)).symm)
        · refine V_aload_n C dX7_listRevokedOf_22 rfl ?_
          refine V_getr C fl_X7_40 dX7_listRevokedOf_23 (by decide) sh_6 rfl ?_
          refine V_iload_n C dX7_listRevokedOf_26 rfl ?_
          refine V_baldN (p0 := 15) (o := o) (v := X 15 o) C dX7_listRevokedOf_27 sh_15 (by decide) (by omega) (by decide) rfl ?_
          refine V_if_eq (x := X 15 o) (tgt := 41) C dX7_listRevokedOf_28 (by decide) (fun h28_3 => ?_) (fun h28_3 => ?_)
          · refine V_iincN (a := o) (ls1 := [some (.ref (w.2.1 6)), some (.int v), some (.int (nI mm)), some (.int (nI (o + 1)))]) C dX7_listRevokedOf_41 rfl (by decide) rfl ?_
            refine V_goto (tgt := 4) C dX7_listRevokedOf_44 (by decide) ?_
            exact ih4 mm (o + 1) L (by omega) (by omega) (by rw [hm]; exact (sum_n (by first | exact fun q => absurd q.1 (by assumption) | exact fun q => absurd (by assumption) q.2)).symm) (by rw [hL]; exact (LsR_s0 (by first | exact fun q => absurd q.1 (by assumption) | exact fun q => absurd (by assumption) q.2)).symm)
          · refine V_aload_n C dX7_listRevokedOf_31 rfl ?_
            refine V_getr C fl_X7_44 dX7_listRevokedOf_32 (by decide) sh_6 rfl ?_
            refine V_iload_n C dX7_listRevokedOf_35 rfl ?_
            refine V_iconst (v := (1 : Int32)) C dX7_listRevokedOf_36 (by decide) ?_
            refine V_bastN (p0 := 16) (o := o) (X1 := (ma X 16 (upd (L) o (1 : Int32)))) C dX7_listRevokedOf_37 sh_16 (by decide) (by omega) (by decide) (Or.inr rfl) (ma_ma _ _ _ _) ?_
            refine V_iincN (a := mm) (ls1 := [some (.ref (w.2.1 6)), some (.int v), some (.int (nI (mm + 1))), some (.int (nI o))]) C dX7_listRevokedOf_38 rfl (by decide) rfl ?_
            refine V_iincN (a := o) (ls1 := [some (.ref (w.2.1 6)), some (.int v), some (.int (nI (mm + 1))), some (.int (nI (o + 1)))]) C dX7_listRevokedOf_41 rfl (by decide) rfl ?_
            refine V_goto (tgt := 4) C dX7_listRevokedOf_44 (by decide) ?_
            exact ih4 (mm + 1) (o + 1) (upd (L) o (1 : Int32)) (by omega) (by omega) (by rw [hm]; exact (sum_y ⟨by assumption, by assumption⟩).symm) (by rw [hL]; exact LsR_s1 (by assumption) (by assumption))
  refine V_eqX (X1 := (ma X 16 (X 16))) (ma_id rfl) ?_
  exact L4 _ 0 0 (X 16) (Nat.lt_succ_self _) (by omega) rfl LsR_0
