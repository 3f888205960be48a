def q_X10_signs (o : Nat) (X : Mem) (h n : Nat) : Int32 → Mem → Prop := fun r X' => r = sigS (oM X) o (kyy (gM X) (ix (isr (oM X) o))) ∧ X' = X
set_option maxHeartbeats 4000000 in
set_option maxRecDepth 100000 in
theorem k_X10_signs (w : Wt) (l : Launch) (o : Nat) (X : Mem) (h n : Nat) (hO : OInv (oM X) h n) (hG : GInv (gM X) h) (hn : X 85 17 = nI n) (ho : o < n) : CtI w l yX10_signs cX10_signs 3 (some .int) 2 41 [.ref (w.2.1 85), .int (nI o)] X (q_X10_signs o X h n) := by
  have n50 := hO.1
  have h8 := hG.2.1
  refine CtI_of (by decide +kernel) (Nat.le_of_ble_eq_true rfl) (List.forall_mem_cons.mpr ⟨rfl, (List.forall_mem_cons.mpr ⟨rfl, (fun _ h => nomatch h)⟩)⟩) (ls := [some (.ref (w.2.1 85)), some (.int (nI o)), none]) rfl (args := (#[.ref (w.2.1 85), .int (nI o)] : Array Value)) rfl (own := RX10) rfl ?_
  intro p e s m below meth c C
  refine V_iconst (v := (0 : Int32)) C dX10_signs_0 (by decide) ?_
  refine V_aload_n C dX10_signs_1 rfl ?_
  refine V_getr C fl_X10_26 dX10_signs_2 (by decide) sh_85 rfl ?_
  refine V_iload_n C dX10_signs_5 rfl ?_
  refine V_ialdN (p0 := 90) (o := o) (v := X 90 o) C dX10_signs_6 sh_90 (by decide) (by omega) (by decide) rfl ?_
  refine V_callSI C [.int (0 : Int32), .int (X 90 o)] ms_X10_129 (k_X10_mixes w l (0 : Int32) (X 90 o) X ) dX10_signs_7 rfl rfl (Nat.le_of_ble_eq_true rfl) (Nat.le_of_ble_eq_true rfl) (Nat.le_of_ble_eq_true rfl) ⟨Nat.le_refl _, Nat.le_refl _⟩ (fun v1 X1 q1 => ?_)
  obtain ⟨ev1, eX1⟩ := q1; subst X1
  subst v1
  refine V_aload_n C dX10_signs_10 rfl ?_
  refine V_getr C fl_X10_29 dX10_signs_11 (by decide) sh_85 rfl ?_
  refine V_iload_n C dX10_signs_14 rfl ?_
  refine V_ialdN (p0 := 91) (o := o) (v := X 91 o) C dX10_signs_15 sh_91 (by decide) (by omega) (by decide) rfl ?_
  refine V_callSI C [.int (mixS (0 : Int32) (X 90 o)), .int (X 91 o)] ms_X10_129 (k_X10_mixes w l (mixS (0 : Int32) (X 90 o)) (X 91 o) X ) dX10_signs_16 rfl rfl (Nat.le_of_ble_eq_true rfl) (Nat.le_of_ble_eq_true rfl) (Nat.le_of_ble_eq_true rfl) ⟨Nat.le_refl _, Nat.le_refl _⟩ (fun v2 X2 q2 => ?_)
  obtain ⟨ev2, eX2⟩ := q2; subst X2
  subst v2
  refine V_aload_n C dX10_signs_19 rfl ?_
  refine V_getr C fl_X10_32 dX10_signs_20 (by decide) sh_85 rfl ?_
  refine V_iload_n C dX10_signs_23 rfl ?_
  refine V_ialdN (p0 := 92) (o := o) (v := X 92 o) C dX10_signs_24 sh_92 (by decide) (by omega) (by decide) rfl ?_
  refine V_callSI C [.int (mixS (mixS (0 : Int32) (X 90 o)) (X 91 o)), .int (X 92 o)] ms_X10_129 (k_X10_mixes w l (mixS (mixS (0 : Int32) (X 90 o)) (X 91 o)) (X 92 o) X ) dX10_signs_25 rfl rfl (Nat.le_of_ble_eq_true rfl) (Nat.le_of_ble_eq_true rfl) (Nat.le_of_ble_eq_true rfl) ⟨Nat.le_refl _, Nat.le_refl _⟩ (fun v3 X3 q3 => ?_)
  obtain ⟨ev3, eX3⟩ := q3; subst X3
  subst v3
  refine V_istore_n (ls1 := [some (.ref (w.2.1 85)), some (.int (nI o)), some (.int (mixS (mixS (mixS (0 : Int32) (X 90 o)) (X 91 o)) (X 92 o)))]) C dX10_signs_28 (by decide) rfl ?_
  refine V_iload_n C dX10_signs_29 rfl ?_
  refine V_aload_n C dX10_signs_30 rfl ?_
  refine V_getr C fl_X10_35 dX10_signs_31 (by decide) sh_85 rfl ?_
  refine V_iload_n C dX10_signs_34 rfl ?_
  refine V_ialdN (p0 := 93) (o := o) (v := X 93 o) C dX10_signs_35 sh_93 (by decide) (by omega) (by decide) rfl ?_
  refine V_callSI C [.int (mixS (mixS (mixS (0 : Int32) (X 90 o)) (X 91 o)) (X 92 o)), .int (X 93 o)] ms_X10_129 (k_X10_mixes w l (mixS (mixS (mixS (0 : Int32) (X 90 o)) (X 91 o)) (X 92 o)) (X 93 o) X ) dX10_signs_36 rfl rfl (Nat.le_of_ble_eq_true rfl) (Nat.le_of_ble_eq_true rfl) (Nat.le_of_ble_eq_true rfl) ⟨Nat.le_refl _, Nat.le_refl _⟩ (fun v4 X4 q4 => ?_)
  obtain ⟨ev4, eX4⟩ := q4; subst X4
  subst v4
  refine V_aload_n C dX10_signs_39 rfl ?_
  refine V_getr C fl_X10_38 dX10_signs_40 (by decide) sh_85 rfl ?_
  refine V_iload_n C dX10_signs_43 rfl ?_
  refine V_ialdN (p0 := 94) (o := o) (v := X 94 o) C dX10_signs_44 sh_94 (by decide) (by omega) (by decide) rfl ?_
  refine V_callSI C [.int (mixS (mixS (mixS (mixS (0 : Int32) (X 90 o)) (X 91 o)) (X 92 o)) (X 93 o)), .int (X 94 o)] ms_X10_129 (k_X10_mixes w l (mixS (mixS (mixS (mixS (0 : Int32) (X 90 o)) (X 91 o)) (X 92 o)) (X 93 o)) (X 94 o) X ) dX10_signs_45 rfl rfl (Nat.le_of_ble_eq_true rfl) (Nat.le_of_ble_eq_true rfl) (Nat.le_of_ble_eq_true rfl) ⟨Nat.le_refl _, Nat.le_refl _⟩ (fun v5 X5 q5 => ?_)
  obtain ⟨ev5, eX5⟩ := q5; subst X5
  subst v5
  refine V_aload_n C dX10_signs_48 rfl ?_
  refine V_getr C fl_X10_41 dX10_signs_49 (by decide) sh_85 rfl ?_
  refine V_iload_n C dX10_signs_52 rfl ?_
  refine V_ialdN (p0 := 95) (o := o) (v := X 95 o) C dX10_signs_53 sh_95 (by decide) (by omega) (by decide) rfl ?_
  refine V_callSI C [.int (mixS (mixS (mixS (mixS (mixS (0 : Int32) (X 90 o)) (X 91 o)) (X 92 o)) (X 93 o)) (X 94 o)), .int (X 95 o)] ms_X10_129 (k_X10_mixes w l (mixS (mixS (mixS (mixS (mixS (0 : Int32) (X 90 o)) (X 91 o)) (X 92 o)) (X 93 o)) (X 94 o)) (X 95 o) X ) dX10_signs_54 rfl rfl (Nat.le_of_ble_eq_true rfl) (Nat.le_of_ble_eq_true rfl) (Nat.le_of_ble_eq_true rfl) ⟨Nat.le_refl _, Nat.le_refl _⟩ (fun v6 X6 q6 => ?_)
  obtain ⟨ev6, eX6⟩ := q6; subst X6
  subst v6
  refine V_aload_n C dX10_signs_57 rfl ?_
  refine V_getr C fl_X10_44 dX10_signs_58 (by decide) sh_85 rfl ?_
  refine V_iload_n C dX10_signs_61 rfl ?_
  refine V_ialdN (p0 := 96) (o := o) (v := X 96 o) C dX10_signs_62 sh_96 (by decide) (by omega) (by decide) rfl ?_
  refine V_callSI C [.int (mixS (mixS (mixS (mixS (mixS (mixS (0 : Int32) (X 90 o)) (X 91 o)) (X 92 o)) (X 93 o)) (X 94 o)) (X 95 o)), .int (X 96 o)] ms_X10_129 (k_X10_mixes w l (mixS (mixS (mixS (mixS (mixS (mixS (0 : Int32) (X 90 o)) (X 91 o)) (X 92 o)) (X 93 o)) (X 94 o)) (X 95 o)) (X 96 o) X ) dX10_signs_63 rfl rfl (Nat.le_of_ble_eq_true rfl) (Nat.le_of_ble_eq_true rfl) (Nat.le_of_ble_eq_true rfl) ⟨Nat.le_refl _, Nat.le_refl _⟩ (fun v7 X7 q7 => ?_)
  obtain ⟨ev7, eX7⟩ := q7; subst X7
  subst v7
  refine V_istore_n (ls1 := [some (.ref (w.2.1 85)), some (.int (nI o)), some (.int (mixS (mixS (mixS (mixS (mixS (mixS (mixS (0 : Int32) (X 90 o)) (X 91 o)) (X 92 o)) (X 93 o)) (X 94 o)) (X 95 o)) (X 96 o)))]) C dX10_signs_66 (by decide) rfl ?_
  refine V_bipush (v := (31 : Int32)) C dX10_signs_67 (by decide) ?_
  refine V_iload_n C dX10_signs_69 rfl ?_
  refine V_imul C dX10_signs_70 ?_
  refine V_sipush (v := (7919 : Int32)) C dX10_signs_71 (by decide) ?_
  refine V_bipush (v := (101 : Int32)) C dX10_signs_74 (by decide) ?_
  refine V_aload_n C dX10_signs_76 rfl ?_
  refine V_getr C fl_X10_29 dX10_signs_77 (by decide) sh_85 rfl ?_
  refine V_iload_n C dX10_signs_80 rfl ?_
  refine V_ialdN (p0 := 91) (o := o) (v := X 91 o) C dX10_signs_81 sh_91 (by decide) (by omega) (by decide) rfl ?_
  refine V_imul C dX10_signs_82 ?_
  refine V_bipush (v := (17 : Int32)) C dX10_signs_83 (by decide) ?_
  refine V_aload_n C dX10_signs_85 rfl ?_
  refine V_getr C fl_X10_13 dX10_signs_86 (by decide) sh_85 rfl ?_
  refine V_aload_n C dX10_signs_89 rfl ?_
  refine V_getr C fl_X10_29 dX10_signs_90 (by decide) sh_85 rfl ?_
  refine V_iload_n C dX10_signs_93 rfl ?_
  refine V_ialdN (p0 := 91) (o := o) (v := X 91 o) C dX10_signs_94 sh_91 (by decide) (by omega) (by decide) rfl ?_
  obtain ⟨a8, ha8, ea8⟩ := (hO.2 o ho).1
  have ia8 : ix (nI a8) = a8 := ix_nI (by omega)
  refine V_eqi ea8 ?_
  refine V_ialdN (p0 := 87) (o := a8) (v := X 87 a8) C dX10_signs_95 sh_87 (by decide) (by omega) (by decide) rfl ?_
  refine V_imul C dX10_signs_96 ?_
  refine V_iadd C dX10_signs_97 ?_
  refine V_imul C dX10_signs_98 ?_
  refine V_iadd C dX10_signs_99 ?_
  refine V_ldc C kc_X10_128 dX10_signs_100 ?_
  refine V_irem C dX10_signs_102 (by decide) ?_
  exact V_ireturnI C dX10_signs_103 ⟨by rw [ea8, ia8]; rfl, rfl⟩
def q_X10_simply (o : Nat) (X : Mem) (h n : Nat) : Int32 → Mem → Prop := fun r X' => r = faultS (oM X) (gM X) (X 85 1) o ∧ X' = X
set_option maxHeartbeats 4000000 in
set_option maxRecDepth 100000 in
theorem k_X10_simply (w : Wt) (l : Launch) (o : Nat) (X : Mem) (h n : Nat) (hO : OInv (oM X) h n) (hG : GInv (gM X) h) (hn : X 85 17 = nI n) (ho : o < n) : CtI w l yX10_simply cX10_simply 2 (some .int) 3 63 [.ref (w.2.1 85), .int (nI o)] X (q_X10_simply o X h n) := by
  have n50 := hO.1
  have h8 := hG.2.1
  refine CtI_of (by decide +kernel) (Nat.le_of_ble_eq_true rfl) (List.forall_mem_cons.mpr ⟨rfl, (List.forall_mem_cons.mpr ⟨rfl, (fun _ h => nomatch h)⟩)⟩) (ls := [some (.ref (w.2.1 85)), some (.int (nI o))]) rfl (args := (#[.ref (w.2.1 85), .int (nI o)] : Array Value)) rfl (own := RX10) rfl ?_
  intro p e s m below meth c C
  refine V_aload_n C dX10_simply_0 rfl ?_
  refine V_geti C fl_X10_122 dX10_simply_1 (by decide) sh_85 rfl ?_
  refine V_aload_n C dX10_simply_4 rfl ?_
  refine V_getr C fl_X10_44 dX10_simply_5 (by decide) sh_85 rfl ?_
  refine V_iload_n C dX10_simply_8 rfl ?_
  refine V_ialdN (p0 := 96) (o := o) (v := X 96 o) C dX10_simply_9 sh_96 (by decide) (by omega) (by decide) rfl ?_
  refine V_icmp_le (x := X 85 1) (y := X 96 o) (tgt := 15) C dX10_simply_10 (by decide) (fun h10_1 => ?_) (fun h10_1 => ?_)
  · refine V_aload_n C dX10_simply_15 rfl ?_
    refine V_getr C fl_X10_54 dX10_simply_16 (by decide) sh_85 rfl ?_
    refine V_iload_n C dX10_simply_19 rfl ?_
    refine V_baldN (p0 := 99) (o := o) (v := X 99 o) C dX10_simply_20 sh_99 (by decide) (by omega) (by decide) rfl ?_
    refine V_if_eq (x := X 99 o) (tgt := 28) C dX10_simply_21 (by decide) (fun h21_2 => ?_) (fun h21_2 => ?_)
    · refine V_aload_n C dX10_simply_28 rfl ?_
      refine V_geti C fl_X10_122 dX10_simply_29 (by decide) sh_85 rfl ?_
      refine V_aload_n C dX10_simply_32 rfl ?_
      refine V_getr C fl_X10_16 dX10_simply_33 (by decide) sh_85 rfl ?_
      refine V_aload_n C dX10_simply_36 rfl ?_
      refine V_getr C fl_X10_29 dX10_simply_37 (by decide) sh_85 rfl ?_
      refine V_iload_n C dX10_simply_40 rfl ?_
      refine V_ialdN (p0 := 91) (o := o) (v := X 91 o) C dX10_simply_41 sh_91 (by decide) (by omega) (by decide) rfl ?_
      obtain ⟨a3, ha3, ea3⟩ := (hO.2 o ho).1
      have ia3 : ix (nI a3) = a3 := ix_nI (by omega)
      refine V_eqi ea3 ?_
      refine V_ialdN (p0 := 88) (o := a3) (v := X 88 a3) C dX10_simply_42 sh_88 (by decide) (by omega) (by decide) rfl ?_
      refine V_icmp_le (x := X 85 1) (y := X 88 a3) (tgt := 50) C dX10_simply_43 (by decide) (fun h43_4 => ?_) (fun h43_4 => ?_)
      · refine V_aload_n C dX10_simply_50 rfl ?_
        refine V_getr C fl_X10_47 dX10_simply_51 (by decide) sh_85 rfl ?_
        refine V_iload_n C dX10_simply_54 rfl ?_
        refine V_ialdN (p0 := 97) (o := o) (v := X 97 o) C dX10_simply_55 sh_97 (by decide) (by omega) (by decide) rfl ?_
        refine V_aload_n C dX10_simply_56 rfl ?_
        refine V_iload_n C dX10_simply_57 rfl ?_
        refine V_callVI C [.int (nI o)] mi_X10_133 (k_X10_signs w l o X h n hO hG hn (by omega)) dX10_simply_58 sh_85 (by decide) rfl rfl rfl (Nat.le_of_ble_eq_true rfl) (Nat.le_of_ble_eq_true rfl) (Nat.le_of_ble_eq_true rfl) ⟨Nat.le_refl _, Nat.le_refl _⟩ (fun v5 X5 q5 => ?_)
        obtain ⟨ev5, eX5⟩ := q5; subst X5
        subst v5
        refine V_icmp_eq (x := X 97 o) (y := sigS (oM X) o (kyy (gM X) (ix (isr (oM X) o)))) (tgt := 68) C dX10_simply_61 (by decide) (fun h61_6 => ?_) (fun h61_6 => ?_)
        · refine V_iconst (v := (0 : Int32)) C dX10_simply_68 (by decide) ?_
          exact V_ireturnI C dX10_simply_69 ⟨by simp_all [faultS, oM, gM, kd, isr, whm, vlu, len, ext, lst, sgn, rvk, lsd, prt, kyy, frs, own, ← Int32.not_lt], rfl⟩
        · refine V_iconst (v := (4 : Int32)) C dX10_simply_64 (by decide) ?_
          refine V_goto (tgt := 69) C dX10_simply_65 (by decide) ?_
          exact V_ireturnI C dX10_simply_69 ⟨by simp_all [faultS, oM, gM, kd, isr, whm, vlu, len, ext, lst, sgn, rvk, lsd, prt, kyy, frs, own, ← Int32.not_lt], rfl⟩
      · refine V_iconst (v := (3 : Int32)) C dX10_simply_46 (by decide) ?_
        refine V_goto (tgt := 69) C dX10_simply_47 (by decide) ?_
        exact V_ireturnI C dX10_simply_69 ⟨by simp_all [faultS, oM, gM, kd, isr, whm, vlu, len, ext, lst, sgn, rvk, lsd, prt, kyy, frs, own, ← Int32.not_lt], rfl⟩
    · refine V_iconst (v := (2 : Int32)) C dX10_simply_24 (by decide) ?_
      refine V_goto (tgt := 69) C dX10_simply_25 (by decide) ?_
      exact V_ireturnI C dX10_simply_69 ⟨by simp_all [faultS, oM, gM, kd, isr, whm, vlu, len, ext, lst, sgn, rvk, lsd, prt, kyy, frs, own, ← Int32.not_lt], rfl⟩
  · refine V_iconst (v := (1 : Int32)) C dX10_simply_13 (by decide) ?_
    exact V_ireturnI C dX10_simply_14 ⟨by simp_all [faultS, oM, gM, kd, isr, whm, vlu, len, ext, lst, sgn, rvk, lsd, prt, kyy, frs, own, ← Int32.not_lt], rfl⟩
def q_X10_hasAny (h0 : Int32) (X : Mem) (n : Nat) : Int32 → Mem → Prop := fun r X' => bI (HasAny (oM X) (X 107) n h0) r ∧ X' = X
set_option maxHeartbeats 4000000 in
set_option maxRecDepth 100000 in
theorem k_X10_hasAny (w : Wt) (l : Launch) (h0 : Int32) (X : Mem) (n : Nat) (hn : X 85 17 = nI n) (n50 : n ≤ 50) : CtI w l yX10_hasAny cX10_hasAny 4 (some .boolean) 1 20 [.ref (w.2.1 85), .int h0] X (q_X10_hasAny h0 X n) := by
  refine CtI_of (by decide +kernel) (Nat.le_of_ble_eq_true rfl) (List.forall_mem_cons.mpr ⟨rfl, (List.forall_mem_cons.mpr ⟨rfl, (fun _ h => nomatch h)⟩)⟩) (ls := [some (.ref (w.2.1 85)), some (.int h0), none, none]) rfl (args := (#[.ref (w.2.1 85), .int h0] : Array Value)) rfl (own := RX10) rfl ?_
  intro p e s m below meth c C
  have L12 : ∀ (fu : Nat) (i : Nat) (f : Int32), n - i < fu → (i ≤ n) → (bI (HasAny (oM X) (X 107) i h0) f) → V p l e ({ frames := 1, cells := 0, slots := 0, locals := 20 } : Room) s m (#[.ref (w.2.1 85), .int h0] : Array Value) below meth c w 4 0 0 (EI w below s (#[.ref (w.2.1 85), .int h0] : Array Value) 0 0 (q_X10_hasAny h0 X n)) 12 [some (.ref (w.2.1 85)), some (.int h0), some (.int f), some (.int (nI i))] [] X := by
    intro fu
    induction fu with
    | zero => intro i f hm; exact absurd hm (Nat.not_lt_zero _)
    | succ fu ih12 =>
      intro i f hm12 hi hb
      refine V_iload_n C dX10_hasAny_12 rfl ?_
      refine V_aload_n C dX10_hasAny_13 rfl ?_
      refine V_geti C fl_X10_112 dX10_hasAny_14 (by decide) sh_85 rfl ?_
      refine V_eqi (y := nI n) hn ?_
      refine V_icmp_geN (a := i) (b := n) (tgt := 64) C dX10_hasAny_17 (by decide) (by omega) (by omega) (fun h17_1 => ?_) (fun h17_1 => ?_)
      · refine V_iload_n C dX10_hasAny_64 rfl ?_
        exact V_zreturnI C dX10_hasAny_65 hb.z (by first | exact ⟨hb.congr ⟨fun q => HasAny.mono hi q, fun q => HasAny.mono (by omega) q⟩, rfl⟩ | exact ⟨hb.congr ⟨fun q => HasAny.mono hi q, fun _ => by assumption⟩, rfl⟩)
      · refine V_iload_n C dX10_hasAny_20 rfl ?_
        refine V_if_neB (tgt := 52) C hb dX10_hasAny_21 (by decide) (fun h21_2 => ?_) (fun h21_2 => ?_)
        · refine V_iconst (v := (1 : Int32)) C dX10_hasAny_52 (by decide) ?_
          refine V_goto (tgt := 57) C dX10_hasAny_53 (by decide) ?_
          refine V_istore_n (ls1 := [some (.ref (w.2.1 85)), some (.int h0), some (.int (1 : Int32)), some (.int (nI i))]) C dX10_hasAny_57 (by decide) rfl ?_
          refine V_iincN (a := i) (ls1 := [some (.ref (w.2.1 85)), some (.int h0), some (.int (1 : Int32)), some (.int (nI (i + 1)))]) C dX10_hasAny_58 rfl (by decide) rfl ?_
          refine V_goto (tgt := 12) C dX10_hasAny_61 (by decide) ?_
          exact ih12 (i + 1) (1 : Int32) (by omega) (by omega) (bI.t (by rw [HasAny_succ]; simp_all [GoodTo, GrantTo, oM, kd, isr, whm, vlu, len, ext]))
        · refine V_aload_n C dX10_hasAny_24 rfl ?_
          refine V_getr C fl_X10_26 dX10_hasAny_25 (by decide) sh_85 rfl ?_
          refine V_iload_n C dX10_hasAny_28 rfl ?_
          refine V_ialdN (p0 := 90) (o := i) (v := X 90 i) C dX10_hasAny_29 sh_90 (by decide) (by omega) (by decide) rfl ?_
          refine V_if_ne (x := X 90 i) (tgt := 56) C dX10_hasAny_30 (by decide) (fun h30_3 => ?_) (fun h30_3 => ?_)
          · refine V_iconst (v := (0 : Int32)) C dX10_hasAny_56 (by decide) ?_
            refine V_istore_n (ls1 := [some (.ref (w.2.1 85)), some (.int h0), some (.int (0 : Int32)), some (.int (nI i))]) C dX10_hasAny_57 (by decide) rfl ?_
            refine V_iincN (a := i) (ls1 := [some (.ref (w.2.1 85)), some (.int h0), some (.int (0 : Int32)), some (.int (nI (i + 1)))]) C dX10_hasAny_58 rfl (by decide) rfl ?_
            refine V_goto (tgt := 12) C dX10_hasAny_61 (by decide) ?_
            exact ih12 (i + 1) (0 : Int32) (by omega) (by omega) (bI.f (by rw [HasAny_succ]; simp_all [GoodTo, GrantTo, oM, kd, isr, whm, vlu, len, ext]))
          · refine V_aload_n C dX10_hasAny_33 rfl ?_
            refine V_getr C fl_X10_32 dX10_hasAny_34 (by decide) sh_85 rfl ?_
            refine V_iload_n C dX10_hasAny_37 rfl ?_
            refine V_ialdN (p0 := 92) (o := i) (v := X 92 i) C dX10_hasAny_38 sh_92 (by decide) (by omega) (by decide) rfl ?_
            refine V_iload_n C dX10_hasAny_39 rfl ?_
            refine V_icmp_ne (x := X 92 i) (y := h0) (tgt := 56) C dX10_hasAny_40 (by decide) (fun h40_4 => ?_) (fun h40_4 => ?_)
            · refine V_iconst (v := (0 : Int32)) C dX10_hasAny_56 (by decide) ?_
              refine V_istore_n (ls1 := [some (.ref (w.2.1 85)), some (.int h0), some (.int (0 : Int32)), some (.int (nI i))]) C dX10_hasAny_57 (by decide) rfl ?_
              refine V_iincN (a := i) (ls1 := [some (.ref (w.2.1 85)), some (.int h0), some (.int (0 : Int32)), some (.int (nI (i + 1)))]) C dX10_hasAny_58 rfl (by decide) rfl ?_
              refine V_goto (tgt := 12) C dX10_hasAny_61 (by decide) ?_
              exact ih12 (i + 1) (0 : Int32) (by omega) (by omega) (bI.f (by rw [HasAny_succ]; simp_all [GoodTo, GrantTo, oM, kd, isr, whm, vlu, len, ext]))
            · refine V_aload_n C dX10_hasAny_43 rfl ?_
              refine V_getr C fl_X10_78 dX10_hasAny_44 (by decide) sh_85 rfl ?_
              refine V_iload_n C dX10_hasAny_47 rfl ?_
              refine V_ialdN (p0 := 107) (o := i) (v := X 107 i) C dX10_hasAny_48 sh_107 (by decide) (by omega) (by decide) rfl ?_
              refine V_if_ne (x := X 107 i) (tgt := 56) C dX10_hasAny_49 (by decide) (fun h49_5 => ?_) (fun h49_5 => ?_)
              · refine V_iconst (v := (0 : Int32)) C dX10_hasAny_56 (by decide) ?_
                refine V_istore_n (ls1 := [some (.ref (w.2.1 85)), some (.int h0), some (.int (0 : Int32)), some (.int (nI i))]) C dX10_hasAny_57 (by decide) rfl ?_
                refine V_iincN (a := i) (ls1 := [some (.ref (w.2.1 85)), some (.int h0), some (.int (0 : Int32)), some (.int (nI (i + 1)))]) C dX10_hasAny_58 rfl (by decide) rfl ?_
                refine V_goto (tgt := 12) C dX10_hasAny_61 (by decide) ?_
                exact ih12 (i + 1) (0 : Int32) (by omega) (by omega) (bI.f (by rw [HasAny_succ]; simp_all [GoodTo, GrantTo, oM, kd, isr, whm, vlu, len, ext]))
              · refine V_iconst (v := (1 : Int32)) C dX10_hasAny_52 (by decide) ?_
                refine V_goto (tgt := 57) C dX10_hasAny_53 (by decide) ?_
                refine V_istore_n (ls1 := [some (.ref (w.2.1 85)), some (.int h0), some (.int (1 : Int32)), some (.int (nI i))]) C dX10_hasAny_57 (by decide) rfl ?_
                refine V_iincN (a := i) (ls1 := [some (.ref (w.2.1 85)), some (.int h0), some (.int (1 : Int32)), some (.int (nI (i + 1)))]) C dX10_hasAny_58 rfl (by decide) rfl ?_
                refine V_goto (tgt := 12) C dX10_hasAny_61 (by decide) ?_
                exact ih12 (i + 1) (1 : Int32) (by omega) (by omega) (bI.t (by rw [HasAny_succ]; simp_all [GoodTo, GrantTo, oM, kd, isr, whm, vlu, len, ext]))
  refine V_iload_n C dX10_hasAny_0 rfl ?_
  refine V_if_ne (x := h0) (tgt := 8) C dX10_hasAny_1 (by decide) (fun h1_6 => ?_) (fun h1_6 => ?_)
  · refine V_iconst (v := (0 : Int32)) C dX10_hasAny_8 (by decide) ?_
    refine V_istore_n (ls1 := [some (.ref (w.2.1 85)), some (.int h0), some (.int (0 : Int32)), none]) C dX10_hasAny_9 (by decide) rfl ?_
    refine V_iconst (v := (0 : Int32)) C dX10_hasAny_10 (by decide) ?_
    refine V_istore_n (ls1 := [some (.ref (w.2.1 85)), some (.int h0), some (.int (0 : Int32)), some (.int (0 : Int32))]) C dX10_hasAny_11 (by decide) rfl ?_
    exact L12 _ 0 (0 : Int32) (Nat.lt_succ_self _) (by omega) (bI.f (by simp_all [HasAny]))
  · refine V_iconst (v := (1 : Int32)) C dX10_hasAny_4 (by decide) ?_
    refine V_goto (tgt := 9) C dX10_hasAny_5 (by decide) ?_
    refine V_istore_n (ls1 := [some (.ref (w.2.1 85)), some (.int h0), some (.int (1 : Int32)), none]) C dX10_hasAny_9 (by decide) rfl ?_
    refine V_iconst (v := (0 : Int32)) C dX10_hasAny_10 (by decide) ?_
    refine V_istore_n (ls1 := [some (.ref (w.2.1 85)), some (.int h0), some (.int (1 : Int32)), some (.int (0 : Int32))]) C dX10_hasAny_11 (by decide) rfl ?_
    exact L12 _ 0 (1 : Int32) (Nat.lt_succ_self _) (by omega) (bI.t (Or.inl (by assumption)))
def q_X10_has0 (h0 : Int32) (v : Int32) (b : Int32) (X : Mem) (n : Nat) : Int32 → Mem → Prop := fun r X' => bI (HasB (oM X) (X 107) n h0 v b) r ∧ X' = X
set_option maxHeartbeats 4000000 in
set_option maxRecDepth 100000 in
theorem k_X10_has0 (w : Wt) (l : Launch) (h0 : Int32) (v : Int32) (b : Int32) (X : Mem) (n : Nat) (hn : X 85 17 = nI n) (n50 : n ≤ 50) : CtI w l yX10_has0 cX10_has0 6 (some .boolean) 2 43 [.ref (w.2.1 85), .int h0, .int v, .int b] X (q_X10_has0 h0 v b X n) := by
  refine CtI_of (by decide +kernel) (Nat.le_of_ble_eq_true rfl) (List.forall_mem_cons.mpr ⟨rfl, (List.forall_mem_cons.mpr ⟨rfl, (List.forall_mem_cons.mpr ⟨rfl, (List.forall_mem_cons.mpr ⟨rfl, (fun _ h => nomatch h)⟩)⟩)⟩)⟩) (ls := [some (.ref (w.2.1 85)), some (.int h0), some (.int v), some (.int b), none, none]) rfl (args := (#[.ref (w.2.1 85), .int h0, .int v, .int b] : Array Value)) rfl (own := RX10) rfl ?_
  intro p e s m below meth c C
  have L14 : ∀ (fu : Nat) (i : Nat) (f : Int32), n - i < fu → (i ≤ n) → (bI (HasB (oM X) (X 107) i h0 v b) f) → V p l e ({ frames := 2, cells := 0, slots := 0, locals := 43 } : Room) s m (#[.ref (w.2.1 85), .int h0, .int v, .int b] : Array Value) below meth c w 6 0 0 (EI w below s (#[.ref (w.2.1 85), .int h0, .int v, .int b] : Array Value) 0 0 (q_X10_has0 h0 v b X n)) 14 [some (.ref (w.2.1 85)), some (.int h0), some (.int v), some (.int b), some (.int f), some (.int (nI i))] [] X := by
    intro fu
    induction fu with
    | zero => intro i f hm; exact absurd hm (Nat.not_lt_zero _)
    | succ fu ih14 =>
      intro i f hm14 hi hb
      refine V_iload C dX10_has0_14 rfl ?_
      refine V_aload_n C dX10_has0_16 rfl ?_
      refine V_geti C fl_X10_112 dX10_has0_17 (by decide) sh_85 rfl ?_
      refine V_eqi (y := nI n) hn ?_
      refine V_icmp_geN (a := i) (b := n) (tgt := 94) C dX10_has0_20 (by decide) (by omega) (by omega) (fun h20_1 => ?_) (fun h20_1 => ?_)
      · refine V_iload C dX10_has0_94 rfl ?_
        exact V_zreturnI C dX10_has0_96 hb.z (by first | exact ⟨hb.congr ⟨fun q => HasB.mono hi q, fun q => HasB.mono (by omega) q⟩, rfl⟩ | exact ⟨hb.congr ⟨fun q => HasB.mono hi q, fun _ => by assumption⟩, rfl⟩)
      · refine V_iload C dX10_has0_23 rfl ?_
        refine V_if_neB (tgt := 81) C hb dX10_has0_25 (by decide) (fun h25_2 => ?_) (fun h25_2 => ?_)
        · refine V_iconst (v := (1 : Int32)) C dX10_has0_81 (by decide) ?_
          refine V_goto (tgt := 86) C dX10_has0_82 (by decide) ?_
          refine V_istore (ls1 := [some (.ref (w.2.1 85)), some (.int h0), some (.int v), some (.int b), some (.int (1 : Int32)), some (.int (nI i))]) C dX10_has0_86 (by decide) rfl ?_
          refine V_iincN (a := i) (ls1 := [some (.ref (w.2.1 85)), some (.int h0), some (.int v), some (.int b), some (.int (1 : Int32)), some (.int (nI (i + 1)))]) C dX10_has0_88 rfl (by decide) rfl ?_
          refine V_goto (tgt := 14) C dX10_has0_91 (by decide) ?_
          exact ih14 (i + 1) (1 : Int32) (by omega) (by omega) (bI.t (by rw [HasB_succ]; simp_all [GoodTo, GrantTo, oM, kd, isr, whm, vlu, len, ext]))
        · refine V_aload_n C dX10_has0_28 rfl ?_
          refine V_getr C fl_X10_26 dX10_has0_29 (by decide) sh_85 rfl ?_
          refine V_iload C dX10_has0_32 rfl ?_
          refine V_ialdN (p0 := 90) (o := i) (v := X 90 i) C dX10_has0_34 sh_90 (by decide) (by omega) (by decide) rfl ?_
          refine V_if_ne (x := X 90 i) (tgt := 85) C dX10_has0_35 (by decide) (fun h35_3 => ?_) (fun h35_3 => ?_)
          · refine V_iconst (v := (0 : Int32)) C dX10_has0_85 (by decide) ?_
            refine V_istore (ls1 := [some (.ref (w.2.1 85)), some (.int h0), some (.int v), some (.int b), some (.int (0 : Int32)), some (.int (nI i))]) C dX10_has0_86 (by decide) rfl ?_
            refine V_iincN (a := i) (ls1 := [some (.ref (w.2.1 85)), some (.int h0), some (.int v), some (.int b), some (.int (0 : Int32)), some (.int (nI (i + 1)))]) C dX10_has0_88 rfl (by decide) rfl ?_
            refine V_goto (tgt := 14) C dX10_has0_91 (by decide) ?_
            exact ih14 (i + 1) (0 : Int32) (by omega) (by omega) (bI.f (by rw [HasB_succ]; simp_all [GoodTo, GrantTo, oM, kd, isr, whm, vlu, len, ext]))
          · refine V_aload_n C dX10_has0_38 rfl ?_
            refine V_getr C fl_X10_32 dX10_has0_39 (by decide) sh_85 rfl ?_
            refine V_iload C dX10_has0_42 rfl ?_
            refine V_ialdN (p0 := 92) (o := i) (v := X 92 i) C dX10_has0_44 sh_92 (by decide) (by omega) (by decide) rfl ?_
            refine V_iload_n C dX10_has0_45 rfl ?_
            refine V_icmp_ne (x := X 92 i) (y := h0) (tgt := 85) C dX10_has0_46 (by decide) (fun h46_4 => ?_) (fun h46_4 => ?_)
            · refine V_iconst (v := (0 : Int32)) C dX10_has0_85 (by decide) ?_
              refine V_istore (ls1 := [some (.ref (w.2.1 85)), some (.int h0), some (.int v), some (.int b), some (.int (0 : Int32)), some (.int (nI i))]) C dX10_has0_86 (by decide) rfl ?_
              refine V_iincN (a := i) (ls1 := [some (.ref (w.2.1 85)), some (.int h0), some (.int v), some (.int b), some (.int (0 : Int32)), some (.int (nI (i + 1)))]) C dX10_has0_88 rfl (by decide) rfl ?_
              refine V_goto (tgt := 14) C dX10_has0_91 (by decide) ?_
              exact ih14 (i + 1) (0 : Int32) (by omega) (by omega) (bI.f (by rw [HasB_succ]; simp_all [GoodTo, GrantTo, oM, kd, isr, whm, vlu, len, ext]))
            · refine V_aload_n C dX10_has0_49 rfl ?_
              refine V_getr C fl_X10_78 dX10_has0_50 (by decide) sh_85 rfl ?_
              refine V_iload C dX10_has0_53 rfl ?_
              refine V_ialdN (p0 := 107) (o := i) (v := X 107 i) C dX10_has0_55 sh_107 (by decide) (by omega) (by decide) rfl ?_
              refine V_if_ne (x := X 107 i) (tgt := 85) C dX10_has0_56 (by decide) (fun h56_5 => ?_) (fun h56_5 => ?_)
              · refine V_iconst (v := (0 : Int32)) C dX10_has0_85 (by decide) ?_
                refine V_istore (ls1 := [some (.ref (w.2.1 85)), some (.int h0), some (.int v), some (.int b), some (.int (0 : Int32)), some (.int (nI i))]) C dX10_has0_86 (by decide) rfl ?_
                refine V_iincN (a := i) (ls1 := [some (.ref (w.2.1 85)), some (.int h0), some (.int v), some (.int b), some (.int (0 : Int32)), some (.int (nI (i + 1)))]) C dX10_has0_88 rfl (by decide) rfl ?_
                refine V_goto (tgt := 14) C dX10_has0_91 (by decide) ?_
                exact ih14 (i + 1) (0 : Int32) (by omega) (by omega) (bI.f (by rw [HasB_succ]; simp_all [GoodTo, GrantTo, oM, kd, isr, whm, vlu, len, ext]))
              · refine V_iload_n C dX10_has0_59 rfl ?_
                refine V_iload_n C dX10_has0_60 rfl ?_
                refine V_aload_n C dX10_has0_61 rfl ?_
                refine V_getr C fl_X10_35 dX10_has0_62 (by decide) sh_85 rfl ?_
                refine V_iload C dX10_has0_65 rfl ?_
                refine V_ialdN (p0 := 93) (o := i) (v := X 93 i) C dX10_has0_67 sh_93 (by decide) (by omega) (by decide) rfl ?_
                refine V_aload_n C dX10_has0_68 rfl ?_
                refine V_getr C fl_X10_38 dX10_has0_69 (by decide) sh_85 rfl ?_
                refine V_iload C dX10_has0_72 rfl ?_
                refine V_ialdN (p0 := 94) (o := i) (v := X 94 i) C dX10_has0_74 sh_94 (by decide) (by omega) (by decide) rfl ?_
                refine V_callSI C [.int v, .int b, .int (X 93 i), .int (X 94 i)] ms_X10_160 (k_X10_lies w l v b (X 93 i) (X 94 i) X ) dX10_has0_75 rfl rfl (Nat.le_of_ble_eq_true rfl) (Nat.le_of_ble_eq_true rfl) (Nat.le_of_ble_eq_true rfl) ⟨Nat.le_refl _, Nat.le_refl _⟩ (fun v6 X6 q6 => ?_)
                obtain ⟨hb6, eX6⟩ := q6; subst X6
                refine V_if_eqB (tgt := 85) C hb6 dX10_has0_78 (by decide) (fun h78_7 => ?_) (fun h78_7 => ?_)
                · refine V_iconst (v := (0 : Int32)) C dX10_has0_85 (by decide) ?_
                  refine V_istore (ls1 := [some (.ref (w.2.1 85)), some (.int h0), some (.int v), some (.int b), some (.int (0 : Int32)), some (.int (nI i))]) C dX10_has0_86 (by decide) rfl ?_
                  refine V_iincN (a := i) (ls1 := [some (.ref (w.2.1 85)), some (.int h0), some (.int v), some (.int b), some (.int (0 : Int32)), some (.int (nI (i + 1)))]) C dX10_has0_88 rfl (by decide) rfl ?_
                  refine V_goto (tgt := 14) C dX10_has0_91 (by decide) ?_
                  exact ih14 (i + 1) (0 : Int32) (by omega) (by omega) (bI.f (by rw [HasB_succ]; simp_all [GoodTo, GrantTo, oM, kd, isr, whm, vlu, len, ext]))
                · refine V_iconst (v := (1 : Int32)) C dX10_has0_81 (by decide) ?_
                  refine V_goto (tgt := 86) C dX10_has0_82 (by decide) ?_
                  refine V_istore (ls1 := [some (.ref (w.2.1 85)), some (.int h0), some (.int v), some (.int b), some (.int (1 : Int32)), some (.int (nI i))]) C dX10_has0_86 (by decide) rfl ?_
                  refine V_iincN (a := i) (ls1 := [some (.ref (w.2.1 85)), some (.int h0), some (.int v), some (.int b), some (.int (1 : Int32)), some (.int (nI (i + 1)))]) C dX10_has0_88 rfl (by decide) rfl ?_
                  refine V_goto (tgt := 14) C dX10_has0_91 (by decide) ?_
                  exact ih14 (i + 1) (1 : Int32) (by omega) (by omega) (bI.t (by rw [HasB_succ]; simp_all [GoodTo, GrantTo, oM, kd, isr, whm, vlu, len, ext]))
  refine V_iload_n C dX10_has0_0 rfl ?_
  refine V_if_ne (x := h0) (tgt := 8) C dX10_has0_1 (by decide) (fun h1_8 => ?_) (fun h1_8 => ?_)
  · refine V_iconst (v := (0 : Int32)) C dX10_has0_8 (by decide) ?_
    refine V_istore (ls1 := [some (.ref (w.2.1 85)), some (.int h0), some (.int v), some (.int b), some (.int (0 : Int32)), none]) C dX10_has0_9 (by decide) rfl ?_
    refine V_iconst (v := (0 : Int32)) C dX10_has0_11 (by decide) ?_
    refine V_istore (ls1 := [some (.ref (w.2.1 85)), some (.int h0), some (.int v), some (.int b), some (.int (0 : Int32)), some (.int (0 : Int32))]) C dX10_has0_12 (by decide) rfl ?_
    exact L14 _ 0 (0 : Int32) (Nat.lt_succ_self _) (by omega) (bI.f (by simp_all [HasB]))
  · refine V_iconst (v := (1 : Int32)) C dX10_has0_4 (by decide) ?_
    refine V_goto (tgt := 9) C dX10_has0_5 (by decide) ?_
    refine V_istore (ls1 := [some (.ref (w.2.1 85)), some (.int h0), some (.int v), some (.int b), some (.int (1 : Int32)), none]) C dX10_has0_9 (by decide) rfl ?_
    refine V_iconst (v := (0 : Int32)) C dX10_has0_11 (by decide) ?_
    refine V_istore (ls1 := [some (.ref (w.2.1 85)), some (.int h0), some (.int v), some (.int b), some (.int (1 : Int32)), some (.int (0 : Int32))]) C dX10_has0_12 (by decide) rfl ?_
    exact L14 _ 0 (1 : Int32) (Nat.lt_succ_self _) (by omega) (bI.t (Or.inl (by assumption)))
def q_X10_isOutside (o : Nat) (X : Mem) (h n : Nat) : Int32 → Mem → Prop := fun r X' => bI (OutS (oM X) (gM X) (X 107) n o) r ∧ X' = X
set_option maxHeartbeats 4000000 in
set_option maxRecDepth 100000 in
theorem k_X10_isOutside (w : Wt) (l : Launch) (o : Nat) (X : Mem) (h n : Nat) (hO : OInv (oM X) h n) (hG : GInv (gM X) h) (hn : X 85 17 = nI n) (ho : o < n) : CtI w l yX10_isOutside cX10_isOutside 2 (some .boolean) 3 68 [.ref (w.2.1 85), .int (nI o)] X (q_X10_isOutside o X h n) := by
  have n50 := hO.1
  have h8 := hG.2.1
  have hO1 := hO.2 o ho
  refine CtI_of (by decide +kernel) (Nat.le_of_ble_eq_true rfl) (List.forall_mem_cons.mpr ⟨rfl, (List.forall_mem_cons.mpr ⟨rfl, (fun _ h => nomatch h)⟩)⟩) (ls := [some (.ref (w.2.1 85)), some (.int (nI o))]) rfl (args := (#[.ref (w.2.1 85), .int (nI o)] : Array Value)) rfl (own := RX10) rfl ?_
  intro p e s m below meth c C
  refine V_aload_n C dX10_isOutside_0 rfl ?_
  refine V_getr C fl_X10_26 dX10_isOutside_1 (by decide) sh_85 rfl ?_
  refine V_iload_n C dX10_isOutside_4 rfl ?_
  refine V_ialdN (p0 := 90) (o := o) (v := X 90 o) C dX10_isOutside_5 sh_90 (by decide) (by omega) (by decide) rfl ?_
  refine V_iconst (v := (2 : Int32)) C dX10_isOutside_6 (by decide) ?_
  refine V_icmp_ne (x := X 90 o) (y := (2 : Int32)) (tgt := 49) C dX10_isOutside_7 (by decide) (fun h7_1 => ?_) (fun h7_1 => ?_)
  · refine V_aload_n C dX10_isOutside_49 rfl ?_
    refine V_getr C fl_X10_26 dX10_isOutside_50 (by decide) sh_85 rfl ?_
    refine V_iload_n C dX10_isOutside_53 rfl ?_
    refine V_ialdN (p0 := 90) (o := o) (v := X 90 o) C dX10_isOutside_54 sh_90 (by decide) (by omega) (by decide) rfl ?_
    refine V_if_ne (x := X 90 o) (tgt := 78) C dX10_isOutside_55 (by decide) (fun h55_2 => ?_) (fun h55_2 => ?_)
    · refine V_aload_n C dX10_isOutside_78 rfl ?_
      refine V_aload_n C dX10_isOutside_79 rfl ?_
      refine V_getr C fl_X10_29 dX10_isOutside_80 (by decide) sh_85 rfl ?_
      refine V_iload_n C dX10_isOutside_83 rfl ?_
      refine V_ialdN (p0 := 91) (o := o) (v := X 91 o) C dX10_isOutside_84 sh_91 (by decide) (by omega) (by decide) rfl ?_
      refine V_aload_n C dX10_isOutside_85 rfl ?_
      refine V_getr C fl_X10_35 dX10_isOutside_86 (by decide) sh_85 rfl ?_
      refine V_iload_n C dX10_isOutside_89 rfl ?_
      refine V_ialdN (p0 := 93) (o := o) (v := X 93 o) C dX10_isOutside_90 sh_93 (by decide) (by omega) (by decide) rfl ?_
      refine V_aload_n C dX10_isOutside_91 rfl ?_
      refine V_getr C fl_X10_38 dX10_isOutside_92 (by decide) sh_85 rfl ?_
      refine V_iload_n C dX10_isOutside_95 rfl ?_
      refine V_ialdN (p0 := 94) (o := o) (v := X 94 o) C dX10_isOutside_96 sh_94 (by decide) (by omega) (by decide) rfl ?_
      refine V_callVI C [.int (X 91 o), .int (X 93 o), .int (X 94 o)] mi_X10_167 (k_X10_has0 w l (X 91 o) (X 93 o) (X 94 o) X n hn n50) dX10_isOutside_97 sh_85 (by decide) rfl rfl rfl (Nat.le_of_ble_eq_true rfl) (Nat.le_of_ble_eq_true rfl) (Nat.le_of_ble_eq_true rfl) ⟨Nat.le_refl _, Nat.le_refl _⟩ (fun v3 X3 q3 => ?_)
      obtain ⟨hb3, eX3⟩ := q3; subst X3
      refine V_if_neB (tgt := 107) C hb3 dX10_isOutside_100 (by decide) (fun h100_4 => ?_) (fun h100_4 => ?_)
      · refine V_iconst (v := (0 : Int32)) C dX10_isOutside_107 (by decide) ?_
        exact V_zreturnI C dX10_isOutside_108 (Or.inl rfl) ⟨bI.f (by simp_all [OutS, oM, gM, kd, isr, whm, vlu, len, ext, lst, sgn, rvk, lsd, prt, kyy, frs, own, ← Int32.not_lt]), rfl⟩
      · refine V_iconst (v := (1 : Int32)) C dX10_isOutside_103 (by decide) ?_
        refine V_goto (tgt := 108) C dX10_isOutside_104 (by decide) ?_
        exact V_zreturnI C dX10_isOutside_108 (Or.inr rfl) ⟨bI.t (by simp_all [OutS, oM, gM, kd, isr, whm, vlu, len, ext, lst, sgn, rvk, lsd, prt, kyy, frs, own, ← Int32.not_lt]), rfl⟩
    · refine V_aload_n C dX10_isOutside_58 rfl ?_
      refine V_getr C fl_X10_7 dX10_isOutside_59 (by decide) sh_85 rfl ?_
      refine V_aload_n C dX10_isOutside_62 rfl ?_
      refine V_getr C fl_X10_32 dX10_isOutside_63 (by decide) sh_85 rfl ?_
      refine V_iload_n C dX10_isOutside_66 rfl ?_
      refine V_ialdN (p0 := 92) (o := o) (v := X 92 o) C dX10_isOutside_67 sh_92 (by decide) (by omega) (by decide) rfl ?_
      obtain ⟨a5, ha5, ea5⟩ := hO1.2.2.1 (by simp_all [oM, kd])
      have ia5 : ix (nI a5) = a5 := ix_nI (by omega)
      refine V_eqi ea5 ?_
      refine V_ialdN (p0 := 86) (o := a5) (v := X 86 a5) C dX10_isOutside_68 sh_86 (by decide) (by omega) (by decide) rfl ?_
      refine V_aload_n C dX10_isOutside_69 rfl ?_
      refine V_getr C fl_X10_29 dX10_isOutside_70 (by decide) sh_85 rfl ?_
      refine V_iload_n C dX10_isOutside_73 rfl ?_
      refine V_ialdN (p0 := 91) (o := o) (v := X 91 o) C dX10_isOutside_74 sh_91 (by decide) (by omega) (by decide) rfl ?_
      refine V_icmp_ne (x := X 86 a5) (y := X 91 o) (tgt := 103) C dX10_isOutside_75 (by decide) (fun h75_6 => ?_) (fun h75_6 => ?_)
      · refine V_iconst (v := (1 : Int32)) C dX10_isOutside_103 (by decide) ?_
        refine V_goto (tgt := 108) C dX10_isOutside_104 (by decide) ?_
        exact V_zreturnI C dX10_isOutside_108 (Or.inr rfl) ⟨bI.t (by simp_all [OutS, oM, gM, kd, isr, whm, vlu, len, ext, lst, sgn, rvk, lsd, prt, kyy, frs, own, ← Int32.not_lt]), rfl⟩
      · refine V_aload_n C dX10_isOutside_78 rfl ?_
        refine V_aload_n C dX10_isOutside_79 rfl ?_
        refine V_getr C fl_X10_29 dX10_isOutside_80 (by decide) sh_85 rfl ?_
        refine V_iload_n C dX10_isOutside_83 rfl ?_
        refine V_ialdN (p0 := 91) (o := o) (v := X 91 o) C dX10_isOutside_84 sh_91 (by decide) (by omega) (by decide) rfl ?_
        refine V_aload_n C dX10_isOutside_85 rfl ?_
        refine V_getr C fl_X10_35 dX10_isOutside_86 (by decide) sh_85 rfl ?_
        refine V_iload_n C dX10_isOutside_89 rfl ?_
        refine V_ialdN (p0 := 93) (o := o) (v := X 93 o) C dX10_isOutside_90 sh_93 (by decide) (by omega) (by decide) rfl ?_
        refine V_aload_n C dX10_isOutside_91 rfl ?_
        refine V_getr C fl_X10_38 dX10_isOutside_92 (by decide) sh_85 rfl ?_
        refine V_iload_n C dX10_isOutside_95 rfl ?_
        refine V_ialdN (p0 := 94) (o := o) (v := X 94 o) C dX10_isOutside_96 sh_94 (by decide) (by omega) (by decide) rfl ?_
        refine V_callVI C [.int (X 91 o), .int (X 93 o), .int (X 94 o)] mi_X10_167 (k_X10_has0 w l (X 91 o) (X 93 o) (X 94 o) X n hn n50) dX10_isOutside_97 sh_85 (by decide) rfl rfl rfl (Nat.le_of_ble_eq_true rfl) (Nat.le_of_ble_eq_true rfl) (Nat.le_of_ble_eq_true rfl) ⟨Nat.le_refl _, Nat.le_refl _⟩ (fun v7 X7 q7 => ?_)
        obtain ⟨hb7, eX7⟩ := q7; subst X7
        refine V_if_neB (tgt := 107) C hb7 dX10_isOutside_100 (by decide) (fun h100_8 => ?_) (fun h100_8 => ?_)
        · refine V_iconst (v := (0 : Int32)) C dX10_isOutside_107 (by decide) ?_
          exact V_zreturnI C dX10_isOutside_108 (Or.inl rfl) ⟨bI.f (by simp_all [OutS, oM, gM, kd, isr, whm, vlu, len, ext, lst, sgn, rvk, lsd, prt, kyy, frs, own, ← Int32.not_lt]), rfl⟩
        · refine V_iconst (v := (1 : Int32)) C dX10_isOutside_103 (by decide) ?_
          refine V_goto (tgt := 108) C dX10_isOutside_104 (by decide) ?_
          exact V_zreturnI C dX10_isOutside_108 (Or.inr rfl) ⟨bI.t (by simp_all [OutS, oM, gM, kd, isr, whm, vlu, len, ext, lst, sgn, rvk, lsd, prt, kyy, frs, own, ← Int32.not_lt]), rfl⟩
  · refine V_aload_n C dX10_isOutside_10 rfl ?_
    refine V_getr C fl_X10_23 dX10_isOutside_11 (by decide) sh_85 rfl ?_
    refine V_aload_n C dX10_isOutside_14 rfl ?_
    refine V_getr C fl_X10_32 dX10_isOutside_15 (by decide) sh_85 rfl ?_
    refine V_iload_n C dX10_isOutside_18 rfl ?_
    refine V_ialdN (p0 := 92) (o := o) (v := X 92 o) C dX10_isOutside_19 sh_92 (by decide) (by omega) (by decide) rfl ?_
    obtain ⟨a9, ha9, ea9⟩ := hO1.2.2.2.1 (by simp_all [oM, kd])
    have ia9 : ix (nI a9) = a9 := ix_nI (by omega)
    refine V_eqi ea9 ?_
    refine V_ialdN (p0 := 89) (o := a9) (v := X 89 a9) C dX10_isOutside_20 sh_89 (by decide) (by omega) (by decide) rfl ?_
    refine V_aload_n C dX10_isOutside_21 rfl ?_
    refine V_getr C fl_X10_29 dX10_isOutside_22 (by decide) sh_85 rfl ?_
    refine V_iload_n C dX10_isOutside_25 rfl ?_
    refine V_ialdN (p0 := 91) (o := o) (v := X 91 o) C dX10_isOutside_26 sh_91 (by decide) (by omega) (by decide) rfl ?_
    refine V_icmp_ne (x := X 89 a9) (y := X 91 o) (tgt := 43) C dX10_isOutside_27 (by decide) (fun h27_10 => ?_) (fun h27_10 => ?_)
    · refine V_iconst (v := (1 : Int32)) C dX10_isOutside_43 (by decide) ?_
      refine V_goto (tgt := 48) C dX10_isOutside_44 (by decide) ?_
      exact V_zreturnI C dX10_isOutside_48 (Or.inr rfl) ⟨bI.t (by simp_all [OutS, oM, gM, kd, isr, whm, vlu, len, ext, lst, sgn, rvk, lsd, prt, kyy, frs, own, ← Int32.not_lt]), rfl⟩
    · refine V_aload_n C dX10_isOutside_30 rfl ?_
      refine V_aload_n C dX10_isOutside_31 rfl ?_
      refine V_getr C fl_X10_29 dX10_isOutside_32 (by decide) sh_85 rfl ?_
      refine V_iload_n C dX10_isOutside_35 rfl ?_
      refine V_ialdN (p0 := 91) (o := o) (v := X 91 o) C dX10_isOutside_36 sh_91 (by decide) (by omega) (by decide) rfl ?_
      refine V_callVI C [.int (X 91 o)] mi_X10_164 (k_X10_hasAny w l (X 91 o) X n hn n50) dX10_isOutside_37 sh_85 (by decide) rfl rfl rfl (Nat.le_of_ble_eq_true rfl) (Nat.le_of_ble_eq_true rfl) (Nat.le_of_ble_eq_true rfl) ⟨Nat.le_refl _, Nat.le_refl _⟩ (fun v11 X11 q11 => ?_)
      obtain ⟨hb11, eX11⟩ := q11; subst X11
      refine V_if_neB (tgt := 47) C hb11 dX10_isOutside_40 (by decide) (fun h40_12 => ?_) (fun h40_12 => ?_)
      · refine V_iconst (v := (0 : Int32)) C dX10_isOutside_47 (by decide) ?_
        exact V_zreturnI C dX10_isOutside_48 (Or.inl rfl) ⟨bI.f (by simp_all [OutS, oM, gM, kd, isr, whm, vlu, len, ext, lst, sgn, rvk, lsd, prt, kyy, frs, own, ← Int32.not_lt]), rfl⟩
      · refine V_iconst (v := (1 : Int32)) C dX10_isOutside_43 (by decide) ?_
        refine V_goto (tgt := 48) C dX10_isOutside_44 (by decide) ?_
        exact V_zreturnI C dX10_isOutside_48 (Or.inr rfl) ⟨bI.t (by simp_all [OutS, oM, gM, kd, isr, whm, vlu, len, ext, lst, sgn, rvk, lsd, prt, kyy, frs, own, ← Int32.not_lt]), rfl⟩
def q_X10_judges (X : Mem) (h n : Nat) : Mem → Prop := fun X' => ∃ V, X' = ma X 107 V ∧ IsV (oM X) (gM X) n (X 85 1) V
set_option maxHeartbeats 4000000 in
set_option maxRecDepth 100000 in
theorem k_X10_judges (w : Wt) (l : Launch) (X : Mem) (h n : Nat) (hO : OInv (oM X) h n) (hG : GInv (gM X) h) (hn : X 85 17 = nI n) (hh : X 85 5 = nI h) : CtU w l yX10_judges cX10_judges 4 none 4 89 [.ref (w.2.1 85)] X (q_X10_judges X h n) := by
  have n50 := hO.1
  have h8 := hG.2.1
  refine CtU_of (by decide +kernel) (Nat.le_of_ble_eq_true rfl) (List.forall_mem_cons.mpr ⟨rfl, (fun _ h => nomatch h)⟩) (ls := [some (.ref (w.2.1 85)), none, none, none]) rfl (args := (#[.ref (w.2.1 85)] : Array Value)) rfl (own := RX10) rfl ?_
  intro p e s m below meth c C
  refine V_iconst (v := (0 : Int32)) C dX10_judges_0 (by decide) ?_
  refine V_istore_n (ls1 := [some (.ref (w.2.1 85)), some (.int (0 : Int32)), none, none]) C dX10_judges_1 (by decide) rfl ?_
  have L2 : ∀ (fu : Nat) (i : Nat) (V0 : Nat → Int32), n - i < fu → (i ≤ n) → (∀ o, o < i → kd (oM X) o ≠ 0 → V0 o = faultS (oM X) (gM X) (X 85 1) o) → V p l e ({ frames := 4, cells := 0, slots := 0, locals := 89 } : Room) s m (#[.ref (w.2.1 85)] : Array Value) below meth c w 4 0 0 (EU w below s (#[.ref (w.2.1 85)] : Array Value) 0 0 (q_X10_judges X h n)) 2 [some (.ref (w.2.1 85)), some (.int (nI i)), none, none] [] (ma X 107 V0) := by
    intro fu
    induction fu with
    | zero => intro i V0 hm; exact absurd hm (Nat.not_lt_zero _)
    | succ fu ih2 =>
      intro i V0 hm2 hi hF
      refine V_iload_n C dX10_judges_2 rfl ?_
      refine V_aload_n C dX10_judges_3 rfl ?_
      refine V_geti C fl_X10_112 dX10_judges_4 (by decide) sh_85 rfl ?_
      refine V_eqi (y := X 85 17) rfl ?_
      refine V_eqi (y := nI n) hn ?_
      refine V_icmp_geN (a := i) (b := n) (tgt := 40) C dX10_judges_7 (by decide) (by omega) (by omega) (fun h7_1 => ?_) (fun h7_1 => ?_)
      · refine V_iconst (v := (0 : Int32)) C dX10_judges_40 (by decide) ?_
        refine V_istore_n (ls1 := [some (.ref (w.2.1 85)), some (.int (0 : Int32)), none, none]) C dX10_judges_41 (by decide) rfl ?_
        have L42 : ∀ (fu : Nat) (c0 : Nat) (V1 : Nat → Int32), h - c0 < fu → (c0 ≤ h) → (∀ o b, o < n → b < c0 → GrantTo (oM X) o (nI b) → JR (oM X) (gM X) V1 n (X 85 1) o (V1 o)) → (∀ o, o < n → kd (oM X) o ≠ 0 → V1 o = faultS (oM X) (gM X) (X 85 1) o) → V p l e ({ frames := 4, cells := 0, slots := 0, locals := 89 } : Room) s m (#[.ref (w.2.1 85)] : Array Value) below meth c w 4 0 0 (EU w below s (#[.ref (w.2.1 85)] : Array Value) 0 0 (q_X10_judges X h n)) 42 [some (.ref (w.2.1 85)), some (.int (nI c0)), none, none] [] (ma X 107 V1) := by
          intro fu
          induction fu with
          | zero => intro c0 V1 hm; exact absurd hm (Nat.not_lt_zero _)
          | succ fu ih42 =>
            intro c0 V1 hm42 hi1 hV1 hF1
            refine V_iload_n C dX10_judges_42 rfl ?_
            refine V_aload_n C dX10_judges_43 rfl ?_
            refine V_geti C fl_X10_19 dX10_judges_44 (by decide) sh_85 rfl ?_
            refine V_eqi (y := X 85 5) rfl ?_
            refine V_eqi (y := nI h) hh ?_
            refine V_icmp_geN (a := c0) (b := h) (tgt := 120) C dX10_judges_47 (by decide) (by omega) (by omega) (fun h47_2 => ?_) (fun h47_2 => ?_)
            · refine V_iconst (v := (0 : Int32)) C dX10_judges_120 (by decide) ?_
              refine V_istore_n (ls1 := [some (.ref (w.2.1 85)), some (.int (0 : Int32)), none, none]) C dX10_judges_121 (by decide) rfl ?_
              have L122 : ∀ (fu : Nat) (i3 : Nat) (V3 : Nat → Int32), n - i3 < fu → (i3 ≤ n) → (∀ o, o < n → kd (oM X) o = 0 → JR (oM X) (gM X) V3 n (X 85 1) o (V3 o)) → (∀ o, o < i3 → kd (oM X) o ≠ 0 → JR (oM X) (gM X) V3 n (X 85 1) o (V3 o)) → (∀ o, i3 ≤ o → o < n → kd (oM X) o ≠ 0 → V3 o = faultS (oM X) (gM X) (X 85 1) o) → V p l e ({ frames := 4, cells := 0, slots := 0, locals := 89 } : Room) s m (#[.ref (w.2.1 85)] : Array Value) below meth c w 4 0 0 (EU w below s (#[.ref (w.2.1 85)] : Array Value) 0 0 (q_X10_judges X h n)) 122 [some (.ref (w.2.1 85)), some (.int (nI i3)), none, none] [] (ma X 107 V3) := by
                intro fu
                induction fu with
                | zero => intro i3 V3 hm; exact absurd hm (Nat.not_lt_zero _)
                | succ fu ih122 =>
                  intro i3 V3 hm122 hi3 hA hB hC
                  refine V_iload_n C dX10_judges_122 rfl ?_
                  refine V_aload_n C dX10_judges_123 rfl ?_
                  refine V_geti C fl_X10_112 dX10_judges_124 (by decide) sh_85 rfl ?_
                  refine V_eqi (y := X 85 17) rfl ?_
                  refine V_eqi (y := nI n) hn ?_
                  refine V_icmp_geN (a := i3) (b := n) (tgt := 178) C dX10_judges_127 (by decide) (by omega) (by omega) (fun h127_3 => ?_) (fun h127_3 => ?_)
                  · exact V_returnU C dX10_judges_178 ⟨V3, rfl, fun o h1 => (Classical.em (kd (oM X) o = 0)).elim (hA o h1) (hB o (by omega))⟩
                  · refine V_aload_n C dX10_judges_130 rfl ?_
                    refine V_getr C fl_X10_78 dX10_judges_131 (by decide) sh_85 rfl ?_
                    refine V_iload_n C dX10_judges_134 rfl ?_
                    refine V_aload_n C dX10_judges_135 rfl ?_
                    refine V_getr C fl_X10_78 dX10_judges_136 (by decide) sh_85 rfl ?_
                    refine V_iload_n C dX10_judges_139 rfl ?_
                    refine V_ialdN (p0 := 107) (o := i3) (v := V3 i3) C dX10_judges_140 sh_107 (by decide) (by omega) (by decide) rfl ?_
                    refine V_if_ne (x := V3 i3) (tgt := 165) C dX10_judges_141 (by decide) (fun h141_4 => ?_) (fun h141_4 => ?_)
                    · refine V_aload_n C dX10_judges_165 rfl ?_
                      refine V_getr C fl_X10_78 dX10_judges_166 (by decide) sh_85 rfl ?_
                      refine V_iload_n C dX10_judges_169 rfl ?_
                      refine V_ialdN (p0 := 107) (o := i3) (v := V3 i3) C dX10_judges_170 sh_107 (by decide) (by omega) (by decide) rfl ?_
                      refine V_iastN (p0 := 107) (o := i3) (X1 := (ma X 107 (upd (V3) i3 (V3 i3)))) C dX10_judges_171 sh_107 (by decide) (by omega) (by decide) (ma_ma _ _ _ _) ?_
                      refine V_iincN (a := i3) (ls1 := [some (.ref (w.2.1 85)), some (.int (nI (i3 + 1))), none, none]) C dX10_judges_172 rfl (by decide) rfl ?_
                      refine V_goto (tgt := 122) C dX10_judges_175 (by decide) ?_
                      exact ih122 (i3 + 1) (upd (V3) i3 (V3 i3)) (by omega) (by omega) ((judge_fin (by omega) hA hB hC (by first | exact Or.inl ⟨rfl, by assumption, by assumption, by assumption⟩ | exact Or.inr ⟨rfl, Or.inl (by assumption)⟩ | exact Or.inr ⟨rfl, Or.inr (Or.inl (by assumption))⟩ | exact Or.inr ⟨rfl, Or.inr (Or.inr (by assumption))⟩)).1) ((judge_fin (by omega) hA hB hC (by first | exact Or.inl ⟨rfl, by assumption, by assumption, by assumption⟩ | exact Or.inr ⟨rfl, Or.inl (by assumption)⟩ | exact Or.inr ⟨rfl, Or.inr (Or.inl (by assumption))⟩ | exact Or.inr ⟨rfl, Or.inr (Or.inr (by assumption))⟩)).2.1) ((judge_fin (by omega) hA hB hC (by first | exact Or.inl ⟨rfl, by assumption, by assumption, by assumption⟩ | exact Or.inr ⟨rfl, Or.inl (by assumption)⟩ | exact Or.inr ⟨rfl, Or.inr (Or.inl (by assumption))⟩ | exact Or.inr ⟨rfl, Or.inr (Or.inr (by assumption))⟩)).2.2)
                    · refine V_aload_n C dX10_judges_144 rfl ?_
                      refine V_getr C fl_X10_26 dX10_judges_145 (by decide) sh_85 rfl ?_
                      refine V_iload_n C dX10_judges_148 rfl ?_
                      refine V_ialdN (p0 := 90) (o := i3) (v := X 90 i3) C dX10_judges_149 sh_90 (by decide) (by omega) (by decide) rfl ?_
                      refine V_if_eq (x := X 90 i3) (tgt := 165) C dX10_judges_150 (by decide) (fun h150_5 => ?_) (fun h150_5 => ?_)
                      · refine V_aload_n C dX10_judges_165 rfl ?_
                        refine V_getr C fl_X10_78 dX10_judges_166 (by decide) sh_85 rfl ?_
                        refine V_iload_n C dX10_judges_169 rfl ?_
                        refine V_ialdN (p0 := 107) (o := i3) (v := V3 i3) C dX10_judges_170 sh_107 (by decide) (by omega) (by decide) rfl ?_
                        refine V_iastN (p0 := 107) (o := i3) (X1 := (ma X 107 (upd (V3) i3 (V3 i3)))) C dX10_judges_171 sh_107 (by decide) (by omega) (by decide) (ma_ma _ _ _ _) ?_
                        refine V_iincN (a := i3) (ls1 := [some (.ref (w.2.1 85)), some (.int (nI (i3 + 1))), none, none]) C dX10_judges_172 rfl (by decide) rfl ?_
                        refine V_goto (tgt := 122) C dX10_judges_175 (by decide) ?_
                        exact ih122 (i3 + 1) (upd (V3) i3 (V3 i3)) (by omega) (by omega) ((judge_fin (by omega) hA hB hC (by first | exact Or.inl ⟨rfl, by assumption, by assumption, by assumption⟩ | exact Or.inr ⟨rfl, Or.inl (by assumption)⟩ | exact Or.inr ⟨rfl, Or.inr (Or.inl (by assumption))⟩ | exact Or.inr ⟨rfl, Or.inr (Or.inr (by assumption))⟩)).1) ((judge_fin (by omega) hA hB hC (by first | exact Or.inl ⟨rfl, by assumption, by assumption, by assumption⟩ | exact Or.inr ⟨rfl, Or.inl (by assumption)⟩ | exact Or.inr ⟨rfl, Or.inr (Or.inl (by assumption))⟩ | exact Or.inr ⟨rfl, Or.inr (Or.inr (by assumption))⟩)).2.1) ((judge_fin (by omega) hA hB hC (by first | exact Or.inl ⟨rfl, by assumption, by assumption, by assumption⟩ | exact Or.inr ⟨rfl, Or.inl (by assumption)⟩ | exact Or.inr ⟨rfl, Or.inr (Or.inl (by assumption))⟩ | exact Or.inr ⟨rfl, Or.inr (Or.inr (by assumption))⟩)).2.2)
                      · refine V_aload_n C dX10_judges_153 rfl ?_
                        refine V_iload_n C dX10_judges_154 rfl ?_
                        refine V_callVI C [.int (nI i3)] mi_X10_173 (k_X10_isOutside w l i3 (ma X 107 V3) h n hO hG hn (by omega)) dX10_judges_155 sh_85 (by decide) rfl rfl rfl (Nat.le_of_ble_eq_true rfl) (Nat.le_of_ble_eq_true rfl) (Nat.le_of_ble_eq_true rfl) ⟨Nat.le_refl _, Nat.le_refl _⟩ (fun v6 X6 q6 => ?_)
                        obtain ⟨hb6, eX6⟩ := q6; subst X6
                        try simp (disch := decide) only [oC_ma, gC_ma, oM_ma, gM_ma, ma_eq, ma_ne] at hb6
                        refine V_if_eqB (tgt := 165) C hb6 dX10_judges_158 (by decide) (fun h158_7 => ?_) (fun h158_7 => ?_)
                        · refine V_aload_n C dX10_judges_165 rfl ?_
                          refine V_getr C fl_X10_78 dX10_judges_166 (by decide) sh_85 rfl ?_
                          refine V_iload_n C dX10_judges_169 rfl ?_
                          refine V_ialdN (p0 := 107) (o := i3) (v := V3 i3) C dX10_judges_170 sh_107 (by decide) (by omega) (by decide) rfl ?_
                          refine V_iastN (p0 := 107) (o := i3) (X1 := (ma X 107 (upd (V3) i3 (V3 i3)))) C dX10_judges_171 sh_107 (by decide) (by omega) (by decide) (ma_ma _ _ _ _) ?_
                          refine V_iincN (a := i3) (ls1 := [some (.ref (w.2.1 85)), some (.int (nI (i3 + 1))), none, none]) C dX10_judges_172 rfl (by decide) rfl ?_
                          refine V_goto (tgt := 122) C dX10_judges_175 (by decide) ?_
                          exact ih122 (i3 + 1) (upd (V3) i3 (V3 i3)) (by omega) (by omega) ((judge_fin (by omega) hA hB hC (by first | exact Or.inl ⟨rfl, by assumption, by assumption, by assumption⟩ | exact Or.inr ⟨rfl, Or.inl (by assumption)⟩ | exact Or.inr ⟨rfl, Or.inr (Or.inl (by assumption))⟩ | exact Or.inr ⟨rfl, Or.inr (Or.inr (by assumption))⟩)).1) ((judge_fin (by omega) hA hB hC (by first | exact Or.inl ⟨rfl, by assumption, by assumption, by assumption⟩ | exact Or.inr ⟨rfl, Or.inl (by assumption)⟩ | exact Or.inr ⟨rfl, Or.inr (Or.inl (by assumption))⟩ | exact Or.inr ⟨rfl, Or.inr (Or.inr (by assumption))⟩)).2.1) ((judge_fin (by omega) hA hB hC (by first | exact Or.inl ⟨rfl, by assumption, by assumption, by assumption⟩ | exact Or.inr ⟨rfl, Or.inl (by assumption)⟩ | exact Or.inr ⟨rfl, Or.inr (Or.inl (by assumption))⟩ | exact Or.inr ⟨rfl, Or.inr (Or.inr (by assumption))⟩)).2.2)
                        · refine V_iconst (v := (5 : Int32)) C dX10_judges_161 (by decide) ?_
                          refine V_goto (tgt := 171) C dX10_judges_162 (by decide) ?_
                          refine V_iastN (p0 := 107) (o := i3) (X1 := (ma X 107 (upd (V3) i3 (5 : Int32)))) C dX10_judges_171 sh_107 (by decide) (by omega) (by decide) (ma_ma _ _ _ _) ?_
                          refine V_iincN (a := i3) (ls1 := [some (.ref (w.2.1 85)), some (.int (nI (i3 + 1))), none, none]) C dX10_judges_172 rfl (by decide) rfl ?_
                          refine V_goto (tgt := 122) C dX10_judges_175 (by decide) ?_
                          exact ih122 (i3 + 1) (upd (V3) i3 (5 : Int32)) (by omega) (by omega) ((judge_fin (by omega) hA hB hC (by first | exact Or.inl ⟨rfl, by assumption, by assumption, by assumption⟩ | exact Or.inr ⟨rfl, Or.inl (by assumption)⟩ | exact Or.inr ⟨rfl, Or.inr (Or.inl (by assumption))⟩ | exact Or.inr ⟨rfl, Or.inr (Or.inr (by assumption))⟩)).1) ((judge_fin (by omega) hA hB hC (by first | exact Or.inl ⟨rfl, by assumption, by assumption, by assumption⟩ | exact Or.inr ⟨rfl, Or.inl (by assumption)⟩ | exact Or.inr ⟨rfl, Or.inr (Or.inl (by assumption))⟩ | exact Or.inr ⟨rfl, Or.inr (Or.inr (by assumption))⟩)).2.1) ((judge_fin (by omega) hA hB hC (by first | exact Or.inl ⟨rfl, by assumption, by assumption, by assumption⟩ | exact Or.inr ⟨rfl, Or.inl (by assumption)⟩ | exact Or.inr ⟨rfl, Or.inr (Or.inl (by assumption))⟩ | exact Or.inr ⟨rfl, Or.inr (Or.inr (by assumption))⟩)).2.2)
              exact L122 _ 0 V1 (Nat.lt_succ_self _) (by omega) (by intro o h1 h2; obtain ⟨a, ha, ea⟩ := (hO.2 o h1).2.2.1 h2; exact hV1 o a h1 (by omega) ⟨h2, ea⟩) (fun o h => absurd h (Nat.not_lt_zero _)) (fun o _ h1 => hF1 o h1)
            · refine V_iconst (v := (0 : Int32)) C dX10_judges_50 (by decide) ?_
              refine V_istore_n (ls1 := [some (.ref (w.2.1 85)), some (.int (nI c0)), some (.int (0 : Int32)), none]) C dX10_judges_51 (by decide) rfl ?_
              have L52 : ∀ (fu : Nat) (i2 : Nat) (V2 : Nat → Int32), n - i2 < fu → (i2 ≤ n) → (∀ o, o < i2 → GrantTo (oM X) o (nI c0) → JR (oM X) (gM X) V2 n (X 85 1) o (V2 o)) → (∀ o, ¬ (o < i2 ∧ GrantTo (oM X) o (nI c0)) → V2 o = V1 o) → V p l e ({ frames := 4, cells := 0, slots := 0, locals := 89 } : Room) s m (#[.ref (w.2.1 85)] : Array Value) below meth c w 4 0 0 (EU w below s (#[.ref (w.2.1 85)] : Array Value) 0 0 (q_X10_judges X h n)) 52 [some (.ref (w.2.1 85)), some (.int (nI c0)), some (.int (nI i2)), none] [] (ma X 107 V2) := by
                intro fu
                induction fu with
                | zero => intro i2 V2 hm; exact absurd hm (Nat.not_lt_zero _)
                | succ fu ih52 =>
                  intro i2 V2 hm52 hi2 hV2 hU2
                  refine V_iload_n C dX10_judges_52 rfl ?_
                  refine V_aload_n C dX10_judges_53 rfl ?_
                  refine V_geti C fl_X10_112 dX10_judges_54 (by decide) sh_85 rfl ?_
                  refine V_eqi (y := X 85 17) rfl ?_
                  refine V_eqi (y := nI n) hn ?_
                  refine V_icmp_geN (a := i2) (b := n) (tgt := 114) C dX10_judges_57 (by decide) (by omega) (by omega) (fun h57_8 => ?_) (fun h57_8 => ?_)
                  · refine V_iincN (a := c0) (ls1 := [some (.ref (w.2.1 85)), some (.int (nI (c0 + 1))), some (.int (nI i2)), none]) C dX10_judges_114 rfl (by decide) rfl ?_
                    refine V_goto (tgt := 42) C dX10_judges_117 (by decide) ?_
                    refine V_kill (i := 2) (ls1 := [some (.ref (w.2.1 85)), some (.int (nI (c0 + 1))), none, none]) rfl ?_
                    exact ih42 (c0 + 1) V2 (by omega) (by omega) (judge_step2 hG hO (by omega) hV1 (fun o h1 => hV2 o (by omega)) (fun o h1 => hU2 o (fun q => h1 ⟨by omega, q.2⟩))) (fun o h1 h2 => (hU2 o (fun q => h2 q.2.1)).trans (hF1 o h1 h2))
                  · refine V_aload_n C dX10_judges_60 rfl ?_
                    refine V_getr C fl_X10_26 dX10_judges_61 (by decide) sh_85 rfl ?_
                    refine V_iload_n C dX10_judges_64 rfl ?_
                    refine V_ialdN (p0 := 90) (o := i2) (v := X 90 i2) C dX10_judges_65 sh_90 (by decide) (by omega) (by decide) rfl ?_
                    refine V_if_ne (x := X 90 i2) (tgt := 108) C dX10_judges_66 (by decide) (fun h66_9 => ?_) (fun h66_9 => ?_)
                    · refine V_iincN (a := i2) (ls1 := [some (.ref (w.2.1 85)), some (.int (nI c0)), some (.int (nI (i2 + 1))), none]) C dX10_judges_108 rfl (by decide) rfl ?_
                      refine V_goto (tgt := 52) C dX10_judges_111 (by decide) ?_
                      exact ih52 (i2 + 1) V2 (by omega) (by omega) (by intro o h1 h2; rcases lt_succ_or.mp h1 with h1 | rfl; exact hV2 o h1 h2; exact absurd h2 (by simp_all [GrantTo, oM, kd, whm])) (by intro o h1; refine hU2 o (fun q => h1 ⟨by omega, q.2⟩))
                    · refine V_aload_n C dX10_judges_69 rfl ?_
                      refine V_getr C fl_X10_32 dX10_judges_70 (by decide) sh_85 rfl ?_
                      refine V_iload_n C dX10_judges_73 rfl ?_
                      refine V_ialdN (p0 := 92) (o := i2) (v := X 92 i2) C dX10_judges_74 sh_92 (by decide) (by omega) (by decide) rfl ?_
                      refine V_iload_n C dX10_judges_75 rfl ?_
                      refine V_icmp_ne (x := X 92 i2) (y := nI c0) (tgt := 108) C dX10_judges_76 (by decide) (fun h76_10 => ?_) (fun h76_10 => ?_)
                      · refine V_iincN (a := i2) (ls1 := [some (.ref (w.2.1 85)), some (.int (nI c0)), some (.int (nI (i2 + 1))), none]) C dX10_judges_108 rfl (by decide) rfl ?_
                        refine V_goto (tgt := 52) C dX10_judges_111 (by decide) ?_
                        exact ih52 (i2 + 1) V2 (by omega) (by omega) (by intro o h1 h2; rcases lt_succ_or.mp h1 with h1 | rfl; exact hV2 o h1 h2; exact absurd h2 (by simp_all [GrantTo, oM, kd, whm])) (by intro o h1; refine hU2 o (fun q => h1 ⟨by omega, q.2⟩))
                      · refine V_aload_n C dX10_judges_79 rfl ?_
                        refine V_iload_n C dX10_judges_80 rfl ?_
                        refine V_callVI C [.int (nI i2)] mi_X10_170 (k_X10_simply w l i2 (ma X 107 V2) h n hO hG hn (by omega)) dX10_judges_81 sh_85 (by decide) rfl rfl rfl (Nat.le_of_ble_eq_true rfl) (Nat.le_of_ble_eq_true rfl) (Nat.le_of_ble_eq_true rfl) ⟨Nat.le_refl _, Nat.le_refl _⟩ (fun v11 X11 q11 => ?_)
                        obtain ⟨ev11, eX11⟩ := q11; subst X11
                        try simp (disch := decide) only [oC_ma, gC_ma, oM_ma, gM_ma, ma_eq, ma_ne] at ev11
                        subst v11
                        refine V_istore_n (ls1 := [some (.ref (w.2.1 85)), some (.int (nI c0)), some (.int (nI i2)), some (.int (faultS (oM X) (gM X) (X 85 1) i2))]) C dX10_judges_84 (by decide) rfl ?_
                        refine V_aload_n C dX10_judges_85 rfl ?_
                        refine V_getr C fl_X10_78 dX10_judges_86 (by decide) sh_85 rfl ?_
                        refine V_iload_n C dX10_judges_89 rfl ?_
                        refine V_iload_n C dX10_judges_90 rfl ?_
                        refine V_if_ne (x := faultS (oM X) (gM X) (X 85 1) i2) (tgt := 106) C dX10_judges_91 (by decide) (fun h91_12 => ?_) (fun h91_12 => ?_)
                        · refine V_iload_n C dX10_judges_106 rfl ?_
                          refine V_iastN (p0 := 107) (o := i2) (X1 := (ma X 107 (upd (V2) i2 (faultS (oM X) (gM X) (X 85 1) i2)))) C dX10_judges_107 sh_107 (by decide) (by omega) (by decide) (ma_ma _ _ _ _) ?_
                          refine V_iincN (a := i2) (ls1 := [some (.ref (w.2.1 85)), some (.int (nI c0)), some (.int (nI (i2 + 1))), some (.int (faultS (oM X) (gM X) (X 85 1) i2))]) C dX10_judges_108 rfl (by decide) rfl ?_
                          refine V_goto (tgt := 52) C dX10_judges_111 (by decide) ?_
                          refine V_kill (i := 3) (ls1 := [some (.ref (w.2.1 85)), some (.int (nI c0)), some (.int (nI (i2 + 1))), none]) rfl ?_
                          exact ih52 (i2 + 1) (upd (V2) i2 (faultS (oM X) (gM X) (X 85 1) i2)) (by omega) (by omega) (judge_step1 hG hO (by omega) (by omega) ⟨by assumption, by assumption⟩ hV2 (by first | exact Or.inr (Or.inl ⟨by assumption, by assumption, rfl⟩) | exact Or.inl ⟨by assumption, rfl⟩ | exact Or.inr (Or.inr ⟨by assumption, by assumption, by assumption⟩))) (by intro o h1; by_cases e : o = i2; subst e; exact absurd ⟨by omega, ⟨by assumption, by assumption⟩⟩ h1; rw [upd_ne e]; exact hU2 o (fun q => h1 ⟨by omega, q.2⟩))
                        · refine V_aload_n C dX10_judges_94 rfl ?_
                          refine V_iload_n C dX10_judges_95 rfl ?_
                          refine V_callVI C [.int (nI i2)] mi_X10_173 (k_X10_isOutside w l i2 (ma X 107 V2) h n hO hG hn (by omega)) dX10_judges_96 sh_85 (by decide) rfl rfl rfl (Nat.le_of_ble_eq_true rfl) (Nat.le_of_ble_eq_true rfl) (Nat.le_of_ble_eq_true rfl) ⟨Nat.le_refl _, Nat.le_refl _⟩ (fun v13 X13 q13 => ?_)
                          obtain ⟨hb13, eX13⟩ := q13; subst X13
                          try simp (disch := decide) only [oC_ma, gC_ma, oM_ma, gM_ma, ma_eq, ma_ne] at hb13
                          refine V_if_eqB (tgt := 106) C hb13 dX10_judges_99 (by decide) (fun h99_14 => ?_) (fun h99_14 => ?_)
                          · refine V_iload_n C dX10_judges_106 rfl ?_
                            refine V_iastN (p0 := 107) (o := i2) (X1 := (ma X 107 (upd (V2) i2 (faultS (oM X) (gM X) (X 85 1) i2)))) C dX10_judges_107 sh_107 (by decide) (by omega) (by decide) (ma_ma _ _ _ _) ?_
                            refine V_iincN (a := i2) (ls1 := [some (.ref (w.2.1 85)), some (.int (nI c0)), some (.int (nI (i2 + 1))), some (.int (faultS (oM X) (gM X) (X 85 1) i2))]) C dX10_judges_108 rfl (by decide) rfl ?_
                            refine V_goto (tgt := 52) C dX10_judges_111 (by decide) ?_
                            refine V_kill (i := 3) (ls1 := [some (.ref (w.2.1 85)), some (.int (nI c0)), some (.int (nI (i2 + 1))), none]) rfl ?_
                            exact ih52 (i2 + 1) (upd (V2) i2 (faultS (oM X) (gM X) (X 85 1) i2)) (by omega) (by omega) (judge_step1 hG hO (by omega) (by omega) ⟨by assumption, by assumption⟩ hV2 (by first | exact Or.inr (Or.inl ⟨by assumption, by assumption, rfl⟩) | exact Or.inl ⟨by assumption, rfl⟩ | exact Or.inr (Or.inr ⟨by assumption, by assumption, by assumption⟩))) (by intro o h1; by_cases e : o = i2; subst e; exact absurd ⟨by omega, ⟨by assumption, by assumption⟩⟩ h1; rw [upd_ne e]; exact hU2 o (fun q => h1 ⟨by omega, q.2⟩))
                          · refine V_iconst (v := (5 : Int32)) C dX10_judges_102 (by decide) ?_
                            refine V_goto (tgt := 107) C dX10_judges_103 (by decide) ?_
                            refine V_iastN (p0 := 107) (o := i2) (X1 := (ma X 107 (upd (V2) i2 (5 : Int32)))) C dX10_judges_107 sh_107 (by decide) (by omega) (by decide) (ma_ma _ _ _ _) ?_
                            refine V_iincN (a := i2) (ls1 := [some (.ref (w.2.1 85)), some (.int (nI c0)), some (.int (nI (i2 + 1))), some (.int (faultS (oM X) (gM X) (X 85 1) i2))]) C dX10_judges_108 rfl (by decide) rfl ?_
                            refine V_goto (tgt := 52) C dX10_judges_111 (by decide) ?_
                            refine V_kill (i := 3) (ls1 := [some (.ref (w.2.1 85)), some (.int (nI c0)), some (.int (nI (i2 + 1))), none]) rfl ?_
                            exact ih52 (i2 + 1) (upd (V2) i2 (5 : Int32)) (by omega) (by omega) (judge_step1 hG hO (by omega) (by omega) ⟨by assumption, by assumption⟩ hV2 (by first | exact Or.inr (Or.inl ⟨by assumption, by assumption, rfl⟩) | exact Or.inl ⟨by assumption, rfl⟩ | exact Or.inr (Or.inr ⟨by assumption, by assumption, by assumption⟩))) (by intro o h1; by_cases e : o = i2; subst e; exact absurd ⟨by omega, ⟨by assumption, by assumption⟩⟩ h1; rw [upd_ne e]; exact hU2 o (fun q => h1 ⟨by omega, q.2⟩))
              exact L52 _ 0 V1 (Nat.lt_succ_self _) (by omega) (fun o h => absurd h (Nat.not_lt_zero _)) (fun _ _ => rfl)
        exact L42 _ 0 V0 (Nat.lt_succ_self _) (by omega) (fun o b _ h => absurd h (Nat.not_lt_zero _)) (fun o h1 => hF o (by omega))
      · refine V_aload_n C dX10_judges_10 rfl ?_
        refine V_getr C fl_X10_78 dX10_judges_11 (by decide) sh_85 rfl ?_
        refine V_iload_n C dX10_judges_14 rfl ?_
        refine V_aload_n C dX10_judges_15 rfl ?_
        refine V_getr C fl_X10_26 dX10_judges_16 (by decide) sh_85 rfl ?_
        refine V_iload_n C dX10_judges_19 rfl ?_
        refine V_ialdN (p0 := 90) (o := i) (v := X 90 i) C dX10_judges_20 sh_90 (by decide) (by omega) (by decide) rfl ?_
        refine V_if_ne (x := X 90 i) (tgt := 28) C dX10_judges_21 (by decide) (fun h21_15 => ?_) (fun h21_15 => ?_)
        · refine V_aload_n C dX10_judges_28 rfl ?_
          refine V_iload_n C dX10_judges_29 rfl ?_
          refine V_callVI C [.int (nI i)] mi_X10_170 (k_X10_simply w l i (ma X 107 V0) h n hO hG hn (by omega)) dX10_judges_30 sh_85 (by decide) rfl rfl rfl (Nat.le_of_ble_eq_true rfl) (Nat.le_of_ble_eq_true rfl) (Nat.le_of_ble_eq_true rfl) ⟨Nat.le_refl _, Nat.le_refl _⟩ (fun v16 X16 q16 => ?_)
          obtain ⟨ev16, eX16⟩ := q16; subst X16
          try simp (disch := decide) only [oC_ma, gC_ma, oM_ma, gM_ma, ma_eq, ma_ne] at ev16
          subst v16
          refine V_iastN (p0 := 107) (o := i) (X1 := (ma X 107 (upd (V0) i (faultS (oM X) (gM X) (X 85 1) i)))) C dX10_judges_33 sh_107 (by decide) (by omega) (by decide) (ma_ma _ _ _ _) ?_
          refine V_iincN (a := i) (ls1 := [some (.ref (w.2.1 85)), some (.int (nI (i + 1))), none, none]) C dX10_judges_34 rfl (by decide) rfl ?_
          refine V_goto (tgt := 2) C dX10_judges_37 (by decide) ?_
          exact ih2 (i + 1) (upd (V0) i (faultS (oM X) (gM X) (X 85 1) i)) (by omega) (by omega) (by intro o h1 h2; rcases lt_succ_or.mp h1 with h1 | rfl; rw [upd_ne (by omega)]; exact hF o h1 h2; rw [upd_eq]; try (first | rfl | exact absurd (by assumption) h2))
        · refine V_iconst (v := (5 : Int32)) C dX10_judges_24 (by decide) ?_
          refine V_goto (tgt := 33) C dX10_judges_25 (by decide) ?_
          refine V_iastN (p0 := 107) (o := i) (X1 := (ma X 107 (upd (V0) i (5 : Int32)))) C dX10_judges_33 sh_107 (by decide) (by omega) (by decide) (ma_ma _ _ _ _) ?_
          refine V_iincN (a := i) (ls1 := [some (.ref (w.2.1 85)), some (.int (nI (i + 1))), none, none]) C dX10_judges_34 rfl (by decide) rfl ?_
          refine V_goto (tgt := 2) C dX10_judges_37 (by decide) ?_
          exact ih2 (i + 1) (upd (V0) i (5 : Int32)) (by omega) (by omega) (by intro o h1 h2; rcases lt_succ_or.mp h1 with h1 | rfl; rw [upd_ne (by omega)]; exact hF o h1 h2; rw [upd_eq]; try (first | rfl | exact absurd (by assumption) h2))
  refine V_eqX (X1 := (ma X 107 (X 107))) (ma_id rfl) ?_
  exact L2 _ 0 (X 107) (Nat.lt_succ_self _) (by omega) (fun o h => absurd h (Nat.not_lt_zero _))
def q_X10_stands (net : Int32) (v : Int32) (b : Int32) (X : Mem) (n : Nat) : Int32 → Mem → Prop := fun r X' => StR (oM X) (X 107) n net v b r ∧ X' = X
set_option maxHeartbeats 4000000 in
set_option maxRecDepth 100000 in
theorem k_X10_stands (w : Wt) (l : Launch) (net : Int32) (v : Int32) (b : Int32) (X : Mem) (n : Nat) (hn : X 85 17 = nI n) (n50 : n ≤ 50) : CtI w l yX10_stands cX10_stands 6 (some .int) 2 43 [.ref (w.2.1 85), .int net, .int v, .int b] X (q_X10_stands net v b X n) := by
  refine CtI_of (by decide +kernel) (Nat.le_of_ble_eq_true rfl) (List.forall_mem_cons.mpr ⟨rfl, (List.forall_mem_cons.mpr ⟨rfl, (List.forall_mem_cons.mpr ⟨rfl, (List.forall_mem_cons.mpr ⟨rfl, (fun _ h => nomatch h)⟩)⟩)⟩)⟩) (ls := [some (.ref (w.2.1 85)), some (.int net), some (.int v), some (.int b), none, none]) rfl (args := (#[.ref (w.2.1 85), .int net, .int v, .int b] : Array Value)) rfl (own := RX10) rfl ?_
  intro p e s m below meth c C
  refine V_iconst (v := (0 : Int32)) C dX10_stands_0 (by decide) ?_
  refine V_istore (ls1 := [some (.ref (w.2.1 85)), some (.int net), some (.int v), some (.int b), some (.int (0 : Int32)), none]) C dX10_stands_1 (by decide) rfl ?_
  refine V_iconst (v := (0 : Int32)) C dX10_stands_3 (by decide) ?_
  refine V_istore (ls1 := [some (.ref (w.2.1 85)), some (.int net), some (.int v), some (.int b), some (.int (0 : Int32)), some (.int (0 : Int32))]) C dX10_stands_4 (by decide) rfl ?_
  have L6 : ∀ (fu : Nat) (i : Nat) (st : Int32), n - i < fu → (i ≤ n) → (StR (oM X) (X 107) i net v b st) → V p l e ({ frames := 2, cells := 0, slots := 0, locals := 43 } : Room) s m (#[.ref (w.2.1 85), .int net, .int v, .int b] : Array Value) below meth c w 6 0 0 (EI w below s (#[.ref (w.2.1 85), .int net, .int v, .int b] : Array Value) 0 0 (q_X10_stands net v b X n)) 6 [some (.ref (w.2.1 85)), some (.int net), some (.int v), some (.int b), some (.int st), some (.int (nI i))] [] X := by
    intro fu
    induction fu with
    | zero => intro i st hm; exact absurd hm (Nat.not_lt_zero _)
    | succ fu ih6 =>
      intro i st hm6 hi hs
      refine V_iload C dX10_stands_6 rfl ?_
      refine V_aload_n C dX10_stands_8 rfl ?_
      refine V_geti C fl_X10_112 dX10_stands_9 (by decide) sh_85 rfl ?_
      refine V_eqi (y := nI n) hn ?_
      refine V_icmp_geN (a := i) (b := n) (tgt := 99) C dX10_stands_12 (by decide) (by omega) (by omega) (fun h12_1 => ?_) (fun h12_1 => ?_)
      · refine V_iload C dX10_stands_99 rfl ?_
        exact V_ireturnI C dX10_stands_101 ⟨StR_done hs hi (by first | exact Or.inl (by assumption) | exact Or.inr (by assumption)), rfl⟩
      · refine V_iload C dX10_stands_15 rfl ?_
        refine V_iconst (v := (1 : Int32)) C dX10_stands_17 (by decide) ?_
        refine V_icmp_eq (x := st) (y := (1 : Int32)) (tgt := 99) C dX10_stands_18 (by decide) (fun h18_2 => ?_) (fun h18_2 => ?_)
        · refine V_iload C dX10_stands_99 rfl ?_
          exact V_ireturnI C dX10_stands_101 ⟨StR_done hs hi (by first | exact Or.inl (by assumption) | exact Or.inr (by assumption)), rfl⟩
        · refine V_aload_n C dX10_stands_21 rfl ?_
          refine V_getr C fl_X10_26 dX10_stands_22 (by decide) sh_85 rfl ?_
          refine V_iload C dX10_stands_25 rfl ?_
          refine V_ialdN (p0 := 90) (o := i) (v := X 90 i) C dX10_stands_27 sh_90 (by decide) (by omega) (by decide) rfl ?_
          refine V_iconst (v := (1 : Int32)) C dX10_stands_28 (by decide) ?_
          refine V_icmp_ne (x := X 90 i) (y := (1 : Int32)) (tgt := 93) C dX10_stands_29 (by decide) (fun h29_3 => ?_) (fun h29_3 => ?_)
          · refine V_iincN (a := i) (ls1 := [some (.ref (w.2.1 85)), some (.int net), some (.int v), some (.int b), some (.int st), some (.int (nI (i + 1)))]) C dX10_stands_93 rfl (by decide) rfl ?_
            refine V_goto (tgt := 6) C dX10_stands_96 (by decide) ?_
            exact ih6 (i + 1) st (by omega) (by omega) (StR_skip hs (by simp_all [CovO, ValO, oM, kd, vlu, len, whm, ext, ← Int32.not_lt]))
          · refine V_aload_n C dX10_stands_32 rfl ?_
            refine V_getr C fl_X10_78 dX10_stands_33 (by decide) sh_85 rfl ?_
            refine V_iload C dX10_stands_36 rfl ?_
            refine V_ialdN (p0 := 107) (o := i) (v := X 107 i) C dX10_stands_38 sh_107 (by decide) (by omega) (by decide) rfl ?_
            refine V_if_ne (x := X 107 i) (tgt := 93) C dX10_stands_39 (by decide) (fun h39_4 => ?_) (fun h39_4 => ?_)
            · refine V_iincN (a := i) (ls1 := [some (.ref (w.2.1 85)), some (.int net), some (.int v), some (.int b), some (.int st), some (.int (nI (i + 1)))]) C dX10_stands_93 rfl (by decide) rfl ?_
              refine V_goto (tgt := 6) C dX10_stands_96 (by decide) ?_
              exact ih6 (i + 1) st (by omega) (by omega) (StR_skip hs (by simp_all [CovO, ValO, oM, kd, vlu, len, whm, ext, ← Int32.not_lt]))
            · refine V_iload_n C dX10_stands_42 rfl ?_
              refine V_iload_n C dX10_stands_43 rfl ?_
              refine V_aload_n C dX10_stands_44 rfl ?_
              refine V_getr C fl_X10_35 dX10_stands_45 (by decide) sh_85 rfl ?_
              refine V_iload C dX10_stands_48 rfl ?_
              refine V_ialdN (p0 := 93) (o := i) (v := X 93 i) C dX10_stands_50 sh_93 (by decide) (by omega) (by decide) rfl ?_
              refine V_aload_n C dX10_stands_51 rfl ?_
              refine V_getr C fl_X10_38 dX10_stands_52 (by decide) sh_85 rfl ?_
              refine V_iload C dX10_stands_55 rfl ?_
              refine V_ialdN (p0 := 94) (o := i) (v := X 94 i) C dX10_stands_57 sh_94 (by decide) (by omega) (by decide) rfl ?_
              refine V_callSI C [.int v, .int b, .int (X 93 i), .int (X 94 i)] ms_X10_160 (k_X10_lies w l v b (X 93 i) (X 94 i) X ) dX10_stands_58 rfl rfl (Nat.le_of_ble_eq_true rfl) (Nat.le_of_ble_eq_true rfl) (Nat.le_of_ble_eq_true rfl) ⟨Nat.le_refl _, Nat.le_refl _⟩ (fun v5 X5 q5 => ?_)
              obtain ⟨hb5, eX5⟩ := q5; subst X5
              refine V_if_eqB (tgt := 93) C hb5 dX10_stands_61 (by decide) (fun h61_6 => ?_) (fun h61_6 => ?_)
              · refine V_iincN (a := i) (ls1 := [some (.ref (w.2.1 85)), some (.int net), some (.int v), some (.int b), some (.int st), some (.int (nI (i + 1)))]) C dX10_stands_93 rfl (by decide) rfl ?_
                refine V_goto (tgt := 6) C dX10_stands_96 (by decide) ?_
                exact ih6 (i + 1) st (by omega) (by omega) (StR_skip hs (by simp_all [CovO, ValO, oM, kd, vlu, len, whm, ext, ← Int32.not_lt]))
              · refine V_aload_n C dX10_stands_64 rfl ?_
                refine V_getr C fl_X10_32 dX10_stands_65 (by decide) sh_85 rfl ?_
                refine V_iload C dX10_stands_68 rfl ?_
                refine V_ialdN (p0 := 92) (o := i) (v := X 92 i) C dX10_stands_70 sh_92 (by decide) (by omega) (by decide) rfl ?_
                refine V_iload_n C dX10_stands_71 rfl ?_
                refine V_icmp_ne (x := X 92 i) (y := net) (tgt := 90) C dX10_stands_72 (by decide) (fun h72_7 => ?_) (fun h72_7 => ?_)
                · refine V_iconst (v := (2 : Int32)) C dX10_stands_90 (by decide) ?_
                  refine V_istore (ls1 := [some (.ref (w.2.1 85)), some (.int net), some (.int v), some (.int b), some (.int (2 : Int32)), some (.int (nI i))]) C dX10_stands_91 (by decide) rfl ?_
                  refine V_iincN (a := i) (ls1 := [some (.ref (w.2.1 85)), some (.int net), some (.int v), some (.int b), some (.int (2 : Int32)), some (.int (nI (i + 1)))]) C dX10_stands_93 rfl (by decide) rfl ?_
                  refine V_goto (tgt := 6) C dX10_stands_96 (by decide) ?_
                  exact ih6 (i + 1) (2 : Int32) (by omega) (by omega) (StR_inv hs (by assumption) (by simp_all [CovO, ValO, oM, kd, vlu, len, whm, ext, ← Int32.not_lt]) (by simp_all [CovO, ValO, oM, kd, vlu, len, whm, ext, ← Int32.not_lt]))
                · refine V_iload_n C dX10_stands_75 rfl ?_
                  refine V_aload_n C dX10_stands_76 rfl ?_
                  refine V_getr C fl_X10_41 dX10_stands_77 (by decide) sh_85 rfl ?_
                  refine V_iload C dX10_stands_80 rfl ?_
                  refine V_ialdN (p0 := 95) (o := i) (v := X 95 i) C dX10_stands_82 sh_95 (by decide) (by omega) (by decide) rfl ?_
                  refine V_icmp_gt (x := b) (y := X 95 i) (tgt := 90) C dX10_stands_83 (by decide) (fun h83_8 => ?_) (fun h83_8 => ?_)
                  · refine V_iconst (v := (2 : Int32)) C dX10_stands_90 (by decide) ?_
                    refine V_istore (ls1 := [some (.ref (w.2.1 85)), some (.int net), some (.int v), some (.int b), some (.int (2 : Int32)), some (.int (nI i))]) C dX10_stands_91 (by decide) rfl ?_
                    refine V_iincN (a := i) (ls1 := [some (.ref (w.2.1 85)), some (.int net), some (.int v), some (.int b), some (.int (2 : Int32)), some (.int (nI (i + 1)))]) C dX10_stands_93 rfl (by decide) rfl ?_
                    refine V_goto (tgt := 6) C dX10_stands_96 (by decide) ?_
                    exact ih6 (i + 1) (2 : Int32) (by omega) (by omega) (StR_inv hs (by assumption) (by simp_all [CovO, ValO, oM, kd, vlu, len, whm, ext, ← Int32.not_lt]) (by simp_all [CovO, ValO, oM, kd, vlu, len, whm, ext, ← Int32.not_lt]))
                  · refine V_iconst (v := (1 : Int32)) C dX10_stands_86 (by decide) ?_
                    refine V_goto (tgt := 91) C dX10_stands_87 (by decide) ?_
                    refine V_istore (ls1 := [some (.ref (w.2.1 85)), some (.int net), some (.int v), some (.int b), some (.int (1 : Int32)), some (.int (nI i))]) C dX10_stands_91 (by decide) rfl ?_
                    refine V_iincN (a := i) (ls1 := [some (.ref (w.2.1 85)), some (.int net), some (.int v), some (.int b), some (.int (1 : Int32)), some (.int (nI (i + 1)))]) C dX10_stands_93 rfl (by decide) rfl ?_
                    refine V_goto (tgt := 6) C dX10_stands_96 (by decide) ?_
                    exact ih6 (i + 1) (1 : Int32) (by omega) (by omega) (StR_val (by simp_all [CovO, ValO, oM, kd, vlu, len, whm, ext, ← Int32.not_lt]))
  exact L6 _ 0 (0 : Int32) (Nat.lt_succ_self _) (by omega) StR_0
