def q_X1_hasOthersThanFirstBits (v : Int32) (b : Int32) (X : Mem) : Int32 → Mem → Prop := fun r X' => bI (¬ v &&& ((255 : Int32) >>> (b &&& 31)) = 0) r ∧ X' = X
set_option maxHeartbeats 4000000 in
set_option maxRecDepth 100000 in
theorem k_X1_hasOthersThanFirstBits (w : Wt) (l : Launch) (v : Int32) (b : Int32) (X : Mem) : CtI w l yX1_hasOthersThanFirstBits cX1_hasOthersThanFirstBits 2 (some .boolean) 1 20 [.int v, .int b] X (q_X1_hasOthersThanFirstBits v b X) := by
  refine CtI_of (by decide +kernel) (Nat.le_of_ble_eq_true rfl) (List.forall_mem_cons.mpr ⟨rfl, (List.forall_mem_cons.mpr ⟨rfl, (fun _ h => nomatch h)⟩)⟩) (ls := [some (.int v), some (.int b)]) rfl (args := (#[.int v, .int b] : Array Value)) rfl (own := RX1) rfl ?_
  intro p e s m below meth c C
  refine V_iload_n C dX1_hasOthersThanFirstBits_0 rfl ?_
  refine V_sipush (v := (255 : Int32)) C dX1_hasOthersThanFirstBits_1 (by decide) ?_
  refine V_iload_n C dX1_hasOthersThanFirstBits_4 rfl ?_
  refine V_ishr C dX1_hasOthersThanFirstBits_5 ?_
  refine V_iand C dX1_hasOthersThanFirstBits_6 ?_
  refine V_if_eq (x := v &&& ((255 : Int32) >>> (b &&& 31))) (tgt := 14) C dX1_hasOthersThanFirstBits_7 (by decide) (fun h7_1 => ?_) (fun h7_1 => ?_)
  · refine V_iconst (v := (0 : Int32)) C dX1_hasOthersThanFirstBits_14 (by decide) ?_
    exact V_zreturnI C dX1_hasOthersThanFirstBits_15 (Or.inl rfl) ⟨bI.f (fun q => absurd (by assumption) q), rfl⟩
  · refine V_iconst (v := (1 : Int32)) C dX1_hasOthersThanFirstBits_10 (by decide) ?_
    refine V_goto (tgt := 15) C dX1_hasOthersThanFirstBits_11 (by decide) ?_
    exact V_zreturnI C dX1_hasOthersThanFirstBits_15 (Or.inr rfl) ⟨bI.t (by assumption), rfl⟩
def q_X1_liesIn (v : Int32) (b : Int32) (ov : Int32) (ob : Int32) (X : Mem) : Int32 → Mem → Prop := fun r X' => bI (LiesIn v b ov ob) r ∧ X' = X
set_option maxHeartbeats 4000000 in
set_option maxRecDepth 100000 in
theorem k_X1_liesIn (w : Wt) (l : Launch) (v : Int32) (b : Int32) (ov : Int32) (ob : Int32) (X : Mem) : CtI w l yX1_liesIn cX1_liesIn 5 (some .boolean) 1 20 [.int v, .int b, .int ov, .int ob] X (q_X1_liesIn v b ov ob X) := by
  refine CtI_of (by decide +kernel) (Nat.le_of_ble_eq_true rfl) (List.forall_mem_cons.mpr ⟨rfl, (List.forall_mem_cons.mpr ⟨rfl, (List.forall_mem_cons.mpr ⟨rfl, (List.forall_mem_cons.mpr ⟨rfl, (fun _ h => nomatch h)⟩)⟩)⟩)⟩) (ls := [some (.int v), some (.int b), some (.int ov), some (.int ob), none]) rfl (args := (#[.int v, .int b, .int ov, .int ob] : Array Value)) rfl (own := RX1) rfl ?_
  intro p e s m below meth c C
  refine V_bipush (v := (8 : Int32)) C dX1_liesIn_0 (by decide) ?_
  refine V_iload_n C dX1_liesIn_2 rfl ?_
  refine V_isub C dX1_liesIn_3 ?_
  refine V_istore (ls1 := [some (.int v), some (.int b), some (.int ov), some (.int ob), some (.int ((8 : Int32) - ob))]) C dX1_liesIn_4 (by decide) rfl ?_
  refine V_iload_n C dX1_liesIn_6 rfl ?_
  refine V_iload_n C dX1_liesIn_7 rfl ?_
  refine V_icmp_lt (x := b) (y := ob) (tgt := 26) C dX1_liesIn_8 (by decide) (fun h8_1 => ?_) (fun h8_1 => ?_)
  · refine V_iconst (v := (0 : Int32)) C dX1_liesIn_26 (by decide) ?_
    exact V_zreturnI C dX1_liesIn_27 (Or.inl rfl) ⟨bI.f (by simp_all [LiesIn, ← Int32.not_lt]), rfl⟩
  · refine V_iload_n C dX1_liesIn_11 rfl ?_
    refine V_iload C dX1_liesIn_12 rfl ?_
    refine V_ishr C dX1_liesIn_14 ?_
    refine V_iload_n C dX1_liesIn_15 rfl ?_
    refine V_iload C dX1_liesIn_16 rfl ?_
    refine V_ishr C dX1_liesIn_18 ?_
    refine V_icmp_ne (x := v >>> (((8 : Int32) - ob) &&& 31)) (y := ov >>> (((8 : Int32) - ob) &&& 31)) (tgt := 26) C dX1_liesIn_19 (by decide) (fun h19_2 => ?_) (fun h19_2 => ?_)
    · refine V_iconst (v := (0 : Int32)) C dX1_liesIn_26 (by decide) ?_
      exact V_zreturnI C dX1_liesIn_27 (Or.inl rfl) ⟨bI.f (by simp_all [LiesIn, ← Int32.not_lt]), rfl⟩
    · refine V_iconst (v := (1 : Int32)) C dX1_liesIn_22 (by decide) ?_
      refine V_goto (tgt := 27) C dX1_liesIn_23 (by decide) ?_
      exact V_zreturnI C dX1_liesIn_27 (Or.inr rfl) ⟨bI.t (by simp_all [LiesIn, ← Int32.not_lt]), rfl⟩


def q_X7_mix (d : Int32) (v : Int32) (X : Mem) : Int32 → Mem → Prop := fun r X' => r = mixS d v ∧ X' = X
set_option maxHeartbeats 4000000 in
set_option maxRecDepth 100000 in
theorem k_X7_mix (w : Wt) (l : Launch) (d : Int32) (v : Int32) (X : Mem) : CtI w l yX7_mix cX7_mix 2 (some .int) 1 20 [.int d, .int v] X (q_X7_mix d v X) := by
  refine CtI_of (by decide +kernel) (Nat.le_of_ble_eq_true rfl) (List.forall_mem_cons.mpr ⟨rfl, (List.forall_mem_cons.mpr ⟨rfl, (fun _ h => nomatch h)⟩)⟩) (ls := [some (.int d), some (.int v)]) rfl (args := (#[.int d, .int v] : Array Value)) rfl (own := RX7) rfl ?_
  intro p e s m below meth c C
  refine V_sipush (v := (263 : Int32)) C dX7_mix_0 (by decide) ?_
  refine V_iload_n C dX7_mix_3 rfl ?_
  refine V_imul C dX7_mix_4 ?_
  refine V_iload_n C dX7_mix_5 rfl ?_
  refine V_iadd C dX7_mix_6 ?_
  refine V_iconst (v := (1 : Int32)) C dX7_mix_7 (by decide) ?_
  refine V_iadd C dX7_mix_8 ?_
  refine V_ldc C kc_X7_51 dX7_mix_9 ?_
  refine V_irem C dX7_mix_11 (by decide) ?_
  exact V_ireturnI C dX7_mix_12 ⟨rfl, rfl⟩

def q_X7_signatureBy (o : Nat) (k : Int32) (X : Mem) : Int32 → Mem → Prop := fun r X' => r = sigS (oC X) o k ∧ X' = X
set_option maxHeartbeats 4000000 in
set_option maxRecDepth 100000 in
theorem k_X7_signatureBy (w : Wt) (l : Launch) (o : Nat) (k : Int32) (X : Mem) (ho : o < 50) : CtI w l yX7_signatureBy cX7_signatureBy 5 (some .int) 2 41 [.ref (w.2.1 6), .int (nI o), .int k] X (q_X7_signatureBy o k X) := by
  refine CtI_of (by decide +kernel) (Nat.le_of_ble_eq_true rfl) (List.forall_mem_cons.mpr ⟨rfl, (List.forall_mem_cons.mpr ⟨rfl, (List.forall_mem_cons.mpr ⟨rfl, (fun _ h => nomatch h)⟩)⟩)⟩) (ls := [some (.ref (w.2.1 6)), some (.int (nI o)), some (.int k), none, none]) rfl (args := (#[.ref (w.2.1 6), .int (nI o), .int k] : Array Value)) rfl (own := RX7) rfl ?_
  intro p e s m below meth c C
  refine V_iconst (v := (0 : Int32)) C dX7_signatureBy_0 (by decide) ?_
  refine V_aload_n C dX7_signatureBy_1 rfl ?_
  refine V_getr C fl_X7_15 dX7_signatureBy_2 (by decide) sh_6 rfl ?_
  refine V_iload_n C dX7_signatureBy_5 rfl ?_
  refine V_ialdN (p0 := 7) (o := o) (v := X 7 o) C dX7_signatureBy_6 sh_7 (by decide) (by omega) (by decide) rfl ?_
  refine V_callSI C [.int (0 : Int32), .int (X 7 o)] ms_X7_47 (k_X7_mix w l (0 : Int32) (X 7 o) X ) dX7_signatureBy_7 rfl rfl (Nat.le_of_ble_eq_true rfl) (Nat.le_of_ble_eq_true rfl) (Nat.le_of_ble_eq_true rfl) ⟨Nat.le_refl _, Nat.le_refl _⟩ (fun v1 X1 q1 => ?_)
  obtain ⟨ev1, eX1⟩ := q1; subst X1
  subst v1
  refine V_istore_n (ls1 := [some (.ref (w.2.1 6)), some (.int (nI o)), some (.int k), some (.int (mixS (0 : Int32) (X 7 o))), none]) C dX7_signatureBy_10 (by decide) rfl ?_
  refine V_iload_n C dX7_signatureBy_11 rfl ?_
  refine V_aload_n C dX7_signatureBy_12 rfl ?_
  refine V_getr C fl_X7_19 dX7_signatureBy_13 (by decide) sh_6 rfl ?_
  refine V_iload_n C dX7_signatureBy_16 rfl ?_
  refine V_ialdN (p0 := 8) (o := o) (v := X 8 o) C dX7_signatureBy_17 sh_8 (by decide) (by omega) (by decide) rfl ?_
  refine V_callSI C [.int (mixS (0 : Int32) (X 7 o)), .int (X 8 o)] ms_X7_47 (k_X7_mix w l (mixS (0 : Int32) (X 7 o)) (X 8 o) X ) dX7_signatureBy_18 rfl rfl (Nat.le_of_ble_eq_true rfl) (Nat.le_of_ble_eq_true rfl) (Nat.le_of_ble_eq_true rfl) ⟨Nat.le_refl _, Nat.le_refl _⟩ (fun v2 X2 q2 => ?_)
  obtain ⟨ev2, eX2⟩ := q2; subst X2
  subst v2
  refine V_istore_n (ls1 := [some (.ref (w.2.1 6)), some (.int (nI o)), some (.int k), some (.int (mixS (mixS (0 : Int32) (X 7 o)) (X 8 o))), none]) C dX7_signatureBy_21 (by decide) rfl ?_
  refine V_iload_n C dX7_signatureBy_22 rfl ?_
  refine V_aload_n C dX7_signatureBy_23 rfl ?_
  refine V_getr C fl_X7_22 dX7_signatureBy_24 (by decide) sh_6 rfl ?_
  refine V_iload_n C dX7_signatureBy_27 rfl ?_
  refine V_ialdN (p0 := 9) (o := o) (v := X 9 o) C dX7_signatureBy_28 sh_9 (by decide) (by omega) (by decide) rfl ?_
  refine V_callSI C [.int (mixS (mixS (0 : Int32) (X 7 o)) (X 8 o)), .int (X 9 o)] ms_X7_47 (k_X7_mix w l (mixS (mixS (0 : Int32) (X 7 o)) (X 8 o)) (X 9 o) X ) dX7_signatureBy_29 rfl rfl (Nat.le_of_ble_eq_true rfl) (Nat.le_of_ble_eq_true rfl) (Nat.le_of_ble_eq_true rfl) ⟨Nat.le_refl _, Nat.le_refl _⟩ (fun v3 X3 q3 => ?_)
  obtain ⟨ev3, eX3⟩ := q3; subst X3
  subst v3
  refine V_istore_n (ls1 := [some (.ref (w.2.1 6)), some (.int (nI o)), some (.int k), some (.int (mixS (mixS (mixS (0 : Int32) (X 7 o)) (X 8 o)) (X 9 o))), none]) C dX7_signatureBy_32 (by decide) rfl ?_
  refine V_iload_n C dX7_signatureBy_33 rfl ?_
  refine V_aload_n C dX7_signatureBy_34 rfl ?_
  refine V_getr C fl_X7_25 dX7_signatureBy_35 (by decide) sh_6 rfl ?_
  refine V_iload_n C dX7_signatureBy_38 rfl ?_
  refine V_ialdN (p0 := 10) (o := o) (v := X 10 o) C dX7_signatureBy_39 sh_10 (by decide) (by omega) (by decide) rfl ?_
  refine V_callSI C [.int (mixS (mixS (mixS (0 : Int32) (X 7 o)) (X 8 o)) (X 9 o)), .int (X 10 o)] ms_X7_47 (k_X7_mix w l (mixS (mixS (mixS (0 : Int32) (X 7 o)) (X 8 o)) (X 9 o)) (X 10 o) X ) dX7_signatureBy_40 rfl rfl (Nat.le_of_ble_eq_true rfl) (Nat.le_of_ble_eq_true rfl) (Nat.le_of_ble_eq_true rfl) ⟨Nat.le_refl _, Nat.le_refl _⟩ (fun v4 X4 q4 => ?_)
  obtain ⟨ev4, eX4⟩ := q4; subst X4
  subst v4
  refine V_istore_n (ls1 := [some (.ref (w.2.1 6)), some (.int (nI o)), some (.int k), some (.int (mixS (mixS (mixS (mixS (0 : Int32) (X 7 o)) (X 8 o)) (X 9 o)) (X 10 o))), none]) C dX7_signatureBy_43 (by decide) rfl ?_
  refine V_iload_n C dX7_signatureBy_44 rfl ?_
  refine V_aload_n C dX7_signatureBy_45 rfl ?_
  refine V_getr C fl_X7_28 dX7_signatureBy_46 (by decide) sh_6 rfl ?_
  refine V_iload_n C dX7_signatureBy_49 rfl ?_
  refine V_ialdN (p0 := 11) (o := o) (v := X 11 o) C dX7_signatureBy_50 sh_11 (by decide) (by omega) (by decide) rfl ?_
  refine V_callSI C [.int (mixS (mixS (mixS (mixS (0 : Int32) (X 7 o)) (X 8 o)) (X 9 o)) (X 10 o)), .int (X 11 o)] ms_X7_47 (k_X7_mix w l (mixS (mixS (mixS (mixS (0 : Int32) (X 7 o)) (X 8 o)) (X 9 o)) (X 10 o)) (X 11 o) X ) dX7_signatureBy_51 rfl rfl (Nat.le_of_ble_eq_true rfl) (Nat.le_of_ble_eq_true rfl) (Nat.le_of_ble_eq_true rfl) ⟨Nat.le_refl _, Nat.le_refl _⟩ (fun v5 X5 q5 => ?_)
  obtain ⟨ev5, eX5⟩ := q5; subst X5
  subst v5
  refine V_istore_n (ls1 := [some (.ref (w.2.1 6)), some (.int (nI o)), some (.int k), some (.int (mixS (mixS (mixS (mixS (mixS (0 : Int32) (X 7 o)) (X 8 o)) (X 9 o)) (X 10 o)) (X 11 o))), none]) C dX7_signatureBy_54 (by decide) rfl ?_
  refine V_iload_n C dX7_signatureBy_55 rfl ?_
  refine V_aload_n C dX7_signatureBy_56 rfl ?_
  refine V_getr C fl_X7_31 dX7_signatureBy_57 (by decide) sh_6 rfl ?_
  refine V_iload_n C dX7_signatureBy_60 rfl ?_
  refine V_ialdN (p0 := 12) (o := o) (v := X 12 o) C dX7_signatureBy_61 sh_12 (by decide) (by omega) (by decide) rfl ?_
  refine V_callSI C [.int (mixS (mixS (mixS (mixS (mixS (0 : Int32) (X 7 o)) (X 8 o)) (X 9 o)) (X 10 o)) (X 11 o)), .int (X 12 o)] ms_X7_47 (k_X7_mix w l (mixS (mixS (mixS (mixS (mixS (0 : Int32) (X 7 o)) (X 8 o)) (X 9 o)) (X 10 o)) (X 11 o)) (X 12 o) X ) dX7_signatureBy_62 rfl rfl (Nat.le_of_ble_eq_true rfl) (Nat.le_of_ble_eq_true rfl) (Nat.le_of_ble_eq_true rfl) ⟨Nat.le_refl _, Nat.le_refl _⟩ (fun v6 X6 q6 => ?_)
  obtain ⟨ev6, eX6⟩ := q6; subst X6
  subst v6
  refine V_istore_n (ls1 := [some (.ref (w.2.1 6)), some (.int (nI o)), some (.int k), some (.int (mixS (mixS (mixS (mixS (mixS (mixS (0 : Int32) (X 7 o)) (X 8 o)) (X 9 o)) (X 10 o)) (X 11 o)) (X 12 o))), none]) C dX7_signatureBy_65 (by decide) rfl ?_
  refine V_iload_n C dX7_signatureBy_66 rfl ?_
  refine V_aload_n C dX7_signatureBy_67 rfl ?_
  refine V_getr C fl_X7_34 dX7_signatureBy_68 (by decide) sh_6 rfl ?_
  refine V_iload_n C dX7_signatureBy_71 rfl ?_
  refine V_ialdN (p0 := 13) (o := o) (v := X 13 o) C dX7_signatureBy_72 sh_13 (by decide) (by omega) (by decide) rfl ?_
  refine V_callSI C [.int (mixS (mixS (mixS (mixS (mixS (mixS (0 : Int32) (X 7 o)) (X 8 o)) (X 9 o)) (X 10 o)) (X 11 o)) (X 12 o)), .int (X 13 o)] ms_X7_47 (k_X7_mix w l (mixS (mixS (mixS (mixS (mixS (mixS (0 : Int32) (X 7 o)) (X 8 o)) (X 9 o)) (X 10 o)) (X 11 o)) (X 12 o)) (X 13 o) X ) dX7_signatureBy_73 rfl rfl (Nat.le_of_ble_eq_true rfl) (Nat.le_of_ble_eq_true rfl) (Nat.le_of_ble_eq_true rfl) ⟨Nat.le_refl _, Nat.le_refl _⟩ (fun v7 X7 q7 => ?_)
  obtain ⟨ev7, eX7⟩ := q7; subst X7
  subst v7
  refine V_istore_n (ls1 := [some (.ref (w.2.1 6)), some (.int (nI o)), some (.int k), some (.int (mixS (mixS (mixS (mixS (mixS (mixS (mixS (0 : Int32) (X 7 o)) (X 8 o)) (X 9 o)) (X 10 o)) (X 11 o)) (X 12 o)) (X 13 o))), none]) C dX7_signatureBy_76 (by decide) rfl ?_
  refine V_sipush (v := (7919 : Int32)) C dX7_signatureBy_77 (by decide) ?_
  refine V_bipush (v := (101 : Int32)) C dX7_signatureBy_80 (by decide) ?_
  refine V_aload_n C dX7_signatureBy_82 rfl ?_
  refine V_getr C fl_X7_19 dX7_signatureBy_83 (by decide) sh_6 rfl ?_
  refine V_iload_n C dX7_signatureBy_86 rfl ?_
  refine V_ialdN (p0 := 8) (o := o) (v := X 8 o) C dX7_signatureBy_87 sh_8 (by decide) (by omega) (by decide) rfl ?_
  refine V_imul C dX7_signatureBy_88 ?_
  refine V_bipush (v := (17 : Int32)) C dX7_signatureBy_89 (by decide) ?_
  refine V_iload_n C dX7_signatureBy_91 rfl ?_
  refine V_imul C dX7_signatureBy_92 ?_
  refine V_iadd C dX7_signatureBy_93 ?_
  refine V_imul C dX7_signatureBy_94 ?_
  refine V_istore (ls1 := [some (.ref (w.2.1 6)), some (.int (nI o)), some (.int k), some (.int (mixS (mixS (mixS (mixS (mixS (mixS (mixS (0 : Int32) (X 7 o)) (X 8 o)) (X 9 o)) (X 10 o)) (X 11 o)) (X 12 o)) (X 13 o))), some (.int ((7919 : Int32) * (((101 : Int32) * (X 8 o)) + ((17 : Int32) * k))))]) C dX7_signatureBy_95 (by decide) rfl ?_
  refine V_bipush (v := (31 : Int32)) C dX7_signatureBy_97 (by decide) ?_
  refine V_iload_n C dX7_signatureBy_99 rfl ?_
  refine V_imul C dX7_signatureBy_100 ?_
  refine V_iload C dX7_signatureBy_101 rfl ?_
  refine V_iadd C dX7_signatureBy_103 ?_
  refine V_ldc C kc_X7_51 dX7_signatureBy_104 ?_
  refine V_irem C dX7_signatureBy_106 (by decide) ?_
  exact V_ireturnI C dX7_signatureBy_107 ⟨rfl, rfl⟩
def q_X7_covers (o : Nat) (v : Int32) (b : Int32) (X : Mem) : Int32 → Mem → Prop := fun r X' => bI (LiesIn v b (vlu (oC X) o) (len (oC X) o)) r ∧ X' = X
set_option maxHeartbeats 4000000 in
set_option maxRecDepth 100000 in
theorem k_X7_covers (w : Wt) (l : Launch) (o : Nat) (v : Int32) (b : Int32) (X : Mem) (ho : o < 50) : CtI w l yX7_covers cX7_covers 4 (some .boolean) 2 44 [.ref (w.2.1 6), .int (nI o), .int v, .int b] X (q_X7_covers o v b X) := by
  refine CtI_of (by decide +kernel) (Nat.le_of_ble_eq_true rfl) (List.forall_mem_cons.mpr ⟨rfl, (List.forall_mem_cons.mpr ⟨rfl, (List.forall_mem_cons.mpr ⟨rfl, (List.forall_mem_cons.mpr ⟨rfl, (fun _ h => nomatch h)⟩)⟩)⟩)⟩) (ls := [some (.ref (w.2.1 6)), some (.int (nI o)), some (.int v), some (.int b)]) rfl (args := (#[.ref (w.2.1 6), .int (nI o), .int v, .int b] : Array Value)) rfl (own := RX7) rfl ?_
  intro p e s m below meth c C
  refine V_iload_n C dX7_covers_0 rfl ?_
  refine V_iload_n C dX7_covers_1 rfl ?_
  refine V_aload_n C dX7_covers_2 rfl ?_
  refine V_getr C fl_X7_25 dX7_covers_3 (by decide) sh_6 rfl ?_
  refine V_iload_n C dX7_covers_6 rfl ?_
  refine V_ialdN (p0 := 10) (o := o) (v := X 10 o) C dX7_covers_7 sh_10 (by decide) (by omega) (by decide) rfl ?_
  refine V_aload_n C dX7_covers_8 rfl ?_
  refine V_getr C fl_X7_28 dX7_covers_9 (by decide) sh_6 rfl ?_
  refine V_iload_n C dX7_covers_12 rfl ?_
  refine V_ialdN (p0 := 11) (o := o) (v := X 11 o) C dX7_covers_13 sh_11 (by decide) (by omega) (by decide) rfl ?_
  refine V_callSI C [.int v, .int b, .int (X 10 o), .int (X 11 o)] ms_X7_52 (k_X1_liesIn w l v b (X 10 o) (X 11 o) X ) dX7_covers_14 rfl rfl (Nat.le_of_ble_eq_true rfl) (Nat.le_of_ble_eq_true rfl) (Nat.le_of_ble_eq_true rfl) ⟨Nat.le_refl _, Nat.le_refl _⟩ (fun v1 X1 q1 => ?_)
  obtain ⟨hb1, eX1⟩ := q1; subst X1
  exact V_zreturnI C dX7_covers_17 hb1.z ⟨hb1, rfl⟩
def q_X2_isGrantTo (o : Nat) (h : Int32) (X : Mem) : Int32 → Mem → Prop := fun r X' => bI (GrantTo (oC X) o h) r ∧ X' = X
set_option maxHeartbeats 4000000 in
set_option maxRecDepth 100000 in
theorem k_X2_isGrantTo (w : Wt) (l : Launch) (o : Nat) (h : Int32) (X : Mem) (ho : o < 50) : CtI w l yX2_isGrantTo cX2_isGrantTo 3 (some .boolean) 1 20 [.ref (w.2.1 17), .int (nI o), .int h] X (q_X2_isGrantTo o h X) := by
  refine CtI_of (by decide +kernel) (Nat.le_of_ble_eq_true rfl) (List.forall_mem_cons.mpr ⟨rfl, (List.forall_mem_cons.mpr ⟨rfl, (List.forall_mem_cons.mpr ⟨rfl, (fun _ h => nomatch h)⟩)⟩)⟩) (ls := [some (.ref (w.2.1 17)), some (.int (nI o)), some (.int h)]) rfl (args := (#[.ref (w.2.1 17), .int (nI o), .int h] : Array Value)) rfl (own := RX2) rfl ?_
  intro p e s m below meth c C
  refine V_aload_n C dX2_isGrantTo_0 rfl ?_
  refine V_getr C fl_X2_23 dX2_isGrantTo_1 (by decide) sh_17 rfl ?_
  refine V_getr C fl_X2_44 dX2_isGrantTo_4 (by decide) sh_6 rfl ?_
  refine V_iload_n C dX2_isGrantTo_7 rfl ?_
  refine V_ialdN (p0 := 7) (o := o) (v := X 7 o) C dX2_isGrantTo_8 sh_7 (by decide) (by omega) (by decide) rfl ?_
  refine V_if_ne (x := X 7 o) (tgt := 29) C dX2_isGrantTo_9 (by decide) (fun h9_1 => ?_) (fun h9_1 => ?_)
  · refine V_iconst (v := (0 : Int32)) C dX2_isGrantTo_29 (by decide) ?_
    exact V_zreturnI C dX2_isGrantTo_30 (Or.inl rfl) ⟨bI.f (by simp_all [GrantTo, oC, gC, kd, isr, whm, vlu, len, ext, lst, sgn, rvk, lsd, prt, kyy, frs, own, ← Int32.not_lt]), rfl⟩
  · refine V_aload_n C dX2_isGrantTo_12 rfl ?_
    refine V_getr C fl_X2_23 dX2_isGrantTo_13 (by decide) sh_17 rfl ?_
    refine V_getr C fl_X2_47 dX2_isGrantTo_16 (by decide) sh_6 rfl ?_
    refine V_iload_n C dX2_isGrantTo_19 rfl ?_
    refine V_ialdN (p0 := 9) (o := o) (v := X 9 o) C dX2_isGrantTo_20 sh_9 (by decide) (by omega) (by decide) rfl ?_
    refine V_iload_n C dX2_isGrantTo_21 rfl ?_
    refine V_icmp_ne (x := X 9 o) (y := h) (tgt := 29) C dX2_isGrantTo_22 (by decide) (fun h22_2 => ?_) (fun h22_2 => ?_)
    · refine V_iconst (v := (0 : Int32)) C dX2_isGrantTo_29 (by decide) ?_
      exact V_zreturnI C dX2_isGrantTo_30 (Or.inl rfl) ⟨bI.f (by simp_all [GrantTo, oC, gC, kd, isr, whm, vlu, len, ext, lst, sgn, rvk, lsd, prt, kyy, frs, own, ← Int32.not_lt]), rfl⟩
    · refine V_iconst (v := (1 : Int32)) C dX2_isGrantTo_25 (by decide) ?_
      refine V_goto (tgt := 30) C dX2_isGrantTo_26 (by decide) ?_
      exact V_zreturnI C dX2_isGrantTo_30 (Or.inr rfl) ⟨bI.t (by simp_all [GrantTo, oC, gC, kd, isr, whm, vlu, len, ext, lst, sgn, rvk, lsd, prt, kyy, frs, own, ← Int32.not_lt]), rfl⟩
def q_X2_isGoodGrantTo (o : Nat) (h : Int32) (X : Mem) : Int32 → Mem → Prop := fun r X' => bI (GoodTo (oC X) (X 18) o h) r ∧ X' = X
set_option maxHeartbeats 4000000 in
set_option maxRecDepth 100000 in
theorem k_X2_isGoodGrantTo (w : Wt) (l : Launch) (o : Nat) (h : Int32) (X : Mem) (ho : o < 50) : CtI w l yX2_isGoodGrantTo cX2_isGoodGrantTo 3 (some .boolean) 2 42 [.ref (w.2.1 17), .int (nI o), .int h] X (q_X2_isGoodGrantTo o h X) := by
  refine CtI_of (by decide +kernel) (Nat.le_of_ble_eq_true rfl) (List.forall_mem_cons.mpr ⟨rfl, (List.forall_mem_cons.mpr ⟨rfl, (List.forall_mem_cons.mpr ⟨rfl, (fun _ h => nomatch h)⟩)⟩)⟩) (ls := [some (.ref (w.2.1 17)), some (.int (nI o)), some (.int h)]) rfl (args := (#[.ref (w.2.1 17), .int (nI o), .int h] : Array Value)) rfl (own := RX2) rfl ?_
  intro p e s m below meth c C
  refine V_aload_n C dX2_isGoodGrantTo_0 rfl ?_
  refine V_iload_n C dX2_isGoodGrantTo_1 rfl ?_
  refine V_iload_n C dX2_isGoodGrantTo_2 rfl ?_
  refine V_callVI C [.int (nI o), .int h] mi_X2_36 (k_X2_isGrantTo w l o h X (by assumption)) dX2_isGoodGrantTo_3 sh_17 (by decide) rfl rfl rfl (Nat.le_of_ble_eq_true rfl) (Nat.le_of_ble_eq_true rfl) (Nat.le_of_ble_eq_true rfl) ⟨Nat.le_refl _, Nat.le_refl _⟩ (fun v1 X1 q1 => ?_)
  obtain ⟨hb1, eX1⟩ := q1; subst X1
  refine V_if_eqB (tgt := 22) C hb1 dX2_isGoodGrantTo_6 (by decide) (fun h6_2 => ?_) (fun h6_2 => ?_)
  · refine V_iconst (v := (0 : Int32)) C dX2_isGoodGrantTo_22 (by decide) ?_
    exact V_zreturnI C dX2_isGoodGrantTo_23 (Or.inl rfl) ⟨bI.f (by simp_all [GoodTo, oC, gC, kd, isr, whm, vlu, len, ext, lst, sgn, rvk, lsd, prt, kyy, frs, own, ← Int32.not_lt]), rfl⟩
  · refine V_aload_n C dX2_isGoodGrantTo_9 rfl ?_
    refine V_getr C fl_X2_9 dX2_isGoodGrantTo_10 (by decide) sh_17 rfl ?_
    refine V_iload_n C dX2_isGoodGrantTo_13 rfl ?_
    refine V_ialdN (p0 := 18) (o := o) (v := X 18 o) C dX2_isGoodGrantTo_14 sh_18 (by decide) (by omega) (by decide) rfl ?_
    refine V_if_ne (x := X 18 o) (tgt := 22) C dX2_isGoodGrantTo_15 (by decide) (fun h15_3 => ?_) (fun h15_3 => ?_)
    · refine V_iconst (v := (0 : Int32)) C dX2_isGoodGrantTo_22 (by decide) ?_
      exact V_zreturnI C dX2_isGoodGrantTo_23 (Or.inl rfl) ⟨bI.f (by simp_all [GoodTo, oC, gC, kd, isr, whm, vlu, len, ext, lst, sgn, rvk, lsd, prt, kyy, frs, own, ← Int32.not_lt]), rfl⟩
    · refine V_iconst (v := (1 : Int32)) C dX2_isGoodGrantTo_18 (by decide) ?_
      refine V_goto (tgt := 23) C dX2_isGoodGrantTo_19 (by decide) ?_
      exact V_zreturnI C dX2_isGoodGrantTo_23 (Or.inr rfl) ⟨bI.t (by simp_all [GoodTo, oC, gC, kd, isr, whm, vlu, len, ext, lst, sgn, rvk, lsd, prt, kyy, frs, own, ← Int32.not_lt]), rfl⟩
def q_X2_faultOfItsOwn (o : Nat) (X : Mem) (h n : Nat) : Int32 → Mem → Prop := fun r X' => r = faultS (oC X) (gC X) (X 1 0) o ∧ X' = X
set_option maxHeartbeats 4000000 in
set_option maxRecDepth 100000 in
theorem k_X2_faultOfItsOwn (w : Wt) (l : Launch) (o : Nat) (X : Mem) (h n : Nat) (hO : OInv (oC X) h n) (hG : GInv (gC X) h) (hn : X 6 0 = nI n) (ho : o < n) : CtI w l yX2_faultOfItsOwn cX2_faultOfItsOwn 3 (some .int) 3 65 [.ref (w.2.1 17), .int (nI o)] X (q_X2_faultOfItsOwn o X h n) := by
  have n50 := hO.1
  have h8 := hG.2.1
  refine CtI_of (by decide +kernel) (Nat.le_of_ble_eq_true rfl) (List.forall_mem_cons.mpr ⟨rfl, (List.forall_mem_cons.mpr ⟨rfl, (fun _ h => nomatch h)⟩)⟩) (ls := [some (.ref (w.2.1 17)), some (.int (nI o)), none]) rfl (args := (#[.ref (w.2.1 17), .int (nI o)] : Array Value)) rfl (own := RX2) rfl ?_
  intro p e s m below meth c C
  refine V_aload_n C dX2_faultOfItsOwn_0 rfl ?_
  refine V_getr C fl_X2_23 dX2_faultOfItsOwn_1 (by decide) sh_17 rfl ?_
  refine V_getr C fl_X2_57 dX2_faultOfItsOwn_4 (by decide) sh_6 rfl ?_
  refine V_iload_n C dX2_faultOfItsOwn_7 rfl ?_
  refine V_ialdN (p0 := 8) (o := o) (v := X 8 o) C dX2_faultOfItsOwn_8 sh_8 (by decide) (by omega) (by decide) rfl ?_
  obtain ⟨a1, ha1, ea1⟩ := (hO.2 o ho).1
  have ia1 : ix (nI a1) = a1 := ix_nI (by omega)
  refine V_eqi ea1 ?_
  refine V_istore_n (ls1 := [some (.ref (w.2.1 17)), some (.int (nI o)), some (.int (nI a1))]) C dX2_faultOfItsOwn_9 (by decide) rfl ?_
  refine V_aload_n C dX2_faultOfItsOwn_10 rfl ?_
  refine V_getr C fl_X2_19 dX2_faultOfItsOwn_11 (by decide) sh_17 rfl ?_
  refine V_geti C fl_X2_60 dX2_faultOfItsOwn_14 (by decide) sh_1 rfl ?_
  refine V_aload_n C dX2_faultOfItsOwn_17 rfl ?_
  refine V_getr C fl_X2_23 dX2_faultOfItsOwn_18 (by decide) sh_17 rfl ?_
  refine V_getr C fl_X2_63 dX2_faultOfItsOwn_21 (by decide) sh_6 rfl ?_
  refine V_iload_n C dX2_faultOfItsOwn_24 rfl ?_
  refine V_ialdN (p0 := 13) (o := o) (v := X 13 o) C dX2_faultOfItsOwn_25 sh_13 (by decide) (by omega) (by decide) rfl ?_
  refine V_icmp_le (x := X 1 0) (y := X 13 o) (tgt := 31) C dX2_faultOfItsOwn_26 (by decide) (fun h26_2 => ?_) (fun h26_2 => ?_)
  · refine V_aload_n C dX2_faultOfItsOwn_31 rfl ?_
    refine V_getr C fl_X2_23 dX2_faultOfItsOwn_32 (by decide) sh_17 rfl ?_
    refine V_getr C fl_X2_66 dX2_faultOfItsOwn_35 (by decide) sh_6 rfl ?_
    refine V_iload_n C dX2_faultOfItsOwn_38 rfl ?_
    refine V_baldN (p0 := 16) (o := o) (v := X 16 o) C dX2_faultOfItsOwn_39 sh_16 (by decide) (by omega) (by decide) rfl ?_
    refine V_if_eq (x := X 16 o) (tgt := 45) C dX2_faultOfItsOwn_40 (by decide) (fun h40_3 => ?_) (fun h40_3 => ?_)
    · refine V_aload_n C dX2_faultOfItsOwn_45 rfl ?_
      refine V_getr C fl_X2_19 dX2_faultOfItsOwn_46 (by decide) sh_17 rfl ?_
      refine V_geti C fl_X2_60 dX2_faultOfItsOwn_49 (by decide) sh_1 rfl ?_
      refine V_aload_n C dX2_faultOfItsOwn_52 rfl ?_
      refine V_getr C fl_X2_19 dX2_faultOfItsOwn_53 (by decide) sh_17 rfl ?_
      refine V_getr C fl_X2_69 dX2_faultOfItsOwn_56 (by decide) sh_1 rfl ?_
      refine V_iload_n C dX2_faultOfItsOwn_59 rfl ?_
      refine V_ialdN (p0 := 4) (o := a1) (v := X 4 a1) C dX2_faultOfItsOwn_60 sh_4 (by decide) (by omega) (by decide) rfl ?_
      refine V_icmp_le (x := X 1 0) (y := X 4 a1) (tgt := 66) C dX2_faultOfItsOwn_61 (by decide) (fun h61_4 => ?_) (fun h61_4 => ?_)
      · refine V_aload_n C dX2_faultOfItsOwn_66 rfl ?_
        refine V_getr C fl_X2_23 dX2_faultOfItsOwn_67 (by decide) sh_17 rfl ?_
        refine V_getr C fl_X2_72 dX2_faultOfItsOwn_70 (by decide) sh_6 rfl ?_
        refine V_iload_n C dX2_faultOfItsOwn_73 rfl ?_
        refine V_ialdN (p0 := 14) (o := o) (v := X 14 o) C dX2_faultOfItsOwn_74 sh_14 (by decide) (by omega) (by decide) rfl ?_
        refine V_aload_n C dX2_faultOfItsOwn_75 rfl ?_
        refine V_getr C fl_X2_23 dX2_faultOfItsOwn_76 (by decide) sh_17 rfl ?_
        refine V_iload_n C dX2_faultOfItsOwn_79 rfl ?_
        refine V_aload_n C dX2_faultOfItsOwn_80 rfl ?_
        refine V_getr C fl_X2_19 dX2_faultOfItsOwn_81 (by decide) sh_17 rfl ?_
        refine V_getr C fl_X2_75 dX2_faultOfItsOwn_84 (by decide) sh_1 rfl ?_
        refine V_iload_n C dX2_faultOfItsOwn_87 rfl ?_
        refine V_ialdN (p0 := 3) (o := a1) (v := X 3 a1) C dX2_faultOfItsOwn_88 sh_3 (by decide) (by omega) (by decide) rfl ?_
        refine V_callVI C [.int (nI o), .int (X 3 a1)] mi_X2_78 (k_X7_signatureBy w l o (X 3 a1) X (by omega)) dX2_faultOfItsOwn_89 sh_6 (by decide) rfl rfl rfl (Nat.le_of_ble_eq_true rfl) (Nat.le_of_ble_eq_true rfl) (Nat.le_of_ble_eq_true rfl) ⟨Nat.le_refl _, Nat.le_refl _⟩ (fun v5 X5 q5 => ?_)
        obtain ⟨ev5, eX5⟩ := q5; subst X5
        subst v5
        refine V_icmp_ne (x := X 14 o) (y := sigS (oC X) o (X 3 a1)) (tgt := 99) C dX2_faultOfItsOwn_92 (by decide) (fun h92_6 => ?_) (fun h92_6 => ?_)
        · refine V_iconst (v := (4 : Int32)) C dX2_faultOfItsOwn_99 (by decide) ?_
          exact V_ireturnI C dX2_faultOfItsOwn_100 ⟨by simp_all [faultS, oC, gC, kd, isr, whm, vlu, len, ext, lst, sgn, rvk, lsd, prt, kyy, frs, own, ← Int32.not_lt], rfl⟩
        · refine V_iconst (v := (0 : Int32)) C dX2_faultOfItsOwn_95 (by decide) ?_
          refine V_goto (tgt := 100) C dX2_faultOfItsOwn_96 (by decide) ?_
          exact V_ireturnI C dX2_faultOfItsOwn_100 ⟨by simp_all [faultS, oC, gC, kd, isr, whm, vlu, len, ext, lst, sgn, rvk, lsd, prt, kyy, frs, own, ← Int32.not_lt], rfl⟩
      · refine V_iconst (v := (3 : Int32)) C dX2_faultOfItsOwn_64 (by decide) ?_
        exact V_ireturnI C dX2_faultOfItsOwn_65 ⟨by simp_all [faultS, oC, gC, kd, isr, whm, vlu, len, ext, lst, sgn, rvk, lsd, prt, kyy, frs, own, ← Int32.not_lt], rfl⟩
    · refine V_iconst (v := (2 : Int32)) C dX2_faultOfItsOwn_43 (by decide) ?_
      exact V_ireturnI C dX2_faultOfItsOwn_44 ⟨by simp_all [faultS, oC, gC, kd, isr, whm, vlu, len, ext, lst, sgn, rvk, lsd, prt, kyy, frs, own, ← Int32.not_lt], rfl⟩
  · refine V_iconst (v := (1 : Int32)) C dX2_faultOfItsOwn_29 (by decide) ?_
    exact V_ireturnI C dX2_faultOfItsOwn_30 ⟨by simp_all [faultS, oC, gC, kd, isr, whm, vlu, len, ext, lst, sgn, rvk, lsd, prt, kyy, frs, own, ← Int32.not_lt], rfl⟩
def q_X2_holdsAnything (h0 : Int32) (X : Mem) (n : Nat) : Int32 → Mem → Prop := fun r X' => bI (HasAny (oC X) (X 18) n h0) r ∧ X' = X
set_option maxHeartbeats 4000000 in
set_option maxRecDepth 100000 in
theorem k_X2_holdsAnything (w : Wt) (l : Launch) (h0 : Int32) (X : Mem) (n : Nat) (hn : X 6 0 = nI n) (n50 : n ≤ 50) : CtI w l yX2_holdsAnything cX2_holdsAnything 4 (some .boolean) 3 64 [.ref (w.2.1 17), .int h0] X (q_X2_holdsAnything h0 X n) := by
  refine CtI_of (by decide +kernel) (Nat.le_of_ble_eq_true rfl) (List.forall_mem_cons.mpr ⟨rfl, (List.forall_mem_cons.mpr ⟨rfl, (fun _ h => nomatch h)⟩)⟩) (ls := [some (.ref (w.2.1 17)), some (.int h0), none, none]) rfl (args := (#[.ref (w.2.1 17), .int h0] : Array Value)) rfl (own := RX2) rfl ?_
  intro p e s m below meth c C
  have L12 : ∀ (fu : Nat) (i : Nat) (f : Int32), n - i < fu → (i ≤ n) → (bI (HasAny (oC X) (X 18) i h0) f) → V p l e ({ frames := 3, cells := 0, slots := 0, locals := 64 } : Room) s m (#[.ref (w.2.1 17), .int h0] : Array Value) below meth c w 4 0 0 (EI w below s (#[.ref (w.2.1 17), .int h0] : Array Value) 0 0 (q_X2_holdsAnything h0 X n)) 12 [some (.ref (w.2.1 17)), some (.int h0), some (.int f), some (.int (nI i))] [] X := by
    intro fu
    induction fu with
    | zero => intro i f hm; exact absurd hm (Nat.not_lt_zero _)
    | succ fu ih12 =>
      intro i f hm12 hi hb
      refine V_iload_n C dX2_holdsAnything_12 rfl ?_
      refine V_aload_n C dX2_holdsAnything_13 rfl ?_
      refine V_getr C fl_X2_23 dX2_holdsAnything_14 (by decide) sh_17 rfl ?_
      refine V_geti C fl_X2_33 dX2_holdsAnything_17 (by decide) sh_6 rfl ?_
      refine V_eqi (y := nI n) hn ?_
      refine V_icmp_geN (a := i) (b := n) (tgt := 40) C dX2_holdsAnything_20 (by decide) (by omega) (by omega) (fun h20_1 => ?_) (fun h20_1 => ?_)
      · refine V_iload_n C dX2_holdsAnything_40 rfl ?_
        exact V_zreturnI C dX2_holdsAnything_41 hb.z (by first | exact ⟨hb.congr ⟨fun q => HasAny.mono hi q, fun q => HasAny.mono (by omega) q⟩, rfl⟩ | exact ⟨hb.congr ⟨fun q => HasAny.mono hi q, fun _ => by assumption⟩, rfl⟩)
      · refine V_iload_n C dX2_holdsAnything_23 rfl ?_
        refine V_if_neB (tgt := 40) C hb dX2_holdsAnything_24 (by decide) (fun h24_2 => ?_) (fun h24_2 => ?_)
        · refine V_iload_n C dX2_holdsAnything_40 rfl ?_
          exact V_zreturnI C dX2_holdsAnything_41 hb.z (by first | exact ⟨hb.congr ⟨fun q => HasAny.mono hi q, fun q => HasAny.mono (by omega) q⟩, rfl⟩ | exact ⟨hb.congr ⟨fun q => HasAny.mono hi q, fun _ => by assumption⟩, rfl⟩)
        · refine V_aload_n C dX2_holdsAnything_27 rfl ?_
          refine V_iload_n C dX2_holdsAnything_28 rfl ?_
          refine V_iload_n C dX2_holdsAnything_29 rfl ?_
          refine V_callVI C [.int (nI i), .int h0] mi_X2_101 (k_X2_isGoodGrantTo w l i h0 X (by omega)) dX2_holdsAnything_30 sh_17 (by decide) rfl rfl rfl (Nat.le_of_ble_eq_true rfl) (Nat.le_of_ble_eq_true rfl) (Nat.le_of_ble_eq_true rfl) ⟨Nat.le_refl _, Nat.le_refl _⟩ (fun v3 X3 q3 => ?_)
          obtain ⟨hb3, eX3⟩ := q3; subst X3
          refine V_istore_n (ls1 := [some (.ref (w.2.1 17)), some (.int h0), some (.int v3), some (.int (nI i))]) C dX2_holdsAnything_33 (by decide) rfl ?_
          refine V_iincN (a := i) (ls1 := [some (.ref (w.2.1 17)), some (.int h0), some (.int v3), some (.int (nI (i + 1)))]) C dX2_holdsAnything_34 rfl (by decide) rfl ?_
          refine V_goto (tgt := 12) C dX2_holdsAnything_37 (by decide) ?_
          exact ih12 (i + 1) v3 (by omega) (by omega) (hb3.congr (by rw [HasAny_succ]; simp_all))
  refine V_iload_n C dX2_holdsAnything_0 rfl ?_
  refine V_if_ne (x := h0) (tgt := 8) C dX2_holdsAnything_1 (by decide) (fun h1_4 => ?_) (fun h1_4 => ?_)
  · refine V_iconst (v := (0 : Int32)) C dX2_holdsAnything_8 (by decide) ?_
    refine V_istore_n (ls1 := [some (.ref (w.2.1 17)), some (.int h0), some (.int (0 : Int32)), none]) C dX2_holdsAnything_9 (by decide) rfl ?_
    refine V_iconst (v := (0 : Int32)) C dX2_holdsAnything_10 (by decide) ?_
    refine V_istore_n (ls1 := [some (.ref (w.2.1 17)), some (.int h0), some (.int (0 : Int32)), some (.int (0 : Int32))]) C dX2_holdsAnything_11 (by decide) rfl ?_
    exact L12 _ 0 (0 : Int32) (Nat.lt_succ_self _) (by omega) (bI.f (by simp_all [HasAny]))
  · refine V_iconst (v := (1 : Int32)) C dX2_holdsAnything_4 (by decide) ?_
    refine V_goto (tgt := 9) C dX2_holdsAnything_5 (by decide) ?_
    refine V_istore_n (ls1 := [some (.ref (w.2.1 17)), some (.int h0), some (.int (1 : Int32)), none]) C dX2_holdsAnything_9 (by decide) rfl ?_
    refine V_iconst (v := (0 : Int32)) C dX2_holdsAnything_10 (by decide) ?_
    refine V_istore_n (ls1 := [some (.ref (w.2.1 17)), some (.int h0), some (.int (1 : Int32)), some (.int (0 : Int32))]) C dX2_holdsAnything_11 (by decide) rfl ?_
    exact L12 _ 0 (1 : Int32) (Nat.lt_succ_self _) (by omega) (bI.t (Or.inl (by assumption)))
def q_X2_holds (h0 : Int32) (v : Int32) (b : Int32) (X : Mem) (n : Nat) : Int32 → Mem → Prop := fun r X' => bI (HasB (oC X) (X 18) n h0 v b) r ∧ X' = X
set_option maxHeartbeats 4000000 in
set_option maxRecDepth 100000 in
theorem k_X2_holds (w : Wt) (l : Launch) (h0 : Int32) (v : Int32) (b : Int32) (X : Mem) (n : Nat) (hn : X 6 0 = nI n) (n50 : n ≤ 50) : CtI w l yX2_holds cX2_holds 6 (some .boolean) 3 67 [.ref (w.2.1 17), .int h0, .int v, .int b] X (q_X2_holds h0 v b X n) := by
  refine CtI_of (by decide +kernel) (Nat.le_of_ble_eq_true rfl) (List.forall_mem_cons.mpr ⟨rfl, (List.forall_mem_cons.mpr ⟨rfl, (List.forall_mem_cons.mpr ⟨rfl, (List.forall_mem_cons.mpr ⟨rfl, (fun _ h => nomatch h)⟩)⟩)⟩)⟩) (ls := [some (.ref (w.2.1 17)), some (.int h0), some (.int v), some (.int b), none, none]) rfl (args := (#[.ref (w.2.1 17), .int h0, .int v, .int b] : Array Value)) rfl (own := RX2) rfl ?_
  intro p e s m below meth c C
  have L14 : ∀ (fu : Nat) (i : Nat) (f : Int32), n - i < fu → (i ≤ n) → (bI (HasB (oC X) (X 18) i h0 v b) f) → V p l e ({ frames := 3, cells := 0, slots := 0, locals := 67 } : Room) s m (#[.ref (w.2.1 17), .int h0, .int v, .int b] : Array Value) below meth c w 6 0 0 (EI w below s (#[.ref (w.2.1 17), .int h0, .int v, .int b] : Array Value) 0 0 (q_X2_holds h0 v b X n)) 14 [some (.ref (w.2.1 17)), some (.int h0), some (.int v), some (.int b), some (.int f), some (.int (nI i))] [] X := by
    intro fu
    induction fu with
    | zero => intro i f hm; exact absurd hm (Nat.not_lt_zero _)
    | succ fu ih14 =>
      intro i f hm14 hi hb
      refine V_iload C dX2_holds_14 rfl ?_
      refine V_aload_n C dX2_holds_16 rfl ?_
      refine V_getr C fl_X2_23 dX2_holds_17 (by decide) sh_17 rfl ?_
      refine V_geti C fl_X2_33 dX2_holds_20 (by decide) sh_6 rfl ?_
      refine V_eqi (y := nI n) hn ?_
      refine V_icmp_geN (a := i) (b := n) (tgt := 68) C dX2_holds_23 (by decide) (by omega) (by omega) (fun h23_1 => ?_) (fun h23_1 => ?_)
      · refine V_iload C dX2_holds_68 rfl ?_
        exact V_zreturnI C dX2_holds_70 hb.z (by first | exact ⟨hb.congr ⟨fun q => HasB.mono hi q, fun q => HasB.mono (by omega) q⟩, rfl⟩ | exact ⟨hb.congr ⟨fun q => HasB.mono hi q, fun _ => by assumption⟩, rfl⟩)
      · refine V_iload C dX2_holds_26 rfl ?_
        refine V_if_neB (tgt := 68) C hb dX2_holds_28 (by decide) (fun h28_2 => ?_) (fun h28_2 => ?_)
        · refine V_iload C dX2_holds_68 rfl ?_
          exact V_zreturnI C dX2_holds_70 hb.z (by first | exact ⟨hb.congr ⟨fun q => HasB.mono hi q, fun q => HasB.mono (by omega) q⟩, rfl⟩ | exact ⟨hb.congr ⟨fun q => HasB.mono hi q, fun _ => by assumption⟩, rfl⟩)
        · refine V_aload_n C dX2_holds_31 rfl ?_
          refine V_iload C dX2_holds_32 rfl ?_
          refine V_iload_n C dX2_holds_34 rfl ?_
          refine V_callVI C [.int (nI i), .int h0] mi_X2_101 (k_X2_isGoodGrantTo w l i h0 X (by omega)) dX2_holds_35 sh_17 (by decide) rfl rfl rfl (Nat.le_of_ble_eq_true rfl) (Nat.le_of_ble_eq_true rfl) (Nat.le_of_ble_eq_true rfl) ⟨Nat.le_refl _, Nat.le_refl _⟩ (fun v3 X3 q3 => ?_)
          obtain ⟨hb3, eX3⟩ := q3; subst X3
          refine V_if_eqB (tgt := 59) C hb3 dX2_holds_38 (by decide) (fun h38_4 => ?_) (fun h38_4 => ?_)
          · refine V_iconst (v := (0 : Int32)) C dX2_holds_59 (by decide) ?_
            refine V_istore (ls1 := [some (.ref (w.2.1 17)), some (.int h0), some (.int v), some (.int b), some (.int (0 : Int32)), some (.int (nI i))]) C dX2_holds_60 (by decide) rfl ?_
            refine V_iincN (a := i) (ls1 := [some (.ref (w.2.1 17)), some (.int h0), some (.int v), some (.int b), some (.int (0 : Int32)), some (.int (nI (i + 1)))]) C dX2_holds_62 rfl (by decide) rfl ?_
            refine V_goto (tgt := 14) C dX2_holds_65 (by decide) ?_
            exact ih14 (i + 1) (0 : Int32) (by omega) (by omega) (bI.f (by rw [HasB_succ]; simp_all))
          · refine V_aload_n C dX2_holds_41 rfl ?_
            refine V_getr C fl_X2_23 dX2_holds_42 (by decide) sh_17 rfl ?_
            refine V_iload C dX2_holds_45 rfl ?_
            refine V_iload_n C dX2_holds_47 rfl ?_
            refine V_iload_n C dX2_holds_48 rfl ?_
            refine V_callVI C [.int (nI i), .int v, .int b] mi_X2_104 (k_X7_covers w l i v b X (by omega)) dX2_holds_49 sh_6 (by decide) rfl rfl rfl (Nat.le_of_ble_eq_true rfl) (Nat.le_of_ble_eq_true rfl) (Nat.le_of_ble_eq_true rfl) ⟨Nat.le_refl _, Nat.le_refl _⟩ (fun v5 X5 q5 => ?_)
            obtain ⟨hb5, eX5⟩ := q5; subst X5
            refine V_if_eqB (tgt := 59) C hb5 dX2_holds_52 (by decide) (fun h52_6 => ?_) (fun h52_6 => ?_)
            · refine V_iconst (v := (0 : Int32)) C dX2_holds_59 (by decide) ?_
              refine V_istore (ls1 := [some (.ref (w.2.1 17)), some (.int h0), some (.int v), some (.int b), some (.int (0 : Int32)), some (.int (nI i))]) C dX2_holds_60 (by decide) rfl ?_
              refine V_iincN (a := i) (ls1 := [some (.ref (w.2.1 17)), some (.int h0), some (.int v), some (.int b), some (.int (0 : Int32)), some (.int (nI (i + 1)))]) C dX2_holds_62 rfl (by decide) rfl ?_
              refine V_goto (tgt := 14) C dX2_holds_65 (by decide) ?_
              exact ih14 (i + 1) (0 : Int32) (by omega) (by omega) (bI.f (by rw [HasB_succ]; simp_all))
            · refine V_iconst (v := (1 : Int32)) C dX2_holds_55 (by decide) ?_
              refine V_goto (tgt := 60) C dX2_holds_56 (by decide) ?_
              refine V_istore (ls1 := [some (.ref (w.2.1 17)), some (.int h0), some (.int v), some (.int b), some (.int (1 : Int32)), some (.int (nI i))]) C dX2_holds_60 (by decide) rfl ?_
              refine V_iincN (a := i) (ls1 := [some (.ref (w.2.1 17)), some (.int h0), some (.int v), some (.int b), some (.int (1 : Int32)), some (.int (nI (i + 1)))]) C dX2_holds_62 rfl (by decide) rfl ?_
              refine V_goto (tgt := 14) C dX2_holds_65 (by decide) ?_
              exact ih14 (i + 1) (1 : Int32) (by omega) (by omega) (bI.t (by rw [HasB_succ]; simp_all))
  refine V_iload_n C dX2_holds_0 rfl ?_
  refine V_if_ne (x := h0) (tgt := 8) C dX2_holds_1 (by decide) (fun h1_7 => ?_) (fun h1_7 => ?_)
  · refine V_iconst (v := (0 : Int32)) C dX2_holds_8 (by decide) ?_
    refine V_istore (ls1 := [some (.ref (w.2.1 17)), some (.int h0), some (.int v), some (.int b), some (.int (0 : Int32)), none]) C dX2_holds_9 (by decide) rfl ?_
    refine V_iconst (v := (0 : Int32)) C dX2_holds_11 (by decide) ?_
    refine V_istore (ls1 := [some (.ref (w.2.1 17)), some (.int h0), some (.int v), some (.int b), some (.int (0 : Int32)), some (.int (0 : Int32))]) C dX2_holds_12 (by decide) rfl ?_
    exact L14 _ 0 (0 : Int32) (Nat.lt_succ_self _) (by omega) (bI.f (by simp_all [HasB]))
  · refine V_iconst (v := (1 : Int32)) C dX2_holds_4 (by decide) ?_
    refine V_goto (tgt := 9) C dX2_holds_5 (by decide) ?_
    refine V_istore (ls1 := [some (.ref (w.2.1 17)), some (.int h0), some (.int v), some (.int b), some (.int (1 : Int32)), none]) C dX2_holds_9 (by decide) rfl ?_
    refine V_iconst (v := (0 : Int32)) C dX2_holds_11 (by decide) ?_
    refine V_istore (ls1 := [some (.ref (w.2.1 17)), some (.int h0), some (.int v), some (.int b), some (.int (1 : Int32)), some (.int (0 : Int32))]) C dX2_holds_12 (by decide) rfl ?_
    exact L14 _ 0 (1 : Int32) (Nat.lt_succ_self _) (by omega) (bI.t (Or.inl (by assumption)))
def q_X2_isOutside (o : Nat) (X : Mem) (h n : Nat) : Int32 → Mem → Prop := fun r X' => bI (OutS (oC X) (gC X) (X 18) n o) r ∧ X' = X
set_option maxHeartbeats 4000000 in
set_option maxRecDepth 100000 in
theorem k_X2_isOutside (w : Wt) (l : Launch) (o : Nat) (X : Mem) (h n : Nat) (hO : OInv (oC X) h n) (hG : GInv (gC X) h) (hn : X 6 0 = nI n) (ho : o < n) : CtI w l yX2_isOutside cX2_isOutside 4 (some .boolean) 4 92 [.ref (w.2.1 17), .int (nI o)] X (q_X2_isOutside o X h n) := by
  have n50 := hO.1
  have h8 := hG.2.1
  have hO1 := hO.2 o ho
  refine CtI_of (by decide +kernel) (Nat.le_of_ble_eq_true rfl) (List.forall_mem_cons.mpr ⟨rfl, (List.forall_mem_cons.mpr ⟨rfl, (fun _ h => nomatch h)⟩)⟩) (ls := [some (.ref (w.2.1 17)), some (.int (nI o)), none, none]) rfl (args := (#[.ref (w.2.1 17), .int (nI o)] : Array Value)) rfl (own := RX2) rfl ?_
  intro p e s m below meth c C
  refine V_aload_n C dX2_isOutside_0 rfl ?_
  refine V_getr C fl_X2_23 dX2_isOutside_1 (by decide) sh_17 rfl ?_
  refine V_getr C fl_X2_57 dX2_isOutside_4 (by decide) sh_6 rfl ?_
  refine V_iload_n C dX2_isOutside_7 rfl ?_
  refine V_ialdN (p0 := 8) (o := o) (v := X 8 o) C dX2_isOutside_8 sh_8 (by decide) (by omega) (by decide) rfl ?_
  obtain ⟨a1, ha1, ea1⟩ := hO1.1
  have ia1 : ix (nI a1) = a1 := ix_nI (by omega)
  refine V_eqi ea1 ?_
  refine V_istore_n (ls1 := [some (.ref (w.2.1 17)), some (.int (nI o)), some (.int (nI a1)), none]) C dX2_isOutside_9 (by decide) rfl ?_
  refine V_aload_n C dX2_isOutside_10 rfl ?_
  refine V_getr C fl_X2_23 dX2_isOutside_11 (by decide) sh_17 rfl ?_
  refine V_getr C fl_X2_47 dX2_isOutside_14 (by decide) sh_6 rfl ?_
  refine V_iload_n C dX2_isOutside_17 rfl ?_
  refine V_ialdN (p0 := 9) (o := o) (v := X 9 o) C dX2_isOutside_18 sh_9 (by decide) (by omega) (by decide) rfl ?_
  refine V_istore_n (ls1 := [some (.ref (w.2.1 17)), some (.int (nI o)), some (.int (nI a1)), some (.int (X 9 o))]) C dX2_isOutside_19 (by decide) rfl ?_
  refine V_aload_n C dX2_isOutside_20 rfl ?_
  refine V_getr C fl_X2_23 dX2_isOutside_21 (by decide) sh_17 rfl ?_
  refine V_getr C fl_X2_44 dX2_isOutside_24 (by decide) sh_6 rfl ?_
  refine V_iload_n C dX2_isOutside_27 rfl ?_
  refine V_ialdN (p0 := 7) (o := o) (v := X 7 o) C dX2_isOutside_28 sh_7 (by decide) (by omega) (by decide) rfl ?_
  refine V_iconst (v := (2 : Int32)) C dX2_isOutside_29 (by decide) ?_
  refine V_icmp_ne (x := X 7 o) (y := (2 : Int32)) (tgt := 60) C dX2_isOutside_30 (by decide) (fun h30_2 => ?_) (fun h30_2 => ?_)
  · refine V_aload_n C dX2_isOutside_60 rfl ?_
    refine V_getr C fl_X2_23 dX2_isOutside_61 (by decide) sh_17 rfl ?_
    refine V_getr C fl_X2_44 dX2_isOutside_64 (by decide) sh_6 rfl ?_
    refine V_iload_n C dX2_isOutside_67 rfl ?_
    refine V_ialdN (p0 := 7) (o := o) (v := X 7 o) C dX2_isOutside_68 sh_7 (by decide) (by omega) (by decide) rfl ?_
    refine V_if_ne (x := X 7 o) (tgt := 87) C dX2_isOutside_69 (by decide) (fun h69_3 => ?_) (fun h69_3 => ?_)
    · refine V_aload_n C dX2_isOutside_87 rfl ?_
      refine V_iload_n C dX2_isOutside_88 rfl ?_
      refine V_aload_n C dX2_isOutside_89 rfl ?_
      refine V_getr C fl_X2_23 dX2_isOutside_90 (by decide) sh_17 rfl ?_
      refine V_getr C fl_X2_91 dX2_isOutside_93 (by decide) sh_6 rfl ?_
      refine V_iload_n C dX2_isOutside_96 rfl ?_
      refine V_ialdN (p0 := 10) (o := o) (v := X 10 o) C dX2_isOutside_97 sh_10 (by decide) (by omega) (by decide) rfl ?_
      refine V_aload_n C dX2_isOutside_98 rfl ?_
      refine V_getr C fl_X2_23 dX2_isOutside_99 (by decide) sh_17 rfl ?_
      refine V_getr C fl_X2_94 dX2_isOutside_102 (by decide) sh_6 rfl ?_
      refine V_iload_n C dX2_isOutside_105 rfl ?_
      refine V_ialdN (p0 := 11) (o := o) (v := X 11 o) C dX2_isOutside_106 sh_11 (by decide) (by omega) (by decide) rfl ?_
      refine V_callVI C [.int (nI a1), .int (X 10 o), .int (X 11 o)] mi_X2_97 (k_X2_holds w l (nI a1) (X 10 o) (X 11 o) X n hn n50) dX2_isOutside_107 sh_17 (by decide) rfl rfl rfl (Nat.le_of_ble_eq_true rfl) (Nat.le_of_ble_eq_true rfl) (Nat.le_of_ble_eq_true rfl) ⟨Nat.le_refl _, Nat.le_refl _⟩ (fun v4 X4 q4 => ?_)
      obtain ⟨hb4, eX4⟩ := q4; subst X4
      refine V_if_neB (tgt := 117) C hb4 dX2_isOutside_110 (by decide) (fun h110_5 => ?_) (fun h110_5 => ?_)
      · refine V_iconst (v := (0 : Int32)) C dX2_isOutside_117 (by decide) ?_
        exact V_zreturnI C dX2_isOutside_118 (Or.inl rfl) ⟨bI.f (by simp_all [OutS, oC, gC, kd, isr, whm, vlu, len, ext, lst, sgn, rvk, lsd, prt, kyy, frs, own, ← Int32.not_lt]), rfl⟩
      · refine V_iconst (v := (1 : Int32)) C dX2_isOutside_113 (by decide) ?_
        refine V_goto (tgt := 118) C dX2_isOutside_114 (by decide) ?_
        exact V_zreturnI C dX2_isOutside_118 (Or.inr rfl) ⟨bI.t (by simp_all [OutS, oC, gC, kd, isr, whm, vlu, len, ext, lst, sgn, rvk, lsd, prt, kyy, frs, own, ← Int32.not_lt]), rfl⟩
    · refine V_aload_n C dX2_isOutside_72 rfl ?_
      refine V_getr C fl_X2_19 dX2_isOutside_73 (by decide) sh_17 rfl ?_
      refine V_getr C fl_X2_88 dX2_isOutside_76 (by decide) sh_1 rfl ?_
      refine V_iload_n C dX2_isOutside_79 rfl ?_
      obtain ⟨a6, ha6, ea6⟩ := hO1.2.2.1 (by simp_all [oC, kd])
      have ia6 : ix (nI a6) = a6 := ix_nI (by omega)
      refine V_eqi ea6 ?_
      refine V_ialdN (p0 := 2) (o := a6) (v := X 2 a6) C dX2_isOutside_80 sh_2 (by decide) (by omega) (by decide) rfl ?_
      refine V_iload_n C dX2_isOutside_81 rfl ?_
      refine V_icmp_eq (x := X 2 a6) (y := nI a1) (tgt := 87) C dX2_isOutside_82 (by decide) (fun h82_7 => ?_) (fun h82_7 => ?_)
      · refine V_aload_n C dX2_isOutside_87 rfl ?_
        refine V_iload_n C dX2_isOutside_88 rfl ?_
        refine V_aload_n C dX2_isOutside_89 rfl ?_
        refine V_getr C fl_X2_23 dX2_isOutside_90 (by decide) sh_17 rfl ?_
        refine V_getr C fl_X2_91 dX2_isOutside_93 (by decide) sh_6 rfl ?_
        refine V_iload_n C dX2_isOutside_96 rfl ?_
        refine V_ialdN (p0 := 10) (o := o) (v := X 10 o) C dX2_isOutside_97 sh_10 (by decide) (by omega) (by decide) rfl ?_
        refine V_aload_n C dX2_isOutside_98 rfl ?_
        refine V_getr C fl_X2_23 dX2_isOutside_99 (by decide) sh_17 rfl ?_
        refine V_getr C fl_X2_94 dX2_isOutside_102 (by decide) sh_6 rfl ?_
        refine V_iload_n C dX2_isOutside_105 rfl ?_
        refine V_ialdN (p0 := 11) (o := o) (v := X 11 o) C dX2_isOutside_106 sh_11 (by decide) (by omega) (by decide) rfl ?_
        refine V_callVI C [.int (nI a1), .int (X 10 o), .int (X 11 o)] mi_X2_97 (k_X2_holds w l (nI a1) (X 10 o) (X 11 o) X n hn n50) dX2_isOutside_107 sh_17 (by decide) rfl rfl rfl (Nat.le_of_ble_eq_true rfl) (Nat.le_of_ble_eq_true rfl) (Nat.le_of_ble_eq_true rfl) ⟨Nat.le_refl _, Nat.le_refl _⟩ (fun v8 X8 q8 => ?_)
        obtain ⟨hb8, eX8⟩ := q8; subst X8
        refine V_if_neB (tgt := 117) C hb8 dX2_isOutside_110 (by decide) (fun h110_9 => ?_) (fun h110_9 => ?_)
        · refine V_iconst (v := (0 : Int32)) C dX2_isOutside_117 (by decide) ?_
          exact V_zreturnI C dX2_isOutside_118 (Or.inl rfl) ⟨bI.f (by simp_all [OutS, oC, gC, kd, isr, whm, vlu, len, ext, lst, sgn, rvk, lsd, prt, kyy, frs, own, ← Int32.not_lt]), rfl⟩
        · refine V_iconst (v := (1 : Int32)) C dX2_isOutside_113 (by decide) ?_
          refine V_goto (tgt := 118) C dX2_isOutside_114 (by decide) ?_
          exact V_zreturnI C dX2_isOutside_118 (Or.inr rfl) ⟨bI.t (by simp_all [OutS, oC, gC, kd, isr, whm, vlu, len, ext, lst, sgn, rvk, lsd, prt, kyy, frs, own, ← Int32.not_lt]), rfl⟩
      · refine V_iconst (v := (1 : Int32)) C dX2_isOutside_85 (by decide) ?_
        exact V_zreturnI C dX2_isOutside_86 (Or.inr rfl) ⟨bI.t (by simp_all [OutS, oC, gC, kd, isr, whm, vlu, len, ext, lst, sgn, rvk, lsd, prt, kyy, frs, own, ← Int32.not_lt]), rfl⟩
  · refine V_aload_n C dX2_isOutside_33 rfl ?_
    refine V_getr C fl_X2_19 dX2_isOutside_34 (by decide) sh_17 rfl ?_
    refine V_getr C fl_X2_82 dX2_isOutside_37 (by decide) sh_1 rfl ?_
    refine V_iload_n C dX2_isOutside_40 rfl ?_
    obtain ⟨a10, ha10, ea10⟩ := hO1.2.2.2.1 (by simp_all [oC, kd])
    have ia10 : ix (nI a10) = a10 := ix_nI (by omega)
    refine V_eqi ea10 ?_
    refine V_ialdN (p0 := 5) (o := a10) (v := X 5 a10) C dX2_isOutside_41 sh_5 (by decide) (by omega) (by decide) rfl ?_
    refine V_iload_n C dX2_isOutside_42 rfl ?_
    refine V_icmp_ne (x := X 5 a10) (y := nI a1) (tgt := 54) C dX2_isOutside_43 (by decide) (fun h43_11 => ?_) (fun h43_11 => ?_)
    · refine V_iconst (v := (1 : Int32)) C dX2_isOutside_54 (by decide) ?_
      refine V_goto (tgt := 59) C dX2_isOutside_55 (by decide) ?_
      exact V_zreturnI C dX2_isOutside_59 (Or.inr rfl) ⟨bI.t (by simp_all [OutS, oC, gC, kd, isr, whm, vlu, len, ext, lst, sgn, rvk, lsd, prt, kyy, frs, own, ← Int32.not_lt]), rfl⟩
    · refine V_aload_n C dX2_isOutside_46 rfl ?_
      refine V_iload_n C dX2_isOutside_47 rfl ?_
      refine V_callVI C [.int (nI a1)] mi_X2_85 (k_X2_holdsAnything w l (nI a1) X n hn n50) dX2_isOutside_48 sh_17 (by decide) rfl rfl rfl (Nat.le_of_ble_eq_true rfl) (Nat.le_of_ble_eq_true rfl) (Nat.le_of_ble_eq_true rfl) ⟨Nat.le_refl _, Nat.le_refl _⟩ (fun v12 X12 q12 => ?_)
      obtain ⟨hb12, eX12⟩ := q12; subst X12
      refine V_if_neB (tgt := 58) C hb12 dX2_isOutside_51 (by decide) (fun h51_13 => ?_) (fun h51_13 => ?_)
      · refine V_iconst (v := (0 : Int32)) C dX2_isOutside_58 (by decide) ?_
        exact V_zreturnI C dX2_isOutside_59 (Or.inl rfl) ⟨bI.f (by simp_all [OutS, oC, gC, kd, isr, whm, vlu, len, ext, lst, sgn, rvk, lsd, prt, kyy, frs, own, ← Int32.not_lt]), rfl⟩
      · refine V_iconst (v := (1 : Int32)) C dX2_isOutside_54 (by decide) ?_
        refine V_goto (tgt := 59) C dX2_isOutside_55 (by decide) ?_
        exact V_zreturnI C dX2_isOutside_59 (Or.inr rfl) ⟨bI.t (by simp_all [OutS, oC, gC, kd, isr, whm, vlu, len, ext, lst, sgn, rvk, lsd, prt, kyy, frs, own, ← Int32.not_lt]), rfl⟩
def q_X2_judgeOne (o : Nat) (X : Mem) (h n : Nat) : Int32 → Mem → Prop := fun r X' => JR (oC X) (gC X) (X 18) n (X 1 0) o r ∧ X' = X
set_option maxHeartbeats 4000000 in
set_option maxRecDepth 100000 in
theorem k_X2_judgeOne (w : Wt) (l : Launch) (o : Nat) (X : Mem) (h n : Nat) (hO : OInv (oC X) h n) (hG : GInv (gC X) h) (hn : X 6 0 = nI n) (ho : o < n) : CtI w l yX2_judgeOne cX2_judgeOne 3 (some .int) 5 115 [.ref (w.2.1 17), .int (nI o)] X (q_X2_judgeOne o X h n) := by
  have n50 := hO.1
  have h8 := hG.2.1
  refine CtI_of (by decide +kernel) (Nat.le_of_ble_eq_true rfl) (List.forall_mem_cons.mpr ⟨rfl, (List.forall_mem_cons.mpr ⟨rfl, (fun _ h => nomatch h)⟩)⟩) (ls := [some (.ref (w.2.1 17)), some (.int (nI o)), none]) rfl (args := (#[.ref (w.2.1 17), .int (nI o)] : Array Value)) rfl (own := RX2) rfl ?_
  intro p e s m below meth c C
  refine V_aload_n C dX2_judgeOne_0 rfl ?_
  refine V_iload_n C dX2_judgeOne_1 rfl ?_
  refine V_callVI C [.int (nI o)] mi_X2_50 (k_X2_faultOfItsOwn w l o X h n hO hG hn (by omega)) dX2_judgeOne_2 sh_17 (by decide) rfl rfl rfl (Nat.le_of_ble_eq_true rfl) (Nat.le_of_ble_eq_true rfl) (Nat.le_of_ble_eq_true rfl) ⟨Nat.le_refl _, Nat.le_refl _⟩ (fun v1 X1 q1 => ?_)
  obtain ⟨ev1, eX1⟩ := q1; subst X1
  subst v1
  refine V_istore_n (ls1 := [some (.ref (w.2.1 17)), some (.int (nI o)), some (.int (faultS (oC X) (gC X) (X 1 0) o))]) C dX2_judgeOne_5 (by decide) rfl ?_
  refine V_iload_n C dX2_judgeOne_6 rfl ?_
  refine V_if_eq (x := faultS (oC X) (gC X) (X 1 0) o) (tgt := 12) C dX2_judgeOne_7 (by decide) (fun h7_2 => ?_) (fun h7_2 => ?_)
  · refine V_aload_n C dX2_judgeOne_12 rfl ?_
    refine V_iload_n C dX2_judgeOne_13 rfl ?_
    refine V_callVI C [.int (nI o)] mi_X2_53 (k_X2_isOutside w l o X h n hO hG hn ho) dX2_judgeOne_14 sh_17 (by decide) rfl rfl rfl (Nat.le_of_ble_eq_true rfl) (Nat.le_of_ble_eq_true rfl) (Nat.le_of_ble_eq_true rfl) ⟨Nat.le_refl _, Nat.le_refl _⟩ (fun v3 X3 q3 => ?_)
    obtain ⟨hb3, eX3⟩ := q3; subst X3
    refine V_if_eqB (tgt := 24) C hb3 dX2_judgeOne_17 (by decide) (fun h17_4 => ?_) (fun h17_4 => ?_)
    · refine V_iconst (v := (0 : Int32)) C dX2_judgeOne_24 (by decide) ?_
      exact V_ireturnI C dX2_judgeOne_25 (by first | exact ⟨Or.inl ⟨by assumption, rfl⟩, rfl⟩ | exact ⟨Or.inr (Or.inl ⟨by assumption, by assumption, rfl⟩), rfl⟩ | exact ⟨Or.inr (Or.inr ⟨by assumption, by assumption, rfl⟩), rfl⟩)
    · refine V_iconst (v := (5 : Int32)) C dX2_judgeOne_20 (by decide) ?_
      refine V_goto (tgt := 25) C dX2_judgeOne_21 (by decide) ?_
      exact V_ireturnI C dX2_judgeOne_25 (by first | exact ⟨Or.inl ⟨by assumption, rfl⟩, rfl⟩ | exact ⟨Or.inr (Or.inl ⟨by assumption, by assumption, rfl⟩), rfl⟩ | exact ⟨Or.inr (Or.inr ⟨by assumption, by assumption, rfl⟩), rfl⟩)
  · refine V_iload_n C dX2_judgeOne_10 rfl ?_
    exact V_ireturnI C dX2_judgeOne_11 (by first | exact ⟨Or.inl ⟨by assumption, rfl⟩, rfl⟩ | exact ⟨Or.inr (Or.inl ⟨by assumption, by assumption, rfl⟩), rfl⟩ | exact ⟨Or.inr (Or.inr ⟨by assumption, by assumption, rfl⟩), rfl⟩)
def q_X2_judgeAll (X : Mem) (h n : Nat) : Mem → Prop := fun X' => ∃ V, X' = ma X 18 V ∧ IsV (oC X) (gC X) n (X 1 0) V
set_option maxHeartbeats 4000000 in
set_option maxRecDepth 100000 in
theorem k_X2_judgeAll (w : Wt) (l : Launch) (X : Mem) (h n : Nat) (hO : OInv (oC X) h n) (hG : GInv (gC X) h) (hn : X 6 0 = nI n) (hh : X 1 1 = nI h) : CtU w l yX2_judgeAll cX2_judgeAll 3 none 6 137 [.ref (w.2.1 17)] X (q_X2_judgeAll X h n) := by
  have n50 := hO.1
  have h8 := hG.2.1
  refine CtU_of (by decide +kernel) (Nat.le_of_ble_eq_true rfl) (List.forall_mem_cons.mpr ⟨rfl, (fun _ h => nomatch h)⟩) (ls := [some (.ref (w.2.1 17)), none, none]) rfl (args := (#[.ref (w.2.1 17)] : Array Value)) rfl (own := RX2) rfl ?_
  intro p e s m below meth c C
  refine V_iconst (v := (0 : Int32)) C dX2_judgeAll_0 (by decide) ?_
  refine V_istore_n (ls1 := [some (.ref (w.2.1 17)), some (.int (0 : Int32)), none]) C dX2_judgeAll_1 (by decide) rfl ?_
  have L2 : ∀ (fu : Nat) (c0 : Nat) (Vd : Nat → Int32), h - c0 < fu → (c0 ≤ h) → (∀ o b, o < n → b < c0 → GrantTo (oC X) o (nI b) → JR (oC X) (gC X) Vd n (X 1 0) o (Vd o)) → V p l e ({ frames := 6, cells := 0, slots := 0, locals := 137 } : Room) s m (#[.ref (w.2.1 17)] : Array Value) below meth c w 3 0 0 (EU w below s (#[.ref (w.2.1 17)] : Array Value) 0 0 (q_X2_judgeAll X h n)) 2 [some (.ref (w.2.1 17)), some (.int (nI c0)), none] [] (ma X 18 Vd) := by
    intro fu
    induction fu with
    | zero => intro c0 Vd hm; exact absurd hm (Nat.not_lt_zero _)
    | succ fu ih2 =>
      intro c0 Vd hm2 hi hV
      refine V_iload_n C dX2_judgeAll_2 rfl ?_
      refine V_aload_n C dX2_judgeAll_3 rfl ?_
      refine V_getr C fl_X2_19 dX2_judgeAll_4 (by decide) sh_17 rfl ?_
      refine V_geti C fl_X2_27 dX2_judgeAll_7 (by decide) sh_1 rfl ?_
      refine V_eqi (y := X 1 1) rfl ?_
      refine V_eqi (y := nI h) hh ?_
      refine V_icmp_geN (a := c0) (b := h) (tgt := 58) C dX2_judgeAll_10 (by decide) (by omega) (by omega) (fun h10_1 => ?_) (fun h10_1 => ?_)
      · refine V_iconst (v := (0 : Int32)) C dX2_judgeAll_58 (by decide) ?_
        refine V_istore_n (ls1 := [some (.ref (w.2.1 17)), some (.int (0 : Int32)), none]) C dX2_judgeAll_59 (by decide) rfl ?_
        have L60 : ∀ (fu : Nat) (i : Nat) (V2 : Nat → Int32), n - i < fu → (i ≤ n) → (∀ o, o < n → kd (oC X) o = 0 → JR (oC X) (gC X) V2 n (X 1 0) o (V2 o)) → (∀ o, o < i → kd (oC X) o ≠ 0 → JR (oC X) (gC X) V2 n (X 1 0) o (V2 o)) → V p l e ({ frames := 6, cells := 0, slots := 0, locals := 137 } : Room) s m (#[.ref (w.2.1 17)] : Array Value) below meth c w 3 0 0 (EU w below s (#[.ref (w.2.1 17)] : Array Value) 0 0 (q_X2_judgeAll X h n)) 60 [some (.ref (w.2.1 17)), some (.int (nI i)), none] [] (ma X 18 V2) := by
          intro fu
          induction fu with
          | zero => intro i V2 hm; exact absurd hm (Nat.not_lt_zero _)
          | succ fu ih60 =>
            intro i V2 hm60 hi2 hA hB
            refine V_iload_n C dX2_judgeAll_60 rfl ?_
            refine V_aload_n C dX2_judgeAll_61 rfl ?_
            refine V_getr C fl_X2_23 dX2_judgeAll_62 (by decide) sh_17 rfl ?_
            refine V_geti C fl_X2_33 dX2_judgeAll_65 (by decide) sh_6 rfl ?_
            refine V_eqi (y := X 6 0) rfl ?_
            refine V_eqi (y := nI n) hn ?_
            refine V_icmp_geN (a := i) (b := n) (tgt := 100) C dX2_judgeAll_68 (by decide) (by omega) (by omega) (fun h68_2 => ?_) (fun h68_2 => ?_)
            · exact V_returnU C dX2_judgeAll_100 ⟨V2, rfl, fun o h1 => (Classical.em (kd (oC X) o = 0)).elim (hA o h1) (hB o (by omega))⟩
            · refine V_aload_n C dX2_judgeAll_71 rfl ?_
              refine V_getr C fl_X2_23 dX2_judgeAll_72 (by decide) sh_17 rfl ?_
              refine V_getr C fl_X2_44 dX2_judgeAll_75 (by decide) sh_6 rfl ?_
              refine V_iload_n C dX2_judgeAll_78 rfl ?_
              refine V_ialdN (p0 := 7) (o := i) (v := X 7 i) C dX2_judgeAll_79 sh_7 (by decide) (by omega) (by decide) rfl ?_
              refine V_if_eq (x := X 7 i) (tgt := 94) C dX2_judgeAll_80 (by decide) (fun h80_3 => ?_) (fun h80_3 => ?_)
              · refine V_iincN (a := i) (ls1 := [some (.ref (w.2.1 17)), some (.int (nI (i + 1))), none]) C dX2_judgeAll_94 rfl (by decide) rfl ?_
                refine V_goto (tgt := 60) C dX2_judgeAll_97 (by decide) ?_
                exact ih60 (i + 1) V2 (by omega) (by omega) hA (by intro o h1 h2; rcases lt_succ_or.mp h1 with h1 | rfl; exact hB o h1 h2; exact absurd (by assumption) h2)
              · refine V_aload_n C dX2_judgeAll_83 rfl ?_
                refine V_getr C fl_X2_9 dX2_judgeAll_84 (by decide) sh_17 rfl ?_
                refine V_iload_n C dX2_judgeAll_87 rfl ?_
                refine V_aload_n C dX2_judgeAll_88 rfl ?_
                refine V_iload_n C dX2_judgeAll_89 rfl ?_
                refine V_callVI C [.int (nI i)] mi_X2_40 (k_X2_judgeOne w l i (ma X 18 V2) h n hO hG hn (by omega)) dX2_judgeAll_90 sh_17 (by decide) rfl rfl rfl (Nat.le_of_ble_eq_true rfl) (Nat.le_of_ble_eq_true rfl) (Nat.le_of_ble_eq_true rfl) ⟨Nat.le_refl _, Nat.le_refl _⟩ (fun v4 X4 q4 => ?_)
                obtain ⟨hv4, eX4⟩ := q4; subst X4
                try simp (disch := decide) only [oC_ma, gC_ma, oM_ma, gM_ma, ma_eq, ma_ne] at hv4
                refine V_iastN (p0 := 18) (o := i) (X1 := (ma X 18 (upd (V2) i v4))) C dX2_judgeAll_93 sh_18 (by decide) (by omega) (by decide) (ma_ma _ _ _ _) ?_
                refine V_iincN (a := i) (ls1 := [some (.ref (w.2.1 17)), some (.int (nI (i + 1))), none]) C dX2_judgeAll_94 rfl (by decide) rfl ?_
                refine V_goto (tgt := 60) C dX2_judgeAll_97 (by decide) ?_
                exact ih60 (i + 1) (upd (V2) i v4) (by omega) (by omega) (judge_step3 hA (by assumption)) (judge_step4 hB (by assumption) (by assumption))
        exact L60 _ 0 Vd (Nat.lt_succ_self _) (by omega) (by intro o h1 h2; obtain ⟨a, ha, ea⟩ := (hO.2 o h1).2.2.1 h2; exact hV o a h1 (by omega) ⟨h2, ea⟩) (fun o h => absurd h (Nat.not_lt_zero _))
      · refine V_iconst (v := (0 : Int32)) C dX2_judgeAll_13 (by decide) ?_
        refine V_istore_n (ls1 := [some (.ref (w.2.1 17)), some (.int (nI c0)), some (.int (0 : Int32))]) C dX2_judgeAll_14 (by decide) rfl ?_
        have L15 : ∀ (fu : Nat) (j : Nat) (Vi : Nat → Int32), n - j < fu → (j ≤ n) → (∀ o, o < j → GrantTo (oC X) o (nI c0) → JR (oC X) (gC X) Vi n (X 1 0) o (Vi o)) → (∀ o, ¬ (o < j ∧ GrantTo (oC X) o (nI c0)) → Vi o = Vd o) → V p l e ({ frames := 6, cells := 0, slots := 0, locals := 137 } : Room) s m (#[.ref (w.2.1 17)] : Array Value) below meth c w 3 0 0 (EU w below s (#[.ref (w.2.1 17)] : Array Value) 0 0 (q_X2_judgeAll X h n)) 15 [some (.ref (w.2.1 17)), some (.int (nI c0)), some (.int (nI j))] [] (ma X 18 Vi) := by
          intro fu
          induction fu with
          | zero => intro j Vi hm; exact absurd hm (Nat.not_lt_zero _)
          | succ fu ih15 =>
            intro j Vi hm15 hj hJ hU
            refine V_iload_n C dX2_judgeAll_15 rfl ?_
            refine V_aload_n C dX2_judgeAll_16 rfl ?_
            refine V_getr C fl_X2_23 dX2_judgeAll_17 (by decide) sh_17 rfl ?_
            refine V_geti C fl_X2_33 dX2_judgeAll_20 (by decide) sh_6 rfl ?_
            refine V_eqi (y := X 6 0) rfl ?_
            refine V_eqi (y := nI n) hn ?_
            refine V_icmp_geN (a := j) (b := n) (tgt := 52) C dX2_judgeAll_23 (by decide) (by omega) (by omega) (fun h23_5 => ?_) (fun h23_5 => ?_)
            · refine V_iincN (a := c0) (ls1 := [some (.ref (w.2.1 17)), some (.int (nI (c0 + 1))), some (.int (nI j))]) C dX2_judgeAll_52 rfl (by decide) rfl ?_
              refine V_goto (tgt := 2) C dX2_judgeAll_55 (by decide) ?_
              refine V_kill (i := 2) (ls1 := [some (.ref (w.2.1 17)), some (.int (nI (c0 + 1))), none]) rfl ?_
              exact ih2 (c0 + 1) Vi (by omega) (by omega) (fun o b h1 h2 h3 => judge_step2 hG hO (by omega) hV (fun o h1 h2 => hJ o (by omega) h2) (fun o h1 => hU o (fun q => h1 ⟨by omega, q.2⟩)) o b h1 h2 h3)
            · refine V_aload_n C dX2_judgeAll_26 rfl ?_
              refine V_iload_n C dX2_judgeAll_27 rfl ?_
              refine V_iload_n C dX2_judgeAll_28 rfl ?_
              refine V_callVI C [.int (nI j), .int (nI c0)] mi_X2_36 (k_X2_isGrantTo w l j (nI c0) (ma X 18 Vi) (by omega)) dX2_judgeAll_29 sh_17 (by decide) rfl rfl rfl (Nat.le_of_ble_eq_true rfl) (Nat.le_of_ble_eq_true rfl) (Nat.le_of_ble_eq_true rfl) ⟨Nat.le_refl _, Nat.le_refl _⟩ (fun v6 X6 q6 => ?_)
              obtain ⟨hb6, eX6⟩ := q6; subst X6
              try simp (disch := decide) only [oC_ma, gC_ma, oM_ma, gM_ma, ma_eq, ma_ne] at hb6
              refine V_if_eqB (tgt := 46) C hb6 dX2_judgeAll_32 (by decide) (fun h32_7 => ?_) (fun h32_7 => ?_)
              · refine V_iincN (a := j) (ls1 := [some (.ref (w.2.1 17)), some (.int (nI c0)), some (.int (nI (j + 1)))]) C dX2_judgeAll_46 rfl (by decide) rfl ?_
                refine V_goto (tgt := 15) C dX2_judgeAll_49 (by decide) ?_
                exact ih15 (j + 1) Vi (by omega) (by omega) (by intro o h1 h2; rcases lt_succ_or.mp h1 with h1 | rfl; exact hJ o h1 h2; exact absurd h2 (by assumption)) (by intro o h1; refine hU o (fun q => h1 ⟨by omega, q.2⟩))
              · refine V_aload_n C dX2_judgeAll_35 rfl ?_
                refine V_getr C fl_X2_9 dX2_judgeAll_36 (by decide) sh_17 rfl ?_
                refine V_iload_n C dX2_judgeAll_39 rfl ?_
                refine V_aload_n C dX2_judgeAll_40 rfl ?_
                refine V_iload_n C dX2_judgeAll_41 rfl ?_
                refine V_callVI C [.int (nI j)] mi_X2_40 (k_X2_judgeOne w l j (ma X 18 Vi) h n hO hG hn (by omega)) dX2_judgeAll_42 sh_17 (by decide) rfl rfl rfl (Nat.le_of_ble_eq_true rfl) (Nat.le_of_ble_eq_true rfl) (Nat.le_of_ble_eq_true rfl) ⟨Nat.le_refl _, Nat.le_refl _⟩ (fun v8 X8 q8 => ?_)
                obtain ⟨hv8, eX8⟩ := q8; subst X8
                try simp (disch := decide) only [oC_ma, gC_ma, oM_ma, gM_ma, ma_eq, ma_ne] at hv8
                refine V_iastN (p0 := 18) (o := j) (X1 := (ma X 18 (upd (Vi) j v8))) C dX2_judgeAll_45 sh_18 (by decide) (by omega) (by decide) (ma_ma _ _ _ _) ?_
                refine V_iincN (a := j) (ls1 := [some (.ref (w.2.1 17)), some (.int (nI c0)), some (.int (nI (j + 1)))]) C dX2_judgeAll_46 rfl (by decide) rfl ?_
                refine V_goto (tgt := 15) C dX2_judgeAll_49 (by decide) ?_
                exact ih15 (j + 1) (upd (Vi) j v8) (by omega) (by omega) (by intro o h1 h2; exact judge_step1 hG hO (by omega) (by omega) (by assumption) hJ (by assumption) o h1 h2) (by intro o h1; by_cases e : o = j; subst e; exact absurd ⟨by omega, by assumption⟩ h1; rw [upd_ne e]; exact hU o (fun q => h1 ⟨by omega, q.2⟩))
        exact L15 _ 0 Vd (Nat.lt_succ_self _) (by omega) (fun o h => absurd h (Nat.not_lt_zero _)) (fun _ _ => rfl)
  refine V_eqX (X1 := (ma X 18 (X 18))) (ma_id rfl) ?_
  exact L2 _ 0 (X 18) (Nat.lt_succ_self _) (by omega) (fun o b _ h => absurd h (Nat.not_lt_zero _))
