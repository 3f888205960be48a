def LiesIn (v l ov ol : Int32) : Prop := ol ≤ l ∧ v >>> ((8 - ol) &&& 31) = ov >>> ((8 - ol) &&& 31)
def Btw (v lo hi : Int32) : Prop := lo ≤ v ∧ v ≤ hi
def q_X1_firstBits (v : Int32) (b : Int32) (X : Mem) : Int32 → Mem → Prop := fun r X' => r = v >>> ((8 - b) &&& 31) ∧ X' = X
set_option maxHeartbeats 4000000 in
set_option maxRecDepth 100000 in
theorem k_X1_firstBits (w : Wt) (l : Launch) (v : Int32) (b : Int32) (X : Mem) : CtI w l yX1_firstBits cX1_firstBits 2 (some .int) 1 40 [.int v, .int b] X (q_X1_firstBits v b X) := by
  refine CtI_of (by decide +kernel) (Nat.le_of_ble_eq_true rfl) (List.forall_mem_cons.mpr ⟨rfl, (List.forall_mem_cons.mpr ⟨rfl, (fun _ h => nomatch h)⟩)⟩) (ls := [some (.int v), some (.int b)]) rfl (args := (#[.int v, .int b] : Array Value)) rfl (own := RX1) rfl ?_
  intro p e s m below meth c C
  refine V_iload_n C dX1_firstBits_0 rfl ?_
  refine V_bipush (v := (8 : Int32)) C dX1_firstBits_1 (by decide) ?_
  refine V_iload_n C dX1_firstBits_3 rfl ?_
  refine V_isub C dX1_firstBits_4 ?_
  refine V_ishr C dX1_firstBits_5 ?_
  exact V_ireturnI C dX1_firstBits_6 ⟨rfl, rfl⟩
def q_X1_liesIn (v : Int32) (b : Int32) (ov : Int32) (ob : Int32) (X : Mem) : Int32 → Mem → Prop := fun r X' => bI (LiesIn v b ov ob) r ∧ X' = X
set_option maxHeartbeats 4000000 in
set_option maxRecDepth 100000 in
theorem k_X1_liesIn (w : Wt) (l : Launch) (v : Int32) (b : Int32) (ov : Int32) (ob : Int32) (X : Mem) : CtI w l yX1_liesIn cX1_liesIn 4 (some .boolean) 2 80 [.int v, .int b, .int ov, .int ob] X (q_X1_liesIn v b ov ob X) := by
  refine CtI_of (by decide +kernel) (Nat.le_of_ble_eq_true rfl) (List.forall_mem_cons.mpr ⟨rfl, (List.forall_mem_cons.mpr ⟨rfl, (List.forall_mem_cons.mpr ⟨rfl, (List.forall_mem_cons.mpr ⟨rfl, (fun _ h => nomatch h)⟩)⟩)⟩)⟩) (ls := [some (.int v), some (.int b), some (.int ov), some (.int ob)]) rfl (args := (#[.int v, .int b, .int ov, .int ob] : Array Value)) rfl (own := RX1) rfl ?_
  intro p e s m below meth c C
  refine V_iload_n C dX1_liesIn_0 rfl ?_
  refine V_iload_n C dX1_liesIn_1 rfl ?_
  refine V_icmp_lt (x := b) (y := ob) (tgt := 22) C dX1_liesIn_2 (by decide) (fun h2_1 => ?_) (fun h2_1 => ?_)
  · refine V_iconst (v := (0 : Int32)) C dX1_liesIn_22 (by decide) ?_
    exact V_zreturnI C dX1_liesIn_23 (Or.inl rfl) ⟨bI.f (by simp_all [LiesIn, ← Int32.not_lt]), rfl⟩
  · refine V_iload_n C dX1_liesIn_5 rfl ?_
    refine V_iload_n C dX1_liesIn_6 rfl ?_
    refine V_callSI C [.int v, .int ob] ms_X1_9 (k_X1_firstBits w l v ob X ) dX1_liesIn_7 rfl rfl (Nat.le_of_ble_eq_true rfl) (Nat.le_of_ble_eq_true rfl) (Nat.le_of_ble_eq_true rfl) ⟨Nat.le_refl _, Nat.le_refl _⟩ (fun v2 X2 q2 => ?_)
    obtain ⟨ev2, eX2⟩ := q2; subst v2; subst X2
    refine V_iload_n C dX1_liesIn_10 rfl ?_
    refine V_iload_n C dX1_liesIn_11 rfl ?_
    refine V_callSI C [.int ov, .int ob] ms_X1_9 (k_X1_firstBits w l ov ob X ) dX1_liesIn_12 rfl rfl (Nat.le_of_ble_eq_true rfl) (Nat.le_of_ble_eq_true rfl) (Nat.le_of_ble_eq_true rfl) ⟨Nat.le_refl _, Nat.le_refl _⟩ (fun v3 X3 q3 => ?_)
    obtain ⟨ev3, eX3⟩ := q3; subst v3; subst X3
    refine V_icmp_ne (x := v >>> ((8 - ob) &&& 31)) (y := ov >>> ((8 - ob) &&& 31)) (tgt := 22) C dX1_liesIn_15 (by decide) (fun h15_4 => ?_) (fun h15_4 => ?_)
    · refine V_iconst (v := (0 : Int32)) C dX1_liesIn_22 (by decide) ?_
      exact V_zreturnI C dX1_liesIn_23 (Or.inl rfl) ⟨bI.f (by simp_all [LiesIn, ← Int32.not_lt]), rfl⟩
    · refine V_iconst (v := (1 : Int32)) C dX1_liesIn_18 (by decide) ?_
      refine V_goto (tgt := 23) C dX1_liesIn_19 (by decide) ?_
      exact V_zreturnI C dX1_liesIn_23 (Or.inr rfl) ⟨bI.t (by simp_all [LiesIn, ← Int32.not_lt]), rfl⟩
def q_X10_isBetween (v : Int32) (lo : Int32) (hi : Int32) (X : Mem) : Int32 → Mem → Prop := fun r X' => bI (Btw v lo hi) r ∧ X' = X
set_option maxHeartbeats 4000000 in
set_option maxRecDepth 100000 in
theorem k_X10_isBetween (w : Wt) (l : Launch) (v : Int32) (lo : Int32) (hi : Int32) (X : Mem) : CtI w l yX10_isBetween cX10_isBetween 3 (some .boolean) 1 40 [.int v, .int lo, .int hi] X (q_X10_isBetween v lo hi X) := by
  refine CtI_of (by decide +kernel) (Nat.le_of_ble_eq_true rfl) (List.forall_mem_cons.mpr ⟨rfl, (List.forall_mem_cons.mpr ⟨rfl, (List.forall_mem_cons.mpr ⟨rfl, (fun _ h => nomatch h)⟩)⟩)⟩) (ls := [some (.int v), some (.int lo), some (.int hi)]) rfl (args := (#[.int v, .int lo, .int hi] : Array Value)) rfl (own := RX10) rfl ?_
  intro p e s m below meth c C
  refine V_iload_n C dX10_isBetween_0 rfl ?_
  refine V_iload_n C dX10_isBetween_1 rfl ?_
  refine V_icmp_lt (x := v) (y := lo) (tgt := 14) C dX10_isBetween_2 (by decide) (fun h2_1 => ?_) (fun h2_1 => ?_)
  · refine V_iconst (v := (0 : Int32)) C dX10_isBetween_14 (by decide) ?_
    exact V_zreturnI C dX10_isBetween_15 (Or.inl rfl) ⟨bI.f (by simp_all [Btw, ← Int32.not_lt]), rfl⟩
  · refine V_iload_n C dX10_isBetween_5 rfl ?_
    refine V_iload_n C dX10_isBetween_6 rfl ?_
    refine V_icmp_gt (x := v) (y := hi) (tgt := 14) C dX10_isBetween_7 (by decide) (fun h7_2 => ?_) (fun h7_2 => ?_)
    · refine V_iconst (v := (0 : Int32)) C dX10_isBetween_14 (by decide) ?_
      exact V_zreturnI C dX10_isBetween_15 (Or.inl rfl) ⟨bI.f (by simp_all [Btw, ← Int32.not_lt]), rfl⟩
    · refine V_iconst (v := (1 : Int32)) C dX10_isBetween_10 (by decide) ?_
      refine V_goto (tgt := 15) C dX10_isBetween_11 (by decide) ?_
      exact V_zreturnI C dX10_isBetween_15 (Or.inr rfl) ⟨bI.t (by simp_all [Btw, ← Int32.not_lt]), rfl⟩
def q_X10_lies (v : Int32) (b : Int32) (ov : Int32) (ob : Int32) (X : Mem) : Int32 → Mem → Prop := fun r X' => bI (LiesIn v b ov ob) r ∧ X' = X
set_option maxHeartbeats 4000000 in
set_option maxRecDepth 100000 in
theorem k_X10_lies (w : Wt) (l : Launch) (v : Int32) (b : Int32) (ov : Int32) (ob : Int32) (X : Mem) : CtI w l yX10_lies cX10_lies 4 (some .boolean) 1 40 [.int v, .int b, .int ov, .int ob] X (q_X10_lies v b ov ob X) := by
  refine CtI_of (by decide +kernel) (Nat.le_of_ble_eq_true rfl) (List.forall_mem_cons.mpr ⟨rfl, (List.forall_mem_cons.mpr ⟨rfl, (List.forall_mem_cons.mpr ⟨rfl, (List.forall_mem_cons.mpr ⟨rfl, (fun _ h => nomatch h)⟩)⟩)⟩)⟩) (ls := [some (.int v), some (.int b), some (.int ov), some (.int ob)]) rfl (args := (#[.int v, .int b, .int ov, .int ob] : Array Value)) rfl (own := RX10) rfl ?_
  intro p e s m below meth c C
  refine V_iload_n C dX10_lies_0 rfl ?_
  refine V_iload_n C dX10_lies_1 rfl ?_
  refine V_icmp_lt (x := b) (y := ob) (tgt := 24) C dX10_lies_2 (by decide) (fun h2_1 => ?_) (fun h2_1 => ?_)
  · refine V_iconst (v := (0 : Int32)) C dX10_lies_24 (by decide) ?_
    exact V_zreturnI C dX10_lies_25 (Or.inl rfl) ⟨bI.f (by simp_all [LiesIn, ← Int32.not_lt]), rfl⟩
  · refine V_iload_n C dX10_lies_5 rfl ?_
    refine V_bipush (v := (8 : Int32)) C dX10_lies_6 (by decide) ?_
    refine V_iload_n C dX10_lies_8 rfl ?_
    refine V_isub C dX10_lies_9 ?_
    refine V_ishr C dX10_lies_10 ?_
    refine V_iload_n C dX10_lies_11 rfl ?_
    refine V_bipush (v := (8 : Int32)) C dX10_lies_12 (by decide) ?_
    refine V_iload_n C dX10_lies_14 rfl ?_
    refine V_isub C dX10_lies_15 ?_
    refine V_ishr C dX10_lies_16 ?_
    refine V_icmp_ne (x := v >>> (((8 : Int32) - ob) &&& 31)) (y := ov >>> (((8 : Int32) - ob) &&& 31)) (tgt := 24) C dX10_lies_17 (by decide) (fun h17_2 => ?_) (fun h17_2 => ?_)
    · refine V_iconst (v := (0 : Int32)) C dX10_lies_24 (by decide) ?_
      exact V_zreturnI C dX10_lies_25 (Or.inl rfl) ⟨bI.f (by simp_all [LiesIn, ← Int32.not_lt]), rfl⟩
    · refine V_iconst (v := (1 : Int32)) C dX10_lies_20 (by decide) ?_
      refine V_goto (tgt := 25) C dX10_lies_21 (by decide) ?_
      exact V_zreturnI C dX10_lies_25 (Or.inr rfl) ⟨bI.t (by simp_all [LiesIn, ← Int32.not_lt]), rfl⟩
def q_X10_isFine (v : Int32) (X : Mem) : Int32 → Mem → Prop := fun r X' => bI (v = 0) r ∧ X' = ma X 85 (upd (X 85) 0 v)
set_option maxHeartbeats 4000000 in
set_option maxRecDepth 100000 in
theorem k_X10_isFine (w : Wt) (l : Launch) (v : Int32) (X : Mem) : CtI w l yX10_isFine cX10_isFine 2 (some .boolean) 1 40 [.ref (w.2.1 85), .int v] X (q_X10_isFine v X) := by
  refine CtI_of (by decide +kernel) (Nat.le_of_ble_eq_true rfl) (List.forall_mem_cons.mpr ⟨rfl, (List.forall_mem_cons.mpr ⟨rfl, (fun _ h => nomatch h)⟩)⟩) (ls := [some (.ref (w.2.1 85)), some (.int v)]) rfl (args := (#[.ref (w.2.1 85), .int v] : Array Value)) rfl (own := RX10) rfl ?_
  intro p e s m below meth c C
  refine V_aload_n C dX10_isFine_0 rfl ?_
  refine V_iload_n C dX10_isFine_1 rfl ?_
  refine V_put C fp_X10_105 dX10_isFine_2 (by decide) sh_85 rfl ?_
  refine V_iload_n C dX10_isFine_5 rfl ?_
  refine V_if_ne (x := v) (tgt := 13) C dX10_isFine_6 (by decide) (fun h6_1 => ?_) (fun h6_1 => ?_)
  · refine V_iconst (v := (0 : Int32)) C dX10_isFine_13 (by decide) ?_
    exact V_zreturnI C dX10_isFine_14 (Or.inl rfl) ⟨bI.f (by simp_all [← Int32.not_lt]), rfl⟩
  · refine V_iconst (v := (1 : Int32)) C dX10_isFine_9 (by decide) ?_
    refine V_goto (tgt := 14) C dX10_isFine_10 (by decide) ?_
    exact V_zreturnI C dX10_isFine_14 (Or.inr rfl) ⟨bI.t (by simp_all [← Int32.not_lt]), rfl⟩
def q_X7_mix (d : Int32) (v : Int32) (X : Mem) : Int32 → Mem → Prop := fun r X' => r = (263 * d + v + 1) - (263 * d + v + 1) / 65521 * 65521 ∧ X' = X
set_option maxHeartbeats 4000000 in
set_option maxRecDepth 100000 in
theorem k_X7_mix (w : Wt) (l : Launch) (d : Int32) (v : Int32) (X : Mem) : CtI w l yX7_mix cX7_mix 2 (some .int) 1 40 [.int d, .int v] X (q_X7_mix d v X) := by
  refine CtI_of (by decide +kernel) (Nat.le_of_ble_eq_true rfl) (List.forall_mem_cons.mpr ⟨rfl, (List.forall_mem_cons.mpr ⟨rfl, (fun _ h => nomatch h)⟩)⟩) (ls := [some (.int d), some (.int v)]) rfl (args := (#[.int d, .int v] : Array Value)) rfl (own := RX7) rfl ?_
  intro p e s m below meth c C
  refine V_sipush (v := (263 : Int32)) C dX7_mix_0 (by decide) ?_
  refine V_iload_n C dX7_mix_3 rfl ?_
  refine V_imul C dX7_mix_4 ?_
  refine V_iload_n C dX7_mix_5 rfl ?_
  refine V_iadd C dX7_mix_6 ?_
  refine V_iconst (v := (1 : Int32)) C dX7_mix_7 (by decide) ?_
  refine V_iadd C dX7_mix_8 ?_
  refine V_ldc C kc_X7_51 dX7_mix_9 ?_
  refine V_irem C dX7_mix_11 (by decide) ?_
  exact V_ireturnI C dX7_mix_12 ⟨rfl, rfl⟩
def q_X10_mixes (d : Int32) (v : Int32) (X : Mem) : Int32 → Mem → Prop := fun r X' => r = (263 * d + v + 1) - (263 * d + v + 1) / 65521 * 65521 ∧ X' = X
set_option maxHeartbeats 4000000 in
set_option maxRecDepth 100000 in
theorem k_X10_mixes (w : Wt) (l : Launch) (d : Int32) (v : Int32) (X : Mem) : CtI w l yX10_mixes cX10_mixes 2 (some .int) 1 40 [.int d, .int v] X (q_X10_mixes d v X) := by
  refine CtI_of (by decide +kernel) (Nat.le_of_ble_eq_true rfl) (List.forall_mem_cons.mpr ⟨rfl, (List.forall_mem_cons.mpr ⟨rfl, (fun _ h => nomatch h)⟩)⟩) (ls := [some (.int d), some (.int v)]) rfl (args := (#[.int d, .int v] : Array Value)) rfl (own := RX10) rfl ?_
  intro p e s m below meth c C
  refine V_sipush (v := (263 : Int32)) C dX10_mixes_0 (by decide) ?_
  refine V_iload_n C dX10_mixes_3 rfl ?_
  refine V_imul C dX10_mixes_4 ?_
  refine V_iload_n C dX10_mixes_5 rfl ?_
  refine V_iadd C dX10_mixes_6 ?_
  refine V_iconst (v := (1 : Int32)) C dX10_mixes_7 (by decide) ?_
  refine V_iadd C dX10_mixes_8 ?_
  refine V_ldc C kc_X10_128 dX10_mixes_9 ?_
  refine V_irem C dX10_mixes_11 (by decide) ?_
  exact V_ireturnI C dX10_mixes_12 ⟨rfl, rfl⟩
