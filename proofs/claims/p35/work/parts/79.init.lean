/-! the constructors -/
theorem tb_oi : Cond.instanceMethod objectInit ∈ TB := (tb_i 55 (by decide +kernel) (by decide +kernel))
theorem tb_oc : Cond.code objectInit ⟨#[0xb1]⟩ 1 none ∈ TB := (tb_i 56 (by decide +kernel) (by decide +kernel))
def Z0 : Mem := fun _ _ => 0
def Zr1 : Mem := ma Z0 1 (upd (Z0 1) 1 1)
def Zr2 : Mem := ma Zr1 2 (upd (Zr1 2) 0 (-1))
def Zr3 : Mem := ma Zr2 4 (upd (Zr2 4) 0 30)
theorem z_hi {q : Nat} (h : 4 < q) (j : Nat) : Zr3 q j = 0 := by
  unfold Zr3 Zr2 Zr1
  rw [ma_ne (by omega), ma_ne (by omega), ma_ne (by omega)]
  rfl
theorem nw_X9_7 : NW RX9 7 3 [none, none, some 2, some 3, some 4, some 5] := ⟨RX4, TX4, tyX4, rfl, tc_3, (tb_i 57 (by decide +kernel) (by decide +kernel)), (tb_i 58 (by decide +kernel) (by decide +kernel)), (tb_i 33 (by decide +kernel) (by decide +kernel)), tyX4_ok, by decide +kernel⟩
theorem mn_X9_9 : MN RX9 9 yX4_init cX4_init 1 0 := ⟨⟨(Or.inl (tb_i 59 (by decide +kernel) (by decide +kernel))), (tb_i 61 (by decide +kernel) (by decide +kernel)), (tb_i 33 (by decide +kernel) (by decide +kernel)), by decide +kernel⟩, rfl, (tb_i 60 (by decide +kernel) (by decide +kernel))⟩
theorem fq_X4_9 : FQ RX4 9 3 0 := ⟨RX4, TX4, 6, tyX4, rfl, tc_3, by decide, (tb_i 63 (by decide +kernel) (by decide +kernel)), tyX4_ok, nmX4, rfl, by decide +kernel⟩
theorem fq_X4_15 : FQ RX4 15 3 1 := ⟨RX4, TX4, 6, tyX4, rfl, tc_3, by decide, (tb_i 66 (by decide +kernel) (by decide +kernel)), tyX4_ok, nmX4, rfl, by decide +kernel⟩
theorem fr_X4_18 : FR RX4 18 3 2 := ⟨RX4, TX4, 6, tyX4, .array .int, rfl, tc_3, by decide, (tb_i 69 (by decide +kernel) (by decide +kernel)), tyX4_ok, nmX4, rfl, rfl, by decide +kernel, fun _ => ⟨rfl, rfl⟩⟩
theorem fr_X4_22 : FR RX4 22 3 3 := ⟨RX4, TX4, 6, tyX4, .array .int, rfl, tc_3, by decide, (tb_i 71 (by decide +kernel) (by decide +kernel)), tyX4_ok, nmX4, rfl, rfl, by decide +kernel, fun _ => ⟨rfl, rfl⟩⟩
theorem fr_X4_25 : FR RX4 25 3 4 := ⟨RX4, TX4, 6, tyX4, .array .int, rfl, tc_3, by decide, (tb_i 74 (by decide +kernel) (by decide +kernel)), tyX4_ok, nmX4, rfl, rfl, by decide +kernel, fun _ => ⟨rfl, rfl⟩⟩
theorem fr_X4_28 : FR RX4 28 3 5 := ⟨RX4, TX4, 6, tyX4, .array .int, rfl, tc_3, by decide, (tb_i 77 (by decide +kernel) (by decide +kernel)), tyX4_ok, nmX4, rfl, rfl, by decide +kernel, fun _ => ⟨rfl, rfl⟩⟩
theorem n_X4 {w : Wt} {l : Launch} {b0 : Nat} (hw : ∀ i, w.2.1 i = b0 + i) : CtK w l b0 yX4_init cX4_init 1 1 12 4 34 [.ref (w.2.1 1)] 2 Z0 [] 6 Zr3 [(1, 5), (1, 4), (1, 3), (1, 2)] := by
  refine CtK_of (by decide +kernel) rfl (Nat.le_of_ble_eq_true rfl) (List.forall_mem_cons.mpr ⟨rfl, (fun _ h => nomatch h)⟩) (ls := [some (.ref (w.2.1 1))]) rfl (args := (#[.ref (w.2.1 1)] : Array Value)) rfl (own := RX4) rfl ?_
  intro p e s m below meth c C hA hin hz0
  refine Vn_aload_n (i := 0) C dX4_init_0 rfl ?_
  refine Vn_objInit C (tb_i 62 (by decide +kernel) (by decide +kernel)) tb_oi tb_oc dX4_init_1 rfl (by decide) (by decide) ?_
  refine Vn_aload_n (i := 0) C dX4_init_4 rfl ?_
  refine Vn_iconst (v := 0) C dX4_init_5 (by decide) ?_
  refine Vn_puti (X1 := Z0) C fq_X4_9 dX4_init_6 rfl (by decide) (by decide) rfl (ma_z rfl) ?_
  refine Vn_aload_n (i := 0) C dX4_init_9 rfl ?_
  refine Vn_iconst (v := 1) C dX4_init_10 (by decide) ?_
  refine Vn_puti (X1 := Zr1) C fq_X4_15 dX4_init_11 rfl (by decide) (by decide) rfl rfl ?_
  refine Vn_aload_n (i := 0) C dX4_init_14 rfl ?_
  refine Vn_bipush (v := 8) C dX4_init_15 (by decide) ?_
  refine Vn_newi C hw hA (n1 := 1) (k1 := 8) dX4_init_17 rfl (fun _ => rfl) (by decide) (by decide) rfl rfl (by decide +kernel) (by decide +kernel) ?_
  refine Vn_to (pc1 := 19) (N1 := 3) rfl rfl ?_
  refine Vn_putr C hin fr_X4_18 dX4_init_19 rfl (by decide) (by decide) rfl ?_
  refine Vn_aload_n (i := 0) C dX4_init_22 rfl ?_
  refine Vn_bipush (v := 8) C dX4_init_23 (by decide) ?_
  refine Vn_newi C hw hA (n1 := 2) (k1 := 16) dX4_init_25 rfl (fun _ => rfl) (by decide) (by decide) rfl rfl (by decide +kernel) (by decide +kernel) ?_
  refine Vn_to (pc1 := 27) (N1 := 4) rfl rfl ?_
  refine Vn_putr C hin fr_X4_22 dX4_init_27 rfl (by decide) (by decide) rfl ?_
  refine Vn_aload_n (i := 0) C dX4_init_30 rfl ?_
  refine Vn_bipush (v := 8) C dX4_init_31 (by decide) ?_
  refine Vn_newi C hw hA (n1 := 3) (k1 := 24) dX4_init_33 rfl (fun _ => rfl) (by decide) (by decide) rfl rfl (by decide +kernel) (by decide +kernel) ?_
  refine Vn_to (pc1 := 35) (N1 := 5) rfl rfl ?_
  refine Vn_putr C hin fr_X4_25 dX4_init_35 rfl (by decide) (by decide) rfl ?_
  refine Vn_aload_n (i := 0) C dX4_init_38 rfl ?_
  refine Vn_bipush (v := 10) C dX4_init_39 (by decide) ?_
  refine Vn_newi C hw hA (n1 := 4) (k1 := 34) dX4_init_41 rfl (fun _ => rfl) (by decide) (by decide) rfl rfl (by decide +kernel) (by decide +kernel) ?_
  refine Vn_to (pc1 := 43) (N1 := 6) rfl rfl ?_
  refine Vn_putr C hin fr_X4_28 dX4_init_43 rfl (by decide) (by decide) rfl ?_
  refine Vn_aload_n (i := 0) C dX4_init_46 rfl ?_
  refine Vn_getr C fl_X4_18 dX4_init_47 rfl (by decide) rfl (by decide +kernel) ?_
  refine Vn_iconst (v := 0) C dX4_init_50 (by decide) ?_
  refine Vn_iconst (v := -1) C dX4_init_51 (by decide) ?_
  refine Vn_iast (X1 := Zr2) (o := 0) C dX4_init_52 rfl (by decide) (by decide) (by decide) (by decide) (by decide) rfl ?_
  refine Vn_aload_n (i := 0) C dX4_init_53 rfl ?_
  refine Vn_getr C fl_X4_25 dX4_init_54 rfl (by decide) rfl (by decide +kernel) ?_
  refine Vn_iconst (v := 0) C dX4_init_57 (by decide) ?_
  refine Vn_bipush (v := 30) C dX4_init_58 (by decide) ?_
  refine Vn_iast (X1 := Zr3) (o := 0) C dX4_init_60 rfl (by decide) (by decide) (by decide) (by decide) (by decide) rfl ?_
  exact Vn_return C hz0 dX4_init_61
theorem fr_X9_10 : FR RX9 10 8 0 := ⟨RX9, TX9, 8, tyX9, .object "Pathwarden$Registry", rfl, tc_8, by decide, (tb_i 287 (by decide +kernel) (by decide +kernel)), tyX9_ok, nmX9, rfl, rfl, by decide +kernel, fun _ => ⟨rfl, rfl⟩⟩
theorem nw_X9_16 : NW RX9 16 6 [none, some 7, some 8, some 9, some 10, some 11, some 12, some 13, some 14, some 15, some 16] := ⟨RX7, TX7, tyX7, rfl, tc_6, (tb_i 94 (by decide +kernel) (by decide +kernel)), (tb_i 95 (by decide +kernel) (by decide +kernel)), (tb_i 34 (by decide +kernel) (by decide +kernel)), tyX7_ok, by decide +kernel⟩
theorem mn_X9_18 : MN RX9 18 yX7_init cX7_init 1 0 := ⟨⟨(Or.inr ⟨"Pathwarden", (tb_i 96 (by decide +kernel) (by decide +kernel))⟩), (tb_i 98 (by decide +kernel) (by decide +kernel)), (tb_i 34 (by decide +kernel) (by decide +kernel)), by decide +kernel⟩, rfl, (tb_i 97 (by decide +kernel) (by decide +kernel))⟩
theorem fq_X7_9 : FQ RX7 9 6 0 := ⟨RX7, TX7, 11, tyX7, rfl, tc_6, by decide, (tb_i 100 (by decide +kernel) (by decide +kernel)), tyX7_ok, nmX7, rfl, by decide +kernel⟩
theorem fr_X7_15 : FR RX7 15 6 1 := ⟨RX7, TX7, 11, tyX7, .array .int, rfl, tc_6, by decide, (tb_i 103 (by decide +kernel) (by decide +kernel)), tyX7_ok, nmX7, rfl, rfl, by decide +kernel, fun _ => ⟨rfl, rfl⟩⟩
theorem fr_X7_19 : FR RX7 19 6 2 := ⟨RX7, TX7, 11, tyX7, .array .int, rfl, tc_6, by decide, (tb_i 106 (by decide +kernel) (by decide +kernel)), tyX7_ok, nmX7, rfl, rfl, by decide +kernel, fun _ => ⟨rfl, rfl⟩⟩
theorem fr_X7_22 : FR RX7 22 6 3 := ⟨RX7, TX7, 11, tyX7, .array .int, rfl, tc_6, by decide, (tb_i 109 (by decide +kernel) (by decide +kernel)), tyX7_ok, nmX7, rfl, rfl, by decide +kernel, fun _ => ⟨rfl, rfl⟩⟩
theorem fr_X7_25 : FR RX7 25 6 4 := ⟨RX7, TX7, 11, tyX7, .array .int, rfl, tc_6, by decide, (tb_i 112 (by decide +kernel) (by decide +kernel)), tyX7_ok, nmX7, rfl, rfl, by decide +kernel, fun _ => ⟨rfl, rfl⟩⟩
theorem fr_X7_28 : FR RX7 28 6 5 := ⟨RX7, TX7, 11, tyX7, .array .int, rfl, tc_6, by decide, (tb_i 114 (by decide +kernel) (by decide +kernel)), tyX7_ok, nmX7, rfl, rfl, by decide +kernel, fun _ => ⟨rfl, rfl⟩⟩
theorem fr_X7_31 : FR RX7 31 6 6 := ⟨RX7, TX7, 11, tyX7, .array .int, rfl, tc_6, by decide, (tb_i 116 (by decide +kernel) (by decide +kernel)), tyX7_ok, nmX7, rfl, rfl, by decide +kernel, fun _ => ⟨rfl, rfl⟩⟩
theorem fr_X7_34 : FR RX7 34 6 7 := ⟨RX7, TX7, 11, tyX7, .array .int, rfl, tc_6, by decide, (tb_i 119 (by decide +kernel) (by decide +kernel)), tyX7_ok, nmX7, rfl, rfl, by decide +kernel, fun _ => ⟨rfl, rfl⟩⟩
theorem fr_X7_37 : FR RX7 37 6 8 := ⟨RX7, TX7, 11, tyX7, .array .int, rfl, tc_6, by decide, (tb_i 121 (by decide +kernel) (by decide +kernel)), tyX7_ok, nmX7, rfl, rfl, by decide +kernel, fun _ => ⟨rfl, rfl⟩⟩
theorem fr_X7_40 : FR RX7 40 6 9 := ⟨RX7, TX7, 11, tyX7, .array .boolean, rfl, tc_6, by decide, (tb_i 124 (by decide +kernel) (by decide +kernel)), tyX7_ok, nmX7, rfl, rfl, by decide +kernel, fun _ => ⟨rfl, rfl⟩⟩
theorem fr_X7_44 : FR RX7 44 6 10 := ⟨RX7, TX7, 11, tyX7, .array .boolean, rfl, tc_6, by decide, (tb_i 126 (by decide +kernel) (by decide +kernel)), tyX7_ok, nmX7, rfl, rfl, by decide +kernel, fun _ => ⟨rfl, rfl⟩⟩
theorem n_X7 {w : Wt} {l : Launch} {b0 : Nat} (hw : ∀ i, w.2.1 i = b0 + i) : CtK w l b0 yX7_init cX7_init 1 1 12 10 500 [.ref (w.2.1 6)] 7 Zr3 [(0, 0), (1, 5), (1, 4), (1, 3), (1, 2)] 17 Zr3 [(6, 10), (6, 9), (6, 8), (6, 7), (6, 6), (6, 5), (6, 4), (6, 3), (6, 2), (6, 1), (0, 0), (1, 5), (1, 4), (1, 3), (1, 2)] := by
  refine CtK_of (by decide +kernel) rfl (Nat.le_of_ble_eq_true rfl) (List.forall_mem_cons.mpr ⟨rfl, (fun _ h => nomatch h)⟩) (ls := [some (.ref (w.2.1 6))]) rfl (args := (#[.ref (w.2.1 6)] : Array Value)) rfl (own := RX7) rfl ?_
  intro p e s m below meth c C hA hin hz0
  refine Vn_aload_n (i := 0) C dX7_init_0 rfl ?_
  refine Vn_objInit C (tb_i 99 (by decide +kernel) (by decide +kernel)) tb_oi tb_oc dX7_init_1 rfl (by decide) (by decide) ?_
  refine Vn_aload_n (i := 0) C dX7_init_4 rfl ?_
  refine Vn_iconst (v := 0) C dX7_init_5 (by decide) ?_
  refine Vn_puti (X1 := Zr3) C fq_X7_9 dX7_init_6 rfl (by decide) (by decide) rfl (ma_z rfl) ?_
  refine Vn_aload_n (i := 0) C dX7_init_9 rfl ?_
  refine Vn_bipush (v := 50) C dX7_init_10 (by decide) ?_
  refine Vn_newi C hw hA (n1 := 1) (k1 := 50) dX7_init_12 rfl (fun _ => rfl) (by decide) (by decide) rfl rfl (by decide +kernel) (by decide +kernel) ?_
  refine Vn_to (pc1 := 14) (N1 := 8) rfl rfl ?_
  refine Vn_putr C hin fr_X7_15 dX7_init_14 rfl (by decide) (by decide) rfl ?_
  refine Vn_aload_n (i := 0) C dX7_init_17 rfl ?_
  refine Vn_bipush (v := 50) C dX7_init_18 (by decide) ?_
  refine Vn_newi C hw hA (n1 := 2) (k1 := 100) dX7_init_20 rfl (fun _ => rfl) (by decide) (by decide) rfl rfl (by decide +kernel) (by decide +kernel) ?_
  refine Vn_to (pc1 := 22) (N1 := 9) rfl rfl ?_
  refine Vn_putr C hin fr_X7_19 dX7_init_22 rfl (by decide) (by decide) rfl ?_
  refine Vn_aload_n (i := 0) C dX7_init_25 rfl ?_
  refine Vn_bipush (v := 50) C dX7_init_26 (by decide) ?_
  refine Vn_newi C hw hA (n1 := 3) (k1 := 150) dX7_init_28 rfl (fun _ => rfl) (by decide) (by decide) rfl rfl (by decide +kernel) (by decide +kernel) ?_
  refine Vn_to (pc1 := 30) (N1 := 10) rfl rfl ?_
  refine Vn_putr C hin fr_X7_22 dX7_init_30 rfl (by decide) (by decide) rfl ?_
  refine Vn_aload_n (i := 0) C dX7_init_33 rfl ?_
  refine Vn_bipush (v := 50) C dX7_init_34 (by decide) ?_
  refine Vn_newi C hw hA (n1 := 4) (k1 := 200) dX7_init_36 rfl (fun _ => rfl) (by decide) (by decide) rfl rfl (by decide +kernel) (by decide +kernel) ?_
  refine Vn_to (pc1 := 38) (N1 := 11) rfl rfl ?_
  refine Vn_putr C hin fr_X7_25 dX7_init_38 rfl (by decide) (by decide) rfl ?_
  refine Vn_aload_n (i := 0) C dX7_init_41 rfl ?_
  refine Vn_bipush (v := 50) C dX7_init_42 (by decide) ?_
  refine Vn_newi C hw hA (n1 := 5) (k1 := 250) dX7_init_44 rfl (fun _ => rfl) (by decide) (by decide) rfl rfl (by decide +kernel) (by decide +kernel) ?_
  refine Vn_to (pc1 := 46) (N1 := 12) rfl rfl ?_
  refine Vn_putr C hin fr_X7_28 dX7_init_46 rfl (by decide) (by decide) rfl ?_
  refine Vn_aload_n (i := 0) C dX7_init_49 rfl ?_
  refine Vn_bipush (v := 50) C dX7_init_50 (by decide) ?_
  refine Vn_newi C hw hA (n1 := 6) (k1 := 300) dX7_init_52 rfl (fun _ => rfl) (by decide) (by decide) rfl rfl (by decide +kernel) (by decide +kernel) ?_
  refine Vn_to (pc1 := 54) (N1 := 13) rfl rfl ?_
  refine Vn_putr C hin fr_X7_31 dX7_init_54 rfl (by decide) (by decide) rfl ?_
  refine Vn_aload_n (i := 0) C dX7_init_57 rfl ?_
  refine Vn_bipush (v := 50) C dX7_init_58 (by decide) ?_
  refine Vn_newi C hw hA (n1 := 7) (k1 := 350) dX7_init_60 rfl (fun _ => rfl) (by decide) (by decide) rfl rfl (by decide +kernel) (by decide +kernel) ?_
  refine Vn_to (pc1 := 62) (N1 := 14) rfl rfl ?_
  refine Vn_putr C hin fr_X7_34 dX7_init_62 rfl (by decide) (by decide) rfl ?_
  refine Vn_aload_n (i := 0) C dX7_init_65 rfl ?_
  refine Vn_bipush (v := 50) C dX7_init_66 (by decide) ?_
  refine Vn_newi C hw hA (n1 := 8) (k1 := 400) dX7_init_68 rfl (fun _ => rfl) (by decide) (by decide) rfl rfl (by decide +kernel) (by decide +kernel) ?_
  refine Vn_to (pc1 := 70) (N1 := 15) rfl rfl ?_
  refine Vn_putr C hin fr_X7_37 dX7_init_70 rfl (by decide) (by decide) rfl ?_
  refine Vn_aload_n (i := 0) C dX7_init_73 rfl ?_
  refine Vn_bipush (v := 50) C dX7_init_74 (by decide) ?_
  refine Vn_newz C hw hA (n1 := 9) (k1 := 450) dX7_init_76 rfl (fun _ => rfl) (by decide) (by decide) rfl rfl (by decide +kernel) (by decide +kernel) ?_
  refine Vn_to (pc1 := 78) (N1 := 16) rfl rfl ?_
  refine Vn_putr C hin fr_X7_40 dX7_init_78 rfl (by decide) (by decide) rfl ?_
  refine Vn_aload_n (i := 0) C dX7_init_81 rfl ?_
  refine Vn_bipush (v := 50) C dX7_init_82 (by decide) ?_
  refine Vn_newz C hw hA (n1 := 10) (k1 := 500) dX7_init_84 rfl (fun _ => rfl) (by decide) (by decide) rfl rfl (by decide +kernel) (by decide +kernel) ?_
  refine Vn_to (pc1 := 86) (N1 := 17) rfl rfl ?_
  refine Vn_putr C hin fr_X7_44 dX7_init_86 rfl (by decide) (by decide) rfl ?_
  exact Vn_return C hz0 dX7_init_89
theorem fr_X9_19 : FR RX9 19 8 1 := ⟨RX9, TX9, 8, tyX9, .object "Pathwarden$SignedObjects", rfl, tc_8, by decide, (tb_i 288 (by decide +kernel) (by decide +kernel)), tyX9_ok, nmX9, rfl, rfl, by decide +kernel, fun _ => ⟨rfl, rfl⟩⟩
theorem nw_X9_23 : NW RX9 23 1 [some 1, some 6, some 18, some 19] := ⟨RX2, TX2, tyX2, rfl, tc_1, (tb_i 152 (by decide +kernel) (by decide +kernel)), (tb_i 153 (by decide +kernel) (by decide +kernel)), (tb_i 35 (by decide +kernel) (by decide +kernel)), tyX2_ok, by decide +kernel⟩
theorem mn_X9_25 : MN RX9 25 yX2_init cX2_init 3 2 := ⟨⟨(Or.inl (tb_i 154 (by decide +kernel) (by decide +kernel))), (tb_i 156 (by decide +kernel) (by decide +kernel)), (tb_i 35 (by decide +kernel) (by decide +kernel)), by decide +kernel⟩, rfl, (tb_i 155 (by decide +kernel) (by decide +kernel))⟩
theorem fr_X2_9 : FR RX2 9 1 2 := ⟨RX2, TX2, 4, tyX2, .array .int, rfl, tc_1, by decide, (tb_i 160 (by decide +kernel) (by decide +kernel)), tyX2_ok, nmX2, rfl, rfl, by decide +kernel, fun _ => ⟨rfl, rfl⟩⟩
theorem fr_X2_15 : FR RX2 15 1 3 := ⟨RX2, TX2, 4, tyX2, .array .boolean, rfl, tc_1, by decide, (tb_i 162 (by decide +kernel) (by decide +kernel)), tyX2_ok, nmX2, rfl, rfl, by decide +kernel, fun _ => ⟨rfl, rfl⟩⟩
theorem fr_X2_19 : FR RX2 19 1 0 := ⟨RX2, TX2, 4, tyX2, .object "Pathwarden$Registry", rfl, tc_1, by decide, (tb_i 158 (by decide +kernel) (by decide +kernel)), tyX2_ok, nmX2, rfl, rfl, by decide +kernel, fun _ => ⟨rfl, rfl⟩⟩
theorem fr_X2_23 : FR RX2 23 1 1 := ⟨RX2, TX2, 4, tyX2, .object "Pathwarden$SignedObjects", rfl, tc_1, by decide, (tb_i 159 (by decide +kernel) (by decide +kernel)), tyX2_ok, nmX2, rfl, rfl, by decide +kernel, fun _ => ⟨rfl, rfl⟩⟩
theorem n_X2 {w : Wt} {l : Launch} {b0 : Nat} (hw : ∀ i, w.2.1 i = b0 + i) : CtK w l b0 yX2_init cX2_init 3 1 12 2 100 [.ref (w.2.1 17), .ref (w.2.1 1), .ref (w.2.1 6)] 18 Zr3 [(0, 1), (6, 10), (6, 9), (6, 8), (6, 7), (6, 6), (6, 5), (6, 4), (6, 3), (6, 2), (6, 1), (0, 0), (1, 5), (1, 4), (1, 3), (1, 2)] 20 Zr3 [(17, 1), (17, 0), (17, 3), (17, 2), (0, 1), (6, 10), (6, 9), (6, 8), (6, 7), (6, 6), (6, 5), (6, 4), (6, 3), (6, 2), (6, 1), (0, 0), (1, 5), (1, 4), (1, 3), (1, 2)] := by
  refine CtK_of (by decide +kernel) rfl (Nat.le_of_ble_eq_true rfl) (List.forall_mem_cons.mpr ⟨rfl, (List.forall_mem_cons.mpr ⟨rfl, (List.forall_mem_cons.mpr ⟨rfl, (fun _ h => nomatch h)⟩)⟩)⟩) (ls := [some (.ref (w.2.1 17)), some (.ref (w.2.1 1)), some (.ref (w.2.1 6))]) rfl (args := (#[.ref (w.2.1 17), .ref (w.2.1 1), .ref (w.2.1 6)] : Array Value)) rfl (own := RX2) rfl ?_
  intro p e s m below meth c C hA hin hz0
  refine Vn_aload_n (i := 0) C dX2_init_0 rfl ?_
  refine Vn_objInit C (tb_i 157 (by decide +kernel) (by decide +kernel)) tb_oi tb_oc dX2_init_1 rfl (by decide) (by decide) ?_
  refine Vn_aload_n (i := 0) C dX2_init_4 rfl ?_
  refine Vn_bipush (v := 50) C dX2_init_5 (by decide) ?_
  refine Vn_newi C hw hA (n1 := 1) (k1 := 50) dX2_init_7 rfl (fun _ => rfl) (by decide) (by decide) rfl rfl (by decide +kernel) (by decide +kernel) ?_
  refine Vn_to (pc1 := 9) (N1 := 19) rfl rfl ?_
  refine Vn_putr C hin fr_X2_9 dX2_init_9 rfl (by decide) (by decide) rfl ?_
  refine Vn_aload_n (i := 0) C dX2_init_12 rfl ?_
  refine Vn_bipush (v := 50) C dX2_init_13 (by decide) ?_
  refine Vn_newz C hw hA (n1 := 2) (k1 := 100) dX2_init_15 rfl (fun _ => rfl) (by decide) (by decide) rfl rfl (by decide +kernel) (by decide +kernel) ?_
  refine Vn_to (pc1 := 17) (N1 := 20) rfl rfl ?_
  refine Vn_putr C hin fr_X2_15 dX2_init_17 rfl (by decide) (by decide) rfl ?_
  refine Vn_aload_n (i := 0) C dX2_init_20 rfl ?_
  refine Vn_aload_n (i := 1) C dX2_init_21 rfl ?_
  refine Vn_putr C hin fr_X2_19 dX2_init_22 rfl (by decide) (by decide) rfl ?_
  refine Vn_aload_n (i := 0) C dX2_init_25 rfl ?_
  refine Vn_aload_n (i := 2) C dX2_init_26 rfl ?_
  refine Vn_putr C hin fr_X2_23 dX2_init_27 rfl (by decide) (by decide) rfl ?_
  exact Vn_return C hz0 dX2_init_30
theorem fr_X9_28 : FR RX9 28 8 2 := ⟨RX9, TX9, 8, tyX9, .object "Pathwarden$Judge", rfl, tc_8, by decide, (tb_i 289 (by decide +kernel) (by decide +kernel)), tyX9_ok, nmX9, rfl, rfl, by decide +kernel, fun _ => ⟨rfl, rfl⟩⟩
theorem nw_X9_32 : NW RX9 32 5 [none, none, none, some 21, some 22, some 47, some 48, some 49, some 50] := ⟨RX6, TX6, tyX6, rfl, tc_5, (tb_i 172 (by decide +kernel) (by decide +kernel)), (tb_i 173 (by decide +kernel) (by decide +kernel)), (tb_i 36 (by decide +kernel) (by decide +kernel)), tyX6_ok, by decide +kernel⟩
theorem mn_X9_34 : MN RX9 34 yX6_init cX6_init 1 0 := ⟨⟨(Or.inr ⟨"Pathwarden", (tb_i 174 (by decide +kernel) (by decide +kernel))⟩), (tb_i 176 (by decide +kernel) (by decide +kernel)), (tb_i 36 (by decide +kernel) (by decide +kernel)), by decide +kernel⟩, rfl, (tb_i 175 (by decide +kernel) (by decide +kernel))⟩
theorem fq_X6_9 : FQ RX6 9 5 0 := ⟨RX6, TX6, 9, tyX6, rfl, tc_5, by decide, (tb_i 180 (by decide +kernel) (by decide +kernel)), tyX6_ok, nmX6, rfl, by decide +kernel⟩
theorem fq_X6_15 : FQ RX6 15 5 1 := ⟨RX6, TX6, 9, tyX6, rfl, tc_5, by decide, (tb_i 183 (by decide +kernel) (by decide +kernel)), tyX6_ok, nmX6, rfl, by decide +kernel⟩
theorem fq_X6_18 : FQ RX6 18 5 2 := ⟨RX6, TX6, 9, tyX6, rfl, tc_5, by decide, (tb_i 185 (by decide +kernel) (by decide +kernel)), tyX6_ok, nmX6, rfl, by decide +kernel⟩
theorem fr_X6_21 : FR RX6 21 5 3 := ⟨RX6, TX6, 9, tyX6, .array .int, rfl, tc_5, by decide, (tb_i 187 (by decide +kernel) (by decide +kernel)), tyX6_ok, nmX6, rfl, rfl, by decide +kernel, fun _ => ⟨rfl, rfl⟩⟩
theorem fr_X6_27 : FR RX6 27 5 4 := ⟨RX6, TX6, 9, tyX6, .array (.array .int), rfl, tc_5, by decide, (tb_i 189 (by decide +kernel) (by decide +kernel)), tyX6_ok, nmX6, rfl, rfl, by decide +kernel, fun _ => ⟨rfl, rfl⟩⟩
theorem fr_X6_30 : FR RX6 30 5 5 := ⟨RX6, TX6, 9, tyX6, .array .int, rfl, tc_5, by decide, (tb_i 192 (by decide +kernel) (by decide +kernel)), tyX6_ok, nmX6, rfl, rfl, by decide +kernel, fun _ => ⟨rfl, rfl⟩⟩
theorem fr_X6_33 : FR RX6 33 5 6 := ⟨RX6, TX6, 9, tyX6, .array .int, rfl, tc_5, by decide, (tb_i 195 (by decide +kernel) (by decide +kernel)), tyX6_ok, nmX6, rfl, rfl, by decide +kernel, fun _ => ⟨rfl, rfl⟩⟩
theorem fr_X6_36 : FR RX6 36 5 7 := ⟨RX6, TX6, 9, tyX6, .array .int, rfl, tc_5, by decide, (tb_i 197 (by decide +kernel) (by decide +kernel)), tyX6_ok, nmX6, rfl, rfl, by decide +kernel, fun _ => ⟨rfl, rfl⟩⟩
theorem fr_X6_39 : FR RX6 39 5 8 := ⟨RX6, TX6, 9, tyX6, .array .boolean, rfl, tc_5, by decide, (tb_i 199 (by decide +kernel) (by decide +kernel)), tyX6_ok, nmX6, rfl, rfl, by decide +kernel, fun _ => ⟨rfl, rfl⟩⟩
theorem n_X6 {w : Wt} {l : Launch} {b0 : Nat} (hw : ∀ i, w.2.1 i = b0 + i) : CtK w l b0 yX6_init cX6_init 1 1 12 30 270 [.ref (w.2.1 20)] 21 Zr3 [(0, 2), (17, 1), (17, 0), (17, 3), (17, 2), (0, 1), (6, 10), (6, 9), (6, 8), (6, 7), (6, 6), (6, 5), (6, 4), (6, 3), (6, 2), (6, 1), (0, 0), (1, 5), (1, 4), (1, 3), (1, 2)] 51 Zr3 [(20, 8), (20, 7), (20, 6), (20, 5), (20, 4), (20, 3), (0, 2), (17, 1), (17, 0), (17, 3), (17, 2), (0, 1), (6, 10), (6, 9), (6, 8), (6, 7), (6, 6), (6, 5), (6, 4), (6, 3), (6, 2), (6, 1), (0, 0), (1, 5), (1, 4), (1, 3), (1, 2)] := by
  refine CtK_of (by decide +kernel) rfl (Nat.le_of_ble_eq_true rfl) (List.forall_mem_cons.mpr ⟨rfl, (fun _ h => nomatch h)⟩) (ls := [some (.ref (w.2.1 20))]) rfl (args := (#[.ref (w.2.1 20)] : Array Value)) rfl (own := RX6) rfl ?_
  intro p e s m below meth c C hA hin hz0
  refine Vn_aload_n (i := 0) C dX6_init_0 rfl ?_
  refine Vn_objInit C (tb_i 177 (by decide +kernel) (by decide +kernel)) tb_oi tb_oc dX6_init_1 rfl (by decide) (by decide) ?_
  refine Vn_aload_n (i := 0) C dX6_init_4 rfl ?_
  refine Vn_iconst (v := 0) C dX6_init_5 (by decide) ?_
  refine Vn_puti (X1 := Zr3) C fq_X6_9 dX6_init_6 rfl (by decide) (by decide) rfl (ma_z rfl) ?_
  refine Vn_aload_n (i := 0) C dX6_init_9 rfl ?_
  refine Vn_iconst (v := 0) C dX6_init_10 (by decide) ?_
  refine Vn_puti (X1 := Zr3) C fq_X6_15 dX6_init_11 rfl (by decide) (by decide) rfl (ma_z rfl) ?_
  refine Vn_aload_n (i := 0) C dX6_init_14 rfl ?_
  refine Vn_iconst (v := 0) C dX6_init_15 (by decide) ?_
  refine Vn_puti (X1 := Zr3) C fq_X6_18 dX6_init_16 rfl (by decide) (by decide) rfl (ma_z rfl) ?_
  refine Vn_aload_n (i := 0) C dX6_init_19 rfl ?_
  refine Vn_bipush (v := 6) C dX6_init_20 (by decide) ?_
  refine Vn_newi C hw hA (n1 := 1) (k1 := 6) dX6_init_22 rfl (fun _ => rfl) (by decide) (by decide) rfl rfl (by decide +kernel) (by decide +kernel) ?_
  refine Vn_to (pc1 := 24) (N1 := 22) rfl rfl ?_
  refine Vn_putr C hin fr_X6_21 dX6_init_24 rfl (by decide) (by decide) rfl ?_
  refine Vn_aload_n (i := 0) C dX6_init_27 rfl ?_
  refine Vn_bipush (v := 24) C dX6_init_28 (by decide) ?_
  refine Vn_bipush (v := 6) C dX6_init_30 (by decide) ?_
  refine Vn_mna (N1 := 47) (n1 := 26) (k1 := 174) (n2 := 24) (m2 := 6) C hw (tb_i 178 (by decide +kernel) (by decide +kernel)) hA dX6_init_32 (by decide) (by decide) (by decide) (by decide) rfl (by decide +kernel) (fun i hi j => z_hi (by omega) j) rfl rfl rfl (by decide +kernel) (by decide +kernel) ?_
  refine Vn_to (pc1 := 36) (N1 := 47) rfl rfl ?_
  refine Vn_putr C hin fr_X6_27 dX6_init_36 rfl (by decide) (by decide) rfl ?_
  refine Vn_aload_n (i := 0) C dX6_init_39 rfl ?_
  refine Vn_bipush (v := 24) C dX6_init_40 (by decide) ?_
  refine Vn_newi C hw hA (n1 := 27) (k1 := 198) dX6_init_42 rfl (fun _ => rfl) (by decide) (by decide) rfl rfl (by decide +kernel) (by decide +kernel) ?_
  refine Vn_to (pc1 := 44) (N1 := 48) rfl rfl ?_
  refine Vn_putr C hin fr_X6_30 dX6_init_44 rfl (by decide) (by decide) rfl ?_
  refine Vn_aload_n (i := 0) C dX6_init_47 rfl ?_
  refine Vn_bipush (v := 24) C dX6_init_48 (by decide) ?_
  refine Vn_newi C hw hA (n1 := 28) (k1 := 222) dX6_init_50 rfl (fun _ => rfl) (by decide) (by decide) rfl rfl (by decide +kernel) (by decide +kernel) ?_
  refine Vn_to (pc1 := 52) (N1 := 49) rfl rfl ?_
  refine Vn_putr C hin fr_X6_33 dX6_init_52 rfl (by decide) (by decide) rfl ?_
  refine Vn_aload_n (i := 0) C dX6_init_55 rfl ?_
  refine Vn_bipush (v := 24) C dX6_init_56 (by decide) ?_
  refine Vn_newi C hw hA (n1 := 29) (k1 := 246) dX6_init_58 rfl (fun _ => rfl) (by decide) (by decide) rfl rfl (by decide +kernel) (by decide +kernel) ?_
  refine Vn_to (pc1 := 60) (N1 := 50) rfl rfl ?_
  refine Vn_putr C hin fr_X6_36 dX6_init_60 rfl (by decide) (by decide) rfl ?_
  refine Vn_aload_n (i := 0) C dX6_init_63 rfl ?_
  refine Vn_bipush (v := 24) C dX6_init_64 (by decide) ?_
  refine Vn_newz C hw hA (n1 := 30) (k1 := 270) dX6_init_66 rfl (fun _ => rfl) (by decide) (by decide) rfl rfl (by decide +kernel) (by decide +kernel) ?_
  refine Vn_to (pc1 := 68) (N1 := 51) rfl rfl ?_
  refine Vn_putr C hin fr_X6_39 dX6_init_68 rfl (by decide) (by decide) rfl ?_
  exact Vn_return C hz0 dX6_init_71
theorem fr_X9_35 : FR RX9 35 8 3 := ⟨RX9, TX9, 8, tyX9, .object "Pathwarden$RouteBook", rfl, tc_8, by decide, (tb_i 290 (by decide +kernel) (by decide +kernel)), tyX9_ok, nmX9, rfl, rfl, by decide +kernel, fun _ => ⟨rfl, rfl⟩⟩
theorem nw_X9_39 : NW RX9 39 7 [some 52] := ⟨RX8, TX8, tyX8, rfl, tc_7, (tb_i 220 (by decide +kernel) (by decide +kernel)), (tb_i 221 (by decide +kernel) (by decide +kernel)), (tb_i 37 (by decide +kernel) (by decide +kernel)), tyX8_ok, by decide +kernel⟩
theorem mn_X9_41 : MN RX9 41 yX8_init cX8_init 1 0 := ⟨⟨(Or.inr ⟨"Pathwarden", (tb_i 222 (by decide +kernel) (by decide +kernel))⟩), (tb_i 224 (by decide +kernel) (by decide +kernel)), (tb_i 37 (by decide +kernel) (by decide +kernel)), by decide +kernel⟩, rfl, (tb_i 223 (by decide +kernel) (by decide +kernel))⟩
theorem fr_X8_11 : FR RX8 11 7 0 := ⟨RX8, TX8, 1, tyX8, .array (.array .int), rfl, tc_7, by decide, (tb_i 227 (by decide +kernel) (by decide +kernel)), tyX8_ok, nmX8, rfl, rfl, by decide +kernel, fun _ => ⟨rfl, rfl⟩⟩
theorem n_X8 {w : Wt} {l : Launch} {b0 : Nat} (hw : ∀ i, w.2.1 i = b0 + i) : CtK w l b0 yX8_init cX8_init 1 1 12 11 110 [.ref (w.2.1 51)] 52 Zr3 [(0, 3), (20, 8), (20, 7), (20, 6), (20, 5), (20, 4), (20, 3), (0, 2), (17, 1), (17, 0), (17, 3), (17, 2), (0, 1), (6, 10), (6, 9), (6, 8), (6, 7), (6, 6), (6, 5), (6, 4), (6, 3), (6, 2), (6, 1), (0, 0), (1, 5), (1, 4), (1, 3), (1, 2)] 63 Zr3 [(51, 0), (0, 3), (20, 8), (20, 7), (20, 6), (20, 5), (20, 4), (20, 3), (0, 2), (17, 1), (17, 0), (17, 3), (17, 2), (0, 1), (6, 10), (6, 9), (6, 8), (6, 7), (6, 6), (6, 5), (6, 4), (6, 3), (6, 2), (6, 1), (0, 0), (1, 5), (1, 4), (1, 3), (1, 2)] := by
  refine CtK_of (by decide +kernel) rfl (Nat.le_of_ble_eq_true rfl) (List.forall_mem_cons.mpr ⟨rfl, (fun _ h => nomatch h)⟩) (ls := [some (.ref (w.2.1 51))]) rfl (args := (#[.ref (w.2.1 51)] : Array Value)) rfl (own := RX8) rfl ?_
  intro p e s m below meth c C hA hin hz0
  refine Vn_aload_n (i := 0) C dX8_init_0 rfl ?_
  refine Vn_objInit C (tb_i 225 (by decide +kernel) (by decide +kernel)) tb_oi tb_oc dX8_init_1 rfl (by decide) (by decide) ?_
  refine Vn_aload_n (i := 0) C dX8_init_4 rfl ?_
  refine Vn_bipush (v := 10) C dX8_init_5 (by decide) ?_
  refine Vn_bipush (v := 10) C dX8_init_7 (by decide) ?_
  refine Vn_mna (N1 := 63) (n1 := 11) (k1 := 110) (n2 := 10) (m2 := 10) C hw (tb_i 226 (by decide +kernel) (by decide +kernel)) hA dX8_init_9 (by decide) (by decide) (by decide) (by decide) rfl (by decide +kernel) (fun i hi j => z_hi (by omega) j) rfl rfl rfl (by decide +kernel) (by decide +kernel) ?_
  refine Vn_to (pc1 := 13) (N1 := 63) rfl rfl ?_
  refine Vn_putr C hin fr_X8_11 dX8_init_13 rfl (by decide) (by decide) rfl ?_
  exact Vn_return C hz0 dX8_init_16
theorem fr_X9_42 : FR RX9 42 8 4 := ⟨RX9, TX9, 8, tyX9, .object "Pathwarden$Ties", rfl, tc_8, by decide, (tb_i 291 (by decide +kernel) (by decide +kernel)), tyX9_ok, nmX9, rfl, rfl, by decide +kernel, fun _ => ⟨rfl, rfl⟩⟩
theorem nw_X9_46 : NW RX9 46 2 [some 51, some 64, some 65] := ⟨RX3, TX3, tyX3, rfl, tc_2, (tb_i 231 (by decide +kernel) (by decide +kernel)), (tb_i 232 (by decide +kernel) (by decide +kernel)), (tb_i 38 (by decide +kernel) (by decide +kernel)), tyX3_ok, by decide +kernel⟩
theorem mn_X9_48 : MN RX9 48 yX3_init cX3_init 2 1 := ⟨⟨(Or.inl (tb_i 233 (by decide +kernel) (by decide +kernel))), (tb_i 235 (by decide +kernel) (by decide +kernel)), (tb_i 38 (by decide +kernel) (by decide +kernel)), by decide +kernel⟩, rfl, (tb_i 234 (by decide +kernel) (by decide +kernel))⟩
theorem fr_X3_9 : FR RX3 9 2 1 := ⟨RX3, TX3, 3, tyX3, .array .int, rfl, tc_2, by decide, (tb_i 238 (by decide +kernel) (by decide +kernel)), tyX3_ok, nmX3, rfl, rfl, by decide +kernel, fun _ => ⟨rfl, rfl⟩⟩
theorem fr_X3_15 : FR RX3 15 2 2 := ⟨RX3, TX3, 3, tyX3, .array .int, rfl, tc_2, by decide, (tb_i 239 (by decide +kernel) (by decide +kernel)), tyX3_ok, nmX3, rfl, rfl, by decide +kernel, fun _ => ⟨rfl, rfl⟩⟩
theorem fr_X3_18 : FR RX3 18 2 0 := ⟨RX3, TX3, 3, tyX3, .object "Pathwarden$Ties", rfl, tc_2, by decide, (tb_i 237 (by decide +kernel) (by decide +kernel)), tyX3_ok, nmX3, rfl, rfl, by decide +kernel, fun _ => ⟨rfl, rfl⟩⟩
theorem n_X3 {w : Wt} {l : Launch} {b0 : Nat} (hw : ∀ i, w.2.1 i = b0 + i) : CtK w l b0 yX3_init cX3_init 2 1 12 2 20 [.ref (w.2.1 63), .ref (w.2.1 51)] 64 Zr3 [(0, 4), (51, 0), (0, 3), (20, 8), (20, 7), (20, 6), (20, 5), (20, 4), (20, 3), (0, 2), (17, 1), (17, 0), (17, 3), (17, 2), (0, 1), (6, 10), (6, 9), (6, 8), (6, 7), (6, 6), (6, 5), (6, 4), (6, 3), (6, 2), (6, 1), (0, 0), (1, 5), (1, 4), (1, 3), (1, 2)] 66 Zr3 [(63, 0), (63, 2), (63, 1), (0, 4), (51, 0), (0, 3), (20, 8), (20, 7), (20, 6), (20, 5), (20, 4), (20, 3), (0, 2), (17, 1), (17, 0), (17, 3), (17, 2), (0, 1), (6, 10), (6, 9), (6, 8), (6, 7), (6, 6), (6, 5), (6, 4), (6, 3), (6, 2), (6, 1), (0, 0), (1, 5), (1, 4), (1, 3), (1, 2)] := by
  refine CtK_of (by decide +kernel) rfl (Nat.le_of_ble_eq_true rfl) (List.forall_mem_cons.mpr ⟨rfl, (List.forall_mem_cons.mpr ⟨rfl, (fun _ h => nomatch h)⟩)⟩) (ls := [some (.ref (w.2.1 63)), some (.ref (w.2.1 51))]) rfl (args := (#[.ref (w.2.1 63), .ref (w.2.1 51)] : Array Value)) rfl (own := RX3) rfl ?_
  intro p e s m below meth c C hA hin hz0
  refine Vn_aload_n (i := 0) C dX3_init_0 rfl ?_
  refine Vn_objInit C (tb_i 236 (by decide +kernel) (by decide +kernel)) tb_oi tb_oc dX3_init_1 rfl (by decide) (by decide) ?_
  refine Vn_aload_n (i := 0) C dX3_init_4 rfl ?_
  refine Vn_bipush (v := 10) C dX3_init_5 (by decide) ?_
  refine Vn_newi C hw hA (n1 := 1) (k1 := 10) dX3_init_7 rfl (fun _ => rfl) (by decide) (by decide) rfl rfl (by decide +kernel) (by decide +kernel) ?_
  refine Vn_to (pc1 := 9) (N1 := 65) rfl rfl ?_
  refine Vn_putr C hin fr_X3_9 dX3_init_9 rfl (by decide) (by decide) rfl ?_
  refine Vn_aload_n (i := 0) C dX3_init_12 rfl ?_
  refine Vn_bipush (v := 10) C dX3_init_13 (by decide) ?_
  refine Vn_newi C hw hA (n1 := 2) (k1 := 20) dX3_init_15 rfl (fun _ => rfl) (by decide) (by decide) rfl rfl (by decide +kernel) (by decide +kernel) ?_
  refine Vn_to (pc1 := 17) (N1 := 66) rfl rfl ?_
  refine Vn_putr C hin fr_X3_15 dX3_init_17 rfl (by decide) (by decide) rfl ?_
  refine Vn_aload_n (i := 0) C dX3_init_20 rfl ?_
  refine Vn_aload_n (i := 1) C dX3_init_21 rfl ?_
  refine Vn_putr C hin fr_X3_18 dX3_init_22 rfl (by decide) (by decide) rfl ?_
  exact Vn_return C hz0 dX3_init_25
theorem fr_X9_51 : FR RX9 51 8 5 := ⟨RX9, TX9, 8, tyX9, .object "Pathwarden$PathJudge", rfl, tc_8, by decide, (tb_i 292 (by decide +kernel) (by decide +kernel)), tyX9_ok, nmX9, rfl, rfl, by decide +kernel, fun _ => ⟨rfl, rfl⟩⟩
theorem nw_X9_55 : NW RX9 55 0 [some 51, some 63, some 67] := ⟨RX0, TX0, tyX0, rfl, tc_0, (tb_i 247 (by decide +kernel) (by decide +kernel)), (tb_i 248 (by decide +kernel) (by decide +kernel)), (tb_i 39 (by decide +kernel) (by decide +kernel)), tyX0_ok, by decide +kernel⟩
theorem mn_X9_57 : MN RX9 57 yX0_init cX0_init 3 2 := ⟨⟨(Or.inl (tb_i 249 (by decide +kernel) (by decide +kernel))), (tb_i 251 (by decide +kernel) (by decide +kernel)), (tb_i 39 (by decide +kernel) (by decide +kernel)), by decide +kernel⟩, rfl, (tb_i 250 (by decide +kernel) (by decide +kernel))⟩
theorem fr_X0_9 : FR RX0 9 0 2 := ⟨RX0, TX0, 3, tyX0, .array .int, rfl, tc_0, by decide, (tb_i 255 (by decide +kernel) (by decide +kernel)), tyX0_ok, nmX0, rfl, rfl, by decide +kernel, fun _ => ⟨rfl, rfl⟩⟩
theorem fr_X0_15 : FR RX0 15 0 0 := ⟨RX0, TX0, 3, tyX0, .object "Pathwarden$Ties", rfl, tc_0, by decide, (tb_i 253 (by decide +kernel) (by decide +kernel)), tyX0_ok, nmX0, rfl, rfl, by decide +kernel, fun _ => ⟨rfl, rfl⟩⟩
theorem fr_X0_19 : FR RX0 19 0 1 := ⟨RX0, TX0, 3, tyX0, .object "Pathwarden$PathJudge", rfl, tc_0, by decide, (tb_i 254 (by decide +kernel) (by decide +kernel)), tyX0_ok, nmX0, rfl, rfl, by decide +kernel, fun _ => ⟨rfl, rfl⟩⟩
theorem n_X0 {w : Wt} {l : Launch} {b0 : Nat} (hw : ∀ i, w.2.1 i = b0 + i) : CtK w l b0 yX0_init cX0_init 3 1 12 1 5 [.ref (w.2.1 66), .ref (w.2.1 51), .ref (w.2.1 63)] 67 Zr3 [(0, 5), (63, 0), (63, 2), (63, 1), (0, 4), (51, 0), (0, 3), (20, 8), (20, 7), (20, 6), (20, 5), (20, 4), (20, 3), (0, 2), (17, 1), (17, 0), (17, 3), (17, 2), (0, 1), (6, 10), (6, 9), (6, 8), (6, 7), (6, 6), (6, 5), (6, 4), (6, 3), (6, 2), (6, 1), (0, 0), (1, 5), (1, 4), (1, 3), (1, 2)] 68 Zr3 [(66, 1), (66, 0), (66, 2), (0, 5), (63, 0), (63, 2), (63, 1), (0, 4), (51, 0), (0, 3), (20, 8), (20, 7), (20, 6), (20, 5), (20, 4), (20, 3), (0, 2), (17, 1), (17, 0), (17, 3), (17, 2), (0, 1), (6, 10), (6, 9), (6, 8), (6, 7), (6, 6), (6, 5), (6, 4), (6, 3), (6, 2), (6, 1), (0, 0), (1, 5), (1, 4), (1, 3), (1, 2)] := by
  refine CtK_of (by decide +kernel) rfl (Nat.le_of_ble_eq_true rfl) (List.forall_mem_cons.mpr ⟨rfl, (List.forall_mem_cons.mpr ⟨rfl, (List.forall_mem_cons.mpr ⟨rfl, (fun _ h => nomatch h)⟩)⟩)⟩) (ls := [some (.ref (w.2.1 66)), some (.ref (w.2.1 51)), some (.ref (w.2.1 63))]) rfl (args := (#[.ref (w.2.1 66), .ref (w.2.1 51), .ref (w.2.1 63)] : Array Value)) rfl (own := RX0) rfl ?_
  intro p e s m below meth c C hA hin hz0
  refine Vn_aload_n (i := 0) C dX0_init_0 rfl ?_
  refine Vn_objInit C (tb_i 252 (by decide +kernel) (by decide +kernel)) tb_oi tb_oc dX0_init_1 rfl (by decide) (by decide) ?_
  refine Vn_aload_n (i := 0) C dX0_init_4 rfl ?_
  refine Vn_iconst (v := 5) C dX0_init_5 (by decide) ?_
  refine Vn_newi C hw hA (n1 := 1) (k1 := 5) dX0_init_6 rfl (fun _ => rfl) (by decide) (by decide) rfl rfl (by decide +kernel) (by decide +kernel) ?_
  refine Vn_to (pc1 := 8) (N1 := 68) rfl rfl ?_
  refine Vn_putr C hin fr_X0_9 dX0_init_8 rfl (by decide) (by decide) rfl ?_
  refine Vn_aload_n (i := 0) C dX0_init_11 rfl ?_
  refine Vn_aload_n (i := 1) C dX0_init_12 rfl ?_
  refine Vn_putr C hin fr_X0_15 dX0_init_13 rfl (by decide) (by decide) rfl ?_
  refine Vn_aload_n (i := 0) C dX0_init_16 rfl ?_
  refine Vn_aload_n (i := 2) C dX0_init_17 rfl ?_
  refine Vn_putr C hin fr_X0_19 dX0_init_18 rfl (by decide) (by decide) rfl ?_
  exact Vn_return C hz0 dX0_init_21
theorem fr_X9_60 : FR RX9 60 8 6 := ⟨RX9, TX9, 8, tyX9, .object "Pathwarden$AllowedPaths", rfl, tc_8, by decide, (tb_i 293 (by decide +kernel) (by decide +kernel)), tyX9_ok, nmX9, rfl, rfl, by decide +kernel, fun _ => ⟨rfl, rfl⟩⟩
theorem nw_X9_64 : NW RX9 64 4 [some 20, none, some 69, some 70, some 81] := ⟨RX5, TX5, tyX5, rfl, tc_4, (tb_i 263 (by decide +kernel) (by decide +kernel)), (tb_i 264 (by decide +kernel) (by decide +kernel)), (tb_i 40 (by decide +kernel) (by decide +kernel)), tyX5_ok, by decide +kernel⟩
theorem mn_X9_66 : MN RX9 66 yX5_init cX5_init 2 1 := ⟨⟨(Or.inl (tb_i 265 (by decide +kernel) (by decide +kernel))), (tb_i 267 (by decide +kernel) (by decide +kernel)), (tb_i 40 (by decide +kernel) (by decide +kernel)), by decide +kernel⟩, rfl, (tb_i 266 (by decide +kernel) (by decide +kernel))⟩
theorem fq_X5_9 : FQ RX5 9 4 1 := ⟨RX5, TX5, 5, tyX5, rfl, tc_4, by decide, (tb_i 271 (by decide +kernel) (by decide +kernel)), tyX5_ok, nmX5, rfl, by decide +kernel⟩
theorem fr_X5_15 : FR RX5 15 4 2 := ⟨RX5, TX5, 5, tyX5, .array .int, rfl, tc_4, by decide, (tb_i 273 (by decide +kernel) (by decide +kernel)), tyX5_ok, nmX5, rfl, rfl, by decide +kernel, fun _ => ⟨rfl, rfl⟩⟩
theorem fr_X5_21 : FR RX5 21 4 3 := ⟨RX5, TX5, 5, tyX5, .array (.array .int), rfl, tc_4, by decide, (tb_i 274 (by decide +kernel) (by decide +kernel)), tyX5_ok, nmX5, rfl, rfl, by decide +kernel, fun _ => ⟨rfl, rfl⟩⟩
theorem fr_X5_24 : FR RX5 24 4 4 := ⟨RX5, TX5, 5, tyX5, .array (.array .int), rfl, tc_4, by decide, (tb_i 275 (by decide +kernel) (by decide +kernel)), tyX5_ok, nmX5, rfl, rfl, by decide +kernel, fun _ => ⟨rfl, rfl⟩⟩
theorem fr_X5_27 : FR RX5 27 4 0 := ⟨RX5, TX5, 5, tyX5, .object "Pathwarden$RouteBook", rfl, tc_4, by decide, (tb_i 270 (by decide +kernel) (by decide +kernel)), tyX5_ok, nmX5, rfl, rfl, by decide +kernel, fun _ => ⟨rfl, rfl⟩⟩
theorem n_X5 {w : Wt} {l : Launch} {b0 : Nat} (hw : ∀ i, w.2.1 i = b0 + i) : CtK w l b0 yX5_init cX5_init 2 1 12 16 153 [.ref (w.2.1 68), .ref (w.2.1 20)] 69 Zr3 [(0, 6), (66, 1), (66, 0), (66, 2), (0, 5), (63, 0), (63, 2), (63, 1), (0, 4), (51, 0), (0, 3), (20, 8), (20, 7), (20, 6), (20, 5), (20, 4), (20, 3), (0, 2), (17, 1), (17, 0), (17, 3), (17, 2), (0, 1), (6, 10), (6, 9), (6, 8), (6, 7), (6, 6), (6, 5), (6, 4), (6, 3), (6, 2), (6, 1), (0, 0), (1, 5), (1, 4), (1, 3), (1, 2)] 85 Zr3 [(68, 0), (68, 4), (68, 3), (68, 2), (0, 6), (66, 1), (66, 0), (66, 2), (0, 5), (63, 0), (63, 2), (63, 1), (0, 4), (51, 0), (0, 3), (20, 8), (20, 7), (20, 6), (20, 5), (20, 4), (20, 3), (0, 2), (17, 1), (17, 0), (17, 3), (17, 2), (0, 1), (6, 10), (6, 9), (6, 8), (6, 7), (6, 6), (6, 5), (6, 4), (6, 3), (6, 2), (6, 1), (0, 0), (1, 5), (1, 4), (1, 3), (1, 2)] := by
  refine CtK_of (by decide +kernel) rfl (Nat.le_of_ble_eq_true rfl) (List.forall_mem_cons.mpr ⟨rfl, (List.forall_mem_cons.mpr ⟨rfl, (fun _ h => nomatch h)⟩)⟩) (ls := [some (.ref (w.2.1 68)), some (.ref (w.2.1 20))]) rfl (args := (#[.ref (w.2.1 68), .ref (w.2.1 20)] : Array Value)) rfl (own := RX5) rfl ?_
  intro p e s m below meth c C hA hin hz0
  refine Vn_aload_n (i := 0) C dX5_init_0 rfl ?_
  refine Vn_objInit C (tb_i 268 (by decide +kernel) (by decide +kernel)) tb_oi tb_oc dX5_init_1 rfl (by decide) (by decide) ?_
  refine Vn_aload_n (i := 0) C dX5_init_4 rfl ?_
  refine Vn_iconst (v := 0) C dX5_init_5 (by decide) ?_
  refine Vn_puti (X1 := Zr3) C fq_X5_9 dX5_init_6 rfl (by decide) (by decide) rfl (ma_z rfl) ?_
  refine Vn_aload_n (i := 0) C dX5_init_9 rfl ?_
  refine Vn_bipush (v := 10) C dX5_init_10 (by decide) ?_
  refine Vn_newi C hw hA (n1 := 1) (k1 := 10) dX5_init_12 rfl (fun _ => rfl) (by decide) (by decide) rfl rfl (by decide +kernel) (by decide +kernel) ?_
  refine Vn_to (pc1 := 14) (N1 := 70) rfl rfl ?_
  refine Vn_putr C hin fr_X5_15 dX5_init_14 rfl (by decide) (by decide) rfl ?_
  refine Vn_aload_n (i := 0) C dX5_init_17 rfl ?_
  refine Vn_bipush (v := 10) C dX5_init_18 (by decide) ?_
  refine Vn_bipush (v := 10) C dX5_init_20 (by decide) ?_
  refine Vn_mna (N1 := 81) (n1 := 12) (k1 := 120) (n2 := 10) (m2 := 10) C hw (tb_i 269 (by decide +kernel) (by decide +kernel)) hA dX5_init_22 (by decide) (by decide) (by decide) (by decide) rfl (by decide +kernel) (fun i hi j => z_hi (by omega) j) rfl rfl rfl (by decide +kernel) (by decide +kernel) ?_
  refine Vn_to (pc1 := 26) (N1 := 81) rfl rfl ?_
  refine Vn_putr C hin fr_X5_21 dX5_init_26 rfl (by decide) (by decide) rfl ?_
  refine Vn_aload_n (i := 0) C dX5_init_29 rfl ?_
  refine Vn_iconst (v := 3) C dX5_init_30 (by decide) ?_
  refine Vn_bipush (v := 10) C dX5_init_31 (by decide) ?_
  refine Vn_mna (N1 := 85) (n1 := 16) (k1 := 153) (n2 := 3) (m2 := 10) C hw (tb_i 269 (by decide +kernel) (by decide +kernel)) hA dX5_init_33 (by decide) (by decide) (by decide) (by decide) rfl (by decide +kernel) (fun i hi j => z_hi (by omega) j) rfl rfl rfl (by decide +kernel) (by decide +kernel) ?_
  refine Vn_to (pc1 := 37) (N1 := 85) rfl rfl ?_
  refine Vn_putr C hin fr_X5_24 dX5_init_37 rfl (by decide) (by decide) rfl ?_
  refine Vn_aload_n (i := 0) C dX5_init_40 rfl ?_
  refine Vn_aload_n (i := 1) C dX5_init_41 rfl ?_
  refine Vn_putr C hin fr_X5_27 dX5_init_42 rfl (by decide) (by decide) rfl ?_
  exact Vn_return C hz0 dX5_init_45
theorem fr_X9_69 : FR RX9 69 8 7 := ⟨RX9, TX9, 8, tyX9, .object "Pathwarden$Relations", rfl, tc_8, by decide, (tb_i 294 (by decide +kernel) (by decide +kernel)), tyX9_ok, nmX9, rfl, rfl, by decide +kernel, fun _ => ⟨rfl, rfl⟩⟩
theorem n_X9 {w : Wt} {l : Launch} {b0 : Nat} (hw : ∀ i, w.2.1 i = b0 + i) : CtK w l b0 yX9_init cX9_init 1 2 34 84 1234 [.ref (w.2.1 0)] 1 Z0 [] 85 Zr3 [(0, 7), (68, 0), (68, 4), (68, 3), (68, 2), (0, 6), (66, 1), (66, 0), (66, 2), (0, 5), (63, 0), (63, 2), (63, 1), (0, 4), (51, 0), (0, 3), (20, 8), (20, 7), (20, 6), (20, 5), (20, 4), (20, 3), (0, 2), (17, 1), (17, 0), (17, 3), (17, 2), (0, 1), (6, 10), (6, 9), (6, 8), (6, 7), (6, 6), (6, 5), (6, 4), (6, 3), (6, 2), (6, 1), (0, 0), (1, 5), (1, 4), (1, 3), (1, 2)] := by
  refine CtK_of (by decide +kernel) rfl (Nat.le_of_ble_eq_true rfl) (List.forall_mem_cons.mpr ⟨rfl, (fun _ h => nomatch h)⟩) (ls := [some (.ref (w.2.1 0))]) rfl (args := (#[.ref (w.2.1 0)] : Array Value)) rfl (own := RX9) rfl ?_
  intro p e s m below meth c C hA hin hz0
  refine Vn_aload_n (i := 0) C dX9_init_0 rfl ?_
  refine Vn_objInit C (tb_i 54 (by decide +kernel) (by decide +kernel)) tb_oi tb_oc dX9_init_1 rfl (by decide) (by decide) ?_
  refine Vn_aload_n (i := 0) C dX9_init_4 rfl ?_
  refine Vn_new C hw (n1 := 1) (k1 := 6) nw_X9_7 dX9_init_5 rfl (by decide) (fun _ => rfl) (by decide +kernel) rfl rfl (by decide +kernel) (by decide +kernel) ?_
  refine Vn_to (pc1 := 8) (N1 := 2) rfl rfl ?_
  refine Vn_dup C dX9_init_8 rfl ?_
  refine Vn_init (As := []) (rest := [.ref (w.2.1 1), .ref (w.2.1 0)]) (n1 := 5) (k1 := 40) C mn_X9_9 hA (n_X4 hw) dX9_init_9 rfl rfl (Nat.le_of_ble_eq_true rfl) (by decide) (by decide) rfl rfl (by decide +kernel) (by decide +kernel) ?_
  refine Vn_to (pc1 := 12) (N1 := 6) rfl rfl ?_
  refine Vn_putr C hin fr_X9_10 dX9_init_12 rfl (by decide) (by decide) rfl ?_
  refine Vn_aload_n (i := 0) C dX9_init_15 rfl ?_
  refine Vn_new C hw (n1 := 6) (k1 := 51) nw_X9_16 dX9_init_16 rfl (by decide) (fun _ => rfl) (by decide +kernel) rfl rfl (by decide +kernel) (by decide +kernel) ?_
  refine Vn_to (pc1 := 19) (N1 := 7) rfl rfl ?_
  refine Vn_dup C dX9_init_19 rfl ?_
  refine Vn_init (As := []) (rest := [.ref (w.2.1 6), .ref (w.2.1 0)]) (n1 := 16) (k1 := 551) C mn_X9_18 hA (n_X7 hw) dX9_init_20 rfl rfl (Nat.le_of_ble_eq_true rfl) (by decide) (by decide) rfl rfl (by decide +kernel) (by decide +kernel) ?_
  refine Vn_to (pc1 := 23) (N1 := 17) rfl rfl ?_
  refine Vn_putr C hin fr_X9_19 dX9_init_23 rfl (by decide) (by decide) rfl ?_
  refine Vn_aload_n (i := 0) C dX9_init_26 rfl ?_
  refine Vn_new C hw (n1 := 17) (k1 := 555) nw_X9_23 dX9_init_27 rfl (by decide) (fun _ => rfl) (by decide +kernel) rfl rfl (by decide +kernel) (by decide +kernel) ?_
  refine Vn_to (pc1 := 30) (N1 := 18) rfl rfl ?_
  refine Vn_dup C dX9_init_30 rfl ?_
  refine Vn_aload_n (i := 0) C dX9_init_31 rfl ?_
  refine Vn_getr C fl_X9_10 dX9_init_32 rfl (by decide) rfl (by decide +kernel) ?_
  refine Vn_aload_n (i := 0) C dX9_init_35 rfl ?_
  refine Vn_getr C fl_X9_19 dX9_init_36 rfl (by decide) rfl (by decide +kernel) ?_
  refine Vn_init (As := [.ref (w.2.1 1), .ref (w.2.1 6)]) (rest := [.ref (w.2.1 17), .ref (w.2.1 0)]) (n1 := 19) (k1 := 655) C mn_X9_25 hA (n_X2 hw) dX9_init_39 rfl rfl (Nat.le_of_ble_eq_true rfl) (by decide) (by decide) rfl rfl (by decide +kernel) (by decide +kernel) ?_
  refine Vn_to (pc1 := 42) (N1 := 20) rfl rfl ?_
  refine Vn_putr C hin fr_X9_28 dX9_init_42 rfl (by decide) (by decide) rfl ?_
  refine Vn_aload_n (i := 0) C dX9_init_45 rfl ?_
  refine Vn_new C hw (n1 := 20) (k1 := 664) nw_X9_32 dX9_init_46 rfl (by decide) (fun _ => rfl) (by decide +kernel) rfl rfl (by decide +kernel) (by decide +kernel) ?_
  refine Vn_to (pc1 := 49) (N1 := 21) rfl rfl ?_
  refine Vn_dup C dX9_init_49 rfl ?_
  refine Vn_init (As := []) (rest := [.ref (w.2.1 20), .ref (w.2.1 0)]) (n1 := 50) (k1 := 934) C mn_X9_34 hA (n_X6 hw) dX9_init_50 rfl rfl (Nat.le_of_ble_eq_true rfl) (by decide) (by decide) rfl rfl (by decide +kernel) (by decide +kernel) ?_
  refine Vn_to (pc1 := 53) (N1 := 51) rfl rfl ?_
  refine Vn_putr C hin fr_X9_35 dX9_init_53 rfl (by decide) (by decide) rfl ?_
  refine Vn_aload_n (i := 0) C dX9_init_56 rfl ?_
  refine Vn_new C hw (n1 := 51) (k1 := 935) nw_X9_39 dX9_init_57 rfl (by decide) (fun _ => rfl) (by decide +kernel) rfl rfl (by decide +kernel) (by decide +kernel) ?_
  refine Vn_to (pc1 := 60) (N1 := 52) rfl rfl ?_
  refine Vn_dup C dX9_init_60 rfl ?_
  refine Vn_init (As := []) (rest := [.ref (w.2.1 51), .ref (w.2.1 0)]) (n1 := 62) (k1 := 1045) C mn_X9_41 hA (n_X8 hw) dX9_init_61 rfl rfl (Nat.le_of_ble_eq_true rfl) (by decide) (by decide) rfl rfl (by decide +kernel) (by decide +kernel) ?_
  refine Vn_to (pc1 := 64) (N1 := 63) rfl rfl ?_
  refine Vn_putr C hin fr_X9_42 dX9_init_64 rfl (by decide) (by decide) rfl ?_
  refine Vn_aload_n (i := 0) C dX9_init_67 rfl ?_
  refine Vn_new C hw (n1 := 63) (k1 := 1048) nw_X9_46 dX9_init_68 rfl (by decide) (fun _ => rfl) (by decide +kernel) rfl rfl (by decide +kernel) (by decide +kernel) ?_
  refine Vn_to (pc1 := 71) (N1 := 64) rfl rfl ?_
  refine Vn_dup C dX9_init_71 rfl ?_
  refine Vn_aload_n (i := 0) C dX9_init_72 rfl ?_
  refine Vn_getr C fl_X9_42 dX9_init_73 rfl (by decide) rfl (by decide +kernel) ?_
  refine Vn_init (As := [.ref (w.2.1 51)]) (rest := [.ref (w.2.1 63), .ref (w.2.1 0)]) (n1 := 65) (k1 := 1068) C mn_X9_48 hA (n_X3 hw) dX9_init_76 rfl rfl (Nat.le_of_ble_eq_true rfl) (by decide) (by decide) rfl rfl (by decide +kernel) (by decide +kernel) ?_
  refine Vn_to (pc1 := 79) (N1 := 66) rfl rfl ?_
  refine Vn_putr C hin fr_X9_51 dX9_init_79 rfl (by decide) (by decide) rfl ?_
  refine Vn_aload_n (i := 0) C dX9_init_82 rfl ?_
  refine Vn_new C hw (n1 := 66) (k1 := 1071) nw_X9_55 dX9_init_83 rfl (by decide) (fun _ => rfl) (by decide +kernel) rfl rfl (by decide +kernel) (by decide +kernel) ?_
  refine Vn_to (pc1 := 86) (N1 := 67) rfl rfl ?_
  refine Vn_dup C dX9_init_86 rfl ?_
  refine Vn_aload_n (i := 0) C dX9_init_87 rfl ?_
  refine Vn_getr C fl_X9_42 dX9_init_88 rfl (by decide) rfl (by decide +kernel) ?_
  refine Vn_aload_n (i := 0) C dX9_init_91 rfl ?_
  refine Vn_getr C fl_X9_51 dX9_init_92 rfl (by decide) rfl (by decide +kernel) ?_
  refine Vn_init (As := [.ref (w.2.1 51), .ref (w.2.1 63)]) (rest := [.ref (w.2.1 66), .ref (w.2.1 0)]) (n1 := 67) (k1 := 1076) C mn_X9_57 hA (n_X0 hw) dX9_init_95 rfl rfl (Nat.le_of_ble_eq_true rfl) (by decide) (by decide) rfl rfl (by decide +kernel) (by decide +kernel) ?_
  refine Vn_to (pc1 := 98) (N1 := 68) rfl rfl ?_
  refine Vn_putr C hin fr_X9_60 dX9_init_98 rfl (by decide) (by decide) rfl ?_
  refine Vn_aload_n (i := 0) C dX9_init_101 rfl ?_
  refine Vn_new C hw (n1 := 68) (k1 := 1081) nw_X9_64 dX9_init_102 rfl (by decide) (fun _ => rfl) (by decide +kernel) rfl rfl (by decide +kernel) (by decide +kernel) ?_
  refine Vn_to (pc1 := 105) (N1 := 69) rfl rfl ?_
  refine Vn_dup C dX9_init_105 rfl ?_
  refine Vn_aload_n (i := 0) C dX9_init_106 rfl ?_
  refine Vn_getr C fl_X9_35 dX9_init_107 rfl (by decide) rfl (by decide +kernel) ?_
  refine Vn_init (As := [.ref (w.2.1 20)]) (rest := [.ref (w.2.1 68), .ref (w.2.1 0)]) (n1 := 84) (k1 := 1234) C mn_X9_66 hA (n_X5 hw) dX9_init_110 rfl rfl (Nat.le_of_ble_eq_true rfl) (by decide) (by decide) rfl rfl (by decide +kernel) (by decide +kernel) ?_
  refine Vn_to (pc1 := 113) (N1 := 85) rfl rfl ?_
  refine Vn_putr C hin fr_X9_69 dX9_init_113 rfl (by decide) (by decide) rfl ?_
  exact Vn_return C hz0 dX9_init_116
theorem nw_L_8 : NW RL 8 8 [some 1, some 6, some 17, some 20, some 51, some 63, some 66, some 68] := ⟨RX9, TX9, tyX9, rfl, tc_8, (tb_i 49 (by decide +kernel) (by decide +kernel)), (tb_i 50 (by decide +kernel) (by decide +kernel)), (tb_i 32 (by decide +kernel) (by decide +kernel)), tyX9_ok, by decide +kernel⟩
theorem mn_L_73 : MN RL 73 yX9_init cX9_init 1 0 := ⟨⟨(Or.inl (tb_i 51 (by decide +kernel) (by decide +kernel))), (tb_i 53 (by decide +kernel) (by decide +kernel)), (tb_i 32 (by decide +kernel) (by decide +kernel)), by decide +kernel⟩, rfl, (tb_i 52 (by decide +kernel) (by decide +kernel))⟩
