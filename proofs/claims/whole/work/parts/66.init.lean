/-! the constructors -/
theorem tb_oi : Cond.instanceMethod objectInit ∈ TB := (tb_i 84 (by decide +kernel) (by decide +kernel))
theorem tb_oc : Cond.code objectInit ⟨#[0xb1]⟩ 1 none ∈ TB := (tb_i 85 (by decide +kernel) (by decide +kernel))
def Z0 : Mem := fun _ _ => 0
def Zr1 : Mem := ma Z0 1 (upd (Z0 1) 1 1)
def Zr2 : Mem := ma Zr1 2 (upd (Zr1 2) 0 (-1))
def Zr3 : Mem := ma Zr2 4 (upd (Zr2 4) 0 30)
theorem z_hi {q : Nat} (h : 4 < q) (j : Nat) : Zr3 q j = 0 := by
  unfold Zr3 Zr2 Zr1
  rw [ma_ne (by omega), ma_ne (by omega), ma_ne (by omega)]
  rfl
def Zm1 : Mem := ma Zr3 85 (upd (Zr3 85) 5 1)
def Zm2 : Mem := ma Zm1 86 (upd (Zm1 86) 0 (-1))
def Zm3 : Mem := ma Zm2 88 (upd (Zm2 88) 0 30)
theorem nw_X9_7 : NW RX9 7 3 [none, none, some 2, some 3, some 4, some 5] := ⟨RX4, TX4, tyX4, rfl, tc_3, (tb_i 86 (by decide +kernel) (by decide +kernel)), (tb_i 87 (by decide +kernel) (by decide +kernel)), (tb_i 61 (by decide +kernel) (by decide +kernel)), tyX4_ok, by decide +kernel⟩
theorem mn_X9_9 : MN RX9 9 yX4_init cX4_init 1 0 := ⟨⟨(Or.inl (tb_i 88 (by decide +kernel) (by decide +kernel))), (tb_i 90 (by decide +kernel) (by decide +kernel)), (tb_i 61 (by decide +kernel) (by decide +kernel)), by decide +kernel⟩, rfl, (tb_i 89 (by decide +kernel) (by decide +kernel))⟩
theorem fq_X4_9 : FQ RX4 9 3 0 := ⟨RX4, TX4, 6, tyX4, rfl, tc_3, by decide, (tb_i 92 (by decide +kernel) (by decide +kernel)), tyX4_ok, nmX4, rfl, by decide +kernel⟩
theorem fq_X4_15 : FQ RX4 15 3 1 := ⟨RX4, TX4, 6, tyX4, rfl, tc_3, by decide, (tb_i 95 (by decide +kernel) (by decide +kernel)), tyX4_ok, nmX4, rfl, by decide +kernel⟩
theorem fr_X4_18 : FR RX4 18 3 2 := ⟨RX4, TX4, 6, tyX4, .array .int, rfl, tc_3, by decide, (tb_i 98 (by decide +kernel) (by decide +kernel)), tyX4_ok, nmX4, rfl, rfl, by decide +kernel, fun _ => ⟨rfl, rfl⟩⟩
theorem fr_X4_22 : FR RX4 22 3 3 := ⟨RX4, TX4, 6, tyX4, .array .int, rfl, tc_3, by decide, (tb_i 100 (by decide +kernel) (by decide +kernel)), tyX4_ok, nmX4, rfl, rfl, by decide +kernel, fun _ => ⟨rfl, rfl⟩⟩
theorem fr_X4_25 : FR RX4 25 3 4 := ⟨RX4, TX4, 6, tyX4, .array .int, rfl, tc_3, by decide, (tb_i 103 (by decide +kernel) (by decide +kernel)), tyX4_ok, nmX4, rfl, rfl, by decide +kernel, fun _ => ⟨rfl, rfl⟩⟩
theorem fr_X4_28 : FR RX4 28 3 5 := ⟨RX4, TX4, 6, tyX4, .array .int, rfl, tc_3, by decide, (tb_i 106 (by decide +kernel) (by decide +kernel)), tyX4_ok, nmX4, rfl, rfl, by decide +kernel, fun _ => ⟨rfl, rfl⟩⟩
theorem n_X4 {w : Wt} {l : Launch} {b0 : Nat} (hw : ∀ i, w.2.1 i = b0 + i) : CtN w l b0 yX4_init cX4_init 1 1 12 4 34 [.ref (w.2.1 1)] 2 Z0 [] 6 Zr3 [(1, 5), (1, 4), (1, 3), (1, 2)] := by
  refine CtN_of (by decide +kernel) rfl (Nat.le_of_ble_eq_true rfl) (List.forall_mem_cons.mpr ⟨rfl, (fun _ h => nomatch h)⟩) (ls := [some (.ref (w.2.1 1))]) rfl (args := (#[.ref (w.2.1 1)] : Array Value)) rfl (own := RX4) rfl ?_
  intro p e s m below meth c C hA hin hz0
  refine Vn_aload_n (i := 0) C dX4_init_0 rfl ?_
  refine Vn_objInit C (tb_i 91 (by decide +kernel) (by decide +kernel)) tb_oi tb_oc dX4_init_1 rfl (by decide) (by decide) ?_
  refine Vn_aload_n (i := 0) C dX4_init_4 rfl ?_
  refine Vn_iconst (v := 0) C dX4_init_5 (by decide) ?_
  refine Vn_puti (X1 := Z0) C fq_X4_9 dX4_init_6 rfl (by decide) (by decide) rfl (ma_z rfl) ?_
  refine Vn_aload_n (i := 0) C dX4_init_9 rfl ?_
  refine Vn_iconst (v := 1) C dX4_init_10 (by decide) ?_
  refine Vn_puti (X1 := Zr1) C fq_X4_15 dX4_init_11 rfl (by decide) (by decide) rfl rfl ?_
  refine Vn_aload_n (i := 0) C dX4_init_14 rfl ?_
  refine Vn_bipush (v := 8) C dX4_init_15 (by decide) ?_
  refine Vn_newi C hw hA (n1 := 1) (k1 := 8) dX4_init_17 rfl (fun _ => rfl) (by decide) (by decide) rfl rfl (by decide +kernel) (by decide +kernel) ?_
  refine Vn_to (pc1 := 19) (N1 := 3) rfl rfl ?_
  refine Vn_putr C hin fr_X4_18 dX4_init_19 rfl (by decide) (by decide) rfl ?_
  refine Vn_aload_n (i := 0) C dX4_init_22 rfl ?_
  refine Vn_bipush (v := 8) C dX4_init_23 (by decide) ?_
  refine Vn_newi C hw hA (n1 := 2) (k1 := 16) dX4_init_25 rfl (fun _ => rfl) (by decide) (by decide) rfl rfl (by decide +kernel) (by decide +kernel) ?_
  refine Vn_to (pc1 := 27) (N1 := 4) rfl rfl ?_
  refine Vn_putr C hin fr_X4_22 dX4_init_27 rfl (by decide) (by decide) rfl ?_
  refine Vn_aload_n (i := 0) C dX4_init_30 rfl ?_
  refine Vn_bipush (v := 8) C dX4_init_31 (by decide) ?_
  refine Vn_newi C hw hA (n1 := 3) (k1 := 24) dX4_init_33 rfl (fun _ => rfl) (by decide) (by decide) rfl rfl (by decide +kernel) (by decide +kernel) ?_
  refine Vn_to (pc1 := 35) (N1 := 5) rfl rfl ?_
  refine Vn_putr C hin fr_X4_25 dX4_init_35 rfl (by decide) (by decide) rfl ?_
  refine Vn_aload_n (i := 0) C dX4_init_38 rfl ?_
  refine Vn_bipush (v := 10) C dX4_init_39 (by decide) ?_
  refine Vn_newi C hw hA (n1 := 4) (k1 := 34) dX4_init_41 rfl (fun _ => rfl) (by decide) (by decide) rfl rfl (by decide +kernel) (by decide +kernel) ?_
  refine Vn_to (pc1 := 43) (N1 := 6) rfl rfl ?_
  refine Vn_putr C hin fr_X4_28 dX4_init_43 rfl (by decide) (by decide) rfl ?_
  refine Vn_aload_n (i := 0) C dX4_init_46 rfl ?_
  refine Vn_getr C fl_X4_18 dX4_init_47 rfl (by decide) rfl (by decide +kernel) ?_
  refine Vn_iconst (v := 0) C dX4_init_50 (by decide) ?_
  refine Vn_iconst (v := -1) C dX4_init_51 (by decide) ?_
  refine Vn_iast (X1 := Zr2) (o := 0) C dX4_init_52 rfl (by decide) (by decide) (by decide) (by decide) (by decide) rfl ?_
  refine Vn_aload_n (i := 0) C dX4_init_53 rfl ?_
  refine Vn_getr C fl_X4_25 dX4_init_54 rfl (by decide) rfl (by decide +kernel) ?_
  refine Vn_iconst (v := 0) C dX4_init_57 (by decide) ?_
  refine Vn_bipush (v := 30) C dX4_init_58 (by decide) ?_
  refine Vn_iast (X1 := Zr3) (o := 0) C dX4_init_60 rfl (by decide) (by decide) (by decide) (by decide) (by decide) rfl ?_
  exact Vn_return C hz0 dX4_init_61
theorem fr_X9_10 : FR RX9 10 8 0 := ⟨RX9, TX9, 8, tyX9, .object "Pathwarden$Registry", rfl, tc_8, by decide, (tb_i 316 (by decide +kernel) (by decide +kernel)), tyX9_ok, nmX9, rfl, rfl, by decide +kernel, fun _ => ⟨rfl, rfl⟩⟩
theorem nw_X9_16 : NW RX9 16 6 [none, some 7, some 8, some 9, some 10, some 11, some 12, some 13, some 14, some 15, some 16] := ⟨RX7, TX7, tyX7, rfl, tc_6, (tb_i 123 (by decide +kernel) (by decide +kernel)), (tb_i 124 (by decide +kernel) (by decide +kernel)), (tb_i 62 (by decide +kernel) (by decide +kernel)), tyX7_ok, by decide +kernel⟩
theorem mn_X9_18 : MN RX9 18 yX7_init cX7_init 1 0 := ⟨⟨(Or.inr ⟨"Pathwarden", (tb_i 125 (by decide +kernel) (by decide +kernel))⟩), (tb_i 127 (by decide +kernel) (by decide +kernel)), (tb_i 62 (by decide +kernel) (by decide +kernel)), by decide +kernel⟩, rfl, (tb_i 126 (by decide +kernel) (by decide +kernel))⟩
theorem fq_X7_9 : FQ RX7 9 6 0 := ⟨RX7, TX7, 11, tyX7, rfl, tc_6, by decide, (tb_i 129 (by decide +kernel) (by decide +kernel)), tyX7_ok, nmX7, rfl, by decide +kernel⟩
theorem fr_X7_15 : FR RX7 15 6 1 := ⟨RX7, TX7, 11, tyX7, .array .int, rfl, tc_6, by decide, (tb_i 132 (by decide +kernel) (by decide +kernel)), tyX7_ok, nmX7, rfl, rfl, by decide +kernel, fun _ => ⟨rfl, rfl⟩⟩
theorem fr_X7_19 : FR RX7 19 6 2 := ⟨RX7, TX7, 11, tyX7, .array .int, rfl, tc_6, by decide, (tb_i 135 (by decide +kernel) (by decide +kernel)), tyX7_ok, nmX7, rfl, rfl, by decide +kernel, fun _ => ⟨rfl, rfl⟩⟩
theorem fr_X7_22 : FR RX7 22 6 3 := ⟨RX7, TX7, 11, tyX7, .array .int, rfl, tc_6, by decide, (tb_i 138 (by decide +kernel) (by decide +kernel)), tyX7_ok, nmX7, rfl, rfl, by decide +kernel, fun _ => ⟨rfl, rfl⟩⟩
theorem fr_X7_25 : FR RX7 25 6 4 := ⟨RX7, TX7, 11, tyX7, .array .int, rfl, tc_6, by decide, (tb_i 141 (by decide +kernel) (by decide +kernel)), tyX7_ok, nmX7, rfl, rfl, by decide +kernel, fun _ => ⟨rfl, rfl⟩⟩
theorem fr_X7_28 : FR RX7 28 6 5 := ⟨RX7, TX7, 11, tyX7, .array .int, rfl, tc_6, by decide, (tb_i 143 (by decide +kernel) (by decide +kernel)), tyX7_ok, nmX7, rfl, rfl, by decide +kernel, fun _ => ⟨rfl, rfl⟩⟩
theorem fr_X7_31 : FR RX7 31 6 6 := ⟨RX7, TX7, 11, tyX7, .array .int, rfl, tc_6, by decide, (tb_i 145 (by decide +kernel) (by decide +kernel)), tyX7_ok, nmX7, rfl, rfl, by decide +kernel, fun _ => ⟨rfl, rfl⟩⟩
theorem fr_X7_34 : FR RX7 34 6 7 := ⟨RX7, TX7, 11, tyX7, .array .int, rfl, tc_6, by decide, (tb_i 148 (by decide +kernel) (by decide +kernel)), tyX7_ok, nmX7, rfl, rfl, by decide +kernel, fun _ => ⟨rfl, rfl⟩⟩
theorem fr_X7_37 : FR RX7 37 6 8 := ⟨RX7, TX7, 11, tyX7, .array .int, rfl, tc_6, by decide, (tb_i 150 (by decide +kernel) (by decide +kernel)), tyX7_ok, nmX7, rfl, rfl, by decide +kernel, fun _ => ⟨rfl, rfl⟩⟩
theorem fr_X7_40 : FR RX7 40 6 9 := ⟨RX7, TX7, 11, tyX7, .array .boolean, rfl, tc_6, by decide, (tb_i 153 (by decide +kernel) (by decide +kernel)), tyX7_ok, nmX7, rfl, rfl, by decide +kernel, fun _ => ⟨rfl, rfl⟩⟩
theorem fr_X7_44 : FR RX7 44 6 10 := ⟨RX7, TX7, 11, tyX7, .array .boolean, rfl, tc_6, by decide, (tb_i 155 (by decide +kernel) (by decide +kernel)), tyX7_ok, nmX7, rfl, rfl, by decide +kernel, fun _ => ⟨rfl, rfl⟩⟩
theorem n_X7 {w : Wt} {l : Launch} {b0 : Nat} (hw : ∀ i, w.2.1 i = b0 + i) : CtN w l b0 yX7_init cX7_init 1 1 12 10 500 [.ref (w.2.1 6)] 7 Zr3 [(0, 0), (1, 5), (1, 4), (1, 3), (1, 2)] 17 Zr3 [(6, 10), (6, 9), (6, 8), (6, 7), (6, 6), (6, 5), (6, 4), (6, 3), (6, 2), (6, 1), (0, 0), (1, 5), (1, 4), (1, 3), (1, 2)] := by
  refine CtN_of (by decide +kernel) rfl (Nat.le_of_ble_eq_true rfl) (List.forall_mem_cons.mpr ⟨rfl, (fun _ h => nomatch h)⟩) (ls := [some (.ref (w.2.1 6))]) rfl (args := (#[.ref (w.2.1 6)] : Array Value)) rfl (own := RX7) rfl ?_
  intro p e s m below meth c C hA hin hz0
  refine Vn_aload_n (i := 0) C dX7_init_0 rfl ?_
  refine Vn_objInit C (tb_i 128 (by decide +kernel) (by decide +kernel)) tb_oi tb_oc dX7_init_1 rfl (by decide) (by decide) ?_
  refine Vn_aload_n (i := 0) C dX7_init_4 rfl ?_
  refine Vn_iconst (v := 0) C dX7_init_5 (by decide) ?_
  refine Vn_puti (X1 := Zr3) C fq_X7_9 dX7_init_6 rfl (by decide) (by decide) rfl (ma_z rfl) ?_
  refine Vn_aload_n (i := 0) C dX7_init_9 rfl ?_
  refine Vn_bipush (v := 50) C dX7_init_10 (by decide) ?_
  refine Vn_newi C hw hA (n1 := 1) (k1 := 50) dX7_init_12 rfl (fun _ => rfl) (by decide) (by decide) rfl rfl (by decide +kernel) (by decide +kernel) ?_
  refine Vn_to (pc1 := 14) (N1 := 8) rfl rfl ?_
  refine Vn_putr C hin fr_X7_15 dX7_init_14 rfl (by decide) (by decide) rfl ?_
  refine Vn_aload_n (i := 0) C dX7_init_17 rfl ?_
  refine Vn_bipush (v := 50) C dX7_init_18 (by decide) ?_
  refine Vn_newi C hw hA (n1 := 2) (k1 := 100) dX7_init_20 rfl (fun _ => rfl) (by decide) (by decide) rfl rfl (by decide +kernel) (by decide +kernel) ?_
  refine Vn_to (pc1 := 22) (N1 := 9) rfl rfl ?_
  refine Vn_putr C hin fr_X7_19 dX7_init_22 rfl (by decide) (by decide) rfl ?_
  refine Vn_aload_n (i := 0) C dX7_init_25 rfl ?_
  refine Vn_bipush (v := 50) C dX7_init_26 (by decide) ?_
  refine Vn_newi C hw hA (n1 := 3) (k1 := 150) dX7_init_28 rfl (fun _ => rfl) (by decide) (by decide) rfl rfl (by decide +kernel) (by decide +kernel) ?_
  refine Vn_to (pc1 := 30) (N1 := 10) rfl rfl ?_
  refine Vn_putr C hin fr_X7_22 dX7_init_30 rfl (by decide) (by decide) rfl ?_
  refine Vn_aload_n (i := 0) C dX7_init_33 rfl ?_
  refine Vn_bipush (v := 50) C dX7_init_34 (by decide) ?_
  refine Vn_newi C hw hA (n1 := 4) (k1 := 200) dX7_init_36 rfl (fun _ => rfl) (by decide) (by decide) rfl rfl (by decide +kernel) (by decide +kernel) ?_
  refine Vn_to (pc1 := 38) (N1 := 11) rfl rfl ?_
  refine Vn_putr C hin fr_X7_25 dX7_init_38 rfl (by decide) (by decide) rfl ?_
  refine Vn_aload_n (i := 0) C dX7_init_41 rfl ?_
  refine Vn_bipush (v := 50) C dX7_init_42 (by decide) ?_
  refine Vn_newi C hw hA (n1 := 5) (k1 := 250) dX7_init_44 rfl (fun _ => rfl) (by decide) (by decide) rfl rfl (by decide +kernel) (by decide +kernel) ?_
  refine Vn_to (pc1 := 46) (N1 := 12) rfl rfl ?_
  refine Vn_putr C hin fr_X7_28 dX7_init_46 rfl (by decide) (by decide) rfl ?_
  refine Vn_aload_n (i := 0) C dX7_init_49 rfl ?_
  refine Vn_bipush (v := 50) C dX7_init_50 (by decide) ?_
  refine Vn_newi C hw hA (n1 := 6) (k1 := 300) dX7_init_52 rfl (fun _ => rfl) (by decide) (by decide) rfl rfl (by decide +kernel) (by decide +kernel) ?_
  refine Vn_to (pc1 := 54) (N1 := 13) rfl rfl ?_
  refine Vn_putr C hin fr_X7_31 dX7_init_54 rfl (by decide) (by decide) rfl ?_
  refine Vn_aload_n (i := 0) C dX7_init_57 rfl ?_
  refine Vn_bipush (v := 50) C dX7_init_58 (by decide) ?_
  refine Vn_newi C hw hA (n1 := 7) (k1 := 350) dX7_init_60 rfl (fun _ => rfl) (by decide) (by decide) rfl rfl (by decide +kernel) (by decide +kernel) ?_
  refine Vn_to (pc1 := 62) (N1 := 14) rfl rfl ?_
  refine Vn_putr C hin fr_X7_34 dX7_init_62 rfl (by decide) (by decide) rfl ?_
  refine Vn_aload_n (i := 0) C dX7_init_65 rfl ?_
  refine Vn_bipush (v := 50) C dX7_init_66 (by decide) ?_
  refine Vn_newi C hw hA (n1 := 8) (k1 := 400) dX7_init_68 rfl (fun _ => rfl) (by decide) (by decide) rfl rfl (by decide +kernel) (by decide +kernel) ?_
  refine Vn_to (pc1 := 70) (N1 := 15) rfl rfl ?_
  refine Vn_putr C hin fr_X7_37 dX7_init_70 rfl (by decide) (by decide) rfl ?_
  refine Vn_aload_n (i := 0) C dX7_init_73 rfl ?_
  refine Vn_bipush (v := 50) C dX7_init_74 (by decide) ?_
  refine Vn_newz C hw hA (n1 := 9) (k1 := 450) dX7_init_76 rfl (fun _ => rfl) (by decide) (by decide) rfl rfl (by decide +kernel) (by decide +kernel) ?_
  refine Vn_to (pc1 := 78) (N1 := 16) rfl rfl ?_
  refine Vn_putr C hin fr_X7_40 dX7_init_78 rfl (by decide) (by decide) rfl ?_
  refine Vn_aload_n (i := 0) C dX7_init_81 rfl ?_
  refine Vn_bipush (v := 50) C dX7_init_82 (by decide) ?_
  refine Vn_newz C hw hA (n1 := 10) (k1 := 500) dX7_init_84 rfl (fun _ => rfl) (by decide) (by decide) rfl rfl (by decide +kernel) (by decide +kernel) ?_
  refine Vn_to (pc1 := 86) (N1 := 17) rfl rfl ?_
  refine Vn_putr C hin fr_X7_44 dX7_init_86 rfl (by decide) (by decide) rfl ?_
  exact Vn_return C hz0 dX7_init_89
theorem fr_X9_19 : FR RX9 19 8 1 := ⟨RX9, TX9, 8, tyX9, .object "Pathwarden$SignedObjects", rfl, tc_8, by decide, (tb_i 317 (by decide +kernel) (by decide +kernel)), tyX9_ok, nmX9, rfl, rfl, by decide +kernel, fun _ => ⟨rfl, rfl⟩⟩
theorem nw_X9_23 : NW RX9 23 1 [some 1, some 6, some 18, some 19] := ⟨RX2, TX2, tyX2, rfl, tc_1, (tb_i 181 (by decide +kernel) (by decide +kernel)), (tb_i 182 (by decide +kernel) (by decide +kernel)), (tb_i 63 (by decide +kernel) (by decide +kernel)), tyX2_ok, by decide +kernel⟩
theorem mn_X9_25 : MN RX9 25 yX2_init cX2_init 3 2 := ⟨⟨(Or.inl (tb_i 183 (by decide +kernel) (by decide +kernel))), (tb_i 185 (by decide +kernel) (by decide +kernel)), (tb_i 63 (by decide +kernel) (by decide +kernel)), by decide +kernel⟩, rfl, (tb_i 184 (by decide +kernel) (by decide +kernel))⟩
theorem fr_X2_9 : FR RX2 9 1 2 := ⟨RX2, TX2, 4, tyX2, .array .int, rfl, tc_1, by decide, (tb_i 189 (by decide +kernel) (by decide +kernel)), tyX2_ok, nmX2, rfl, rfl, by decide +kernel, fun _ => ⟨rfl, rfl⟩⟩
theorem fr_X2_15 : FR RX2 15 1 3 := ⟨RX2, TX2, 4, tyX2, .array .boolean, rfl, tc_1, by decide, (tb_i 191 (by decide +kernel) (by decide +kernel)), tyX2_ok, nmX2, rfl, rfl, by decide +kernel, fun _ => ⟨rfl, rfl⟩⟩
theorem fr_X2_19 : FR RX2 19 1 0 := ⟨RX2, TX2, 4, tyX2, .object "Pathwarden$Registry", rfl, tc_1, by decide, (tb_i 187 (by decide +kernel) (by decide +kernel)), tyX2_ok, nmX2, rfl, rfl, by decide +kernel, fun _ => ⟨rfl, rfl⟩⟩
theorem fr_X2_23 : FR RX2 23 1 1 := ⟨RX2, TX2, 4, tyX2, .object "Pathwarden$SignedObjects", rfl, tc_1, by decide, (tb_i 188 (by decide +kernel) (by decide +kernel)), tyX2_ok, nmX2, rfl, rfl, by decide +kernel, fun _ => ⟨rfl, rfl⟩⟩
theorem n_X2 {w : Wt} {l : Launch} {b0 : Nat} (hw : ∀ i, w.2.1 i = b0 + i) : CtN w l b0 yX2_init cX2_init 3 1 12 2 100 [.ref (w.2.1 17), .ref (w.2.1 1), .ref (w.2.1 6)] 18 Zr3 [(0, 1), (6, 10), (6, 9), (6, 8), (6, 7), (6, 6), (6, 5), (6, 4), (6, 3), (6, 2), (6, 1), (0, 0), (1, 5), (1, 4), (1, 3), (1, 2)] 20 Zr3 [(17, 1), (17, 0), (17, 3), (17, 2), (0, 1), (6, 10), (6, 9), (6, 8), (6, 7), (6, 6), (6, 5), (6, 4), (6, 3), (6, 2), (6, 1), (0, 0), (1, 5), (1, 4), (1, 3), (1, 2)] := by
  refine CtN_of (by decide +kernel) rfl (Nat.le_of_ble_eq_true rfl) (List.forall_mem_cons.mpr ⟨rfl, (List.forall_mem_cons.mpr ⟨rfl, (List.forall_mem_cons.mpr ⟨rfl, (fun _ h => nomatch h)⟩)⟩)⟩) (ls := [some (.ref (w.2.1 17)), some (.ref (w.2.1 1)), some (.ref (w.2.1 6))]) rfl (args := (#[.ref (w.2.1 17), .ref (w.2.1 1), .ref (w.2.1 6)] : Array Value)) rfl (own := RX2) rfl ?_
  intro p e s m below meth c C hA hin hz0
  refine Vn_aload_n (i := 0) C dX2_init_0 rfl ?_
  refine Vn_objInit C (tb_i 186 (by decide +kernel) (by decide +kernel)) tb_oi tb_oc dX2_init_1 rfl (by decide) (by decide) ?_
  refine Vn_aload_n (i := 0) C dX2_init_4 rfl ?_
  refine Vn_bipush (v := 50) C dX2_init_5 (by decide) ?_
  refine Vn_newi C hw hA (n1 := 1) (k1 := 50) dX2_init_7 rfl (fun _ => rfl) (by decide) (by decide) rfl rfl (by decide +kernel) (by decide +kernel) ?_
  refine Vn_to (pc1 := 9) (N1 := 19) rfl rfl ?_
  refine Vn_putr C hin fr_X2_9 dX2_init_9 rfl (by decide) (by decide) rfl ?_
  refine Vn_aload_n (i := 0) C dX2_init_12 rfl ?_
  refine Vn_bipush (v := 50) C dX2_init_13 (by decide) ?_
  refine Vn_newz C hw hA (n1 := 2) (k1 := 100) dX2_init_15 rfl (fun _ => rfl) (by decide) (by decide) rfl rfl (by decide +kernel) (by decide +kernel) ?_
  refine Vn_to (pc1 := 17) (N1 := 20) rfl rfl ?_
  refine Vn_putr C hin fr_X2_15 dX2_init_17 rfl (by decide) (by decide) rfl ?_
  refine Vn_aload_n (i := 0) C dX2_init_20 rfl ?_
  refine Vn_aload_n (i := 1) C dX2_init_21 rfl ?_
  refine Vn_putr C hin fr_X2_19 dX2_init_22 rfl (by decide) (by decide) rfl ?_
  refine Vn_aload_n (i := 0) C dX2_init_25 rfl ?_
  refine Vn_aload_n (i := 2) C dX2_init_26 rfl ?_
  refine Vn_putr C hin fr_X2_23 dX2_init_27 rfl (by decide) (by decide) rfl ?_
  exact Vn_return C hz0 dX2_init_30
theorem fr_X9_28 : FR RX9 28 8 2 := ⟨RX9, TX9, 8, tyX9, .object "Pathwarden$Judge", rfl, tc_8, by decide, (tb_i 318 (by decide +kernel) (by decide +kernel)), tyX9_ok, nmX9, rfl, rfl, by decide +kernel, fun _ => ⟨rfl, rfl⟩⟩
theorem nw_X9_32 : NW RX9 32 5 [none, none, none, some 21, some 22, some 47, some 48, some 49, some 50] := ⟨RX6, TX6, tyX6, rfl, tc_5, (tb_i 201 (by decide +kernel) (by decide +kernel)), (tb_i 202 (by decide +kernel) (by decide +kernel)), (tb_i 64 (by decide +kernel) (by decide +kernel)), tyX6_ok, by decide +kernel⟩
theorem mn_X9_34 : MN RX9 34 yX6_init cX6_init 1 0 := ⟨⟨(Or.inr ⟨"Pathwarden", (tb_i 203 (by decide +kernel) (by decide +kernel))⟩), (tb_i 205 (by decide +kernel) (by decide +kernel)), (tb_i 64 (by decide +kernel) (by decide +kernel)), by decide +kernel⟩, rfl, (tb_i 204 (by decide +kernel) (by decide +kernel))⟩
theorem fq_X6_9 : FQ RX6 9 5 0 := ⟨RX6, TX6, 9, tyX6, rfl, tc_5, by decide, (tb_i 209 (by decide +kernel) (by decide +kernel)), tyX6_ok, nmX6, rfl, by decide +kernel⟩
theorem fq_X6_15 : FQ RX6 15 5 1 := ⟨RX6, TX6, 9, tyX6, rfl, tc_5, by decide, (tb_i 212 (by decide +kernel) (by decide +kernel)), tyX6_ok, nmX6, rfl, by decide +kernel⟩
theorem fq_X6_18 : FQ RX6 18 5 2 := ⟨RX6, TX6, 9, tyX6, rfl, tc_5, by decide, (tb_i 214 (by decide +kernel) (by decide +kernel)), tyX6_ok, nmX6, rfl, by decide +kernel⟩
theorem fr_X6_21 : FR RX6 21 5 3 := ⟨RX6, TX6, 9, tyX6, .array .int, rfl, tc_5, by decide, (tb_i 216 (by decide +kernel) (by decide +kernel)), tyX6_ok, nmX6, rfl, rfl, by decide +kernel, fun _ => ⟨rfl, rfl⟩⟩
theorem fr_X6_27 : FR RX6 27 5 4 := ⟨RX6, TX6, 9, tyX6, .array (.array .int), rfl, tc_5, by decide, (tb_i 218 (by decide +kernel) (by decide +kernel)), tyX6_ok, nmX6, rfl, rfl, by decide +kernel, fun _ => ⟨rfl, rfl⟩⟩
theorem fr_X6_30 : FR RX6 30 5 5 := ⟨RX6, TX6, 9, tyX6, .array .int, rfl, tc_5, by decide, (tb_i 221 (by decide +kernel) (by decide +kernel)), tyX6_ok, nmX6, rfl, rfl, by decide +kernel, fun _ => ⟨rfl, rfl⟩⟩
theorem fr_X6_33 : FR RX6 33 5 6 := ⟨RX6, TX6, 9, tyX6, .array .int, rfl, tc_5, by decide, (tb_i 224 (by decide +kernel) (by decide +kernel)), tyX6_ok, nmX6, rfl, rfl, by decide +kernel, fun _ => ⟨rfl, rfl⟩⟩
theorem fr_X6_36 : FR RX6 36 5 7 := ⟨RX6, TX6, 9, tyX6, .array .int, rfl, tc_5, by decide, (tb_i 226 (by decide +kernel) (by decide +kernel)), tyX6_ok, nmX6, rfl, rfl, by decide +kernel, fun _ => ⟨rfl, rfl⟩⟩
theorem fr_X6_39 : FR RX6 39 5 8 := ⟨RX6, TX6, 9, tyX6, .array .boolean, rfl, tc_5, by decide, (tb_i 228 (by decide +kernel) (by decide +kernel)), tyX6_ok, nmX6, rfl, rfl, by decide +kernel, fun _ => ⟨rfl, rfl⟩⟩
theorem n_X6 {w : Wt} {l : Launch} {b0 : Nat} (hw : ∀ i, w.2.1 i = b0 + i) : CtN w l b0 yX6_init cX6_init 1 1 12 30 270 [.ref (w.2.1 20)] 21 Zr3 [(0, 2), (17, 1), (17, 0), (17, 3), (17, 2), (0, 1), (6, 10), (6, 9), (6, 8), (6, 7), (6, 6), (6, 5), (6, 4), (6, 3), (6, 2), (6, 1), (0, 0), (1, 5), (1, 4), (1, 3), (1, 2)] 51 Zr3 [(20, 8), (20, 7), (20, 6), (20, 5), (20, 4), (20, 3), (0, 2), (17, 1), (17, 0), (17, 3), (17, 2), (0, 1), (6, 10), (6, 9), (6, 8), (6, 7), (6, 6), (6, 5), (6, 4), (6, 3), (6, 2), (6, 1), (0, 0), (1, 5), (1, 4), (1, 3), (1, 2)] := by
  refine CtN_of (by decide +kernel) rfl (Nat.le_of_ble_eq_true rfl) (List.forall_mem_cons.mpr ⟨rfl, (fun _ h => nomatch h)⟩) (ls := [some (.ref (w.2.1 20))]) rfl (args := (#[.ref (w.2.1 20)] : Array Value)) rfl (own := RX6) rfl ?_
  intro p e s m below meth c C hA hin hz0
  refine Vn_aload_n (i := 0) C dX6_init_0 rfl ?_
  refine Vn_objInit C (tb_i 206 (by decide +kernel) (by decide +kernel)) tb_oi tb_oc dX6_init_1 rfl (by decide) (by decide) ?_
  refine Vn_aload_n (i := 0) C dX6_init_4 rfl ?_
  refine Vn_iconst (v := 0) C dX6_init_5 (by decide) ?_
  refine Vn_puti (X1 := Zr3) C fq_X6_9 dX6_init_6 rfl (by decide) (by decide) rfl (ma_z rfl) ?_
  refine Vn_aload_n (i := 0) C dX6_init_9 rfl ?_
  refine Vn_iconst (v := 0) C dX6_init_10 (by decide) ?_
  refine Vn_puti (X1 := Zr3) C fq_X6_15 dX6_init_11 rfl (by decide) (by decide) rfl (ma_z rfl) ?_
  refine Vn_aload_n (i := 0) C dX6_init_14 rfl ?_
  refine Vn_iconst (v := 0) C dX6_init_15 (by decide) ?_
  refine Vn_puti (X1 := Zr3) C fq_X6_18 dX6_init_16 rfl (by decide) (by decide) rfl (ma_z rfl) ?_
  refine Vn_aload_n (i := 0) C dX6_init_19 rfl ?_
  refine Vn_bipush (v := 6) C dX6_init_20 (by decide) ?_
  refine Vn_newi C hw hA (n1 := 1) (k1 := 6) dX6_init_22 rfl (fun _ => rfl) (by decide) (by decide) rfl rfl (by decide +kernel) (by decide +kernel) ?_
  refine Vn_to (pc1 := 24) (N1 := 22) rfl rfl ?_
  refine Vn_putr C hin fr_X6_21 dX6_init_24 rfl (by decide) (by decide) rfl ?_
  refine Vn_aload_n (i := 0) C dX6_init_27 rfl ?_
  refine Vn_bipush (v := 24) C dX6_init_28 (by decide) ?_
  refine Vn_bipush (v := 6) C dX6_init_30 (by decide) ?_
  refine Vn_mna (N1 := 47) (n1 := 26) (k1 := 174) (n2 := 24) (m2 := 6) C hw (tb_i 207 (by decide +kernel) (by decide +kernel)) hA dX6_init_32 (by decide) (by decide) (by decide) (by decide) rfl (by decide +kernel) (fun i hi j => z_hi (by omega) j) rfl rfl rfl (by decide +kernel) (by decide +kernel) ?_
  refine Vn_to (pc1 := 36) (N1 := 47) rfl rfl ?_
  refine Vn_putr C hin fr_X6_27 dX6_init_36 rfl (by decide) (by decide) rfl ?_
  refine Vn_aload_n (i := 0) C dX6_init_39 rfl ?_
  refine Vn_bipush (v := 24) C dX6_init_40 (by decide) ?_
  refine Vn_newi C hw hA (n1 := 27) (k1 := 198) dX6_init_42 rfl (fun _ => rfl) (by decide) (by decide) rfl rfl (by decide +kernel) (by decide +kernel) ?_
  refine Vn_to (pc1 := 44) (N1 := 48) rfl rfl ?_
  refine Vn_putr C hin fr_X6_30 dX6_init_44 rfl (by decide) (by decide) rfl ?_
  refine Vn_aload_n (i := 0) C dX6_init_47 rfl ?_
  refine Vn_bipush (v := 24) C dX6_init_48 (by decide) ?_
  refine Vn_newi C hw hA (n1 := 28) (k1 := 222) dX6_init_50 rfl (fun _ => rfl) (by decide) (by decide) rfl rfl (by decide +kernel) (by decide +kernel) ?_
  refine Vn_to (pc1 := 52) (N1 := 49) rfl rfl ?_
  refine Vn_putr C hin fr_X6_33 dX6_init_52 rfl (by decide) (by decide) rfl ?_
  refine Vn_aload_n (i := 0) C dX6_init_55 rfl ?_
  refine Vn_bipush (v := 24) C dX6_init_56 (by decide) ?_
  refine Vn_newi C hw hA (n1 := 29) (k1 := 246) dX6_init_58 rfl (fun _ => rfl) (by decide) (by decide) rfl rfl (by decide +kernel) (by decide +kernel) ?_
  refine Vn_to (pc1 := 60) (N1 := 50) rfl rfl ?_
  refine Vn_putr C hin fr_X6_36 dX6_init_60 rfl (by decide) (by decide) rfl ?_
  refine Vn_aload_n (i := 0) C dX6_init_63 rfl ?_
  refine Vn_bipush (v := 24) C dX6_init_64 (by decide) ?_
  refine Vn_newz C hw hA (n1 := 30) (k1 := 270) dX6_init_66 rfl (fun _ => rfl) (by decide) (by decide) rfl rfl (by decide +kernel) (by decide +kernel) ?_
  refine Vn_to (pc1 := 68) (N1 := 51) rfl rfl ?_
  refine Vn_putr C hin fr_X6_39 dX6_init_68 rfl (by decide) (by decide) rfl ?_
  exact Vn_return C hz0 dX6_init_71
theorem fr_X9_35 : FR RX9 35 8 3 := ⟨RX9, TX9, 8, tyX9, .object "Pathwarden$RouteBook", rfl, tc_8, by decide, (tb_i 319 (by decide +kernel) (by decide +kernel)), tyX9_ok, nmX9, rfl, rfl, by decide +kernel, fun _ => ⟨rfl, rfl⟩⟩
theorem nw_X9_39 : NW RX9 39 7 [some 52] := ⟨RX8, TX8, tyX8, rfl, tc_7, (tb_i 249 (by decide +kernel) (by decide +kernel)), (tb_i 250 (by decide +kernel) (by decide +kernel)), (tb_i 65 (by decide +kernel) (by decide +kernel)), tyX8_ok, by decide +kernel⟩
theorem mn_X9_41 : MN RX9 41 yX8_init cX8_init 1 0 := ⟨⟨(Or.inr ⟨"Pathwarden", (tb_i 251 (by decide +kernel) (by decide +kernel))⟩), (tb_i 253 (by decide +kernel) (by decide +kernel)), (tb_i 65 (by decide +kernel) (by decide +kernel)), by decide +kernel⟩, rfl, (tb_i 252 (by decide +kernel) (by decide +kernel))⟩
theorem fr_X8_11 : FR RX8 11 7 0 := ⟨RX8, TX8, 1, tyX8, .array (.array .int), rfl, tc_7, by decide, (tb_i 256 (by decide +kernel) (by decide +kernel)), tyX8_ok, nmX8, rfl, rfl, by decide +kernel, fun _ => ⟨rfl, rfl⟩⟩
theorem n_X8 {w : Wt} {l : Launch} {b0 : Nat} (hw : ∀ i, w.2.1 i = b0 + i) : CtN w l b0 yX8_init cX8_init 1 1 12 11 110 [.ref (w.2.1 51)] 52 Zr3 [(0, 3), (20, 8), (20, 7), (20, 6), (20, 5), (20, 4), (20, 3), (0, 2), (17, 1), (17, 0), (17, 3), (17, 2), (0, 1), (6, 10), (6, 9), (6, 8), (6, 7), (6, 6), (6, 5), (6, 4), (6, 3), (6, 2), (6, 1), (0, 0), (1, 5), (1, 4), (1, 3), (1, 2)] 63 Zr3 [(51, 0), (0, 3), (20, 8), (20, 7), (20, 6), (20, 5), (20, 4), (20, 3), (0, 2), (17, 1), (17, 0), (17, 3), (17, 2), (0, 1), (6, 10), (6, 9), (6, 8), (6, 7), (6, 6), (6, 5), (6, 4), (6, 3), (6, 2), (6, 1), (0, 0), (1, 5), (1, 4), (1, 3), (1, 2)] := by
  refine CtN_of (by decide +kernel) rfl (Nat.le_of_ble_eq_true rfl) (List.forall_mem_cons.mpr ⟨rfl, (fun _ h => nomatch h)⟩) (ls := [some (.ref (w.2.1 51))]) rfl (args := (#[.ref (w.2.1 51)] : Array Value)) rfl (own := RX8) rfl ?_
  intro p e s m below meth c C hA hin hz0
  refine Vn_aload_n (i := 0) C dX8_init_0 rfl ?_
  refine Vn_objInit C (tb_i 254 (by decide +kernel) (by decide +kernel)) tb_oi tb_oc dX8_init_1 rfl (by decide) (by decide) ?_
  refine Vn_aload_n (i := 0) C dX8_init_4 rfl ?_
  refine Vn_bipush (v := 10) C dX8_init_5 (by decide) ?_
  refine Vn_bipush (v := 10) C dX8_init_7 (by decide) ?_
  refine Vn_mna (N1 := 63) (n1 := 11) (k1 := 110) (n2 := 10) (m2 := 10) C hw (tb_i 255 (by decide +kernel) (by decide +kernel)) hA dX8_init_9 (by decide) (by decide) (by decide) (by decide) rfl (by decide +kernel) (fun i hi j => z_hi (by omega) j) rfl rfl rfl (by decide +kernel) (by decide +kernel) ?_
  refine Vn_to (pc1 := 13) (N1 := 63) rfl rfl ?_
  refine Vn_putr C hin fr_X8_11 dX8_init_13 rfl (by decide) (by decide) rfl ?_
  exact Vn_return C hz0 dX8_init_16
theorem fr_X9_42 : FR RX9 42 8 4 := ⟨RX9, TX9, 8, tyX9, .object "Pathwarden$Ties", rfl, tc_8, by decide, (tb_i 320 (by decide +kernel) (by decide +kernel)), tyX9_ok, nmX9, rfl, rfl, by decide +kernel, fun _ => ⟨rfl, rfl⟩⟩
theorem nw_X9_46 : NW RX9 46 2 [some 51, some 64, some 65] := ⟨RX3, TX3, tyX3, rfl, tc_2, (tb_i 260 (by decide +kernel) (by decide +kernel)), (tb_i 261 (by decide +kernel) (by decide +kernel)), (tb_i 66 (by decide +kernel) (by decide +kernel)), tyX3_ok, by decide +kernel⟩
theorem mn_X9_48 : MN RX9 48 yX3_init cX3_init 2 1 := ⟨⟨(Or.inl (tb_i 262 (by decide +kernel) (by decide +kernel))), (tb_i 264 (by decide +kernel) (by decide +kernel)), (tb_i 66 (by decide +kernel) (by decide +kernel)), by decide +kernel⟩, rfl, (tb_i 263 (by decide +kernel) (by decide +kernel))⟩
theorem fr_X3_9 : FR RX3 9 2 1 := ⟨RX3, TX3, 3, tyX3, .array .int, rfl, tc_2, by decide, (tb_i 267 (by decide +kernel) (by decide +kernel)), tyX3_ok, nmX3, rfl, rfl, by decide +kernel, fun _ => ⟨rfl, rfl⟩⟩
theorem fr_X3_15 : FR RX3 15 2 2 := ⟨RX3, TX3, 3, tyX3, .array .int, rfl, tc_2, by decide, (tb_i 268 (by decide +kernel) (by decide +kernel)), tyX3_ok, nmX3, rfl, rfl, by decide +kernel, fun _ => ⟨rfl, rfl⟩⟩
theorem fr_X3_18 : FR RX3 18 2 0 := ⟨RX3, TX3, 3, tyX3, .object "Pathwarden$Ties", rfl, tc_2, by decide, (tb_i 266 (by decide +kernel) (by decide +kernel)), tyX3_ok, nmX3, rfl, rfl, by decide +kernel, fun _ => ⟨rfl, rfl⟩⟩
theorem n_X3 {w : Wt} {l : Launch} {b0 : Nat} (hw : ∀ i, w.2.1 i = b0 + i) : CtN w l b0 yX3_init cX3_init 2 1 12 2 20 [.ref (w.2.1 63), .ref (w.2.1 51)] 64 Zr3 [(0, 4), (51, 0), (0, 3), (20, 8), (20, 7), (20, 6), (20, 5), (20, 4), (20, 3), (0, 2), (17, 1), (17, 0), (17, 3), (17, 2), (0, 1), (6, 10), (6, 9), (6, 8), (6, 7), (6, 6), (6, 5), (6, 4), (6, 3), (6, 2), (6, 1), (0, 0), (1, 5), (1, 4), (1, 3), (1, 2)] 66 Zr3 [(63, 0), (63, 2), (63, 1), (0, 4), (51, 0), (0, 3), (20, 8), (20, 7), (20, 6), (20, 5), (20, 4), (20, 3), (0, 2), (17, 1), (17, 0), (17, 3), (17, 2), (0, 1), (6, 10), (6, 9), (6, 8), (6, 7), (6, 6), (6, 5), (6, 4), (6, 3), (6, 2), (6, 1), (0, 0), (1, 5), (1, 4), (1, 3), (1, 2)] := by
  refine CtN_of (by decide +kernel) rfl (Nat.le_of_ble_eq_true rfl) (List.forall_mem_cons.mpr ⟨rfl, (List.forall_mem_cons.mpr ⟨rfl, (fun _ h => nomatch h)⟩)⟩) (ls := [some (.ref (w.2.1 63)), some (.ref (w.2.1 51))]) rfl (args := (#[.ref (w.2.1 63), .ref (w.2.1 51)] : Array Value)) rfl (own := RX3) rfl ?_
  intro p e s m below meth c C hA hin hz0
  refine Vn_aload_n (i := 0) C dX3_init_0 rfl ?_
  refine Vn_objInit C (tb_i 265 (by decide +kernel) (by decide +kernel)) tb_oi tb_oc dX3_init_1 rfl (by decide) (by decide) ?_
  refine Vn_aload_n (i := 0) C dX3_init_4 rfl ?_
  refine Vn_bipush (v := 10) C dX3_init_5 (by decide) ?_
  refine Vn_newi C hw hA (n1 := 1) (k1 := 10) dX3_init_7 rfl (fun _ => rfl) (by decide) (by decide) rfl rfl (by decide +kernel) (by decide +kernel) ?_
  refine Vn_to (pc1 := 9) (N1 := 65) rfl rfl ?_
  refine Vn_putr C hin fr_X3_9 dX3_init_9 rfl (by decide) (by decide) rfl ?_
  refine Vn_aload_n (i := 0) C dX3_init_12 rfl ?_
  refine Vn_bipush (v := 10) C dX3_init_13 (by decide) ?_
  refine Vn_newi C hw hA (n1 := 2) (k1 := 20) dX3_init_15 rfl (fun _ => rfl) (by decide) (by decide) rfl rfl (by decide +kernel) (by decide +kernel) ?_
  refine Vn_to (pc1 := 17) (N1 := 66) rfl rfl ?_
  refine Vn_putr C hin fr_X3_15 dX3_init_17 rfl (by decide) (by decide) rfl ?_
  refine Vn_aload_n (i := 0) C dX3_init_20 rfl ?_
  refine Vn_aload_n (i := 1) C dX3_init_21 rfl ?_
  refine Vn_putr C hin fr_X3_18 dX3_init_22 rfl (by decide) (by decide) rfl ?_
  exact Vn_return C hz0 dX3_init_25
theorem fr_X9_51 : FR RX9 51 8 5 := ⟨RX9, TX9, 8, tyX9, .object "Pathwarden$PathJudge", rfl, tc_8, by decide, (tb_i 321 (by decide +kernel) (by decide +kernel)), tyX9_ok, nmX9, rfl, rfl, by decide +kernel, fun _ => ⟨rfl, rfl⟩⟩
theorem nw_X9_55 : NW RX9 55 0 [some 51, some 63, some 67] := ⟨RX0, TX0, tyX0, rfl, tc_0, (tb_i 276 (by decide +kernel) (by decide +kernel)), (tb_i 277 (by decide +kernel) (by decide +kernel)), (tb_i 67 (by decide +kernel) (by decide +kernel)), tyX0_ok, by decide +kernel⟩
theorem mn_X9_57 : MN RX9 57 yX0_init cX0_init 3 2 := ⟨⟨(Or.inl (tb_i 278 (by decide +kernel) (by decide +kernel))), (tb_i 280 (by decide +kernel) (by decide +kernel)), (tb_i 67 (by decide +kernel) (by decide +kernel)), by decide +kernel⟩, rfl, (tb_i 279 (by decide +kernel) (by decide +kernel))⟩
theorem fr_X0_9 : FR RX0 9 0 2 := ⟨RX0, TX0, 3, tyX0, .array .int, rfl, tc_0, by decide, (tb_i 284 (by decide +kernel) (by decide +kernel)), tyX0_ok, nmX0, rfl, rfl, by decide +kernel, fun _ => ⟨rfl, rfl⟩⟩
theorem fr_X0_15 : FR RX0 15 0 0 := ⟨RX0, TX0, 3, tyX0, .object "Pathwarden$Ties", rfl, tc_0, by decide, (tb_i 282 (by decide +kernel) (by decide +kernel)), tyX0_ok, nmX0, rfl, rfl, by decide +kernel, fun _ => ⟨rfl, rfl⟩⟩
theorem fr_X0_19 : FR RX0 19 0 1 := ⟨RX0, TX0, 3, tyX0, .object "Pathwarden$PathJudge", rfl, tc_0, by decide, (tb_i 283 (by decide +kernel) (by decide +kernel)), tyX0_ok, nmX0, rfl, rfl, by decide +kernel, fun _ => ⟨rfl, rfl⟩⟩
theorem n_X0 {w : Wt} {l : Launch} {b0 : Nat} (hw : ∀ i, w.2.1 i = b0 + i) : CtN w l b0 yX0_init cX0_init 3 1 12 1 5 [.ref (w.2.1 66), .ref (w.2.1 51), .ref (w.2.1 63)] 67 Zr3 [(0, 5), (63, 0), (63, 2), (63, 1), (0, 4), (51, 0), (0, 3), (20, 8), (20, 7), (20, 6), (20, 5), (20, 4), (20, 3), (0, 2), (17, 1), (17, 0), (17, 3), (17, 2), (0, 1), (6, 10), (6, 9), (6, 8), (6, 7), (6, 6), (6, 5), (6, 4), (6, 3), (6, 2), (6, 1), (0, 0), (1, 5), (1, 4), (1, 3), (1, 2)] 68 Zr3 [(66, 1), (66, 0), (66, 2), (0, 5), (63, 0), (63, 2), (63, 1), (0, 4), (51, 0), (0, 3), (20, 8), (20, 7), (20, 6), (20, 5), (20, 4), (20, 3), (0, 2), (17, 1), (17, 0), (17, 3), (17, 2), (0, 1), (6, 10), (6, 9), (6, 8), (6, 7), (6, 6), (6, 5), (6, 4), (6, 3), (6, 2), (6, 1), (0, 0), (1, 5), (1, 4), (1, 3), (1, 2)] := by
  refine CtN_of (by decide +kernel) rfl (Nat.le_of_ble_eq_true rfl) (List.forall_mem_cons.mpr ⟨rfl, (List.forall_mem_cons.mpr ⟨rfl, (List.forall_mem_cons.mpr ⟨rfl, (fun _ h => nomatch h)⟩)⟩)⟩) (ls := [some (.ref (w.2.1 66)), some (.ref (w.2.1 51)), some (.ref (w.2.1 63))]) rfl (args := (#[.ref (w.2.1 66), .ref (w.2.1 51), .ref (w.2.1 63)] : Array Value)) rfl (own := RX0) rfl ?_
  intro p e s m below meth c C hA hin hz0
  refine Vn_aload_n (i := 0) C dX0_init_0 rfl ?_
  refine Vn_objInit C (tb_i 281 (by decide +kernel) (by decide +kernel)) tb_oi tb_oc dX0_init_1 rfl (by decide) (by decide) ?_
  refine Vn_aload_n (i := 0) C dX0_init_4 rfl ?_
  refine Vn_iconst (v := 5) C dX0_init_5 (by decide) ?_
  refine Vn_newi C hw hA (n1 := 1) (k1 := 5) dX0_init_6 rfl (fun _ => rfl) (by decide) (by decide) rfl rfl (by decide +kernel) (by decide +kernel) ?_
  refine Vn_to (pc1 := 8) (N1 := 68) rfl rfl ?_
  refine Vn_putr C hin fr_X0_9 dX0_init_8 rfl (by decide) (by decide) rfl ?_
  refine Vn_aload_n (i := 0) C dX0_init_11 rfl ?_
  refine Vn_aload_n (i := 1) C dX0_init_12 rfl ?_
  refine Vn_putr C hin fr_X0_15 dX0_init_13 rfl (by decide) (by decide) rfl ?_
  refine Vn_aload_n (i := 0) C dX0_init_16 rfl ?_
  refine Vn_aload_n (i := 2) C dX0_init_17 rfl ?_
  refine Vn_putr C hin fr_X0_19 dX0_init_18 rfl (by decide) (by decide) rfl ?_
  exact Vn_return C hz0 dX0_init_21
theorem fr_X9_60 : FR RX9 60 8 6 := ⟨RX9, TX9, 8, tyX9, .object "Pathwarden$AllowedPaths", rfl, tc_8, by decide, (tb_i 322 (by decide +kernel) (by decide +kernel)), tyX9_ok, nmX9, rfl, rfl, by decide +kernel, fun _ => ⟨rfl, rfl⟩⟩
theorem nw_X9_64 : NW RX9 64 4 [some 20, none, some 69, some 70, some 81] := ⟨RX5, TX5, tyX5, rfl, tc_4, (tb_i 292 (by decide +kernel) (by decide +kernel)), (tb_i 293 (by decide +kernel) (by decide +kernel)), (tb_i 68 (by decide +kernel) (by decide +kernel)), tyX5_ok, by decide +kernel⟩
theorem mn_X9_66 : MN RX9 66 yX5_init cX5_init 2 1 := ⟨⟨(Or.inl (tb_i 294 (by decide +kernel) (by decide +kernel))), (tb_i 296 (by decide +kernel) (by decide +kernel)), (tb_i 68 (by decide +kernel) (by decide +kernel)), by decide +kernel⟩, rfl, (tb_i 295 (by decide +kernel) (by decide +kernel))⟩
theorem fq_X5_9 : FQ RX5 9 4 1 := ⟨RX5, TX5, 5, tyX5, rfl, tc_4, by decide, (tb_i 300 (by decide +kernel) (by decide +kernel)), tyX5_ok, nmX5, rfl, by decide +kernel⟩
theorem fr_X5_15 : FR RX5 15 4 2 := ⟨RX5, TX5, 5, tyX5, .array .int, rfl, tc_4, by decide, (tb_i 302 (by decide +kernel) (by decide +kernel)), tyX5_ok, nmX5, rfl, rfl, by decide +kernel, fun _ => ⟨rfl, rfl⟩⟩
theorem fr_X5_21 : FR RX5 21 4 3 := ⟨RX5, TX5, 5, tyX5, .array (.array .int), rfl, tc_4, by decide, (tb_i 303 (by decide +kernel) (by decide +kernel)), tyX5_ok, nmX5, rfl, rfl, by decide +kernel, fun _ => ⟨rfl, rfl⟩⟩
theorem fr_X5_24 : FR RX5 24 4 4 := ⟨RX5, TX5, 5, tyX5, .array (.array .int), rfl, tc_4, by decide, (tb_i 304 (by decide +kernel) (by decide +kernel)), tyX5_ok, nmX5, rfl, rfl, by decide +kernel, fun _ => ⟨rfl, rfl⟩⟩
theorem fr_X5_27 : FR RX5 27 4 0 := ⟨RX5, TX5, 5, tyX5, .object "Pathwarden$RouteBook", rfl, tc_4, by decide, (tb_i 299 (by decide +kernel) (by decide +kernel)), tyX5_ok, nmX5, rfl, rfl, by decide +kernel, fun _ => ⟨rfl, rfl⟩⟩
theorem n_X5 {w : Wt} {l : Launch} {b0 : Nat} (hw : ∀ i, w.2.1 i = b0 + i) : CtN w l b0 yX5_init cX5_init 2 1 12 16 153 [.ref (w.2.1 68), .ref (w.2.1 20)] 69 Zr3 [(0, 6), (66, 1), (66, 0), (66, 2), (0, 5), (63, 0), (63, 2), (63, 1), (0, 4), (51, 0), (0, 3), (20, 8), (20, 7), (20, 6), (20, 5), (20, 4), (20, 3), (0, 2), (17, 1), (17, 0), (17, 3), (17, 2), (0, 1), (6, 10), (6, 9), (6, 8), (6, 7), (6, 6), (6, 5), (6, 4), (6, 3), (6, 2), (6, 1), (0, 0), (1, 5), (1, 4), (1, 3), (1, 2)] 85 Zr3 [(68, 0), (68, 4), (68, 3), (68, 2), (0, 6), (66, 1), (66, 0), (66, 2), (0, 5), (63, 0), (63, 2), (63, 1), (0, 4), (51, 0), (0, 3), (20, 8), (20, 7), (20, 6), (20, 5), (20, 4), (20, 3), (0, 2), (17, 1), (17, 0), (17, 3), (17, 2), (0, 1), (6, 10), (6, 9), (6, 8), (6, 7), (6, 6), (6, 5), (6, 4), (6, 3), (6, 2), (6, 1), (0, 0), (1, 5), (1, 4), (1, 3), (1, 2)] := by
  refine CtN_of (by decide +kernel) rfl (Nat.le_of_ble_eq_true rfl) (List.forall_mem_cons.mpr ⟨rfl, (List.forall_mem_cons.mpr ⟨rfl, (fun _ h => nomatch h)⟩)⟩) (ls := [some (.ref (w.2.1 68)), some (.ref (w.2.1 20))]) rfl (args := (#[.ref (w.2.1 68), .ref (w.2.1 20)] : Array Value)) rfl (own := RX5) rfl ?_
  intro p e s m below meth c C hA hin hz0
  refine Vn_aload_n (i := 0) C dX5_init_0 rfl ?_
  refine Vn_objInit C (tb_i 297 (by decide +kernel) (by decide +kernel)) tb_oi tb_oc dX5_init_1 rfl (by decide) (by decide) ?_
  refine Vn_aload_n (i := 0) C dX5_init_4 rfl ?_
  refine Vn_iconst (v := 0) C dX5_init_5 (by decide) ?_
  refine Vn_puti (X1 := Zr3) C fq_X5_9 dX5_init_6 rfl (by decide) (by decide) rfl (ma_z rfl) ?_
  refine Vn_aload_n (i := 0) C dX5_init_9 rfl ?_
  refine Vn_bipush (v := 10) C dX5_init_10 (by decide) ?_
  refine Vn_newi C hw hA (n1 := 1) (k1 := 10) dX5_init_12 rfl (fun _ => rfl) (by decide) (by decide) rfl rfl (by decide +kernel) (by decide +kernel) ?_
  refine Vn_to (pc1 := 14) (N1 := 70) rfl rfl ?_
  refine Vn_putr C hin fr_X5_15 dX5_init_14 rfl (by decide) (by decide) rfl ?_
  refine Vn_aload_n (i := 0) C dX5_init_17 rfl ?_
  refine Vn_bipush (v := 10) C dX5_init_18 (by decide) ?_
  refine Vn_bipush (v := 10) C dX5_init_20 (by decide) ?_
  refine Vn_mna (N1 := 81) (n1 := 12) (k1 := 120) (n2 := 10) (m2 := 10) C hw (tb_i 298 (by decide +kernel) (by decide +kernel)) hA dX5_init_22 (by decide) (by decide) (by decide) (by decide) rfl (by decide +kernel) (fun i hi j => z_hi (by omega) j) rfl rfl rfl (by decide +kernel) (by decide +kernel) ?_
  refine Vn_to (pc1 := 26) (N1 := 81) rfl rfl ?_
  refine Vn_putr C hin fr_X5_21 dX5_init_26 rfl (by decide) (by decide) rfl ?_
  refine Vn_aload_n (i := 0) C dX5_init_29 rfl ?_
  refine Vn_iconst (v := 3) C dX5_init_30 (by decide) ?_
  refine Vn_bipush (v := 10) C dX5_init_31 (by decide) ?_
  refine Vn_mna (N1 := 85) (n1 := 16) (k1 := 153) (n2 := 3) (m2 := 10) C hw (tb_i 298 (by decide +kernel) (by decide +kernel)) hA dX5_init_33 (by decide) (by decide) (by decide) (by decide) rfl (by decide +kernel) (fun i hi j => z_hi (by omega) j) rfl rfl rfl (by decide +kernel) (by decide +kernel) ?_
  refine Vn_to (pc1 := 37) (N1 := 85) rfl rfl ?_
  refine Vn_putr C hin fr_X5_24 dX5_init_37 rfl (by decide) (by decide) rfl ?_
  refine Vn_aload_n (i := 0) C dX5_init_40 rfl ?_
  refine Vn_aload_n (i := 1) C dX5_init_41 rfl ?_
  refine Vn_putr C hin fr_X5_27 dX5_init_42 rfl (by decide) (by decide) rfl ?_
  exact Vn_return C hz0 dX5_init_45
theorem fr_X9_69 : FR RX9 69 8 7 := ⟨RX9, TX9, 8, tyX9, .object "Pathwarden$Relations", rfl, tc_8, by decide, (tb_i 323 (by decide +kernel) (by decide +kernel)), tyX9_ok, nmX9, rfl, rfl, by decide +kernel, fun _ => ⟨rfl, rfl⟩⟩
theorem n_X9 {w : Wt} {l : Launch} {b0 : Nat} (hw : ∀ i, w.2.1 i = b0 + i) : CtN w l b0 yX9_init cX9_init 1 2 34 84 1234 [.ref (w.2.1 0)] 1 Z0 [] 85 Zr3 [(0, 7), (68, 0), (68, 4), (68, 3), (68, 2), (0, 6), (66, 1), (66, 0), (66, 2), (0, 5), (63, 0), (63, 2), (63, 1), (0, 4), (51, 0), (0, 3), (20, 8), (20, 7), (20, 6), (20, 5), (20, 4), (20, 3), (0, 2), (17, 1), (17, 0), (17, 3), (17, 2), (0, 1), (6, 10), (6, 9), (6, 8), (6, 7), (6, 6), (6, 5), (6, 4), (6, 3), (6, 2), (6, 1), (0, 0), (1, 5), (1, 4), (1, 3), (1, 2)] := by
  refine CtN_of (by decide +kernel) rfl (Nat.le_of_ble_eq_true rfl) (List.forall_mem_cons.mpr ⟨rfl, (fun _ h => nomatch h)⟩) (ls := [some (.ref (w.2.1 0))]) rfl (args := (#[.ref (w.2.1 0)] : Array Value)) rfl (own := RX9) rfl ?_
  intro p e s m below meth c C hA hin hz0
  refine Vn_aload_n (i := 0) C dX9_init_0 rfl ?_
  refine Vn_objInit C (tb_i 83 (by decide +kernel) (by decide +kernel)) tb_oi tb_oc dX9_init_1 rfl (by decide) (by decide) ?_
  refine Vn_aload_n (i := 0) C dX9_init_4 rfl ?_
  refine Vn_new C hw (n1 := 1) (k1 := 6) nw_X9_7 dX9_init_5 rfl (by decide) (fun _ => rfl) (by decide +kernel) rfl rfl (by decide +kernel) (by decide +kernel) ?_
  refine Vn_to (pc1 := 8) (N1 := 2) rfl rfl ?_
  refine Vn_dup C dX9_init_8 rfl ?_
  refine Vn_init (As := []) (rest := [.ref (w.2.1 1), .ref (w.2.1 0)]) (n1 := 5) (k1 := 40) C mn_X9_9 hA (n_X4 hw) dX9_init_9 rfl rfl (Nat.le_of_ble_eq_true rfl) (by decide) (by decide) rfl rfl (by decide +kernel) (by decide +kernel) ?_
  refine Vn_to (pc1 := 12) (N1 := 6) rfl rfl ?_
  refine Vn_putr C hin fr_X9_10 dX9_init_12 rfl (by decide) (by decide) rfl ?_
  refine Vn_aload_n (i := 0) C dX9_init_15 rfl ?_
  refine Vn_new C hw (n1 := 6) (k1 := 51) nw_X9_16 dX9_init_16 rfl (by decide) (fun _ => rfl) (by decide +kernel) rfl rfl (by decide +kernel) (by decide +kernel) ?_
  refine Vn_to (pc1 := 19) (N1 := 7) rfl rfl ?_
  refine Vn_dup C dX9_init_19 rfl ?_
  refine Vn_init (As := []) (rest := [.ref (w.2.1 6), .ref (w.2.1 0)]) (n1 := 16) (k1 := 551) C mn_X9_18 hA (n_X7 hw) dX9_init_20 rfl rfl (Nat.le_of_ble_eq_true rfl) (by decide) (by decide) rfl rfl (by decide +kernel) (by decide +kernel) ?_
  refine Vn_to (pc1 := 23) (N1 := 17) rfl rfl ?_
  refine Vn_putr C hin fr_X9_19 dX9_init_23 rfl (by decide) (by decide) rfl ?_
  refine Vn_aload_n (i := 0) C dX9_init_26 rfl ?_
  refine Vn_new C hw (n1 := 17) (k1 := 555) nw_X9_23 dX9_init_27 rfl (by decide) (fun _ => rfl) (by decide +kernel) rfl rfl (by decide +kernel) (by decide +kernel) ?_
  refine Vn_to (pc1 := 30) (N1 := 18) rfl rfl ?_
  refine Vn_dup C dX9_init_30 rfl ?_
  refine Vn_aload_n (i := 0) C dX9_init_31 rfl ?_
  refine Vn_getr C fl_X9_10 dX9_init_32 rfl (by decide) rfl (by decide +kernel) ?_
  refine Vn_aload_n (i := 0) C dX9_init_35 rfl ?_
  refine Vn_getr C fl_X9_19 dX9_init_36 rfl (by decide) rfl (by decide +kernel) ?_
  refine Vn_init (As := [.ref (w.2.1 1), .ref (w.2.1 6)]) (rest := [.ref (w.2.1 17), .ref (w.2.1 0)]) (n1 := 19) (k1 := 655) C mn_X9_25 hA (n_X2 hw) dX9_init_39 rfl rfl (Nat.le_of_ble_eq_true rfl) (by decide) (by decide) rfl rfl (by decide +kernel) (by decide +kernel) ?_
  refine Vn_to (pc1 := 42) (N1 := 20) rfl rfl ?_
  refine Vn_putr C hin fr_X9_28 dX9_init_42 rfl (by decide) (by decide) rfl ?_
  refine Vn_aload_n (i := 0) C dX9_init_45 rfl ?_
  refine Vn_new C hw (n1 := 20) (k1 := 664) nw_X9_32 dX9_init_46 rfl (by decide) (fun _ => rfl) (by decide +kernel) rfl rfl (by decide +kernel) (by decide +kernel) ?_
  refine Vn_to (pc1 := 49) (N1 := 21) rfl rfl ?_
  refine Vn_dup C dX9_init_49 rfl ?_
  refine Vn_init (As := []) (rest := [.ref (w.2.1 20), .ref (w.2.1 0)]) (n1 := 50) (k1 := 934) C mn_X9_34 hA (n_X6 hw) dX9_init_50 rfl rfl (Nat.le_of_ble_eq_true rfl) (by decide) (by decide) rfl rfl (by decide +kernel) (by decide +kernel) ?_
  refine Vn_to (pc1 := 53) (N1 := 51) rfl rfl ?_
  refine Vn_putr C hin fr_X9_35 dX9_init_53 rfl (by decide) (by decide) rfl ?_
  refine Vn_aload_n (i := 0) C dX9_init_56 rfl ?_
  refine Vn_new C hw (n1 := 51) (k1 := 935) nw_X9_39 dX9_init_57 rfl (by decide) (fun _ => rfl) (by decide +kernel) rfl rfl (by decide +kernel) (by decide +kernel) ?_
  refine Vn_to (pc1 := 60) (N1 := 52) rfl rfl ?_
  refine Vn_dup C dX9_init_60 rfl ?_
  refine Vn_init (As := []) (rest := [.ref (w.2.1 51), .ref (w.2.1 0)]) (n1 := 62) (k1 := 1045) C mn_X9_41 hA (n_X8 hw) dX9_init_61 rfl rfl (Nat.le_of_ble_eq_true rfl) (by decide) (by decide) rfl rfl (by decide +kernel) (by decide +kernel) ?_
  refine Vn_to (pc1 := 64) (N1 := 63) rfl rfl ?_
  refine Vn_putr C hin fr_X9_42 dX9_init_64 rfl (by decide) (by decide) rfl ?_
  refine Vn_aload_n (i := 0) C dX9_init_67 rfl ?_
  refine Vn_new C hw (n1 := 63) (k1 := 1048) nw_X9_46 dX9_init_68 rfl (by decide) (fun _ => rfl) (by decide +kernel) rfl rfl (by decide +kernel) (by decide +kernel) ?_
  refine Vn_to (pc1 := 71) (N1 := 64) rfl rfl ?_
  refine Vn_dup C dX9_init_71 rfl ?_
  refine Vn_aload_n (i := 0) C dX9_init_72 rfl ?_
  refine Vn_getr C fl_X9_42 dX9_init_73 rfl (by decide) rfl (by decide +kernel) ?_
  refine Vn_init (As := [.ref (w.2.1 51)]) (rest := [.ref (w.2.1 63), .ref (w.2.1 0)]) (n1 := 65) (k1 := 1068) C mn_X9_48 hA (n_X3 hw) dX9_init_76 rfl rfl (Nat.le_of_ble_eq_true rfl) (by decide) (by decide) rfl rfl (by decide +kernel) (by decide +kernel) ?_
  refine Vn_to (pc1 := 79) (N1 := 66) rfl rfl ?_
  refine Vn_putr C hin fr_X9_51 dX9_init_79 rfl (by decide) (by decide) rfl ?_
  refine Vn_aload_n (i := 0) C dX9_init_82 rfl ?_
  refine Vn_new C hw (n1 := 66) (k1 := 1071) nw_X9_55 dX9_init_83 rfl (by decide) (fun _ => rfl) (by decide +kernel) rfl rfl (by decide +kernel) (by decide +kernel) ?_
  refine Vn_to (pc1 := 86) (N1 := 67) rfl rfl ?_
  refine Vn_dup C dX9_init_86 rfl ?_
  refine Vn_aload_n (i := 0) C dX9_init_87 rfl ?_
  refine Vn_getr C fl_X9_42 dX9_init_88 rfl (by decide) rfl (by decide +kernel) ?_
  refine Vn_aload_n (i := 0) C dX9_init_91 rfl ?_
  refine Vn_getr C fl_X9_51 dX9_init_92 rfl (by decide) rfl (by decide +kernel) ?_
  refine Vn_init (As := [.ref (w.2.1 51), .ref (w.2.1 63)]) (rest := [.ref (w.2.1 66), .ref (w.2.1 0)]) (n1 := 67) (k1 := 1076) C mn_X9_57 hA (n_X0 hw) dX9_init_95 rfl rfl (Nat.le_of_ble_eq_true rfl) (by decide) (by decide) rfl rfl (by decide +kernel) (by decide +kernel) ?_
  refine Vn_to (pc1 := 98) (N1 := 68) rfl rfl ?_
  refine Vn_putr C hin fr_X9_60 dX9_init_98 rfl (by decide) (by decide) rfl ?_
  refine Vn_aload_n (i := 0) C dX9_init_101 rfl ?_
  refine Vn_new C hw (n1 := 68) (k1 := 1081) nw_X9_64 dX9_init_102 rfl (by decide) (fun _ => rfl) (by decide +kernel) rfl rfl (by decide +kernel) (by decide +kernel) ?_
  refine Vn_to (pc1 := 105) (N1 := 69) rfl rfl ?_
  refine Vn_dup C dX9_init_105 rfl ?_
  refine Vn_aload_n (i := 0) C dX9_init_106 rfl ?_
  refine Vn_getr C fl_X9_35 dX9_init_107 rfl (by decide) rfl (by decide +kernel) ?_
  refine Vn_init (As := [.ref (w.2.1 20)]) (rest := [.ref (w.2.1 68), .ref (w.2.1 0)]) (n1 := 84) (k1 := 1234) C mn_X9_66 hA (n_X5 hw) dX9_init_110 rfl rfl (Nat.le_of_ble_eq_true rfl) (by decide) (by decide) rfl rfl (by decide +kernel) (by decide +kernel) ?_
  refine Vn_to (pc1 := 113) (N1 := 85) rfl rfl ?_
  refine Vn_putr C hin fr_X9_69 dX9_init_113 rfl (by decide) (by decide) rfl ?_
  exact Vn_return C hz0 dX9_init_116
theorem fr_X10_7 : FR RX10 7 9 2 := ⟨RX10, TX10, 37, tyX10, .array .int, rfl, tc_9, by decide, (tb_i 961 (by decide +kernel) (by decide +kernel)), tyX10_ok, nmX10, rfl, rfl, by decide +kernel, fun _ => ⟨rfl, rfl⟩⟩
theorem fr_X10_13 : FR RX10 13 9 3 := ⟨RX10, TX10, 37, tyX10, .array .int, rfl, tc_9, by decide, (tb_i 962 (by decide +kernel) (by decide +kernel)), tyX10_ok, nmX10, rfl, rfl, by decide +kernel, fun _ => ⟨rfl, rfl⟩⟩
theorem fr_X10_16 : FR RX10 16 9 4 := ⟨RX10, TX10, 37, tyX10, .array .int, rfl, tc_9, by decide, (tb_i 963 (by decide +kernel) (by decide +kernel)), tyX10_ok, nmX10, rfl, rfl, by decide +kernel, fun _ => ⟨rfl, rfl⟩⟩
theorem fq_X10_19 : FQ RX10 19 9 5 := ⟨RX10, TX10, 37, tyX10, rfl, tc_9, by decide, (tb_i 964 (by decide +kernel) (by decide +kernel)), tyX10_ok, nmX10, rfl, by decide +kernel⟩
theorem fr_X10_23 : FR RX10 23 9 6 := ⟨RX10, TX10, 37, tyX10, .array .int, rfl, tc_9, by decide, (tb_i 965 (by decide +kernel) (by decide +kernel)), tyX10_ok, nmX10, rfl, rfl, by decide +kernel, fun _ => ⟨rfl, rfl⟩⟩
theorem fr_X10_26 : FR RX10 26 9 7 := ⟨RX10, TX10, 37, tyX10, .array .int, rfl, tc_9, by decide, (tb_i 966 (by decide +kernel) (by decide +kernel)), tyX10_ok, nmX10, rfl, rfl, by decide +kernel, fun _ => ⟨rfl, rfl⟩⟩
theorem fr_X10_29 : FR RX10 29 9 8 := ⟨RX10, TX10, 37, tyX10, .array .int, rfl, tc_9, by decide, (tb_i 967 (by decide +kernel) (by decide +kernel)), tyX10_ok, nmX10, rfl, rfl, by decide +kernel, fun _ => ⟨rfl, rfl⟩⟩
theorem fr_X10_32 : FR RX10 32 9 9 := ⟨RX10, TX10, 37, tyX10, .array .int, rfl, tc_9, by decide, (tb_i 968 (by decide +kernel) (by decide +kernel)), tyX10_ok, nmX10, rfl, rfl, by decide +kernel, fun _ => ⟨rfl, rfl⟩⟩
theorem fr_X10_35 : FR RX10 35 9 10 := ⟨RX10, TX10, 37, tyX10, .array .int, rfl, tc_9, by decide, (tb_i 969 (by decide +kernel) (by decide +kernel)), tyX10_ok, nmX10, rfl, rfl, by decide +kernel, fun _ => ⟨rfl, rfl⟩⟩
theorem fr_X10_38 : FR RX10 38 9 11 := ⟨RX10, TX10, 37, tyX10, .array .int, rfl, tc_9, by decide, (tb_i 970 (by decide +kernel) (by decide +kernel)), tyX10_ok, nmX10, rfl, rfl, by decide +kernel, fun _ => ⟨rfl, rfl⟩⟩
theorem fr_X10_41 : FR RX10 41 9 12 := ⟨RX10, TX10, 37, tyX10, .array .int, rfl, tc_9, by decide, (tb_i 971 (by decide +kernel) (by decide +kernel)), tyX10_ok, nmX10, rfl, rfl, by decide +kernel, fun _ => ⟨rfl, rfl⟩⟩
theorem fr_X10_44 : FR RX10 44 9 13 := ⟨RX10, TX10, 37, tyX10, .array .int, rfl, tc_9, by decide, (tb_i 972 (by decide +kernel) (by decide +kernel)), tyX10_ok, nmX10, rfl, rfl, by decide +kernel, fun _ => ⟨rfl, rfl⟩⟩
theorem fr_X10_47 : FR RX10 47 9 14 := ⟨RX10, TX10, 37, tyX10, .array .int, rfl, tc_9, by decide, (tb_i 973 (by decide +kernel) (by decide +kernel)), tyX10_ok, nmX10, rfl, rfl, by decide +kernel, fun _ => ⟨rfl, rfl⟩⟩
theorem fr_X10_50 : FR RX10 50 9 15 := ⟨RX10, TX10, 37, tyX10, .array .boolean, rfl, tc_9, by decide, (tb_i 974 (by decide +kernel) (by decide +kernel)), tyX10_ok, nmX10, rfl, rfl, by decide +kernel, fun _ => ⟨rfl, rfl⟩⟩
theorem fr_X10_54 : FR RX10 54 9 16 := ⟨RX10, TX10, 37, tyX10, .array .boolean, rfl, tc_9, by decide, (tb_i 975 (by decide +kernel) (by decide +kernel)), tyX10_ok, nmX10, rfl, rfl, by decide +kernel, fun _ => ⟨rfl, rfl⟩⟩
theorem fr_X10_57 : FR RX10 57 9 18 := ⟨RX10, TX10, 37, tyX10, .array .int, rfl, tc_9, by decide, (tb_i 977 (by decide +kernel) (by decide +kernel)), tyX10_ok, nmX10, rfl, rfl, by decide +kernel, fun _ => ⟨rfl, rfl⟩⟩
theorem fr_X10_60 : FR RX10 60 9 20 := ⟨RX10, TX10, 37, tyX10, .array .int, rfl, tc_9, by decide, (tb_i 979 (by decide +kernel) (by decide +kernel)), tyX10_ok, nmX10, rfl, rfl, by decide +kernel, fun _ => ⟨rfl, rfl⟩⟩
theorem fr_X10_63 : FR RX10 63 9 21 := ⟨RX10, TX10, 37, tyX10, .array .int, rfl, tc_9, by decide, (tb_i 980 (by decide +kernel) (by decide +kernel)), tyX10_ok, nmX10, rfl, rfl, by decide +kernel, fun _ => ⟨rfl, rfl⟩⟩
theorem fr_X10_66 : FR RX10 66 9 22 := ⟨RX10, TX10, 37, tyX10, .array .int, rfl, tc_9, by decide, (tb_i 981 (by decide +kernel) (by decide +kernel)), tyX10_ok, nmX10, rfl, rfl, by decide +kernel, fun _ => ⟨rfl, rfl⟩⟩
theorem fr_X10_69 : FR RX10 69 9 23 := ⟨RX10, TX10, 37, tyX10, .array .int, rfl, tc_9, by decide, (tb_i 982 (by decide +kernel) (by decide +kernel)), tyX10_ok, nmX10, rfl, rfl, by decide +kernel, fun _ => ⟨rfl, rfl⟩⟩
theorem fr_X10_72 : FR RX10 72 9 24 := ⟨RX10, TX10, 37, tyX10, .array .boolean, rfl, tc_9, by decide, (tb_i 983 (by decide +kernel) (by decide +kernel)), tyX10_ok, nmX10, rfl, rfl, by decide +kernel, fun _ => ⟨rfl, rfl⟩⟩
theorem fr_X10_75 : FR RX10 75 9 26 := ⟨RX10, TX10, 37, tyX10, .array .int, rfl, tc_9, by decide, (tb_i 985 (by decide +kernel) (by decide +kernel)), tyX10_ok, nmX10, rfl, rfl, by decide +kernel, fun _ => ⟨rfl, rfl⟩⟩
theorem fr_X10_78 : FR RX10 78 9 27 := ⟨RX10, TX10, 37, tyX10, .array .int, rfl, tc_9, by decide, (tb_i 986 (by decide +kernel) (by decide +kernel)), tyX10_ok, nmX10, rfl, rfl, by decide +kernel, fun _ => ⟨rfl, rfl⟩⟩
theorem fr_X10_81 : FR RX10 81 9 28 := ⟨RX10, TX10, 37, tyX10, .array .int, rfl, tc_9, by decide, (tb_i 987 (by decide +kernel) (by decide +kernel)), tyX10_ok, nmX10, rfl, rfl, by decide +kernel, fun _ => ⟨rfl, rfl⟩⟩
theorem fr_X10_84 : FR RX10 84 9 29 := ⟨RX10, TX10, 37, tyX10, .array .boolean, rfl, tc_9, by decide, (tb_i 988 (by decide +kernel) (by decide +kernel)), tyX10_ok, nmX10, rfl, rfl, by decide +kernel, fun _ => ⟨rfl, rfl⟩⟩
theorem fr_X10_87 : FR RX10 87 9 30 := ⟨RX10, TX10, 37, tyX10, .array .int, rfl, tc_9, by decide, (tb_i 989 (by decide +kernel) (by decide +kernel)), tyX10_ok, nmX10, rfl, rfl, by decide +kernel, fun _ => ⟨rfl, rfl⟩⟩
theorem fr_X10_90 : FR RX10 90 9 31 := ⟨RX10, TX10, 37, tyX10, .array .int, rfl, tc_9, by decide, (tb_i 990 (by decide +kernel) (by decide +kernel)), tyX10_ok, nmX10, rfl, rfl, by decide +kernel, fun _ => ⟨rfl, rfl⟩⟩
theorem fr_X10_93 : FR RX10 93 9 32 := ⟨RX10, TX10, 37, tyX10, .array .int, rfl, tc_9, by decide, (tb_i 991 (by decide +kernel) (by decide +kernel)), tyX10_ok, nmX10, rfl, rfl, by decide +kernel, fun _ => ⟨rfl, rfl⟩⟩
theorem fr_X10_96 : FR RX10 96 9 33 := ⟨RX10, TX10, 37, tyX10, .array .int, rfl, tc_9, by decide, (tb_i 992 (by decide +kernel) (by decide +kernel)), tyX10_ok, nmX10, rfl, rfl, by decide +kernel, fun _ => ⟨rfl, rfl⟩⟩
theorem fr_X10_99 : FR RX10 99 9 34 := ⟨RX10, TX10, 37, tyX10, .array .int, rfl, tc_9, by decide, (tb_i 993 (by decide +kernel) (by decide +kernel)), tyX10_ok, nmX10, rfl, rfl, by decide +kernel, fun _ => ⟨rfl, rfl⟩⟩
theorem fr_X10_102 : FR RX10 102 9 36 := ⟨RX10, TX10, 37, tyX10, .array .boolean, rfl, tc_9, by decide, (tb_i 995 (by decide +kernel) (by decide +kernel)), tyX10_ok, nmX10, rfl, rfl, by decide +kernel, fun _ => ⟨rfl, rfl⟩⟩
theorem n_X10 {w : Wt} {l : Launch} {b0 : Nat} (hw : ∀ i, w.2.1 i = b0 + i) : CtN w l b0 yX10_init cX10_init 1 1 12 30 1432 [.ref (w.2.1 85)] 86 Zr3 [(0, 7), (68, 0), (68, 4), (68, 3), (68, 2), (0, 6), (66, 1), (66, 0), (66, 2), (0, 5), (63, 0), (63, 2), (63, 1), (0, 4), (51, 0), (0, 3), (20, 8), (20, 7), (20, 6), (20, 5), (20, 4), (20, 3), (0, 2), (17, 1), (17, 0), (17, 3), (17, 2), (0, 1), (6, 10), (6, 9), (6, 8), (6, 7), (6, 6), (6, 5), (6, 4), (6, 3), (6, 2), (6, 1), (0, 0), (1, 5), (1, 4), (1, 3), (1, 2)] 116 Zm3 [(85, 36), (85, 34), (85, 33), (85, 32), (85, 31), (85, 30), (85, 29), (85, 28), (85, 27), (85, 26), (85, 24), (85, 23), (85, 22), (85, 21), (85, 20), (85, 18), (85, 16), (85, 15), (85, 14), (85, 13), (85, 12), (85, 11), (85, 10), (85, 9), (85, 8), (85, 7), (85, 6), (85, 4), (85, 3), (85, 2), (0, 7), (68, 0), (68, 4), (68, 3), (68, 2), (0, 6), (66, 1), (66, 0), (66, 2), (0, 5), (63, 0), (63, 2), (63, 1), (0, 4), (51, 0), (0, 3), (20, 8), (20, 7), (20, 6), (20, 5), (20, 4), (20, 3), (0, 2), (17, 1), (17, 0), (17, 3), (17, 2), (0, 1), (6, 10), (6, 9), (6, 8), (6, 7), (6, 6), (6, 5), (6, 4), (6, 3), (6, 2), (6, 1), (0, 0), (1, 5), (1, 4), (1, 3), (1, 2)] := by
  refine CtN_of (by decide +kernel) rfl (Nat.le_of_ble_eq_true rfl) (List.forall_mem_cons.mpr ⟨rfl, (fun _ h => nomatch h)⟩) (ls := [some (.ref (w.2.1 85))]) rfl (args := (#[.ref (w.2.1 85)] : Array Value)) rfl (own := RX10) rfl ?_
  intro p e s m below meth c C hA hin hz0
  refine Vn_aload_n (i := 0) C dX10_init_0 rfl ?_
  refine Vn_objInit C (tb_i 958 (by decide +kernel) (by decide +kernel)) tb_oi tb_oc dX10_init_1 rfl (by decide) (by decide) ?_
  refine Vn_aload_n (i := 0) C dX10_init_4 rfl ?_
  refine Vn_bipush (v := 8) C dX10_init_5 (by decide) ?_
  refine Vn_newi C hw hA (n1 := 1) (k1 := 8) dX10_init_7 rfl (fun _ => rfl) (by decide) (by decide) rfl rfl (by decide +kernel) (by decide +kernel) ?_
  refine Vn_to (pc1 := 9) (N1 := 87) rfl rfl ?_
  refine Vn_putr C hin fr_X10_7 dX10_init_9 rfl (by decide) (by decide) rfl ?_
  refine Vn_aload_n (i := 0) C dX10_init_12 rfl ?_
  refine Vn_bipush (v := 8) C dX10_init_13 (by decide) ?_
  refine Vn_newi C hw hA (n1 := 2) (k1 := 16) dX10_init_15 rfl (fun _ => rfl) (by decide) (by decide) rfl rfl (by decide +kernel) (by decide +kernel) ?_
  refine Vn_to (pc1 := 17) (N1 := 88) rfl rfl ?_
  refine Vn_putr C hin fr_X10_13 dX10_init_17 rfl (by decide) (by decide) rfl ?_
  refine Vn_aload_n (i := 0) C dX10_init_20 rfl ?_
  refine Vn_bipush (v := 8) C dX10_init_21 (by decide) ?_
  refine Vn_newi C hw hA (n1 := 3) (k1 := 24) dX10_init_23 rfl (fun _ => rfl) (by decide) (by decide) rfl rfl (by decide +kernel) (by decide +kernel) ?_
  refine Vn_to (pc1 := 25) (N1 := 89) rfl rfl ?_
  refine Vn_putr C hin fr_X10_16 dX10_init_25 rfl (by decide) (by decide) rfl ?_
  refine Vn_aload_n (i := 0) C dX10_init_28 rfl ?_
  refine Vn_iconst (v := 1) C dX10_init_29 (by decide) ?_
  refine Vn_puti (X1 := Zm1) C fq_X10_19 dX10_init_30 rfl (by decide) (by decide) rfl rfl ?_
  refine Vn_aload_n (i := 0) C dX10_init_33 rfl ?_
  refine Vn_bipush (v := 10) C dX10_init_34 (by decide) ?_
  refine Vn_newi C hw hA (n1 := 4) (k1 := 34) dX10_init_36 rfl (fun _ => rfl) (by decide) (by decide) rfl rfl (by decide +kernel) (by decide +kernel) ?_
  refine Vn_to (pc1 := 38) (N1 := 90) rfl rfl ?_
  refine Vn_putr C hin fr_X10_23 dX10_init_38 rfl (by decide) (by decide) rfl ?_
  refine Vn_aload_n (i := 0) C dX10_init_41 rfl ?_
  refine Vn_bipush (v := 50) C dX10_init_42 (by decide) ?_
  refine Vn_newi C hw hA (n1 := 5) (k1 := 84) dX10_init_44 rfl (fun _ => rfl) (by decide) (by decide) rfl rfl (by decide +kernel) (by decide +kernel) ?_
  refine Vn_to (pc1 := 46) (N1 := 91) rfl rfl ?_
  refine Vn_putr C hin fr_X10_26 dX10_init_46 rfl (by decide) (by decide) rfl ?_
  refine Vn_aload_n (i := 0) C dX10_init_49 rfl ?_
  refine Vn_bipush (v := 50) C dX10_init_50 (by decide) ?_
  refine Vn_newi C hw hA (n1 := 6) (k1 := 134) dX10_init_52 rfl (fun _ => rfl) (by decide) (by decide) rfl rfl (by decide +kernel) (by decide +kernel) ?_
  refine Vn_to (pc1 := 54) (N1 := 92) rfl rfl ?_
  refine Vn_putr C hin fr_X10_29 dX10_init_54 rfl (by decide) (by decide) rfl ?_
  refine Vn_aload_n (i := 0) C dX10_init_57 rfl ?_
  refine Vn_bipush (v := 50) C dX10_init_58 (by decide) ?_
  refine Vn_newi C hw hA (n1 := 7) (k1 := 184) dX10_init_60 rfl (fun _ => rfl) (by decide) (by decide) rfl rfl (by decide +kernel) (by decide +kernel) ?_
  refine Vn_to (pc1 := 62) (N1 := 93) rfl rfl ?_
  refine Vn_putr C hin fr_X10_32 dX10_init_62 rfl (by decide) (by decide) rfl ?_
  refine Vn_aload_n (i := 0) C dX10_init_65 rfl ?_
  refine Vn_bipush (v := 50) C dX10_init_66 (by decide) ?_
  refine Vn_newi C hw hA (n1 := 8) (k1 := 234) dX10_init_68 rfl (fun _ => rfl) (by decide) (by decide) rfl rfl (by decide +kernel) (by decide +kernel) ?_
  refine Vn_to (pc1 := 70) (N1 := 94) rfl rfl ?_
  refine Vn_putr C hin fr_X10_35 dX10_init_70 rfl (by decide) (by decide) rfl ?_
  refine Vn_aload_n (i := 0) C dX10_init_73 rfl ?_
  refine Vn_bipush (v := 50) C dX10_init_74 (by decide) ?_
  refine Vn_newi C hw hA (n1 := 9) (k1 := 284) dX10_init_76 rfl (fun _ => rfl) (by decide) (by decide) rfl rfl (by decide +kernel) (by decide +kernel) ?_
  refine Vn_to (pc1 := 78) (N1 := 95) rfl rfl ?_
  refine Vn_putr C hin fr_X10_38 dX10_init_78 rfl (by decide) (by decide) rfl ?_
  refine Vn_aload_n (i := 0) C dX10_init_81 rfl ?_
  refine Vn_bipush (v := 50) C dX10_init_82 (by decide) ?_
  refine Vn_newi C hw hA (n1 := 10) (k1 := 334) dX10_init_84 rfl (fun _ => rfl) (by decide) (by decide) rfl rfl (by decide +kernel) (by decide +kernel) ?_
  refine Vn_to (pc1 := 86) (N1 := 96) rfl rfl ?_
  refine Vn_putr C hin fr_X10_41 dX10_init_86 rfl (by decide) (by decide) rfl ?_
  refine Vn_aload_n (i := 0) C dX10_init_89 rfl ?_
  refine Vn_bipush (v := 50) C dX10_init_90 (by decide) ?_
  refine Vn_newi C hw hA (n1 := 11) (k1 := 384) dX10_init_92 rfl (fun _ => rfl) (by decide) (by decide) rfl rfl (by decide +kernel) (by decide +kernel) ?_
  refine Vn_to (pc1 := 94) (N1 := 97) rfl rfl ?_
  refine Vn_putr C hin fr_X10_44 dX10_init_94 rfl (by decide) (by decide) rfl ?_
  refine Vn_aload_n (i := 0) C dX10_init_97 rfl ?_
  refine Vn_bipush (v := 50) C dX10_init_98 (by decide) ?_
  refine Vn_newi C hw hA (n1 := 12) (k1 := 434) dX10_init_100 rfl (fun _ => rfl) (by decide) (by decide) rfl rfl (by decide +kernel) (by decide +kernel) ?_
  refine Vn_to (pc1 := 102) (N1 := 98) rfl rfl ?_
  refine Vn_putr C hin fr_X10_47 dX10_init_102 rfl (by decide) (by decide) rfl ?_
  refine Vn_aload_n (i := 0) C dX10_init_105 rfl ?_
  refine Vn_bipush (v := 50) C dX10_init_106 (by decide) ?_
  refine Vn_newz C hw hA (n1 := 13) (k1 := 484) dX10_init_108 rfl (fun _ => rfl) (by decide) (by decide) rfl rfl (by decide +kernel) (by decide +kernel) ?_
  refine Vn_to (pc1 := 110) (N1 := 99) rfl rfl ?_
  refine Vn_putr C hin fr_X10_50 dX10_init_110 rfl (by decide) (by decide) rfl ?_
  refine Vn_aload_n (i := 0) C dX10_init_113 rfl ?_
  refine Vn_bipush (v := 50) C dX10_init_114 (by decide) ?_
  refine Vn_newz C hw hA (n1 := 14) (k1 := 534) dX10_init_116 rfl (fun _ => rfl) (by decide) (by decide) rfl rfl (by decide +kernel) (by decide +kernel) ?_
  refine Vn_to (pc1 := 118) (N1 := 100) rfl rfl ?_
  refine Vn_putr C hin fr_X10_54 dX10_init_118 rfl (by decide) (by decide) rfl ?_
  refine Vn_aload_n (i := 0) C dX10_init_121 rfl ?_
  refine Vn_bipush (v := 6) C dX10_init_122 (by decide) ?_
  refine Vn_newi C hw hA (n1 := 15) (k1 := 540) dX10_init_124 rfl (fun _ => rfl) (by decide) (by decide) rfl rfl (by decide +kernel) (by decide +kernel) ?_
  refine Vn_to (pc1 := 126) (N1 := 101) rfl rfl ?_
  refine Vn_putr C hin fr_X10_57 dX10_init_126 rfl (by decide) (by decide) rfl ?_
  refine Vn_aload_n (i := 0) C dX10_init_129 rfl ?_
  refine Vn_sipush (v := 144) C dX10_init_130 (by decide) ?_
  refine Vn_newi C hw hA (n1 := 16) (k1 := 684) dX10_init_133 rfl (fun _ => rfl) (by decide) (by decide) rfl rfl (by decide +kernel) (by decide +kernel) ?_
  refine Vn_to (pc1 := 135) (N1 := 102) rfl rfl ?_
  refine Vn_putr C hin fr_X10_60 dX10_init_135 rfl (by decide) (by decide) rfl ?_
  refine Vn_aload_n (i := 0) C dX10_init_138 rfl ?_
  refine Vn_bipush (v := 24) C dX10_init_139 (by decide) ?_
  refine Vn_newi C hw hA (n1 := 17) (k1 := 708) dX10_init_141 rfl (fun _ => rfl) (by decide) (by decide) rfl rfl (by decide +kernel) (by decide +kernel) ?_
  refine Vn_to (pc1 := 143) (N1 := 103) rfl rfl ?_
  refine Vn_putr C hin fr_X10_63 dX10_init_143 rfl (by decide) (by decide) rfl ?_
  refine Vn_aload_n (i := 0) C dX10_init_146 rfl ?_
  refine Vn_bipush (v := 24) C dX10_init_147 (by decide) ?_
  refine Vn_newi C hw hA (n1 := 18) (k1 := 732) dX10_init_149 rfl (fun _ => rfl) (by decide) (by decide) rfl rfl (by decide +kernel) (by decide +kernel) ?_
  refine Vn_to (pc1 := 151) (N1 := 104) rfl rfl ?_
  refine Vn_putr C hin fr_X10_66 dX10_init_151 rfl (by decide) (by decide) rfl ?_
  refine Vn_aload_n (i := 0) C dX10_init_154 rfl ?_
  refine Vn_bipush (v := 24) C dX10_init_155 (by decide) ?_
  refine Vn_newi C hw hA (n1 := 19) (k1 := 756) dX10_init_157 rfl (fun _ => rfl) (by decide) (by decide) rfl rfl (by decide +kernel) (by decide +kernel) ?_
  refine Vn_to (pc1 := 159) (N1 := 105) rfl rfl ?_
  refine Vn_putr C hin fr_X10_69 dX10_init_159 rfl (by decide) (by decide) rfl ?_
  refine Vn_aload_n (i := 0) C dX10_init_162 rfl ?_
  refine Vn_bipush (v := 24) C dX10_init_163 (by decide) ?_
  refine Vn_newz C hw hA (n1 := 20) (k1 := 780) dX10_init_165 rfl (fun _ => rfl) (by decide) (by decide) rfl rfl (by decide +kernel) (by decide +kernel) ?_
  refine Vn_to (pc1 := 167) (N1 := 106) rfl rfl ?_
  refine Vn_putr C hin fr_X10_72 dX10_init_167 rfl (by decide) (by decide) rfl ?_
  refine Vn_aload_n (i := 0) C dX10_init_170 rfl ?_
  refine Vn_bipush (v := 100) C dX10_init_171 (by decide) ?_
  refine Vn_newi C hw hA (n1 := 21) (k1 := 880) dX10_init_173 rfl (fun _ => rfl) (by decide) (by decide) rfl rfl (by decide +kernel) (by decide +kernel) ?_
  refine Vn_to (pc1 := 175) (N1 := 107) rfl rfl ?_
  refine Vn_putr C hin fr_X10_75 dX10_init_175 rfl (by decide) (by decide) rfl ?_
  refine Vn_aload_n (i := 0) C dX10_init_178 rfl ?_
  refine Vn_bipush (v := 50) C dX10_init_179 (by decide) ?_
  refine Vn_newi C hw hA (n1 := 22) (k1 := 930) dX10_init_181 rfl (fun _ => rfl) (by decide) (by decide) rfl rfl (by decide +kernel) (by decide +kernel) ?_
  refine Vn_to (pc1 := 183) (N1 := 108) rfl rfl ?_
  refine Vn_putr C hin fr_X10_78 dX10_init_183 rfl (by decide) (by decide) rfl ?_
  refine Vn_aload_n (i := 0) C dX10_init_186 rfl ?_
  refine Vn_bipush (v := 10) C dX10_init_187 (by decide) ?_
  refine Vn_newi C hw hA (n1 := 23) (k1 := 940) dX10_init_189 rfl (fun _ => rfl) (by decide) (by decide) rfl rfl (by decide +kernel) (by decide +kernel) ?_
  refine Vn_to (pc1 := 191) (N1 := 109) rfl rfl ?_
  refine Vn_putr C hin fr_X10_81 dX10_init_191 rfl (by decide) (by decide) rfl ?_
  refine Vn_aload_n (i := 0) C dX10_init_194 rfl ?_
  refine Vn_bipush (v := 10) C dX10_init_195 (by decide) ?_
  refine Vn_newz C hw hA (n1 := 24) (k1 := 950) dX10_init_197 rfl (fun _ => rfl) (by decide) (by decide) rfl rfl (by decide +kernel) (by decide +kernel) ?_
  refine Vn_to (pc1 := 199) (N1 := 110) rfl rfl ?_
  refine Vn_putr C hin fr_X10_84 dX10_init_199 rfl (by decide) (by decide) rfl ?_
  refine Vn_aload_n (i := 0) C dX10_init_202 rfl ?_
  refine Vn_bipush (v := 6) C dX10_init_203 (by decide) ?_
  refine Vn_newi C hw hA (n1 := 25) (k1 := 956) dX10_init_205 rfl (fun _ => rfl) (by decide) (by decide) rfl rfl (by decide +kernel) (by decide +kernel) ?_
  refine Vn_to (pc1 := 207) (N1 := 111) rfl rfl ?_
  refine Vn_putr C hin fr_X10_87 dX10_init_207 rfl (by decide) (by decide) rfl ?_
  refine Vn_aload_n (i := 0) C dX10_init_210 rfl ?_
  refine Vn_bipush (v := 10) C dX10_init_211 (by decide) ?_
  refine Vn_newi C hw hA (n1 := 26) (k1 := 966) dX10_init_213 rfl (fun _ => rfl) (by decide) (by decide) rfl rfl (by decide +kernel) (by decide +kernel) ?_
  refine Vn_to (pc1 := 215) (N1 := 112) rfl rfl ?_
  refine Vn_putr C hin fr_X10_90 dX10_init_215 rfl (by decide) (by decide) rfl ?_
  refine Vn_aload_n (i := 0) C dX10_init_218 rfl ?_
  refine Vn_bipush (v := 100) C dX10_init_219 (by decide) ?_
  refine Vn_newi C hw hA (n1 := 27) (k1 := 1066) dX10_init_221 rfl (fun _ => rfl) (by decide) (by decide) rfl rfl (by decide +kernel) (by decide +kernel) ?_
  refine Vn_to (pc1 := 223) (N1 := 113) rfl rfl ?_
  refine Vn_putr C hin fr_X10_93 dX10_init_223 rfl (by decide) (by decide) rfl ?_
  refine Vn_aload_n (i := 0) C dX10_init_226 rfl ?_
  refine Vn_bipush (v := 100) C dX10_init_227 (by decide) ?_
  refine Vn_newi C hw hA (n1 := 28) (k1 := 1166) dX10_init_229 rfl (fun _ => rfl) (by decide) (by decide) rfl rfl (by decide +kernel) (by decide +kernel) ?_
  refine Vn_to (pc1 := 231) (N1 := 114) rfl rfl ?_
  refine Vn_putr C hin fr_X10_96 dX10_init_231 rfl (by decide) (by decide) rfl ?_
  refine Vn_aload_n (i := 0) C dX10_init_234 rfl ?_
  refine Vn_bipush (v := 10) C dX10_init_235 (by decide) ?_
  refine Vn_newi C hw hA (n1 := 29) (k1 := 1176) dX10_init_237 rfl (fun _ => rfl) (by decide) (by decide) rfl rfl (by decide +kernel) (by decide +kernel) ?_
  refine Vn_to (pc1 := 239) (N1 := 115) rfl rfl ?_
  refine Vn_putr C hin fr_X10_99 dX10_init_239 rfl (by decide) (by decide) rfl ?_
  refine Vn_aload_n (i := 0) C dX10_init_242 rfl ?_
  refine Vn_sipush (v := 256) C dX10_init_243 (by decide) ?_
  refine Vn_newz C hw hA (n1 := 30) (k1 := 1432) dX10_init_246 rfl (fun _ => rfl) (by decide) (by decide) rfl rfl (by decide +kernel) (by decide +kernel) ?_
  refine Vn_to (pc1 := 248) (N1 := 116) rfl rfl ?_
  refine Vn_putr C hin fr_X10_102 dX10_init_248 rfl (by decide) (by decide) rfl ?_
  refine Vn_aload_n (i := 0) C dX10_init_251 rfl ?_
  refine Vn_getr C fl_X10_7 dX10_init_252 rfl (by decide) rfl (by decide +kernel) ?_
  refine Vn_iconst (v := 0) C dX10_init_255 (by decide) ?_
  refine Vn_iconst (v := -1) C dX10_init_256 (by decide) ?_
  refine Vn_iast (X1 := Zm2) (o := 0) C dX10_init_257 rfl (by decide) (by decide) (by decide) (by decide) (by decide) rfl ?_
  refine Vn_aload_n (i := 0) C dX10_init_258 rfl ?_
  refine Vn_getr C fl_X10_16 dX10_init_259 rfl (by decide) rfl (by decide +kernel) ?_
  refine Vn_iconst (v := 0) C dX10_init_262 (by decide) ?_
  refine Vn_bipush (v := 30) C dX10_init_263 (by decide) ?_
  refine Vn_iast (X1 := Zm3) (o := 0) C dX10_init_265 rfl (by decide) (by decide) (by decide) (by decide) (by decide) rfl ?_
  exact Vn_return C hz0 dX10_init_266
theorem nw_L_8 : NW RL 8 8 [some 1, some 6, some 17, some 20, some 51, some 63, some 66, some 68] := ⟨RX9, TX9, tyX9, rfl, tc_8, (tb_i 78 (by decide +kernel) (by decide +kernel)), (tb_i 79 (by decide +kernel) (by decide +kernel)), (tb_i 60 (by decide +kernel) (by decide +kernel)), tyX9_ok, by decide +kernel⟩
theorem mn_L_105 : MN RL 105 yX9_init cX9_init 1 0 := ⟨⟨(Or.inl (tb_i 80 (by decide +kernel) (by decide +kernel))), (tb_i 82 (by decide +kernel) (by decide +kernel)), (tb_i 60 (by decide +kernel) (by decide +kernel)), by decide +kernel⟩, rfl, (tb_i 81 (by decide +kernel) (by decide +kernel))⟩
theorem nw_L_106 : NW RL 106 9 [none, none, some 86, some 87, some 88, none, some 89, some 90, some 91, some 92, some 93, some 94, some 95, some 96, some 97, some 98, some 99, none, some 100, none, some 101, some 102, some 103, some 104, some 105, none, some 106, some 107, some 108, some 109, some 110, some 111, some 112, some 113, some 114, none, some 115] := ⟨RX10, TX10, tyX10, rfl, tc_9, (tb_i 953 (by decide +kernel) (by decide +kernel)), (tb_i 954 (by decide +kernel) (by decide +kernel)), (tb_i 69 (by decide +kernel) (by decide +kernel)), tyX10_ok, by decide +kernel⟩
theorem mn_L_108 : MN RL 108 yX10_init cX10_init 1 0 := ⟨⟨(Or.inl (tb_i 955 (by decide +kernel) (by decide +kernel))), (tb_i 957 (by decide +kernel) (by decide +kernel)), (tb_i 69 (by decide +kernel) (by decide +kernel)), by decide +kernel⟩, rfl, (tb_i 956 (by decide +kernel) (by decide +kernel))⟩
