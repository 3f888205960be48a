theorem tb_i {x : Cond} (i : Nat) (h : lw_tbl[i]? = some x) (hk : okT x = true) : x ∈ TB := List.mem_filter.mpr ⟨List.mem_of_getElem? h, hk⟩
theorem tb_all (ws : List Cond) (ps : List Nat) (hp : ws = ps.filterMap (fun i => lw_tbl[i]?)) (h : ws.all okT = true) : ∀ x ∈ ws, x ∈ TB := by
  intro x hx
  have h1 := List.all_eq_true.mp h x hx
  rw [hp] at hx
  obtain ⟨i, -, hi⟩ := List.mem_filterMap.mp hx
  exact tb_i i hi h1
theorem tb_in : ∀ x ∈ TB, x ∈ lw_tbl := fun x h => (List.mem_filter.mp h).1
theorem tc_0 : ∀ x ∈ u_ws RX0 TX0 3, x ∈ TB := tb_all _ [256, 258, 260] (by decide +kernel) (by decide +kernel)
theorem tc_1 : ∀ x ∈ u_ws RX2 TX2 4, x ∈ TB := tb_all _ [163, 165, 167, 169] (by decide +kernel) (by decide +kernel)
theorem tc_2 : ∀ x ∈ u_ws RX3 TX3 3, x ∈ TB := tb_all _ [240, 242, 244] (by decide +kernel) (by decide +kernel)
theorem tc_3 : ∀ x ∈ u_ws RX4 TX4 6, x ∈ TB := tb_all _ [80, 82, 84, 86, 88, 90] (by decide +kernel) (by decide +kernel)
theorem tc_4 : ∀ x ∈ u_ws RX5 TX5 5, x ∈ TB := tb_all _ [276, 278, 280, 282, 284] (by decide +kernel) (by decide +kernel)
theorem tc_5 : ∀ x ∈ u_ws RX6 TX6 9, x ∈ TB := tb_all _ [201, 203, 205, 207, 209, 211, 213, 215, 217] (by decide +kernel) (by decide +kernel)
theorem tc_6 : ∀ x ∈ u_ws RX7 TX7 11, x ∈ TB := tb_all _ [128, 130, 132, 134, 136, 138, 140, 142, 144, 146, 148] (by decide +kernel) (by decide +kernel)
theorem tc_7 : ∀ x ∈ u_ws RX8 TX8 1, x ∈ TB := tb_all _ [228] (by decide +kernel) (by decide +kernel)
theorem tc_8 : ∀ x ∈ u_ws RX9 TX9 8, x ∈ TB := tb_all _ [295, 297, 299, 301, 303, 305, 307, 309] (by decide +kernel) (by decide +kernel)
theorem fl_X4_9 : FL RX4 9 3 0 := ⟨_, _, _, rfl, tc_3, by decide, (Or.inl (tb_i 63 (by decide +kernel) (by decide +kernel)))⟩
theorem fp_X4_9 : FP RX4 9 3 0 := ⟨_, _, _, tyX4, rfl, tc_3, by decide, (Or.inl (tb_i 63 (by decide +kernel) (by decide +kernel))), tyX4_ok, nmX4, rfl, by decide +kernel⟩
theorem fl_X2_60 : FL RX2 60 3 0 := ⟨_, _, _, rfl, tc_3, by decide, (Or.inr ⟨"Pathwarden", (tb_i 64 (by decide +kernel) (by decide +kernel))⟩)⟩
theorem fp_X2_60 : FP RX2 60 3 0 := ⟨_, _, _, tyX4, rfl, tc_3, by decide, (Or.inr ⟨"Pathwarden", (tb_i 64 (by decide +kernel) (by decide +kernel))⟩), tyX4_ok, nmX4, rfl, by decide +kernel⟩
theorem fl_X9_111 : FL RX9 111 3 0 := ⟨_, _, _, rfl, tc_3, by decide, (Or.inr ⟨"Pathwarden", (tb_i 65 (by decide +kernel) (by decide +kernel))⟩)⟩
theorem fp_X9_111 : FP RX9 111 3 0 := ⟨_, _, _, tyX4, rfl, tc_3, by decide, (Or.inr ⟨"Pathwarden", (tb_i 65 (by decide +kernel) (by decide +kernel))⟩), tyX4_ok, nmX4, rfl, by decide +kernel⟩
theorem fl_X4_15 : FL RX4 15 3 1 := ⟨_, _, _, rfl, tc_3, by decide, (Or.inl (tb_i 66 (by decide +kernel) (by decide +kernel)))⟩
theorem fp_X4_15 : FP RX4 15 3 1 := ⟨_, _, _, tyX4, rfl, tc_3, by decide, (Or.inl (tb_i 66 (by decide +kernel) (by decide +kernel))), tyX4_ok, nmX4, rfl, by decide +kernel⟩
theorem fl_X2_27 : FL RX2 27 3 1 := ⟨_, _, _, rfl, tc_3, by decide, (Or.inr ⟨"Pathwarden", (tb_i 67 (by decide +kernel) (by decide +kernel))⟩)⟩
theorem fp_X2_27 : FP RX2 27 3 1 := ⟨_, _, _, tyX4, rfl, tc_3, by decide, (Or.inr ⟨"Pathwarden", (tb_i 67 (by decide +kernel) (by decide +kernel))⟩), tyX4_ok, nmX4, rfl, by decide +kernel⟩
theorem fl_X9_77 : FL RX9 77 3 1 := ⟨_, _, _, rfl, tc_3, by decide, (Or.inr ⟨"Pathwarden", (tb_i 68 (by decide +kernel) (by decide +kernel))⟩)⟩
theorem fp_X9_77 : FP RX9 77 3 1 := ⟨_, _, _, tyX4, rfl, tc_3, by decide, (Or.inr ⟨"Pathwarden", (tb_i 68 (by decide +kernel) (by decide +kernel))⟩), tyX4_ok, nmX4, rfl, by decide +kernel⟩
theorem fl_X4_18 : FL RX4 18 3 2 := ⟨_, _, _, rfl, tc_3, by decide, (Or.inl (tb_i 69 (by decide +kernel) (by decide +kernel)))⟩
theorem fl_X2_88 : FL RX2 88 3 2 := ⟨_, _, _, rfl, tc_3, by decide, (Or.inr ⟨"Pathwarden", (tb_i 70 (by decide +kernel) (by decide +kernel))⟩)⟩
theorem fl_X4_22 : FL RX4 22 3 3 := ⟨_, _, _, rfl, tc_3, by decide, (Or.inl (tb_i 71 (by decide +kernel) (by decide +kernel)))⟩
theorem fl_X9_99 : FL RX9 99 3 3 := ⟨_, _, _, rfl, tc_3, by decide, (Or.inr ⟨"Pathwarden", (tb_i 72 (by decide +kernel) (by decide +kernel))⟩)⟩
theorem fl_X2_75 : FL RX2 75 3 3 := ⟨_, _, _, rfl, tc_3, by decide, (Or.inr ⟨"Pathwarden", (tb_i 73 (by decide +kernel) (by decide +kernel))⟩)⟩
theorem fl_X4_25 : FL RX4 25 3 4 := ⟨_, _, _, rfl, tc_3, by decide, (Or.inl (tb_i 74 (by decide +kernel) (by decide +kernel)))⟩
theorem fl_X9_108 : FL RX9 108 3 4 := ⟨_, _, _, rfl, tc_3, by decide, (Or.inr ⟨"Pathwarden", (tb_i 75 (by decide +kernel) (by decide +kernel))⟩)⟩
theorem fl_X2_69 : FL RX2 69 3 4 := ⟨_, _, _, rfl, tc_3, by decide, (Or.inr ⟨"Pathwarden", (tb_i 76 (by decide +kernel) (by decide +kernel))⟩)⟩
theorem fl_X4_28 : FL RX4 28 3 5 := ⟨_, _, _, rfl, tc_3, by decide, (Or.inl (tb_i 77 (by decide +kernel) (by decide +kernel)))⟩
theorem fl_X9_95 : FL RX9 95 3 5 := ⟨_, _, _, rfl, tc_3, by decide, (Or.inr ⟨"Pathwarden", (tb_i 78 (by decide +kernel) (by decide +kernel))⟩)⟩
theorem fl_X2_82 : FL RX2 82 3 5 := ⟨_, _, _, rfl, tc_3, by decide, (Or.inr ⟨"Pathwarden", (tb_i 79 (by decide +kernel) (by decide +kernel))⟩)⟩
theorem fl_X7_9 : FL RX7 9 6 0 := ⟨_, _, _, rfl, tc_6, by decide, (Or.inl (tb_i 100 (by decide +kernel) (by decide +kernel)))⟩
theorem fp_X7_9 : FP RX7 9 6 0 := ⟨_, _, _, tyX7, rfl, tc_6, by decide, (Or.inl (tb_i 100 (by decide +kernel) (by decide +kernel))), tyX7_ok, nmX7, rfl, by decide +kernel⟩
theorem fl_X2_33 : FL RX2 33 6 0 := ⟨_, _, _, rfl, tc_6, by decide, (Or.inr ⟨"Pathwarden", (tb_i 101 (by decide +kernel) (by decide +kernel))⟩)⟩
theorem fp_X2_33 : FP RX2 33 6 0 := ⟨_, _, _, tyX7, rfl, tc_6, by decide, (Or.inr ⟨"Pathwarden", (tb_i 101 (by decide +kernel) (by decide +kernel))⟩), tyX7_ok, nmX7, rfl, by decide +kernel⟩
theorem fl_X9_189 : FL RX9 189 6 0 := ⟨_, _, _, rfl, tc_6, by decide, (Or.inr ⟨"Pathwarden", (tb_i 102 (by decide +kernel) (by decide +kernel))⟩)⟩
theorem fp_X9_189 : FP RX9 189 6 0 := ⟨_, _, _, tyX7, rfl, tc_6, by decide, (Or.inr ⟨"Pathwarden", (tb_i 102 (by decide +kernel) (by decide +kernel))⟩), tyX7_ok, nmX7, rfl, by decide +kernel⟩
theorem fl_X7_15 : FL RX7 15 6 1 := ⟨_, _, _, rfl, tc_6, by decide, (Or.inl (tb_i 103 (by decide +kernel) (by decide +kernel)))⟩
theorem fl_X2_44 : FL RX2 44 6 1 := ⟨_, _, _, rfl, tc_6, by decide, (Or.inr ⟨"Pathwarden", (tb_i 104 (by decide +kernel) (by decide +kernel))⟩)⟩
theorem fl_X9_139 : FL RX9 139 6 1 := ⟨_, _, _, rfl, tc_6, by decide, (Or.inr ⟨"Pathwarden", (tb_i 105 (by decide +kernel) (by decide +kernel))⟩)⟩
theorem fl_X7_19 : FL RX7 19 6 2 := ⟨_, _, _, rfl, tc_6, by decide, (Or.inl (tb_i 106 (by decide +kernel) (by decide +kernel)))⟩
theorem fl_X2_57 : FL RX2 57 6 2 := ⟨_, _, _, rfl, tc_6, by decide, (Or.inr ⟨"Pathwarden", (tb_i 107 (by decide +kernel) (by decide +kernel))⟩)⟩
theorem fl_X9_289 : FL RX9 289 6 2 := ⟨_, _, _, rfl, tc_6, by decide, (Or.inr ⟨"Pathwarden", (tb_i 108 (by decide +kernel) (by decide +kernel))⟩)⟩
theorem fl_X7_22 : FL RX7 22 6 3 := ⟨_, _, _, rfl, tc_6, by decide, (Or.inl (tb_i 109 (by decide +kernel) (by decide +kernel)))⟩
theorem fl_X2_47 : FL RX2 47 6 3 := ⟨_, _, _, rfl, tc_6, by decide, (Or.inr ⟨"Pathwarden", (tb_i 110 (by decide +kernel) (by decide +kernel))⟩)⟩
theorem fl_X9_301 : FL RX9 301 6 3 := ⟨_, _, _, rfl, tc_6, by decide, (Or.inr ⟨"Pathwarden", (tb_i 111 (by decide +kernel) (by decide +kernel))⟩)⟩
theorem fl_X7_25 : FL RX7 25 6 4 := ⟨_, _, _, rfl, tc_6, by decide, (Or.inl (tb_i 112 (by decide +kernel) (by decide +kernel)))⟩
theorem fl_X2_91 : FL RX2 91 6 4 := ⟨_, _, _, rfl, tc_6, by decide, (Or.inr ⟨"Pathwarden", (tb_i 113 (by decide +kernel) (by decide +kernel))⟩)⟩
theorem fl_X7_28 : FL RX7 28 6 5 := ⟨_, _, _, rfl, tc_6, by decide, (Or.inl (tb_i 114 (by decide +kernel) (by decide +kernel)))⟩
theorem fl_X2_94 : FL RX2 94 6 5 := ⟨_, _, _, rfl, tc_6, by decide, (Or.inr ⟨"Pathwarden", (tb_i 115 (by decide +kernel) (by decide +kernel))⟩)⟩
theorem fl_X7_31 : FL RX7 31 6 6 := ⟨_, _, _, rfl, tc_6, by decide, (Or.inl (tb_i 116 (by decide +kernel) (by decide +kernel)))⟩
theorem fl_X9_144 : FL RX9 144 6 6 := ⟨_, _, _, rfl, tc_6, by decide, (Or.inr ⟨"Pathwarden", (tb_i 117 (by decide +kernel) (by decide +kernel))⟩)⟩
theorem fl_X2_120 : FL RX2 120 6 6 := ⟨_, _, _, rfl, tc_6, by decide, (Or.inr ⟨"Pathwarden", (tb_i 118 (by decide +kernel) (by decide +kernel))⟩)⟩
theorem fl_X7_34 : FL RX7 34 6 7 := ⟨_, _, _, rfl, tc_6, by decide, (Or.inl (tb_i 119 (by decide +kernel) (by decide +kernel)))⟩
theorem fl_X2_63 : FL RX2 63 6 7 := ⟨_, _, _, rfl, tc_6, by decide, (Or.inr ⟨"Pathwarden", (tb_i 120 (by decide +kernel) (by decide +kernel))⟩)⟩
theorem fl_X7_37 : FL RX7 37 6 8 := ⟨_, _, _, rfl, tc_6, by decide, (Or.inl (tb_i 121 (by decide +kernel) (by decide +kernel)))⟩
theorem fl_X2_72 : FL RX2 72 6 8 := ⟨_, _, _, rfl, tc_6, by decide, (Or.inr ⟨"Pathwarden", (tb_i 122 (by decide +kernel) (by decide +kernel))⟩)⟩
theorem fl_X9_295 : FL RX9 295 6 8 := ⟨_, _, _, rfl, tc_6, by decide, (Or.inr ⟨"Pathwarden", (tb_i 123 (by decide +kernel) (by decide +kernel))⟩)⟩
theorem fl_X7_40 : FL RX7 40 6 9 := ⟨_, _, _, rfl, tc_6, by decide, (Or.inl (tb_i 124 (by decide +kernel) (by decide +kernel)))⟩
theorem fl_X9_135 : FL RX9 135 6 9 := ⟨_, _, _, rfl, tc_6, by decide, (Or.inr ⟨"Pathwarden", (tb_i 125 (by decide +kernel) (by decide +kernel))⟩)⟩
theorem fl_X7_44 : FL RX7 44 6 10 := ⟨_, _, _, rfl, tc_6, by decide, (Or.inl (tb_i 126 (by decide +kernel) (by decide +kernel)))⟩
theorem fl_X2_66 : FL RX2 66 6 10 := ⟨_, _, _, rfl, tc_6, by decide, (Or.inr ⟨"Pathwarden", (tb_i 127 (by decide +kernel) (by decide +kernel))⟩)⟩
theorem fl_X2_19 : FL RX2 19 1 0 := ⟨_, _, _, rfl, tc_1, by decide, (Or.inl (tb_i 158 (by decide +kernel) (by decide +kernel)))⟩
theorem fl_X2_23 : FL RX2 23 1 1 := ⟨_, _, _, rfl, tc_1, by decide, (Or.inl (tb_i 159 (by decide +kernel) (by decide +kernel)))⟩
theorem fl_X2_9 : FL RX2 9 1 2 := ⟨_, _, _, rfl, tc_1, by decide, (Or.inl (tb_i 160 (by decide +kernel) (by decide +kernel)))⟩
theorem fl_X9_193 : FL RX9 193 1 2 := ⟨_, _, _, rfl, tc_1, by decide, (Or.inr ⟨"Pathwarden", (tb_i 161 (by decide +kernel) (by decide +kernel))⟩)⟩
theorem fl_X2_15 : FL RX2 15 1 3 := ⟨_, _, _, rfl, tc_1, by decide, (Or.inl (tb_i 162 (by decide +kernel) (by decide +kernel)))⟩
theorem fl_X6_9 : FL RX6 9 5 0 := ⟨_, _, _, rfl, tc_5, by decide, (Or.inl (tb_i 180 (by decide +kernel) (by decide +kernel)))⟩
theorem fp_X6_9 : FP RX6 9 5 0 := ⟨_, _, _, tyX6, rfl, tc_5, by decide, (Or.inl (tb_i 180 (by decide +kernel) (by decide +kernel))), tyX6_ok, nmX6, rfl, by decide +kernel⟩
theorem fl_X5_44 : FL RX5 44 5 0 := ⟨_, _, _, rfl, tc_5, by decide, (Or.inr ⟨"Pathwarden", (tb_i 181 (by decide +kernel) (by decide +kernel))⟩)⟩
theorem fp_X5_44 : FP RX5 44 5 0 := ⟨_, _, _, tyX6, rfl, tc_5, by decide, (Or.inr ⟨"Pathwarden", (tb_i 181 (by decide +kernel) (by decide +kernel))⟩), tyX6_ok, nmX6, rfl, by decide +kernel⟩
theorem fl_X9_158 : FL RX9 158 5 0 := ⟨_, _, _, rfl, tc_5, by decide, (Or.inr ⟨"Pathwarden", (tb_i 182 (by decide +kernel) (by decide +kernel))⟩)⟩
theorem fp_X9_158 : FP RX9 158 5 0 := ⟨_, _, _, tyX6, rfl, tc_5, by decide, (Or.inr ⟨"Pathwarden", (tb_i 182 (by decide +kernel) (by decide +kernel))⟩), tyX6_ok, nmX6, rfl, by decide +kernel⟩
theorem fl_X6_15 : FL RX6 15 5 1 := ⟨_, _, _, rfl, tc_5, by decide, (Or.inl (tb_i 183 (by decide +kernel) (by decide +kernel)))⟩
theorem fp_X6_15 : FP RX6 15 5 1 := ⟨_, _, _, tyX6, rfl, tc_5, by decide, (Or.inl (tb_i 183 (by decide +kernel) (by decide +kernel))), tyX6_ok, nmX6, rfl, by decide +kernel⟩
theorem fl_X9_175 : FL RX9 175 5 1 := ⟨_, _, _, rfl, tc_5, by decide, (Or.inr ⟨"Pathwarden", (tb_i 184 (by decide +kernel) (by decide +kernel))⟩)⟩
theorem fp_X9_175 : FP RX9 175 5 1 := ⟨_, _, _, tyX6, rfl, tc_5, by decide, (Or.inr ⟨"Pathwarden", (tb_i 184 (by decide +kernel) (by decide +kernel))⟩), tyX6_ok, nmX6, rfl, by decide +kernel⟩
theorem fl_X6_18 : FL RX6 18 5 2 := ⟨_, _, _, rfl, tc_5, by decide, (Or.inl (tb_i 185 (by decide +kernel) (by decide +kernel)))⟩
theorem fp_X6_18 : FP RX6 18 5 2 := ⟨_, _, _, tyX6, rfl, tc_5, by decide, (Or.inl (tb_i 185 (by decide +kernel) (by decide +kernel))), tyX6_ok, nmX6, rfl, by decide +kernel⟩
theorem fl_X9_150 : FL RX9 150 5 2 := ⟨_, _, _, rfl, tc_5, by decide, (Or.inr ⟨"Pathwarden", (tb_i 186 (by decide +kernel) (by decide +kernel))⟩)⟩
theorem fp_X9_150 : FP RX9 150 5 2 := ⟨_, _, _, tyX6, rfl, tc_5, by decide, (Or.inr ⟨"Pathwarden", (tb_i 186 (by decide +kernel) (by decide +kernel))⟩), tyX6_ok, nmX6, rfl, by decide +kernel⟩
theorem fl_X6_21 : FL RX6 21 5 3 := ⟨_, _, _, rfl, tc_5, by decide, (Or.inl (tb_i 187 (by decide +kernel) (by decide +kernel)))⟩
theorem fl_X9_155 : FL RX9 155 5 3 := ⟨_, _, _, rfl, tc_5, by decide, (Or.inr ⟨"Pathwarden", (tb_i 188 (by decide +kernel) (by decide +kernel))⟩)⟩
theorem fl_X6_27 : FL RX6 27 5 4 := ⟨_, _, _, rfl, tc_5, by decide, (Or.inl (tb_i 189 (by decide +kernel) (by decide +kernel)))⟩
theorem fl_X5_53 : FL RX5 53 5 4 := ⟨_, _, _, rfl, tc_5, by decide, (Or.inr ⟨"Pathwarden", (tb_i 190 (by decide +kernel) (by decide +kernel))⟩)⟩
theorem fl_X9_213 : FL RX9 213 5 4 := ⟨_, _, _, rfl, tc_5, by decide, (Or.inr ⟨"Pathwarden", (tb_i 191 (by decide +kernel) (by decide +kernel))⟩)⟩
theorem fl_X6_30 : FL RX6 30 5 5 := ⟨_, _, _, rfl, tc_5, by decide, (Or.inl (tb_i 192 (by decide +kernel) (by decide +kernel)))⟩
theorem fl_X5_56 : FL RX5 56 5 5 := ⟨_, _, _, rfl, tc_5, by decide, (Or.inr ⟨"Pathwarden", (tb_i 193 (by decide +kernel) (by decide +kernel))⟩)⟩
theorem fl_X9_217 : FL RX9 217 5 5 := ⟨_, _, _, rfl, tc_5, by decide, (Or.inr ⟨"Pathwarden", (tb_i 194 (by decide +kernel) (by decide +kernel))⟩)⟩
theorem fl_X6_33 : FL RX6 33 5 6 := ⟨_, _, _, rfl, tc_5, by decide, (Or.inl (tb_i 195 (by decide +kernel) (by decide +kernel)))⟩
theorem fl_X9_230 : FL RX9 230 5 6 := ⟨_, _, _, rfl, tc_5, by decide, (Or.inr ⟨"Pathwarden", (tb_i 196 (by decide +kernel) (by decide +kernel))⟩)⟩
theorem fl_X6_36 : FL RX6 36 5 7 := ⟨_, _, _, rfl, tc_5, by decide, (Or.inl (tb_i 197 (by decide +kernel) (by decide +kernel)))⟩
theorem fl_X9_233 : FL RX9 233 5 7 := ⟨_, _, _, rfl, tc_5, by decide, (Or.inr ⟨"Pathwarden", (tb_i 198 (by decide +kernel) (by decide +kernel))⟩)⟩
theorem fl_X6_39 : FL RX6 39 5 8 := ⟨_, _, _, rfl, tc_5, by decide, (Or.inl (tb_i 199 (by decide +kernel) (by decide +kernel)))⟩
theorem fl_X9_170 : FL RX9 170 5 8 := ⟨_, _, _, rfl, tc_5, by decide, (Or.inr ⟨"Pathwarden", (tb_i 200 (by decide +kernel) (by decide +kernel))⟩)⟩
theorem fl_X8_11 : FL RX8 11 7 0 := ⟨_, _, _, rfl, tc_7, by decide, (Or.inl (tb_i 227 (by decide +kernel) (by decide +kernel)))⟩
theorem fl_X3_18 : FL RX3 18 2 0 := ⟨_, _, _, rfl, tc_2, by decide, (Or.inl (tb_i 237 (by decide +kernel) (by decide +kernel)))⟩
theorem fl_X3_9 : FL RX3 9 2 1 := ⟨_, _, _, rfl, tc_2, by decide, (Or.inl (tb_i 238 (by decide +kernel) (by decide +kernel)))⟩
theorem fl_X3_15 : FL RX3 15 2 2 := ⟨_, _, _, rfl, tc_2, by decide, (Or.inl (tb_i 239 (by decide +kernel) (by decide +kernel)))⟩
theorem fl_X0_15 : FL RX0 15 0 0 := ⟨_, _, _, rfl, tc_0, by decide, (Or.inl (tb_i 253 (by decide +kernel) (by decide +kernel)))⟩
theorem fl_X0_19 : FL RX0 19 0 1 := ⟨_, _, _, rfl, tc_0, by decide, (Or.inl (tb_i 254 (by decide +kernel) (by decide +kernel)))⟩
theorem fl_X0_9 : FL RX0 9 0 2 := ⟨_, _, _, rfl, tc_0, by decide, (Or.inl (tb_i 255 (by decide +kernel) (by decide +kernel)))⟩
theorem fl_X5_27 : FL RX5 27 4 0 := ⟨_, _, _, rfl, tc_4, by decide, (Or.inl (tb_i 270 (by decide +kernel) (by decide +kernel)))⟩
theorem fl_X5_9 : FL RX5 9 4 1 := ⟨_, _, _, rfl, tc_4, by decide, (Or.inl (tb_i 271 (by decide +kernel) (by decide +kernel)))⟩
theorem fp_X5_9 : FP RX5 9 4 1 := ⟨_, _, _, tyX5, rfl, tc_4, by decide, (Or.inl (tb_i 271 (by decide +kernel) (by decide +kernel))), tyX5_ok, nmX5, rfl, by decide +kernel⟩
theorem fl_X9_254 : FL RX9 254 4 1 := ⟨_, _, _, rfl, tc_4, by decide, (Or.inr ⟨"Pathwarden", (tb_i 272 (by decide +kernel) (by decide +kernel))⟩)⟩
theorem fp_X9_254 : FP RX9 254 4 1 := ⟨_, _, _, tyX5, rfl, tc_4, by decide, (Or.inr ⟨"Pathwarden", (tb_i 272 (by decide +kernel) (by decide +kernel))⟩), tyX5_ok, nmX5, rfl, by decide +kernel⟩
theorem fl_X5_15 : FL RX5 15 4 2 := ⟨_, _, _, rfl, tc_4, by decide, (Or.inl (tb_i 273 (by decide +kernel) (by decide +kernel)))⟩
theorem fl_X5_21 : FL RX5 21 4 3 := ⟨_, _, _, rfl, tc_4, by decide, (Or.inl (tb_i 274 (by decide +kernel) (by decide +kernel)))⟩
theorem fl_X5_24 : FL RX5 24 4 4 := ⟨_, _, _, rfl, tc_4, by decide, (Or.inl (tb_i 275 (by decide +kernel) (by decide +kernel)))⟩
theorem fl_X9_10 : FL RX9 10 8 0 := ⟨_, _, _, rfl, tc_8, by decide, (Or.inl (tb_i 287 (by decide +kernel) (by decide +kernel)))⟩
theorem fl_X9_19 : FL RX9 19 8 1 := ⟨_, _, _, rfl, tc_8, by decide, (Or.inl (tb_i 288 (by decide +kernel) (by decide +kernel)))⟩
theorem fl_X9_28 : FL RX9 28 8 2 := ⟨_, _, _, rfl, tc_8, by decide, (Or.inl (tb_i 289 (by decide +kernel) (by decide +kernel)))⟩
theorem fl_X9_35 : FL RX9 35 8 3 := ⟨_, _, _, rfl, tc_8, by decide, (Or.inl (tb_i 290 (by decide +kernel) (by decide +kernel)))⟩
theorem fl_X9_42 : FL RX9 42 8 4 := ⟨_, _, _, rfl, tc_8, by decide, (Or.inl (tb_i 291 (by decide +kernel) (by decide +kernel)))⟩
theorem fl_X9_51 : FL RX9 51 8 5 := ⟨_, _, _, rfl, tc_8, by decide, (Or.inl (tb_i 292 (by decide +kernel) (by decide +kernel)))⟩
theorem fl_X9_60 : FL RX9 60 8 6 := ⟨_, _, _, rfl, tc_8, by decide, (Or.inl (tb_i 293 (by decide +kernel) (by decide +kernel)))⟩
theorem fl_X9_69 : FL RX9 69 8 7 := ⟨_, _, _, rfl, tc_8, by decide, (Or.inl (tb_i 294 (by decide +kernel) (by decide +kernel)))⟩
theorem mi_L_77 : MI RL 77 yX9_holder cX9_holder 2 (some .int) 1 := ⟨⟨(Or.inl (tb_i 312 (by decide +kernel) (by decide +kernel))), (tb_i 315 (by decide +kernel) (by decide +kernel)), (tb_i 32 (by decide +kernel) (by decide +kernel)), by decide +kernel⟩, (tb_i 313 (by decide +kernel) (by decide +kernel)), (tb_i 314 (by decide +kernel) (by decide +kernel))⟩
theorem mi_X9_73 : MI RX9 73 yX9_needHolder cX9_needHolder 2 none 1 := ⟨⟨(Or.inl (tb_i 316 (by decide +kernel) (by decide +kernel))), (tb_i 319 (by decide +kernel) (by decide +kernel)), (tb_i 32 (by decide +kernel) (by decide +kernel)), by decide +kernel⟩, (tb_i 318 (by decide +kernel) (by decide +kernel)), (tb_i 0 (by decide +kernel) (by decide +kernel))⟩
theorem mi_X9_88 : MI RX9 88 yX4_add cX4_add 3 (some .int) 1 := ⟨⟨(Or.inl (tb_i 404 (by decide +kernel) (by decide +kernel))), (tb_i 407 (by decide +kernel) (by decide +kernel)), (tb_i 33 (by decide +kernel) (by decide +kernel)), by decide +kernel⟩, (tb_i 405 (by decide +kernel) (by decide +kernel)), (tb_i 406 (by decide +kernel) (by decide +kernel))⟩
theorem mi_L_80 : MI RL 80 yX9_belong cX9_belong 4 (some .int) 2 := ⟨⟨(Or.inl (tb_i 408 (by decide +kernel) (by decide +kernel))), (tb_i 411 (by decide +kernel) (by decide +kernel)), (tb_i 32 (by decide +kernel) (by decide +kernel)), by decide +kernel⟩, (tb_i 409 (by decide +kernel) (by decide +kernel)), (tb_i 410 (by decide +kernel) (by decide +kernel))⟩
theorem ms_X9_92 : MS RX9 92 yX9_needNet cX9_needNet 1 none 1 := ⟨⟨(Or.inl (tb_i 412 (by decide +kernel) (by decide +kernel))), (tb_i 414 (by decide +kernel) (by decide +kernel)), (tb_i 32 (by decide +kernel) (by decide +kernel)), by decide +kernel⟩, (tb_i 413 (by decide +kernel) (by decide +kernel))⟩
theorem mi_L_103 : MI RL 103 yX9_publish cX9_publish 3 (some .int) 2 := ⟨⟨(Or.inl (tb_i 416 (by decide +kernel) (by decide +kernel))), (tb_i 419 (by decide +kernel) (by decide +kernel)), (tb_i 32 (by decide +kernel) (by decide +kernel)), by decide +kernel⟩, (tb_i 417 (by decide +kernel) (by decide +kernel)), (tb_i 418 (by decide +kernel) (by decide +kernel))⟩
theorem ms_X9_104 : MS RX9 104 yX9_needRange cX9_needRange 3 none 3 := ⟨⟨(Or.inl (tb_i 420 (by decide +kernel) (by decide +kernel))), (tb_i 422 (by decide +kernel) (by decide +kernel)), (tb_i 32 (by decide +kernel) (by decide +kernel)), by decide +kernel⟩, (tb_i 421 (by decide +kernel) (by decide +kernel))⟩
theorem mi_X9_114 : MI RX9 114 yX7_listRevokedOf cX7_listRevokedOf 4 (some .int) 1 := ⟨⟨(Or.inl (tb_i 439 (by decide +kernel) (by decide +kernel))), (tb_i 442 (by decide +kernel) (by decide +kernel)), (tb_i 34 (by decide +kernel) (by decide +kernel)), by decide +kernel⟩, (tb_i 440 (by decide +kernel) (by decide +kernel)), (tb_i 441 (by decide +kernel) (by decide +kernel))⟩
theorem mi_L_109 : MI RL 109 yX9_pass cX9_pass 2 (some .int) 1 := ⟨⟨(Or.inl (tb_i 443 (by decide +kernel) (by decide +kernel))), (tb_i 446 (by decide +kernel) (by decide +kernel)), (tb_i 32 (by decide +kernel) (by decide +kernel)), by decide +kernel⟩, (tb_i 444 (by decide +kernel) (by decide +kernel)), (tb_i 445 (by decide +kernel) (by decide +kernel))⟩
theorem mi_L_83 : MI RL 83 yX9_grant cX9_grant 6 (some .int) 5 := ⟨⟨(Or.inl (tb_i 448 (by decide +kernel) (by decide +kernel))), (tb_i 451 (by decide +kernel) (by decide +kernel)), (tb_i 32 (by decide +kernel) (by decide +kernel)), by decide +kernel⟩, (tb_i 449 (by decide +kernel) (by decide +kernel)), (tb_i 450 (by decide +kernel) (by decide +kernel))⟩
theorem ms_X9_119 : MS RX9 119 yX9_needBlock cX9_needBlock 2 none 2 := ⟨⟨(Or.inl (tb_i 452 (by decide +kernel) (by decide +kernel))), (tb_i 454 (by decide +kernel) (by decide +kernel)), (tb_i 32 (by decide +kernel) (by decide +kernel)), by decide +kernel⟩, (tb_i 453 (by decide +kernel) (by decide +kernel))⟩
theorem ms_X9_280 : MS RX9 280 yX1_hasOthersThanFirstBits cX1_hasOthersThanFirstBits 2 (some .boolean) 2 := ⟨⟨(Or.inl (tb_i 455 (by decide +kernel) (by decide +kernel))), (tb_i 457 (by decide +kernel) (by decide +kernel)), (tb_i 46 (by decide +kernel) (by decide +kernel)), by decide +kernel⟩, (tb_i 456 (by decide +kernel) (by decide +kernel))⟩
theorem mi_X9_123 : MI RX9 123 yX9_needRoomForObject cX9_needRoomForObject 1 none 0 := ⟨⟨(Or.inl (tb_i 459 (by decide +kernel) (by decide +kernel))), (tb_i 462 (by decide +kernel) (by decide +kernel)), (tb_i 32 (by decide +kernel) (by decide +kernel)), by decide +kernel⟩, (tb_i 461 (by decide +kernel) (by decide +kernel)), (tb_i 2 (by decide +kernel) (by decide +kernel))⟩
theorem mi_X9_126 : MI RX9 126 yX7_add cX7_add 9 (some .int) 7 := ⟨⟨(Or.inl (tb_i 464 (by decide +kernel) (by decide +kernel))), (tb_i 467 (by decide +kernel) (by decide +kernel)), (tb_i 34 (by decide +kernel) (by decide +kernel)), by decide +kernel⟩, (tb_i 465 (by decide +kernel) (by decide +kernel)), (tb_i 466 (by decide +kernel) (by decide +kernel))⟩
theorem mi_X9_129 : MI RX9 129 yX9_keep cX9_keep 2 (some .int) 1 := ⟨⟨(Or.inl (tb_i 468 (by decide +kernel) (by decide +kernel))), (tb_i 471 (by decide +kernel) (by decide +kernel)), (tb_i 32 (by decide +kernel) (by decide +kernel)), by decide +kernel⟩, (tb_i 470 (by decide +kernel) (by decide +kernel)), (tb_i 3 (by decide +kernel) (by decide +kernel))⟩
theorem mi_X9_147 : MI RX9 147 yX9_putSignature cX9_putSignature 3 (some .int) 1 := ⟨⟨(Or.inl (tb_i 472 (by decide +kernel) (by decide +kernel))), (tb_i 475 (by decide +kernel) (by decide +kernel)), (tb_i 32 (by decide +kernel) (by decide +kernel)), by decide +kernel⟩, (tb_i 474 (by decide +kernel) (by decide +kernel)), (tb_i 4 (by decide +kernel) (by decide +kernel))⟩
theorem mi_X9_292 : MI RX9 292 yX7_signatureBy cX7_signatureBy 5 (some .int) 2 := ⟨⟨(Or.inl (tb_i 476 (by decide +kernel) (by decide +kernel))), (tb_i 479 (by decide +kernel) (by decide +kernel)), (tb_i 34 (by decide +kernel) (by decide +kernel)), by decide +kernel⟩, (tb_i 477 (by decide +kernel) (by decide +kernel)), (tb_i 478 (by decide +kernel) (by decide +kernel))⟩
theorem ms_X7_47 : MS RX7 47 yX7_mix cX7_mix 2 (some .int) 2 := ⟨⟨(Or.inl (tb_i 480 (by decide +kernel) (by decide +kernel))), (tb_i 482 (by decide +kernel) (by decide +kernel)), (tb_i 34 (by decide +kernel) (by decide +kernel)), by decide +kernel⟩, (tb_i 481 (by decide +kernel) (by decide +kernel))⟩
theorem mi_L_87 : MI RL 87 yX9_origin cX9_origin 7 (some .int) 6 := ⟨⟨(Or.inl (tb_i 484 (by decide +kernel) (by decide +kernel))), (tb_i 487 (by decide +kernel) (by decide +kernel)), (tb_i 32 (by decide +kernel) (by decide +kernel)), by decide +kernel⟩, (tb_i 485 (by decide +kernel) (by decide +kernel)), (tb_i 486 (by decide +kernel) (by decide +kernel))⟩
theorem mi_L_91 : MI RL 91 yX9_vouch cX9_vouch 5 (some .int) 4 := ⟨⟨(Or.inl (tb_i 488 (by decide +kernel) (by decide +kernel))), (tb_i 491 (by decide +kernel) (by decide +kernel)), (tb_i 32 (by decide +kernel) (by decide +kernel)), by decide +kernel⟩, (tb_i 489 (by decide +kernel) (by decide +kernel)), (tb_i 490 (by decide +kernel) (by decide +kernel))⟩
theorem mi_L_99 : MI RL 99 yX9_revoke cX9_revoke 3 (some .boolean) 1 := ⟨⟨(Or.inl (tb_i 492 (by decide +kernel) (by decide +kernel))), (tb_i 495 (by decide +kernel) (by decide +kernel)), (tb_i 32 (by decide +kernel) (by decide +kernel)), by decide +kernel⟩, (tb_i 493 (by decide +kernel) (by decide +kernel)), (tb_i 494 (by decide +kernel) (by decide +kernel))⟩
theorem mi_X9_132 : MI RX9 132 yX9_needObject cX9_needObject 2 none 1 := ⟨⟨(Or.inl (tb_i 496 (by decide +kernel) (by decide +kernel))), (tb_i 499 (by decide +kernel) (by decide +kernel)), (tb_i 32 (by decide +kernel) (by decide +kernel)), by decide +kernel⟩, (tb_i 498 (by decide +kernel) (by decide +kernel)), (tb_i 5 (by decide +kernel) (by decide +kernel))⟩
theorem mi_L_95 : MI RL 95 yX9_sign cX9_sign 2 (some .int) 1 := ⟨⟨(Or.inl (tb_i 501 (by decide +kernel) (by decide +kernel))), (tb_i 504 (by decide +kernel) (by decide +kernel)), (tb_i 32 (by decide +kernel) (by decide +kernel)), by decide +kernel⟩, (tb_i 502 (by decide +kernel) (by decide +kernel)), (tb_i 503 (by decide +kernel) (by decide +kernel))⟩
theorem mi_L_112 : MI RL 112 yX9_hop cX9_hop 2 (some .int) 1 := ⟨⟨(Or.inl (tb_i 505 (by decide +kernel) (by decide +kernel))), (tb_i 508 (by decide +kernel) (by decide +kernel)), (tb_i 32 (by decide +kernel) (by decide +kernel)), by decide +kernel⟩, (tb_i 506 (by decide +kernel) (by decide +kernel)), (tb_i 507 (by decide +kernel) (by decide +kernel))⟩
theorem mi_L_115 : MI RL 115 yX9_hear cX9_hear 3 (some .int) 2 := ⟨⟨(Or.inl (tb_i 510 (by decide +kernel) (by decide +kernel))), (tb_i 513 (by decide +kernel) (by decide +kernel)), (tb_i 32 (by decide +kernel) (by decide +kernel)), by decide +kernel⟩, (tb_i 511 (by decide +kernel) (by decide +kernel)), (tb_i 512 (by decide +kernel) (by decide +kernel))⟩
theorem mi_X9_161 : MI RX9 161 yX6_addDraft cX6_addDraft 6 (some .int) 2 := ⟨⟨(Or.inl (tb_i 515 (by decide +kernel) (by decide +kernel))), (tb_i 518 (by decide +kernel) (by decide +kernel)), (tb_i 36 (by decide +kernel) (by decide +kernel)), by decide +kernel⟩, (tb_i 516 (by decide +kernel) (by decide +kernel)), (tb_i 517 (by decide +kernel) (by decide +kernel))⟩
theorem mi_L_121 : MI RL 121 yX9_tie cX9_tie 5 (some .int) 3 := ⟨⟨(Or.inl (tb_i 519 (by decide +kernel) (by decide +kernel))), (tb_i 522 (by decide +kernel) (by decide +kernel)), (tb_i 32 (by decide +kernel) (by decide +kernel)), by decide +kernel⟩, (tb_i 520 (by decide +kernel) (by decide +kernel)), (tb_i 521 (by decide +kernel) (by decide +kernel))⟩
theorem mi_X9_183 : MI RX9 183 yX8_between cX8_between 3 (some .int) 2 := ⟨⟨(Or.inl (tb_i 524 (by decide +kernel) (by decide +kernel))), (tb_i 527 (by decide +kernel) (by decide +kernel)), (tb_i 37 (by decide +kernel) (by decide +kernel)), by decide +kernel⟩, (tb_i 525 (by decide +kernel) (by decide +kernel)), (tb_i 526 (by decide +kernel) (by decide +kernel))⟩
theorem mi_X9_186 : MI RX9 186 yX8_tell cX8_tell 4 none 3 := ⟨⟨(Or.inl (tb_i 528 (by decide +kernel) (by decide +kernel))), (tb_i 531 (by decide +kernel) (by decide +kernel)), (tb_i 37 (by decide +kernel) (by decide +kernel)), by decide +kernel⟩, (tb_i 529 (by decide +kernel) (by decide +kernel)), (tb_i 530 (by decide +kernel) (by decide +kernel))⟩
theorem ms_X8_16 : MS RX8 16 yX8_turned cX8_turned 1 (some .int) 1 := ⟨⟨(Or.inl (tb_i 532 (by decide +kernel) (by decide +kernel))), (tb_i 534 (by decide +kernel) (by decide +kernel)), (tb_i 37 (by decide +kernel) (by decide +kernel)), by decide +kernel⟩, (tb_i 533 (by decide +kernel) (by decide +kernel))⟩
theorem mi_L_106 : MI RL 106 yX9_today cX9_today 1 (some .int) 0 := ⟨⟨(Or.inl (tb_i 535 (by decide +kernel) (by decide +kernel))), (tb_i 538 (by decide +kernel) (by decide +kernel)), (tb_i 32 (by decide +kernel) (by decide +kernel)), by decide +kernel⟩, (tb_i 536 (by decide +kernel) (by decide +kernel)), (tb_i 537 (by decide +kernel) (by decide +kernel))⟩
theorem mi_L_47 : MI RL 47 yX9_judged cX9_judged 2 (some .int) 1 := ⟨⟨(Or.inl (tb_i 539 (by decide +kernel) (by decide +kernel))), (tb_i 542 (by decide +kernel) (by decide +kernel)), (tb_i 32 (by decide +kernel) (by decide +kernel)), by decide +kernel⟩, (tb_i 540 (by decide +kernel) (by decide +kernel)), (tb_i 541 (by decide +kernel) (by decide +kernel))⟩
theorem mi_X9_190 : MI RX9 190 yX2_judgeAll cX2_judgeAll 3 none 0 := ⟨⟨(Or.inl (tb_i 543 (by decide +kernel) (by decide +kernel))), (tb_i 546 (by decide +kernel) (by decide +kernel)), (tb_i 35 (by decide +kernel) (by decide +kernel)), by decide +kernel⟩, (tb_i 544 (by decide +kernel) (by decide +kernel)), (tb_i 545 (by decide +kernel) (by decide +kernel))⟩
theorem mi_X2_36 : MI RX2 36 yX2_isGrantTo cX2_isGrantTo 3 (some .boolean) 2 := ⟨⟨(Or.inl (tb_i 547 (by decide +kernel) (by decide +kernel))), (tb_i 550 (by decide +kernel) (by decide +kernel)), (tb_i 35 (by decide +kernel) (by decide +kernel)), by decide +kernel⟩, (tb_i 549 (by decide +kernel) (by decide +kernel)), (tb_i 6 (by decide +kernel) (by decide +kernel))⟩
theorem mi_X2_40 : MI RX2 40 yX2_judgeOne cX2_judgeOne 3 (some .int) 1 := ⟨⟨(Or.inl (tb_i 551 (by decide +kernel) (by decide +kernel))), (tb_i 554 (by decide +kernel) (by decide +kernel)), (tb_i 35 (by decide +kernel) (by decide +kernel)), by decide +kernel⟩, (tb_i 553 (by decide +kernel) (by decide +kernel)), (tb_i 7 (by decide +kernel) (by decide +kernel))⟩
theorem mi_X2_50 : MI RX2 50 yX2_faultOfItsOwn cX2_faultOfItsOwn 3 (some .int) 1 := ⟨⟨(Or.inl (tb_i 555 (by decide +kernel) (by decide +kernel))), (tb_i 558 (by decide +kernel) (by decide +kernel)), (tb_i 35 (by decide +kernel) (by decide +kernel)), by decide +kernel⟩, (tb_i 557 (by decide +kernel) (by decide +kernel)), (tb_i 8 (by decide +kernel) (by decide +kernel))⟩
theorem mi_X2_78 : MI RX2 78 yX7_signatureBy cX7_signatureBy 5 (some .int) 2 := ⟨⟨(Or.inl (tb_i 559 (by decide +kernel) (by decide +kernel))), (tb_i 479 (by decide +kernel) (by decide +kernel)), (tb_i 34 (by decide +kernel) (by decide +kernel)), by decide +kernel⟩, (tb_i 477 (by decide +kernel) (by decide +kernel)), (tb_i 478 (by decide +kernel) (by decide +kernel))⟩
theorem mi_X2_53 : MI RX2 53 yX2_isOutside cX2_isOutside 4 (some .boolean) 1 := ⟨⟨(Or.inl (tb_i 560 (by decide +kernel) (by decide +kernel))), (tb_i 563 (by decide +kernel) (by decide +kernel)), (tb_i 35 (by decide +kernel) (by decide +kernel)), by decide +kernel⟩, (tb_i 562 (by decide +kernel) (by decide +kernel)), (tb_i 9 (by decide +kernel) (by decide +kernel))⟩
theorem mi_X2_85 : MI RX2 85 yX2_holdsAnything cX2_holdsAnything 4 (some .boolean) 1 := ⟨⟨(Or.inl (tb_i 564 (by decide +kernel) (by decide +kernel))), (tb_i 567 (by decide +kernel) (by decide +kernel)), (tb_i 35 (by decide +kernel) (by decide +kernel)), by decide +kernel⟩, (tb_i 566 (by decide +kernel) (by decide +kernel)), (tb_i 10 (by decide +kernel) (by decide +kernel))⟩
theorem mi_X2_101 : MI RX2 101 yX2_isGoodGrantTo cX2_isGoodGrantTo 3 (some .boolean) 2 := ⟨⟨(Or.inl (tb_i 568 (by decide +kernel) (by decide +kernel))), (tb_i 571 (by decide +kernel) (by decide +kernel)), (tb_i 35 (by decide +kernel) (by decide +kernel)), by decide +kernel⟩, (tb_i 570 (by decide +kernel) (by decide +kernel)), (tb_i 11 (by decide +kernel) (by decide +kernel))⟩
theorem mi_X2_97 : MI RX2 97 yX2_holds cX2_holds 6 (some .boolean) 3 := ⟨⟨(Or.inl (tb_i 572 (by decide +kernel) (by decide +kernel))), (tb_i 575 (by decide +kernel) (by decide +kernel)), (tb_i 35 (by decide +kernel) (by decide +kernel)), by decide +kernel⟩, (tb_i 573 (by decide +kernel) (by decide +kernel)), (tb_i 574 (by decide +kernel) (by decide +kernel))⟩
theorem mi_X2_104 : MI RX2 104 yX7_covers cX7_covers 4 (some .boolean) 3 := ⟨⟨(Or.inl (tb_i 576 (by decide +kernel) (by decide +kernel))), (tb_i 579 (by decide +kernel) (by decide +kernel)), (tb_i 34 (by decide +kernel) (by decide +kernel)), by decide +kernel⟩, (tb_i 577 (by decide +kernel) (by decide +kernel)), (tb_i 578 (by decide +kernel) (by decide +kernel))⟩
theorem ms_X7_52 : MS RX7 52 yX1_liesIn cX1_liesIn 5 (some .boolean) 4 := ⟨⟨(Or.inl (tb_i 580 (by decide +kernel) (by decide +kernel))), (tb_i 582 (by decide +kernel) (by decide +kernel)), (tb_i 46 (by decide +kernel) (by decide +kernel)), by decide +kernel⟩, (tb_i 581 (by decide +kernel) (by decide +kernel))⟩
theorem mi_L_40 : MI RL 40 yX9_has cX9_has 4 (some .boolean) 3 := ⟨⟨(Or.inl (tb_i 583 (by decide +kernel) (by decide +kernel))), (tb_i 586 (by decide +kernel) (by decide +kernel)), (tb_i 32 (by decide +kernel) (by decide +kernel)), by decide +kernel⟩, (tb_i 584 (by decide +kernel) (by decide +kernel)), (tb_i 585 (by decide +kernel) (by decide +kernel))⟩
theorem mi_X9_196 : MI RX9 196 yX2_holds cX2_holds 6 (some .boolean) 3 := ⟨⟨(Or.inl (tb_i 587 (by decide +kernel) (by decide +kernel))), (tb_i 575 (by decide +kernel) (by decide +kernel)), (tb_i 35 (by decide +kernel) (by decide +kernel)), by decide +kernel⟩, (tb_i 573 (by decide +kernel) (by decide +kernel)), (tb_i 574 (by decide +kernel) (by decide +kernel))⟩
theorem mi_L_118 : MI RL 118 yX9_routes cX9_routes 1 (some .int) 0 := ⟨⟨(Or.inl (tb_i 588 (by decide +kernel) (by decide +kernel))), (tb_i 591 (by decide +kernel) (by decide +kernel)), (tb_i 32 (by decide +kernel) (by decide +kernel)), by decide +kernel⟩, (tb_i 589 (by decide +kernel) (by decide +kernel)), (tb_i 590 (by decide +kernel) (by decide +kernel))⟩
theorem mi_L_124 : MI RL 124 yX9_allowed cX9_allowed 3 (some .int) 2 := ⟨⟨(Or.inl (tb_i 592 (by decide +kernel) (by decide +kernel))), (tb_i 595 (by decide +kernel) (by decide +kernel)), (tb_i 32 (by decide +kernel) (by decide +kernel)), by decide +kernel⟩, (tb_i 593 (by decide +kernel) (by decide +kernel)), (tb_i 594 (by decide +kernel) (by decide +kernel))⟩
theorem mi_X9_244 : MI RX9 244 yX0_countTo cX0_countTo 3 (some .int) 2 := ⟨⟨(Or.inl (tb_i 596 (by decide +kernel) (by decide +kernel))), (tb_i 599 (by decide +kernel) (by decide +kernel)), (tb_i 39 (by decide +kernel) (by decide +kernel)), by decide +kernel⟩, (tb_i 597 (by decide +kernel) (by decide +kernel)), (tb_i 598 (by decide +kernel) (by decide +kernel))⟩
theorem mi_X0_23 : MI RX0 23 yX0_countOnwards cX0_countOnwards 6 (some .int) 3 := ⟨⟨(Or.inl (tb_i 600 (by decide +kernel) (by decide +kernel))), (tb_i 603 (by decide +kernel) (by decide +kernel)), (tb_i 39 (by decide +kernel) (by decide +kernel)), by decide +kernel⟩, (tb_i 602 (by decide +kernel) (by decide +kernel)), (tb_i 12 (by decide +kernel) (by decide +kernel))⟩
theorem ms_X0_27 : MS RX0 27 yX9_isIn cX9_isIn 2 (some .boolean) 2 := ⟨⟨(Or.inr ⟨"Pathwarden", (tb_i 604 (by decide +kernel) (by decide +kernel))⟩), (tb_i 606 (by decide +kernel) (by decide +kernel)), (tb_i 32 (by decide +kernel) (by decide +kernel)), by decide +kernel⟩, (tb_i 605 (by decide +kernel) (by decide +kernel))⟩
theorem mi_X0_31 : MI RX0 31 yX0_mayGoOn cX0_mayGoOn 4 (some .boolean) 2 := ⟨⟨(Or.inl (tb_i 607 (by decide +kernel) (by decide +kernel))), (tb_i 610 (by decide +kernel) (by decide +kernel)), (tb_i 39 (by decide +kernel) (by decide +kernel)), by decide +kernel⟩, (tb_i 609 (by decide +kernel) (by decide +kernel)), (tb_i 13 (by decide +kernel) (by decide +kernel))⟩
theorem mi_X0_44 : MI RX0 44 yX8_areTied cX8_areTied 3 (some .boolean) 2 := ⟨⟨(Or.inl (tb_i 611 (by decide +kernel) (by decide +kernel))), (tb_i 614 (by decide +kernel) (by decide +kernel)), (tb_i 37 (by decide +kernel) (by decide +kernel)), by decide +kernel⟩, (tb_i 612 (by decide +kernel) (by decide +kernel)), (tb_i 613 (by decide +kernel) (by decide +kernel))⟩
theorem mi_X0_49 : MI RX0 49 yX8_hasCustomer cX8_hasCustomer 4 (some .boolean) 3 := ⟨⟨(Or.inl (tb_i 615 (by decide +kernel) (by decide +kernel))), (tb_i 618 (by decide +kernel) (by decide +kernel)), (tb_i 37 (by decide +kernel) (by decide +kernel)), by decide +kernel⟩, (tb_i 616 (by decide +kernel) (by decide +kernel)), (tb_i 617 (by decide +kernel) (by decide +kernel))⟩
theorem mi_X0_34 : MI RX0 34 yX0_countOver cX0_countOver 6 (some .int) 4 := ⟨⟨(Or.inl (tb_i 619 (by decide +kernel) (by decide +kernel))), (tb_i 622 (by decide +kernel) (by decide +kernel)), (tb_i 39 (by decide +kernel) (by decide +kernel)), by decide +kernel⟩, (tb_i 621 (by decide +kernel) (by decide +kernel)), (tb_i 14 (by decide +kernel) (by decide +kernel))⟩
theorem mi_X0_38 : MI RX0 38 yX3_isRefusedAt cX3_isRefusedAt 4 (some .boolean) 2 := ⟨⟨(Or.inl (tb_i 623 (by decide +kernel) (by decide +kernel))), (tb_i 626 (by decide +kernel) (by decide +kernel)), (tb_i 38 (by decide +kernel) (by decide +kernel)), by decide +kernel⟩, (tb_i 624 (by decide +kernel) (by decide +kernel)), (tb_i 625 (by decide +kernel) (by decide +kernel))⟩
theorem mi_X3_35 : MI RX3 35 yX8_between cX8_between 3 (some .int) 2 := ⟨⟨(Or.inl (tb_i 627 (by decide +kernel) (by decide +kernel))), (tb_i 527 (by decide +kernel) (by decide +kernel)), (tb_i 37 (by decide +kernel) (by decide +kernel)), by decide +kernel⟩, (tb_i 525 (by decide +kernel) (by decide +kernel)), (tb_i 526 (by decide +kernel) (by decide +kernel))⟩
theorem mi_X3_41 : MI RX3 41 yX3_judgeDown cX3_judgeDown 3 (some .int) 2 := ⟨⟨(Or.inl (tb_i 628 (by decide +kernel) (by decide +kernel))), (tb_i 631 (by decide +kernel) (by decide +kernel)), (tb_i 38 (by decide +kernel) (by decide +kernel)), by decide +kernel⟩, (tb_i 629 (by decide +kernel) (by decide +kernel)), (tb_i 630 (by decide +kernel) (by decide +kernel))⟩
theorem ms_X3_22 : MS RX3 22 yX6_runsRound cX6_runsRound 4 (some .boolean) 2 := ⟨⟨(Or.inl (tb_i 632 (by decide +kernel) (by decide +kernel))), (tb_i 634 (by decide +kernel) (by decide +kernel)), (tb_i 36 (by decide +kernel) (by decide +kernel)), by decide +kernel⟩, (tb_i 633 (by decide +kernel) (by decide +kernel))⟩
theorem ms_X6_47 : MS RX6 47 yX9_isIn cX9_isIn 2 (some .boolean) 2 := ⟨⟨(Or.inr ⟨"Pathwarden", (tb_i 635 (by decide +kernel) (by decide +kernel))⟩), (tb_i 606 (by decide +kernel) (by decide +kernel)), (tb_i 32 (by decide +kernel) (by decide +kernel)), by decide +kernel⟩, (tb_i 605 (by decide +kernel) (by decide +kernel))⟩
theorem ms_X3_28 : MS RX3 28 yX3_netsUp cX3_netsUp 4 (some .int) 3 := ⟨⟨(Or.inl (tb_i 636 (by decide +kernel) (by decide +kernel))), (tb_i 638 (by decide +kernel) (by decide +kernel)), (tb_i 38 (by decide +kernel) (by decide +kernel)), by decide +kernel⟩, (tb_i 637 (by decide +kernel) (by decide +kernel))⟩
theorem ms_X3_48 : MS RX3 48 yX9_isIn cX9_isIn 2 (some .boolean) 2 := ⟨⟨(Or.inr ⟨"Pathwarden", (tb_i 639 (by decide +kernel) (by decide +kernel))⟩), (tb_i 606 (by decide +kernel) (by decide +kernel)), (tb_i 32 (by decide +kernel) (by decide +kernel)), by decide +kernel⟩, (tb_i 605 (by decide +kernel) (by decide +kernel))⟩
theorem ms_X3_32 : MS RX3 32 yX3_netsBack cX3_netsBack 4 (some .int) 3 := ⟨⟨(Or.inl (tb_i 640 (by decide +kernel) (by decide +kernel))), (tb_i 642 (by decide +kernel) (by decide +kernel)), (tb_i 38 (by decide +kernel) (by decide +kernel)), by decide +kernel⟩, (tb_i 641 (by decide +kernel) (by decide +kernel))⟩
theorem mi_X3_45 : MI RX3 45 yX3_judgeUp cX3_judgeUp 3 (some .int) 2 := ⟨⟨(Or.inl (tb_i 643 (by decide +kernel) (by decide +kernel))), (tb_i 646 (by decide +kernel) (by decide +kernel)), (tb_i 38 (by decide +kernel) (by decide +kernel)), by decide +kernel⟩, (tb_i 644 (by decide +kernel) (by decide +kernel)), (tb_i 645 (by decide +kernel) (by decide +kernel))⟩
theorem mi_L_139 : MI RL 139 yX9_falseAlarms cX9_falseAlarms 1 (some .int) 0 := ⟨⟨(Or.inl (tb_i 647 (by decide +kernel) (by decide +kernel))), (tb_i 650 (by decide +kernel) (by decide +kernel)), (tb_i 32 (by decide +kernel) (by decide +kernel)), by decide +kernel⟩, (tb_i 648 (by decide +kernel) (by decide +kernel)), (tb_i 649 (by decide +kernel) (by decide +kernel))⟩
theorem mi_X9_210 : MI RX9 210 yX9_readVouchers cX9_readVouchers 2 none 0 := ⟨⟨(Or.inl (tb_i 651 (by decide +kernel) (by decide +kernel))), (tb_i 654 (by decide +kernel) (by decide +kernel)), (tb_i 32 (by decide +kernel) (by decide +kernel)), by decide +kernel⟩, (tb_i 653 (by decide +kernel) (by decide +kernel)), (tb_i 15 (by decide +kernel) (by decide +kernel))⟩
theorem mi_X9_298 : MI RX9 298 yX3_forgetVouchers cX3_forgetVouchers 2 none 0 := ⟨⟨(Or.inl (tb_i 655 (by decide +kernel) (by decide +kernel))), (tb_i 658 (by decide +kernel) (by decide +kernel)), (tb_i 38 (by decide +kernel) (by decide +kernel)), by decide +kernel⟩, (tb_i 656 (by decide +kernel) (by decide +kernel)), (tb_i 657 (by decide +kernel) (by decide +kernel))⟩
theorem mi_X9_304 : MI RX9 304 yX3_addVoucher cX3_addVoucher 3 none 2 := ⟨⟨(Or.inl (tb_i 659 (by decide +kernel) (by decide +kernel))), (tb_i 662 (by decide +kernel) (by decide +kernel)), (tb_i 38 (by decide +kernel) (by decide +kernel)), by decide +kernel⟩, (tb_i 660 (by decide +kernel) (by decide +kernel)), (tb_i 661 (by decide +kernel) (by decide +kernel))⟩
theorem mi_X9_247 : MI RX9 247 yX0_countRefused cX0_countRefused 3 (some .int) 0 := ⟨⟨(Or.inl (tb_i 663 (by decide +kernel) (by decide +kernel))), (tb_i 666 (by decide +kernel) (by decide +kernel)), (tb_i 39 (by decide +kernel) (by decide +kernel)), by decide +kernel⟩, (tb_i 664 (by decide +kernel) (by decide +kernel)), (tb_i 665 (by decide +kernel) (by decide +kernel))⟩
theorem mi_L_66 : MI RL 66 yX9_clique cX9_clique 1 (some .int) 0 := ⟨⟨(Or.inl (tb_i 667 (by decide +kernel) (by decide +kernel))), (tb_i 670 (by decide +kernel) (by decide +kernel)), (tb_i 32 (by decide +kernel) (by decide +kernel)), by decide +kernel⟩, (tb_i 668 (by decide +kernel) (by decide +kernel)), (tb_i 669 (by decide +kernel) (by decide +kernel))⟩
theorem mi_X9_251 : MI RX9 251 yX5_infer cX5_infer 2 none 0 := ⟨⟨(Or.inl (tb_i 671 (by decide +kernel) (by decide +kernel))), (tb_i 674 (by decide +kernel) (by decide +kernel)), (tb_i 40 (by decide +kernel) (by decide +kernel)), by decide +kernel⟩, (tb_i 672 (by decide +kernel) (by decide +kernel)), (tb_i 673 (by decide +kernel) (by decide +kernel))⟩
theorem mi_X5_31 : MI RX5 31 yX5_findNeighbours cX5_findNeighbours 2 none 0 := ⟨⟨(Or.inl (tb_i 675 (by decide +kernel) (by decide +kernel))), (tb_i 678 (by decide +kernel) (by decide +kernel)), (tb_i 40 (by decide +kernel) (by decide +kernel)), by decide +kernel⟩, (tb_i 677 (by decide +kernel) (by decide +kernel)), (tb_i 16 (by decide +kernel) (by decide +kernel))⟩
theorem mi_X5_49 : MI RX5 49 yX6_tellsRelations cX6_tellsRelations 2 (some .boolean) 1 := ⟨⟨(Or.inl (tb_i 679 (by decide +kernel) (by decide +kernel))), (tb_i 682 (by decide +kernel) (by decide +kernel)), (tb_i 36 (by decide +kernel) (by decide +kernel)), by decide +kernel⟩, (tb_i 680 (by decide +kernel) (by decide +kernel)), (tb_i 681 (by decide +kernel) (by decide +kernel))⟩
theorem ms_X6_43 : MS RX6 43 yX6_runsRound cX6_runsRound 4 (some .boolean) 2 := ⟨⟨(Or.inl (tb_i 683 (by decide +kernel) (by decide +kernel))), (tb_i 634 (by decide +kernel) (by decide +kernel)), (tb_i 36 (by decide +kernel) (by decide +kernel)), by decide +kernel⟩, (tb_i 633 (by decide +kernel) (by decide +kernel))⟩
theorem mi_X5_59 : MI RX5 59 yX5_joinNeighbours cX5_joinNeighbours 4 none 2 := ⟨⟨(Or.inl (tb_i 684 (by decide +kernel) (by decide +kernel))), (tb_i 687 (by decide +kernel) (by decide +kernel)), (tb_i 40 (by decide +kernel) (by decide +kernel)), by decide +kernel⟩, (tb_i 686 (by decide +kernel) (by decide +kernel)), (tb_i 17 (by decide +kernel) (by decide +kernel))⟩
theorem mi_X5_34 : MI RX5 34 yX5_findCore cX5_findCore 3 none 0 := ⟨⟨(Or.inl (tb_i 688 (by decide +kernel) (by decide +kernel))), (tb_i 691 (by decide +kernel) (by decide +kernel)), (tb_i 40 (by decide +kernel) (by decide +kernel)), by decide +kernel⟩, (tb_i 690 (by decide +kernel) (by decide +kernel)), (tb_i 18 (by decide +kernel) (by decide +kernel))⟩
theorem ms_X5_63 : MS RX5 63 yJ6_bitCount_0f7a4 cJ6_bitCount_0f7a4 1 (some .int) 1 := ⟨⟨(Or.inl (tb_i 692 (by decide +kernel) (by decide +kernel))), (tb_i 694 (by decide +kernel) (by decide +kernel)), (tb_i 47 (by decide +kernel) (by decide +kernel)), by decide +kernel⟩, (tb_i 693 (by decide +kernel) (by decide +kernel))⟩
theorem mi_X5_37 : MI RX5 37 yX5_vote cX5_vote 4 none 1 := ⟨⟨(Or.inl (tb_i 698 (by decide +kernel) (by decide +kernel))), (tb_i 701 (by decide +kernel) (by decide +kernel)), (tb_i 40 (by decide +kernel) (by decide +kernel)), by decide +kernel⟩, (tb_i 700 (by decide +kernel) (by decide +kernel)), (tb_i 19 (by decide +kernel) (by decide +kernel))⟩
theorem mi_X5_69 : MI RX5 69 yX5_voteAlong cX5_voteAlong 8 none 3 := ⟨⟨(Or.inl (tb_i 702 (by decide +kernel) (by decide +kernel))), (tb_i 705 (by decide +kernel) (by decide +kernel)), (tb_i 40 (by decide +kernel) (by decide +kernel)), by decide +kernel⟩, (tb_i 704 (by decide +kernel) (by decide +kernel)), (tb_i 20 (by decide +kernel) (by decide +kernel))⟩
theorem mi_X5_73 : MI RX5 73 yX5_topOf cX5_topOf 6 (some .int) 3 := ⟨⟨(Or.inl (tb_i 706 (by decide +kernel) (by decide +kernel))), (tb_i 709 (by decide +kernel) (by decide +kernel)), (tb_i 40 (by decide +kernel) (by decide +kernel)), by decide +kernel⟩, (tb_i 708 (by decide +kernel) (by decide +kernel)), (tb_i 21 (by decide +kernel) (by decide +kernel))⟩
theorem ms_X5_77 : MS RX5 77 yX9_isIn cX9_isIn 2 (some .boolean) 2 := ⟨⟨(Or.inr ⟨"Pathwarden", (tb_i 710 (by decide +kernel) (by decide +kernel))⟩), (tb_i 606 (by decide +kernel) (by decide +kernel)), (tb_i 32 (by decide +kernel) (by decide +kernel)), by decide +kernel⟩, (tb_i 605 (by decide +kernel) (by decide +kernel))⟩
theorem mi_X5_81 : MI RX5 81 yX5_rankOf cX5_rankOf 3 (some .int) 2 := ⟨⟨(Or.inl (tb_i 711 (by decide +kernel) (by decide +kernel))), (tb_i 714 (by decide +kernel) (by decide +kernel)), (tb_i 40 (by decide +kernel) (by decide +kernel)), by decide +kernel⟩, (tb_i 713 (by decide +kernel) (by decide +kernel)), (tb_i 22 (by decide +kernel) (by decide +kernel))⟩
theorem mi_X5_41 : MI RX5 41 yX5_findCustomers cX5_findCustomers 4 none 1 := ⟨⟨(Or.inl (tb_i 715 (by decide +kernel) (by decide +kernel))), (tb_i 718 (by decide +kernel) (by decide +kernel)), (tb_i 40 (by decide +kernel) (by decide +kernel)), by decide +kernel⟩, (tb_i 717 (by decide +kernel) (by decide +kernel)), (tb_i 23 (by decide +kernel) (by decide +kernel))⟩
theorem mi_L_70 : MI RL 70 yX9_addresses cX9_addresses 2 (some .int) 1 := ⟨⟨(Or.inl (tb_i 719 (by decide +kernel) (by decide +kernel))), (tb_i 722 (by decide +kernel) (by decide +kernel)), (tb_i 32 (by decide +kernel) (by decide +kernel)), by decide +kernel⟩, (tb_i 720 (by decide +kernel) (by decide +kernel)), (tb_i 721 (by decide +kernel) (by decide +kernel))⟩
theorem mi_X9_261 : MI RX9 261 yX5_coneOf cX5_coneOf 5 (some .int) 1 := ⟨⟨(Or.inl (tb_i 723 (by decide +kernel) (by decide +kernel))), (tb_i 726 (by decide +kernel) (by decide +kernel)), (tb_i 40 (by decide +kernel) (by decide +kernel)), by decide +kernel⟩, (tb_i 724 (by decide +kernel) (by decide +kernel)), (tb_i 725 (by decide +kernel) (by decide +kernel))⟩
theorem mi_X9_267 : MI RX9 267 yX6_countAddressesFrom cX6_countAddressesFrom 4 (some .int) 1 := ⟨⟨(Or.inl (tb_i 727 (by decide +kernel) (by decide +kernel))), (tb_i 730 (by decide +kernel) (by decide +kernel)), (tb_i 36 (by decide +kernel) (by decide +kernel)), by decide +kernel⟩, (tb_i 728 (by decide +kernel) (by decide +kernel)), (tb_i 729 (by decide +kernel) (by decide +kernel))⟩
theorem mi_X6_51 : MI RX6 51 yX6_reaches cX6_reaches 5 (some .boolean) 2 := ⟨⟨(Or.inl (tb_i 731 (by decide +kernel) (by decide +kernel))), (tb_i 734 (by decide +kernel) (by decide +kernel)), (tb_i 36 (by decide +kernel) (by decide +kernel)), by decide +kernel⟩, (tb_i 733 (by decide +kernel) (by decide +kernel)), (tb_i 24 (by decide +kernel) (by decide +kernel))⟩
theorem ms_X6_54 : MS RX6 54 yX1_liesIn cX1_liesIn 5 (some .boolean) 4 := ⟨⟨(Or.inl (tb_i 735 (by decide +kernel) (by decide +kernel))), (tb_i 582 (by decide +kernel) (by decide +kernel)), (tb_i 46 (by decide +kernel) (by decide +kernel)), by decide +kernel⟩, (tb_i 581 (by decide +kernel) (by decide +kernel))⟩
theorem ms_L_30 : MS RL 30 yL_asks cL_asks 4 (some .int) 4 := ⟨⟨(Or.inl (tb_i 741 (by decide +kernel) (by decide +kernel))), (tb_i 743 (by decide +kernel) (by decide +kernel)), (tb_i 31 (by decide +kernel) (by decide +kernel)), by decide +kernel⟩, (tb_i 742 (by decide +kernel) (by decide +kernel))⟩
theorem mi_L_7 : MI RL 7 yX9_alter cX9_alter 4 (some .int) 2 := ⟨⟨(Or.inl (tb_i 744 (by decide +kernel) (by decide +kernel))), (tb_i 747 (by decide +kernel) (by decide +kernel)), (tb_i 32 (by decide +kernel) (by decide +kernel)), by decide +kernel⟩, (tb_i 745 (by decide +kernel) (by decide +kernel)), (tb_i 746 (by decide +kernel) (by decide +kernel))⟩
theorem mi_L_13 : MI RL 13 yX9_withdraw cX9_withdraw 2 (some .int) 1 := ⟨⟨(Or.inl (tb_i 749 (by decide +kernel) (by decide +kernel))), (tb_i 752 (by decide +kernel) (by decide +kernel)), (tb_i 32 (by decide +kernel) (by decide +kernel)), by decide +kernel⟩, (tb_i 750 (by decide +kernel) (by decide +kernel)), (tb_i 751 (by decide +kernel) (by decide +kernel))⟩
theorem mi_L_17 : MI RL 17 yX9_path cX9_path 5 (some .int) 2 := ⟨⟨(Or.inl (tb_i 755 (by decide +kernel) (by decide +kernel))), (tb_i 758 (by decide +kernel) (by decide +kernel)), (tb_i 32 (by decide +kernel) (by decide +kernel)), by decide +kernel⟩, (tb_i 756 (by decide +kernel) (by decide +kernel)), (tb_i 757 (by decide +kernel) (by decide +kernel))⟩
theorem mi_X9_207 : MI RX9 207 yX9_needRouteThere cX9_needRouteThere 2 none 1 := ⟨⟨(Or.inl (tb_i 759 (by decide +kernel) (by decide +kernel))), (tb_i 762 (by decide +kernel) (by decide +kernel)), (tb_i 32 (by decide +kernel) (by decide +kernel)), by decide +kernel⟩, (tb_i 761 (by decide +kernel) (by decide +kernel)), (tb_i 25 (by decide +kernel) (by decide +kernel))⟩
theorem mi_X9_220 : MI RX9 220 yX3_judgeUp cX3_judgeUp 3 (some .int) 2 := ⟨⟨(Or.inl (tb_i 764 (by decide +kernel) (by decide +kernel))), (tb_i 646 (by decide +kernel) (by decide +kernel)), (tb_i 38 (by decide +kernel) (by decide +kernel)), by decide +kernel⟩, (tb_i 644 (by decide +kernel) (by decide +kernel)), (tb_i 645 (by decide +kernel) (by decide +kernel))⟩
theorem mi_X9_224 : MI RX9 224 yX3_judgeDown cX3_judgeDown 3 (some .int) 2 := ⟨⟨(Or.inl (tb_i 765 (by decide +kernel) (by decide +kernel))), (tb_i 631 (by decide +kernel) (by decide +kernel)), (tb_i 38 (by decide +kernel) (by decide +kernel)), by decide +kernel⟩, (tb_i 629 (by decide +kernel) (by decide +kernel)), (tb_i 630 (by decide +kernel) (by decide +kernel))⟩
theorem mi_L_21 : MI RL 21 yX9_leak cX9_leak 4 (some .int) 1 := ⟨⟨(Or.inl (tb_i 766 (by decide +kernel) (by decide +kernel))), (tb_i 769 (by decide +kernel) (by decide +kernel)), (tb_i 32 (by decide +kernel) (by decide +kernel)), by decide +kernel⟩, (tb_i 767 (by decide +kernel) (by decide +kernel)), (tb_i 768 (by decide +kernel) (by decide +kernel))⟩
theorem mi_X9_227 : MI RX9 227 yX8_leaksAt cX8_leaksAt 4 (some .boolean) 3 := ⟨⟨(Or.inl (tb_i 770 (by decide +kernel) (by decide +kernel))), (tb_i 773 (by decide +kernel) (by decide +kernel)), (tb_i 37 (by decide +kernel) (by decide +kernel)), by decide +kernel⟩, (tb_i 771 (by decide +kernel) (by decide +kernel)), (tb_i 772 (by decide +kernel) (by decide +kernel))⟩
theorem mi_X8_20 : MI RX8 20 yX8_areTied cX8_areTied 3 (some .boolean) 2 := ⟨⟨(Or.inl (tb_i 774 (by decide +kernel) (by decide +kernel))), (tb_i 614 (by decide +kernel) (by decide +kernel)), (tb_i 37 (by decide +kernel) (by decide +kernel)), by decide +kernel⟩, (tb_i 612 (by decide +kernel) (by decide +kernel)), (tb_i 613 (by decide +kernel) (by decide +kernel))⟩
theorem mi_X8_24 : MI RX8 24 yX8_hasCustomer cX8_hasCustomer 4 (some .boolean) 3 := ⟨⟨(Or.inl (tb_i 775 (by decide +kernel) (by decide +kernel))), (tb_i 618 (by decide +kernel) (by decide +kernel)), (tb_i 37 (by decide +kernel) (by decide +kernel)), by decide +kernel⟩, (tb_i 616 (by decide +kernel) (by decide +kernel)), (tb_i 617 (by decide +kernel) (by decide +kernel))⟩
theorem mi_L_24 : MI RL 24 yX9_stopped cX9_stopped 6 (some .int) 2 := ⟨⟨(Or.inl (tb_i 776 (by decide +kernel) (by decide +kernel))), (tb_i 779 (by decide +kernel) (by decide +kernel)), (tb_i 32 (by decide +kernel) (by decide +kernel)), by decide +kernel⟩, (tb_i 777 (by decide +kernel) (by decide +kernel)), (tb_i 778 (by decide +kernel) (by decide +kernel))⟩
theorem mi_X9_203 : MI RX9 203 yX2_originState cX2_originState 6 (some .int) 3 := ⟨⟨(Or.inl (tb_i 780 (by decide +kernel) (by decide +kernel))), (tb_i 783 (by decide +kernel) (by decide +kernel)), (tb_i 35 (by decide +kernel) (by decide +kernel)), by decide +kernel⟩, (tb_i 781 (by decide +kernel) (by decide +kernel)), (tb_i 782 (by decide +kernel) (by decide +kernel))⟩
theorem mi_X2_117 : MI RX2 117 yX2_isGoodOriginOver cX2_isGoodOriginOver 4 (some .boolean) 3 := ⟨⟨(Or.inl (tb_i 784 (by decide +kernel) (by decide +kernel))), (tb_i 787 (by decide +kernel) (by decide +kernel)), (tb_i 35 (by decide +kernel) (by decide +kernel)), by decide +kernel⟩, (tb_i 786 (by decide +kernel) (by decide +kernel)), (tb_i 26 (by decide +kernel) (by decide +kernel))⟩
theorem ms_X9_236 : MS RX9 236 yX9_isIn cX9_isIn 2 (some .boolean) 2 := ⟨⟨(Or.inl (tb_i 788 (by decide +kernel) (by decide +kernel))), (tb_i 606 (by decide +kernel) (by decide +kernel)), (tb_i 32 (by decide +kernel) (by decide +kernel)), by decide +kernel⟩, (tb_i 605 (by decide +kernel) (by decide +kernel))⟩
theorem mi_X9_240 : MI RX9 240 yX3_isRefusedAt cX3_isRefusedAt 4 (some .boolean) 2 := ⟨⟨(Or.inl (tb_i 789 (by decide +kernel) (by decide +kernel))), (tb_i 626 (by decide +kernel) (by decide +kernel)), (tb_i 38 (by decide +kernel) (by decide +kernel)), by decide +kernel⟩, (tb_i 624 (by decide +kernel) (by decide +kernel)), (tb_i 625 (by decide +kernel) (by decide +kernel))⟩
theorem mi_L_27 : MI RL 27 yX9_roll cX9_roll 2 (some .int) 1 := ⟨⟨(Or.inl (tb_i 790 (by decide +kernel) (by decide +kernel))), (tb_i 793 (by decide +kernel) (by decide +kernel)), (tb_i 32 (by decide +kernel) (by decide +kernel)), by decide +kernel⟩, (tb_i 791 (by decide +kernel) (by decide +kernel)), (tb_i 792 (by decide +kernel) (by decide +kernel))⟩
theorem ms_L_127 : MS RL 127 yL_areBlocks cL_areBlocks 17 (some .boolean) 10 := ⟨⟨(Or.inl (tb_i 795 (by decide +kernel) (by decide +kernel))), (tb_i 797 (by decide +kernel) (by decide +kernel)), (tb_i 31 (by decide +kernel) (by decide +kernel)), by decide +kernel⟩, (tb_i 796 (by decide +kernel) (by decide +kernel))⟩
theorem mi_L_44 : MI RL 44 yX9_hasByChains cX9_hasByChains 4 (some .boolean) 3 := ⟨⟨(Or.inl (tb_i 798 (by decide +kernel) (by decide +kernel))), (tb_i 801 (by decide +kernel) (by decide +kernel)), (tb_i 32 (by decide +kernel) (by decide +kernel)), by decide +kernel⟩, (tb_i 799 (by decide +kernel) (by decide +kernel)), (tb_i 800 (by decide +kernel) (by decide +kernel))⟩
theorem mi_X9_200 : MI RX9 200 yX2_holdsByChains cX2_holdsByChains 5 (some .boolean) 3 := ⟨⟨(Or.inl (tb_i 802 (by decide +kernel) (by decide +kernel))), (tb_i 805 (by decide +kernel) (by decide +kernel)), (tb_i 35 (by decide +kernel) (by decide +kernel)), by decide +kernel⟩, (tb_i 803 (by decide +kernel) (by decide +kernel)), (tb_i 804 (by decide +kernel) (by decide +kernel))⟩
theorem mi_X2_107 : MI RX2 107 yX2_chainReaches cX2_chainReaches 7 (some .boolean) 4 := ⟨⟨(Or.inl (tb_i 806 (by decide +kernel) (by decide +kernel))), (tb_i 809 (by decide +kernel) (by decide +kernel)), (tb_i 35 (by decide +kernel) (by decide +kernel)), by decide +kernel⟩, (tb_i 808 (by decide +kernel) (by decide +kernel)), (tb_i 27 (by decide +kernel) (by decide +kernel))⟩
theorem mi_X2_111 : MI RX2 111 yX2_isLinkTo cX2_isLinkTo 3 (some .boolean) 2 := ⟨⟨(Or.inl (tb_i 810 (by decide +kernel) (by decide +kernel))), (tb_i 813 (by decide +kernel) (by decide +kernel)), (tb_i 35 (by decide +kernel) (by decide +kernel)), by decide +kernel⟩, (tb_i 812 (by decide +kernel) (by decide +kernel)), (tb_i 28 (by decide +kernel) (by decide +kernel))⟩
theorem mi_X2_114 : MI RX2 114 yX2_leadsUp cX2_leadsUp 3 (some .boolean) 2 := ⟨⟨(Or.inl (tb_i 814 (by decide +kernel) (by decide +kernel))), (tb_i 817 (by decide +kernel) (by decide +kernel)), (tb_i 35 (by decide +kernel) (by decide +kernel)), by decide +kernel⟩, (tb_i 816 (by decide +kernel) (by decide +kernel)), (tb_i 29 (by decide +kernel) (by decide +kernel))⟩
theorem mi_L_50 : MI RL 50 yX9_state cX9_state 4 (some .int) 3 := ⟨⟨(Or.inl (tb_i 818 (by decide +kernel) (by decide +kernel))), (tb_i 821 (by decide +kernel) (by decide +kernel)), (tb_i 32 (by decide +kernel) (by decide +kernel)), by decide +kernel⟩, (tb_i 819 (by decide +kernel) (by decide +kernel)), (tb_i 820 (by decide +kernel) (by decide +kernel))⟩
theorem ms_L_135 : MS RL 135 yL_isRoute cL_isRoute 15 (some .boolean) 4 := ⟨⟨(Or.inl (tb_i 822 (by decide +kernel) (by decide +kernel))), (tb_i 824 (by decide +kernel) (by decide +kernel)), (tb_i 31 (by decide +kernel) (by decide +kernel)), by decide +kernel⟩, (tb_i 823 (by decide +kernel) (by decide +kernel))⟩
theorem ms_L_131 : MS RL 131 yL_areCones cL_areCones 10 (some .boolean) 4 := ⟨⟨(Or.inl (tb_i 825 (by decide +kernel) (by decide +kernel))), (tb_i 827 (by decide +kernel) (by decide +kernel)), (tb_i 31 (by decide +kernel) (by decide +kernel)), by decide +kernel⟩, (tb_i 826 (by decide +kernel) (by decide +kernel))⟩
theorem mi_L_57 : MI RL 57 yX9_inferred cX9_inferred 4 (some .int) 3 := ⟨⟨(Or.inl (tb_i 828 (by decide +kernel) (by decide +kernel))), (tb_i 831 (by decide +kernel) (by decide +kernel)), (tb_i 32 (by decide +kernel) (by decide +kernel)), by decide +kernel⟩, (tb_i 829 (by decide +kernel) (by decide +kernel)), (tb_i 830 (by decide +kernel) (by decide +kernel))⟩
theorem mi_X9_259 : MI RX9 259 yX5_between cX5_between 4 (some .int) 3 := ⟨⟨(Or.inl (tb_i 833 (by decide +kernel) (by decide +kernel))), (tb_i 836 (by decide +kernel) (by decide +kernel)), (tb_i 40 (by decide +kernel) (by decide +kernel)), by decide +kernel⟩, (tb_i 834 (by decide +kernel) (by decide +kernel)), (tb_i 835 (by decide +kernel) (by decide +kernel))⟩
theorem mi_L_60 : MI RL 60 yX9_cone cX9_cone 2 (some .int) 1 := ⟨⟨(Or.inl (tb_i 837 (by decide +kernel) (by decide +kernel))), (tb_i 840 (by decide +kernel) (by decide +kernel)), (tb_i 32 (by decide +kernel) (by decide +kernel)), by decide +kernel⟩, (tb_i 838 (by decide +kernel) (by decide +kernel)), (tb_i 839 (by decide +kernel) (by decide +kernel))⟩
theorem mi_L_63 : MI RL 63 yX9_coneByPaths cX9_coneByPaths 2 (some .int) 1 := ⟨⟨(Or.inl (tb_i 841 (by decide +kernel) (by decide +kernel))), (tb_i 844 (by decide +kernel) (by decide +kernel)), (tb_i 32 (by decide +kernel) (by decide +kernel)), by decide +kernel⟩, (tb_i 842 (by decide +kernel) (by decide +kernel)), (tb_i 843 (by decide +kernel) (by decide +kernel))⟩
theorem mi_X9_264 : MI RX9 264 yX5_pathConeOf cX5_pathConeOf 4 (some .int) 1 := ⟨⟨(Or.inl (tb_i 845 (by decide +kernel) (by decide +kernel))), (tb_i 848 (by decide +kernel) (by decide +kernel)), (tb_i 40 (by decide +kernel) (by decide +kernel)), by decide +kernel⟩, (tb_i 846 (by decide +kernel) (by decide +kernel)), (tb_i 847 (by decide +kernel) (by decide +kernel))⟩
theorem mi_X5_85 : MI RX5 85 yX5_customersAhead cX5_customersAhead 6 (some .int) 3 := ⟨⟨(Or.inl (tb_i 849 (by decide +kernel) (by decide +kernel))), (tb_i 852 (by decide +kernel) (by decide +kernel)), (tb_i 40 (by decide +kernel) (by decide +kernel)), by decide +kernel⟩, (tb_i 851 (by decide +kernel) (by decide +kernel)), (tb_i 30 (by decide +kernel) (by decide +kernel))⟩
theorem kc_X7_51 : Cond.constant RX7 51 (65521) ∈ TB := (tb_i 483 (by decide +kernel) (by decide +kernel))
theorem kc_J6_265 : Cond.constant RJ6 265 (1431655765) ∈ TB := (tb_i 695 (by decide +kernel) (by decide +kernel))
theorem kc_J6_266 : Cond.constant RJ6 266 (858993459) ∈ TB := (tb_i 696 (by decide +kernel) (by decide +kernel))
theorem kc_J6_267 : Cond.constant RJ6 267 (252645135) ∈ TB := (tb_i 697 (by decide +kernel) (by decide +kernel))
theorem kc_L_74 : Cond.constant RL 74 (2970017) ∈ TB := (tb_i 853 (by decide +kernel) (by decide +kernel))
theorem kc_L_75 : Cond.constant RL 75 (99017) ∈ TB := (tb_i 854 (by decide +kernel) (by decide +kernel))
theorem kc_L_76 : Cond.constant RL 76 (268435455) ∈ TB := (tb_i 855 (by decide +kernel) (by decide +kernel))
theorem kc_L_98 : Cond.constant RL 98 (65521) ∈ TB := (tb_i 856 (by decide +kernel) (by decide +kernel))
theorem sh_0 : sh 0 = .inr (8, [some 1, some 6, some 17, some 20, some 51, some 63, some 66, some 68]) := rfl
theorem sh_1 : sh 1 = .inr (3, [none, none, some 2, some 3, some 4, some 5]) := rfl
theorem sh_2 : sh 2 = .inl (0, 8) := rfl
theorem sh_3 : sh 3 = .inl (0, 8) := rfl
theorem sh_4 : sh 4 = .inl (0, 8) := rfl
theorem sh_5 : sh 5 = .inl (0, 10) := rfl
theorem sh_6 : sh 6 = .inr (6, [none, some 7, some 8, some 9, some 10, some 11, some 12, some 13, some 14, some 15, some 16]) := rfl
theorem sh_7 : sh 7 = .inl (0, 50) := rfl
theorem sh_8 : sh 8 = .inl (0, 50) := rfl
theorem sh_9 : sh 9 = .inl (0, 50) := rfl
theorem sh_10 : sh 10 = .inl (0, 50) := rfl
theorem sh_11 : sh 11 = .inl (0, 50) := rfl
theorem sh_12 : sh 12 = .inl (0, 50) := rfl
theorem sh_13 : sh 13 = .inl (0, 50) := rfl
theorem sh_14 : sh 14 = .inl (0, 50) := rfl
theorem sh_15 : sh 15 = .inl (1, 50) := rfl
theorem sh_16 : sh 16 = .inl (1, 50) := rfl
theorem sh_17 : sh 17 = .inr (1, [some 1, some 6, some 18, some 19]) := rfl
theorem sh_18 : sh 18 = .inl (0, 50) := rfl
theorem sh_19 : sh 19 = .inl (1, 50) := rfl
theorem sh_20 : sh 20 = .inr (5, [none, none, none, some 21, some 22, some 47, some 48, some 49, some 50]) := rfl
theorem sh_21 : sh 21 = .inl (0, 6) := rfl
theorem sh_22 : sh 22 = .inl (3, 24) := rfl
theorem sh_23 : sh 23 = .inl (0, 6) := rfl
theorem sh_24 : sh 24 = .inl (0, 6) := rfl
theorem sh_25 : sh 25 = .inl (0, 6) := rfl
theorem sh_26 : sh 26 = .inl (0, 6) := rfl
theorem sh_27 : sh 27 = .inl (0, 6) := rfl
theorem sh_28 : sh 28 = .inl (0, 6) := rfl
theorem sh_29 : sh 29 = .inl (0, 6) := rfl
theorem sh_30 : sh 30 = .inl (0, 6) := rfl
theorem sh_31 : sh 31 = .inl (0, 6) := rfl
theorem sh_32 : sh 32 = .inl (0, 6) := rfl
theorem sh_33 : sh 33 = .inl (0, 6) := rfl
theorem sh_34 : sh 34 = .inl (0, 6) := rfl
theorem sh_35 : sh 35 = .inl (0, 6) := rfl
theorem sh_36 : sh 36 = .inl (0, 6) := rfl
theorem sh_37 : sh 37 = .inl (0, 6) := rfl
theorem sh_38 : sh 38 = .inl (0, 6) := rfl
theorem sh_39 : sh 39 = .inl (0, 6) := rfl
theorem sh_40 : sh 40 = .inl (0, 6) := rfl
theorem sh_41 : sh 41 = .inl (0, 6) := rfl
theorem sh_42 : sh 42 = .inl (0, 6) := rfl
theorem sh_43 : sh 43 = .inl (0, 6) := rfl
theorem sh_44 : sh 44 = .inl (0, 6) := rfl
theorem sh_45 : sh 45 = .inl (0, 6) := rfl
theorem sh_46 : sh 46 = .inl (0, 6) := rfl
theorem sh_47 : sh 47 = .inl (0, 24) := rfl
theorem sh_48 : sh 48 = .inl (0, 24) := rfl
theorem sh_49 : sh 49 = .inl (0, 24) := rfl
theorem sh_50 : sh 50 = .inl (1, 24) := rfl
theorem sh_51 : sh 51 = .inr (7, [some 52]) := rfl
theorem sh_52 : sh 52 = .inl (3, 10) := rfl
theorem sh_53 : sh 53 = .inl (0, 10) := rfl
theorem sh_54 : sh 54 = .inl (0, 10) := rfl
theorem sh_55 : sh 55 = .inl (0, 10) := rfl
theorem sh_56 : sh 56 = .inl (0, 10) := rfl
theorem sh_57 : sh 57 = .inl (0, 10) := rfl
theorem sh_58 : sh 58 = .inl (0, 10) := rfl
theorem sh_59 : sh 59 = .inl (0, 10) := rfl
theorem sh_60 : sh 60 = .inl (0, 10) := rfl
theorem sh_61 : sh 61 = .inl (0, 10) := rfl
theorem sh_62 : sh 62 = .inl (0, 10) := rfl
theorem sh_63 : sh 63 = .inr (2, [some 51, some 64, some 65]) := rfl
theorem sh_64 : sh 64 = .inl (0, 10) := rfl
theorem sh_65 : sh 65 = .inl (0, 10) := rfl
theorem sh_66 : sh 66 = .inr (0, [some 51, some 63, some 67]) := rfl
theorem sh_67 : sh 67 = .inl (0, 5) := rfl
theorem sh_68 : sh 68 = .inr (4, [some 20, none, some 69, some 70, some 81]) := rfl
theorem sh_69 : sh 69 = .inl (0, 10) := rfl
theorem sh_70 : sh 70 = .inl (3, 10) := rfl
theorem sh_71 : sh 71 = .inl (0, 10) := rfl
theorem sh_72 : sh 72 = .inl (0, 10) := rfl
theorem sh_73 : sh 73 = .inl (0, 10) := rfl
theorem sh_74 : sh 74 = .inl (0, 10) := rfl
theorem sh_75 : sh 75 = .inl (0, 10) := rfl
theorem sh_76 : sh 76 = .inl (0, 10) := rfl
theorem sh_77 : sh 77 = .inl (0, 10) := rfl
theorem sh_78 : sh 78 = .inl (0, 10) := rfl
theorem sh_79 : sh 79 = .inl (0, 10) := rfl
theorem sh_80 : sh 80 = .inl (0, 10) := rfl
theorem sh_81 : sh 81 = .inl (3, 3) := rfl
theorem sh_82 : sh 82 = .inl (0, 10) := rfl
theorem sh_83 : sh 83 = .inl (0, 10) := rfl
theorem sh_84 : sh 84 = .inl (0, 10) := rfl
theorem sh_85 : sh 85 = .inl (0, 16) := rfl
theorem sh_86 : sh 86 = .inl (0, 16) := rfl
theorem sh_87 : sh 87 = .inl (0, 16) := rfl
theorem sh_88 : sh 88 = .inl (0, 16) := rfl
theorem sh_89 : sh 89 = .inl (0, 16) := rfl
theorem sh_90 : sh 90 = .inl (0, 8) := rfl
theorem sh_91 : sh 91 = .inl (0, 56) := rfl
theorem sh_nets {r : Nat} (h : r < 24) : sh (23 + r) = .inl (0, 6) := (by decide +kernel : ∀ r, r < 24 → sh (23 + r) = .inl (0, 6)) r h
theorem sh_what {r : Nat} (h : r < 10) : sh (53 + r) = .inl (0, 10) := (by decide +kernel : ∀ r, r < 10 → sh (53 + r) = .inl (0, 10)) r h
theorem sh_votes {r : Nat} (h : r < 10) : sh (71 + r) = .inl (0, 10) := (by decide +kernel : ∀ r, r < 10 → sh (71 + r) = .inl (0, 10)) r h
theorem sh_cust {r : Nat} (h : r < 3) : sh (82 + r) = .inl (0, 10) := (by decide +kernel : ∀ r, r < 3 → sh (82 + r) = .inl (0, 10)) r h
