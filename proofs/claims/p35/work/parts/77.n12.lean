theorem vin_9 {a L0 : Nat} (h : a < L0) (hL : L0 ≤ 260) : vp_in (nI a) L0 := fun q => q.elim (fun h => absurd h (nz_lt (by omega))) (fun g => by rw [nI_clamp (by omega)] at g; omega)
set_option maxHeartbeats 4000000 in
set_option maxRecDepth 100000 in
theorem law_turn {p : Program} {l : Launch} {e : Env} {s : State} {m : MethodId} {args : Array Value} {below : List Frame} {meth : Method} {c : Code} {w : Wt} {cn ck b L0 : Nat} {xs : Nat → Int32} {Q : State → Prop} {X : Mem} (K : LawC p l s m args meth c w b L0 xs) (hnk : cn + 300 ≤ 668764 ∧ ck + 1800 ≤ 7095478) {h D n R tu t : Nat} (hS : LSt X h D n R) (hh6 : h ≤ 6) (hn16 : n ≤ 16) (hR8 : R ≤ 8) (hD9 : D ≤ 9000) (htt : t < 190) (kk : ∀ (X' : Mem) (h' D' n' R' : Nat), LSt X' h' D' n' R' → h' ≤ 6 → n' ≤ 16 → R' ≤ 8 → D' ≤ D + 12 → V p l e room_1 s m args below meth c w 29 (cn + 300) (ck + 1800) Q 1777 [some (.ref b), some (.ref (w.2.1 0)), some (.ref (w.2.1 85)), some (.ref (w.2.1 86)), some (.ref (w.2.1 87)), some (.ref (w.2.1 88)), some (.ref (w.2.1 89)), some (.ref (w.2.1 90)), some (.ref (w.2.1 91)), some (.int (nI h')), some (.int (nI n')), some (.int (nI R')), some (.int (1 : Int32)), some (.int (nI tu)), some (.int (nI t)), none, none, none, none, none, none, none, none, none, none, none, none, none, none] [] X') : V p l e room_1 s m args below meth c w 29 cn ck Q 128 [some (.ref b), some (.ref (w.2.1 0)), some (.ref (w.2.1 85)), some (.ref (w.2.1 86)), some (.ref (w.2.1 87)), some (.ref (w.2.1 88)), some (.ref (w.2.1 89)), some (.ref (w.2.1 90)), some (.ref (w.2.1 91)), some (.int (nI h)), some (.int (nI n)), some (.int (nI R)), some (.int (1 : Int32)), some (.int (nI tu)), some (.int (nI t)), none, none, none, none, none, none, none, none, none, none, none, none, none, none] [] X := by
  obtain ⟨C, hD, hN, hX, hbl, hfar, hL0⟩ := K
  obtain ⟨dr, PP, Z, Th, hJ, hL⟩ := hS
  have hK0 : Kp X X := Kp.rf
  have h1 := hJ.1.2.2.2.1
  have hR24 : R ≤ 24 := by omega
  have K : LawC p l s m args meth c w b L0 xs := ⟨C, hD, hN, hX, hbl, hfar, hL0⟩
  have hS : LSt X h D n R := ⟨dr, PP, Z, Th, hJ, hL⟩
  have L160 : ∀ (x : Int32), (True) → V p l e room_1 s m args below meth c w 29 (cn + 0) (ck + 0) Q 160 [some (.ref b), some (.ref (w.2.1 0)), some (.ref (w.2.1 85)), some (.ref (w.2.1 86)), some (.ref (w.2.1 87)), some (.ref (w.2.1 88)), some (.ref (w.2.1 89)), some (.ref (w.2.1 90)), some (.ref (w.2.1 91)), some (.int (nI h)), some (.int (nI n)), some (.int (nI R)), some (.int (1 : Int32)), some (.int (nI tu)), some (.int (nI t)), none, none, none, none, none, none, none, none, none, none, none, none, none, none] [.int x] X := by
    intro x htx
    refine V_istore (ls1 := [some (.ref b), some (.ref (w.2.1 0)), some (.ref (w.2.1 85)), some (.ref (w.2.1 86)), some (.ref (w.2.1 87)), some (.ref (w.2.1 88)), some (.ref (w.2.1 89)), some (.ref (w.2.1 90)), some (.ref (w.2.1 91)), some (.int (nI h)), some (.int (nI n)), some (.int (nI R)), some (.int (1 : Int32)), some (.int (nI tu)), some (.int (nI t)), some (.int x), none, none, none, none, none, none, none, none, none, none, none, none, none]) C dL_law_160 (by decide) rfl ?_
    refine V_iload C dL_law_162 rfl ?_
    refine V_iconst (v := (4 : Int32)) C dL_law_164 (by decide) ?_
    refine V_ishr C dL_law_165 ?_
    refine V_ldc C kc_L_76 dL_law_166 ?_
    refine V_iand C dL_law_168 ?_
    obtain ⟨a1, ha1, ea1⟩ := pk_andE (x >>> ((4 : Int32) &&& 31)) (m := (268435455 : Int32)) 28 (by decide)
    refine V_eqi ea1 ?_
    refine V_istore (ls1 := [some (.ref b), some (.ref (w.2.1 0)), some (.ref (w.2.1 85)), some (.ref (w.2.1 86)), some (.ref (w.2.1 87)), some (.ref (w.2.1 88)), some (.ref (w.2.1 89)), some (.ref (w.2.1 90)), some (.ref (w.2.1 91)), some (.int (nI h)), some (.int (nI n)), some (.int (nI R)), some (.int (1 : Int32)), some (.int (nI tu)), some (.int (nI t)), some (.int x), some (.int (nI a1)), none, none, none, none, none, none, none, none, none, none, none, none]) C dL_law_169 (by decide) rfl ?_
    have L186 : ∀ (d : Nat), (d < 16) → V p l e room_1 s m args below meth c w 29 (cn + 0) (ck + 0) Q 186 [some (.ref b), some (.ref (w.2.1 0)), some (.ref (w.2.1 85)), some (.ref (w.2.1 86)), some (.ref (w.2.1 87)), some (.ref (w.2.1 88)), some (.ref (w.2.1 89)), some (.ref (w.2.1 90)), some (.ref (w.2.1 91)), some (.int (nI h)), some (.int (nI n)), some (.int (nI R)), some (.int (1 : Int32)), some (.int (nI tu)), some (.int (nI t)), some (.int x), some (.int (nI a1)), none, none, none, none, none, none, none, none, none, none, none, none] [.int (nI d)] X := by
      intro d hd
      refine V_istore (ls1 := [some (.ref b), some (.ref (w.2.1 0)), some (.ref (w.2.1 85)), some (.ref (w.2.1 86)), some (.ref (w.2.1 87)), some (.ref (w.2.1 88)), some (.ref (w.2.1 89)), some (.ref (w.2.1 90)), some (.ref (w.2.1 91)), some (.int (nI h)), some (.int (nI n)), some (.int (nI R)), some (.int (1 : Int32)), some (.int (nI tu)), some (.int (nI t)), some (.int x), some (.int (nI a1)), some (.int (nI d)), none, none, none, none, none, none, none, none, none, none, none]) C dL_law_186 (by decide) rfl ?_
      refine V_iload C dL_law_188 rfl ?_
      refine V_iload C dL_law_190 rfl ?_
      have hmo2 := Nat.mod_lt a1 (show 0 < h from by omega)
      refine V_irem C dL_law_192 (nI_ne0 (by omega) (by omega)) ?_
      refine V_eqi (y := nI (a1 % h)) (pk_rem (d := h) (by omega) (by omega) (by omega)) ?_
      refine V_istore (ls1 := [some (.ref b), some (.ref (w.2.1 0)), some (.ref (w.2.1 85)), some (.ref (w.2.1 86)), some (.ref (w.2.1 87)), some (.ref (w.2.1 88)), some (.ref (w.2.1 89)), some (.ref (w.2.1 90)), some (.ref (w.2.1 91)), some (.int (nI h)), some (.int (nI n)), some (.int (nI R)), some (.int (1 : Int32)), some (.int (nI tu)), some (.int (nI t)), some (.int x), some (.int (nI a1)), some (.int (nI d)), some (.int (nI (a1 % h))), none, none, none, none, none, none, none, none, none, none]) C dL_law_193 (by decide) rfl ?_
      have L209 : ∀ (ko : Nat), (n = 0 ∨ ko < n) → V p l e room_1 s m args below meth c w 29 (cn + 0) (ck + 0) Q 209 [some (.ref b), some (.ref (w.2.1 0)), some (.ref (w.2.1 85)), some (.ref (w.2.1 86)), some (.ref (w.2.1 87)), some (.ref (w.2.1 88)), some (.ref (w.2.1 89)), some (.ref (w.2.1 90)), some (.ref (w.2.1 91)), some (.int (nI h)), some (.int (nI n)), some (.int (nI R)), some (.int (1 : Int32)), some (.int (nI tu)), some (.int (nI t)), some (.int x), some (.int (nI a1)), some (.int (nI d)), some (.int (nI (a1 % h))), none, none, none, none, none, none, none, none, none, none] [.int (nI ko)] X := by
        intro ko hko
        refine V_istore (ls1 := [some (.ref b), some (.ref (w.2.1 0)), some (.ref (w.2.1 85)), some (.ref (w.2.1 86)), some (.ref (w.2.1 87)), some (.ref (w.2.1 88)), some (.ref (w.2.1 89)), some (.ref (w.2.1 90)), some (.ref (w.2.1 91)), some (.int (nI h)), some (.int (nI n)), some (.int (nI R)), some (.int (1 : Int32)), some (.int (nI tu)), some (.int (nI t)), some (.int x), some (.int (nI a1)), some (.int (nI d)), some (.int (nI (a1 % h))), some (.int (nI ko)), none, none, none, none, none, none, none, none, none]) C dL_law_209 (by decide) rfl ?_
        refine V_iload C dL_law_211 rfl ?_
        refine V_iconst (v := (2 : Int32)) C dL_law_213 (by decide) ?_
        refine V_ishr C dL_law_214 ?_
        refine V_eqi (y := nI (a1 / 4)) (pk_shrN (by omega) _ 2 (s_l31 2 (by decide))) ?_
        refine V_bipush (v := (7 : Int32)) C dL_law_215 (by decide) ?_
        refine V_irem C dL_law_217 (by decide) ?_
        obtain ⟨a3, ha3, ea3⟩ := (⟨_, Nat.mod_lt _ (by decide), pk_rem (d := 7) (by omega) (by decide) (by decide)⟩ : ∃ a, a < 7 ∧ (nI (a1 / 4)) - (nI (a1 / 4)) / (7 : Int32) * (7 : Int32) = nI a)
        refine V_eqi ea3 ?_
        refine V_istore (ls1 := [some (.ref b), some (.ref (w.2.1 0)), some (.ref (w.2.1 85)), some (.ref (w.2.1 86)), some (.ref (w.2.1 87)), some (.ref (w.2.1 88)), some (.ref (w.2.1 89)), some (.ref (w.2.1 90)), some (.ref (w.2.1 91)), some (.int (nI h)), some (.int (nI n)), some (.int (nI R)), some (.int (1 : Int32)), some (.int (nI tu)), some (.int (nI t)), some (.int x), some (.int (nI a1)), some (.int (nI d)), some (.int (nI (a1 % h))), some (.int (nI ko)), some (.int (nI a3)), none, none, none, none, none, none, none, none]) C dL_law_218 (by decide) rfl ?_
        refine V_iload C dL_law_220 rfl ?_
        refine V_iconst (v := (4 : Int32)) C dL_law_222 (by decide) ?_
        refine V_ishr C dL_law_223 ?_
        refine V_eqi (y := nI (a1 / 16)) (pk_shrN (by omega) _ 4 (s_l31 4 (by decide))) ?_
        refine V_bipush (v := (9 : Int32)) C dL_law_224 (by decide) ?_
        refine V_irem C dL_law_226 (by decide) ?_
        obtain ⟨a4, ha4, ea4⟩ := (⟨_, Nat.mod_lt _ (by decide), pk_rem (d := 9) (by omega) (by decide) (by decide)⟩ : ∃ a, a < 9 ∧ (nI (a1 / 16)) - (nI (a1 / 16)) / (9 : Int32) * (9 : Int32) = nI a)
        refine V_eqi ea4 ?_
        refine V_istore (ls1 := [some (.ref b), some (.ref (w.2.1 0)), some (.ref (w.2.1 85)), some (.ref (w.2.1 86)), some (.ref (w.2.1 87)), some (.ref (w.2.1 88)), some (.ref (w.2.1 89)), some (.ref (w.2.1 90)), some (.ref (w.2.1 91)), some (.int (nI h)), some (.int (nI n)), some (.int (nI R)), some (.int (1 : Int32)), some (.int (nI tu)), some (.int (nI t)), some (.int x), some (.int (nI a1)), some (.int (nI d)), some (.int (nI (a1 % h))), some (.int (nI ko)), some (.int (nI a3)), some (.int (nI a4)), none, none, none, none, none, none, none]) C dL_law_227 (by decide) rfl ?_
        refine V_iload C dL_law_229 rfl ?_
        refine V_bipush (v := (6 : Int32)) C dL_law_231 (by decide) ?_
        refine V_ishr C dL_law_233 ?_
        refine V_eqi (y := nI (a1 / 64)) (pk_shrN (by omega) _ 6 (s_l31 6 (by decide))) ?_
        refine V_sipush (v := (255 : Int32)) C dL_law_234 (by decide) ?_
        refine V_iand C dL_law_237 ?_
        refine V_eqi (y := nI ((a1 / 64) % 256)) (pk_andN (by omega) 8 (by decide)) ?_
        refine V_bipush (v := (8 : Int32)) C dL_law_238 (by decide) ?_
        refine V_iload C dL_law_240 rfl ?_
        refine V_isubN (a := 8) (b := a4) C dL_law_242 (by omega) ?_
        refine V_ishr C dL_law_243 ?_
        refine V_eqi (y := nI (((a1 / 64) % 256) / 2 ^ (8 - a4))) (pk_shrN (by omega) _ (8 - a4) (s_l31 _ (by omega))) ?_
        refine V_bipush (v := (8 : Int32)) C dL_law_244 (by decide) ?_
        refine V_iload C dL_law_246 rfl ?_
        refine V_isubN (a := 8) (b := a4) C dL_law_248 (by omega) ?_
        refine V_ishl C dL_law_249 ?_
        refine V_eqi (y := nI ((((a1 / 64) % 256) / 2 ^ (8 - a4)) * 2 ^ (8 - a4))) (shl_n _ (blk_v _ (by omega) _ (by omega)).2.1 (8 - a4) (by omega)) ?_
        obtain ⟨va, eva⟩ : ∃ a, a = (((a1 / 64) % 256) / 2 ^ (8 - a4)) * 2 ^ (8 - a4) := ⟨_, rfl⟩
        rw [← eva]
        have hva : va < 256 := by rw [eva]; exact (blk_v _ (by omega) _ (by omega)).1
        have hvb : va % 2 ^ (8 - a4) = 0 := by rw [eva]; exact Nat.mul_mod_left _ _
        refine V_istore (ls1 := [some (.ref b), some (.ref (w.2.1 0)), some (.ref (w.2.1 85)), some (.ref (w.2.1 86)), some (.ref (w.2.1 87)), some (.ref (w.2.1 88)), some (.ref (w.2.1 89)), some (.ref (w.2.1 90)), some (.ref (w.2.1 91)), some (.int (nI h)), some (.int (nI n)), some (.int (nI R)), some (.int (1 : Int32)), some (.int (nI tu)), some (.int (nI t)), some (.int x), some (.int (nI a1)), some (.int (nI d)), some (.int (nI (a1 % h))), some (.int (nI ko)), some (.int (nI a3)), some (.int (nI a4)), some (.int (nI va)), none, none, none, none, none, none]) C dL_law_250 (by decide) rfl ?_
        refine V_kill (i := 15) (ls1 := [some (.ref b), some (.ref (w.2.1 0)), some (.ref (w.2.1 85)), some (.ref (w.2.1 86)), some (.ref (w.2.1 87)), some (.ref (w.2.1 88)), some (.ref (w.2.1 89)), some (.ref (w.2.1 90)), some (.ref (w.2.1 91)), some (.int (nI h)), some (.int (nI n)), some (.int (nI R)), some (.int (1 : Int32)), some (.int (nI tu)), some (.int (nI t)), none, some (.int (nI a1)), some (.int (nI d)), some (.int (nI (a1 % h))), some (.int (nI ko)), some (.int (nI a3)), some (.int (nI a4)), some (.int (nI va)), none, none, none, none, none, none]) rfl ?_
        have k1630 : ∀ (X' : Mem) (h' D' n' R' mz' va' : Nat), LSt X' h' D' n' R' → h ≤ h' → h' ≤ 6 → n' ≤ 16 → R' ≤ 8 → D' ≤ D + 12 → mz' ≤ 8 → va' < 256 → va' % 2 ^ (8 - mz') = 0 → V p l e room_1 s m args below meth c w 29 (cn + 60) (ck + 360) Q 1630 [some (.ref b), some (.ref (w.2.1 0)), some (.ref (w.2.1 85)), some (.ref (w.2.1 86)), some (.ref (w.2.1 87)), some (.ref (w.2.1 88)), some (.ref (w.2.1 89)), some (.ref (w.2.1 90)), some (.ref (w.2.1 91)), some (.int (nI h')), some (.int (nI n')), some (.int (nI R')), some (.int (1 : Int32)), some (.int (nI tu)), some (.int (nI t)), none, some (.int (nI a1)), none, some (.int (nI (a1 % h))), none, some (.int (nI a3)), some (.int (nI mz')), some (.int (nI va')), none, none, none, none, none, none] [] X' := by
          intro X' h' D' n' R' mz' va' g1 g2 g3 g4 g5 g6 g7 g8 g9
          exact law_chk K (by omega) g1 g3 g4 g5 (by omega) htt (by omega) (by omega) g7 g8 g9 (fun X2 z1 => V_widen (by omega) (by omega) (kk X2 h' D' n' R' z1 g3 g4 g5 g6))
        refine V_iload C dL_law_252 rfl ?_
        refine V_if_neN (a := d) (tgt := 307) C dL_law_254 (by decide) (by omega) (fun h254_5 => ?_) (fun h254_5 => ?_)
        · refine V_iload C dL_law_307 rfl ?_
          refine V_iconst (v := (2 : Int32)) C dL_law_309 (by decide) ?_
          refine V_icmp_geN (a := d) (b := 2) (tgt := 347) C dL_law_310 (by decide) (by omega) (by omega) (fun h310_6 => ?_) (fun h310_6 => ?_)
          · refine V_iload C dL_law_347 rfl ?_
            refine V_bipush (v := (6 : Int32)) C dL_law_349 (by decide) ?_
            refine V_icmp_geN (a := d) (b := 6) (tgt := 705) C dL_law_351 (by decide) (by omega) (by omega) (fun h351_7 => ?_) (fun h351_7 => ?_)
            · refine V_iload C dL_law_705 rfl ?_
              refine V_bipush (v := (6 : Int32)) C dL_law_707 (by decide) ?_
              refine V_icmp_neN (a := d) (b := 6) (tgt := 856) C dL_law_709 (by decide) (by omega) (by omega) (fun h709_8 => ?_) (fun h709_8 => ?_)
              · refine V_iload C dL_law_856 rfl ?_
                refine V_bipush (v := (7 : Int32)) C dL_law_858 (by decide) ?_
                refine V_icmp_neN (a := d) (b := 7) (tgt := 919) C dL_law_860 (by decide) (by omega) (by omega) (fun h860_9 => ?_) (fun h860_9 => ?_)
                · refine V_iload C dL_law_919 rfl ?_
                  refine V_bipush (v := (8 : Int32)) C dL_law_921 (by decide) ?_
                  refine V_icmp_neN (a := d) (b := 8) (tgt := 995) C dL_law_923 (by decide) (by omega) (by omega) (fun h923_10 => ?_) (fun h923_10 => ?_)
                  · refine V_iload C dL_law_995 rfl ?_
                    refine V_bipush (v := (10 : Int32)) C dL_law_997 (by decide) ?_
                    refine V_icmp_geN (a := d) (b := 10) (tgt := 1057) C dL_law_999 (by decide) (by omega) (by omega) (fun h999_11 => ?_) (fun h999_11 => ?_)
                    · refine V_iload C dL_law_1057 rfl ?_
                      refine V_bipush (v := (10 : Int32)) C dL_law_1059 (by decide) ?_
                      refine V_icmp_neN (a := d) (b := 10) (tgt := 1149) C dL_law_1061 (by decide) (by omega) (by omega) (fun h1061_12 => ?_) (fun h1061_12 => ?_)
                      · refine V_iload C dL_law_1149 rfl ?_
                        refine V_bipush (v := (13 : Int32)) C dL_law_1151 (by decide) ?_
                        refine V_icmp_geN (a := d) (b := 13) (tgt := 1364) C dL_law_1153 (by decide) (by omega) (by omega) (fun h1153_13 => ?_) (fun h1153_13 => ?_)
                        · refine V_iload C dL_law_1364 rfl ?_
                          refine V_bipush (v := (13 : Int32)) C dL_law_1366 (by decide) ?_
                          refine V_icmp_neN (a := d) (b := 13) (tgt := 1472) C dL_law_1368 (by decide) (by omega) (by omega) (fun h1368_14 => ?_) (fun h1368_14 => ?_)
                          · exact law_dt K (by omega) hS hh6 hn16 hR8 hD9 (by omega) (by omega) (by omega) (by omega) (by omega) hva hvb  k1630
                          · refine V_iload C dL_law_1371 rfl ?_
                            refine V_if_leN (a := R) (tgt := 1472) C dL_law_1373 (by decide) (by omega) (fun h1373_15 => ?_) (fun h1373_15 => ?_)
                            · exact law_dt K (by omega) hS hh6 hn16 hR8 hD9 (by omega) (by omega) (by omega) (by omega) (by omega) hva hvb  k1630
                            · refine V_iload C dL_law_1376 rfl ?_
                              refine V_iconst (v := (3 : Int32)) C dL_law_1378 (by decide) ?_
                              refine V_iand C dL_law_1379 ?_
                              refine V_eqi (y := nI (a1 % 4)) (pk_andN (by omega) 2 (by decide)) ?_
                              refine V_if_neN (a := a1 % 4) (tgt := 1472) C dL_law_1380 (by decide) (by omega) (fun h1380_16 => ?_) (fun h1380_16 => ?_)
                              · exact law_dt K (by omega) hS hh6 hn16 hR8 hD9 (by omega) (by omega) (by omega) (by omega) (by omega) hva hvb  k1630
                              · exact law_d13 K (by omega) hS hh6 hn16 hR8 hD9 (by omega) (by omega) (by omega) (by omega) (by omega) hva hvb (by omega) k1630
                        · refine V_iload C dL_law_1156 rfl ?_
                          refine V_bipush (v := (8 : Int32)) C dL_law_1158 (by decide) ?_
                          refine V_icmp_geN (a := R) (b := 8) (tgt := 1364) C dL_law_1160 (by decide) (by omega) (by omega) (fun h1160_17 => ?_) (fun h1160_17 => ?_)
                          · refine V_iload C dL_law_1364 rfl ?_
                            refine V_bipush (v := (13 : Int32)) C dL_law_1366 (by decide) ?_
                            refine V_icmp_neN (a := d) (b := 13) (tgt := 1472) C dL_law_1368 (by decide) (by omega) (by omega) (fun h1368_18 => ?_) (fun h1368_18 => ?_)
                            · exact law_dt K (by omega) hS hh6 hn16 hR8 hD9 (by omega) (by omega) (by omega) (by omega) (by omega) hva hvb  k1630
                            · refine V_iload C dL_law_1371 rfl ?_
                              refine V_if_leN (a := R) (tgt := 1472) C dL_law_1373 (by decide) (by omega) (fun h1373_19 => ?_) (fun h1373_19 => ?_)
                              · exact law_dt K (by omega) hS hh6 hn16 hR8 hD9 (by omega) (by omega) (by omega) (by omega) (by omega) hva hvb  k1630
                              · refine V_iload C dL_law_1376 rfl ?_
                                refine V_iconst (v := (3 : Int32)) C dL_law_1378 (by decide) ?_
                                refine V_iand C dL_law_1379 ?_
                                refine V_eqi (y := nI (a1 % 4)) (pk_andN (by omega) 2 (by decide)) ?_
                                refine V_if_neN (a := a1 % 4) (tgt := 1472) C dL_law_1380 (by decide) (by omega) (fun h1380_20 => ?_) (fun h1380_20 => ?_)
                                · exact law_dt K (by omega) hS hh6 hn16 hR8 hD9 (by omega) (by omega) (by omega) (by omega) (by omega) hva hvb  k1630
                                · exact law_d13 K (by omega) hS hh6 hn16 hR8 hD9 (by omega) (by omega) (by omega) (by omega) (by omega) hva hvb (by omega) k1630
                          · exact law_d11 K (by omega) hS hh6 hn16 hR8 hD9 (by omega) (by omega) (by omega) (by omega) (by omega) hva hvb (by omega) k1630
                      · refine V_iload C dL_law_1064 rfl ?_
                        refine V_iconst (v := (1 : Int32)) C dL_law_1066 (by decide) ?_
                        refine V_iand C dL_law_1067 ?_
                        refine V_eqi (y := nI (a1 % 2)) (pk_andN (by omega) 1 (by decide)) ?_
                        refine V_if_neN (a := a1 % 2) (tgt := 1149) C dL_law_1068 (by decide) (by omega) (fun h1068_21 => ?_) (fun h1068_21 => ?_)
                        · refine V_iload C dL_law_1149 rfl ?_
                          refine V_bipush (v := (13 : Int32)) C dL_law_1151 (by decide) ?_
                          refine V_icmp_geN (a := d) (b := 13) (tgt := 1364) C dL_law_1153 (by decide) (by omega) (by omega) (fun h1153_22 => ?_) (fun h1153_22 => ?_)
                          · refine V_iload C dL_law_1364 rfl ?_
                            refine V_bipush (v := (13 : Int32)) C dL_law_1366 (by decide) ?_
                            refine V_icmp_neN (a := d) (b := 13) (tgt := 1472) C dL_law_1368 (by decide) (by omega) (by omega) (fun h1368_23 => ?_) (fun h1368_23 => ?_)
                            · exact law_dt K (by omega) hS hh6 hn16 hR8 hD9 (by omega) (by omega) (by omega) (by omega) (by omega) hva hvb  k1630
                            · refine V_iload C dL_law_1371 rfl ?_
                              refine V_if_leN (a := R) (tgt := 1472) C dL_law_1373 (by decide) (by omega) (fun h1373_24 => ?_) (fun h1373_24 => ?_)
                              · exact law_dt K (by omega) hS hh6 hn16 hR8 hD9 (by omega) (by omega) (by omega) (by omega) (by omega) hva hvb  k1630
                              · refine V_iload C dL_law_1376 rfl ?_
                                refine V_iconst (v := (3 : Int32)) C dL_law_1378 (by decide) ?_
                                refine V_iand C dL_law_1379 ?_
                                refine V_eqi (y := nI (a1 % 4)) (pk_andN (by omega) 2 (by decide)) ?_
                                refine V_if_neN (a := a1 % 4) (tgt := 1472) C dL_law_1380 (by decide) (by omega) (fun h1380_25 => ?_) (fun h1380_25 => ?_)
                                · exact law_dt K (by omega) hS hh6 hn16 hR8 hD9 (by omega) (by omega) (by omega) (by omega) (by omega) hva hvb  k1630
                                · exact law_d13 K (by omega) hS hh6 hn16 hR8 hD9 (by omega) (by omega) (by omega) (by omega) (by omega) hva hvb (by omega) k1630
                          · refine V_iload C dL_law_1156 rfl ?_
                            refine V_bipush (v := (8 : Int32)) C dL_law_1158 (by decide) ?_
                            refine V_icmp_geN (a := R) (b := 8) (tgt := 1364) C dL_law_1160 (by decide) (by omega) (by omega) (fun h1160_26 => ?_) (fun h1160_26 => ?_)
                            · refine V_iload C dL_law_1364 rfl ?_
                              refine V_bipush (v := (13 : Int32)) C dL_law_1366 (by decide) ?_
                              refine V_icmp_neN (a := d) (b := 13) (tgt := 1472) C dL_law_1368 (by decide) (by omega) (by omega) (fun h1368_27 => ?_) (fun h1368_27 => ?_)
                              · exact law_dt K (by omega) hS hh6 hn16 hR8 hD9 (by omega) (by omega) (by omega) (by omega) (by omega) hva hvb  k1630
                              · refine V_iload C dL_law_1371 rfl ?_
                                refine V_if_leN (a := R) (tgt := 1472) C dL_law_1373 (by decide) (by omega) (fun h1373_28 => ?_) (fun h1373_28 => ?_)
                                · exact law_dt K (by omega) hS hh6 hn16 hR8 hD9 (by omega) (by omega) (by omega) (by omega) (by omega) hva hvb  k1630
                                · refine V_iload C dL_law_1376 rfl ?_
                                  refine V_iconst (v := (3 : Int32)) C dL_law_1378 (by decide) ?_
                                  refine V_iand C dL_law_1379 ?_
                                  refine V_eqi (y := nI (a1 % 4)) (pk_andN (by omega) 2 (by decide)) ?_
                                  refine V_if_neN (a := a1 % 4) (tgt := 1472) C dL_law_1380 (by decide) (by omega) (fun h1380_29 => ?_) (fun h1380_29 => ?_)
                                  · exact law_dt K (by omega) hS hh6 hn16 hR8 hD9 (by omega) (by omega) (by omega) (by omega) (by omega) hva hvb  k1630
                                  · exact law_d13 K (by omega) hS hh6 hn16 hR8 hD9 (by omega) (by omega) (by omega) (by omega) (by omega) hva hvb (by omega) k1630
                            · exact law_d11 K (by omega) hS hh6 hn16 hR8 hD9 (by omega) (by omega) (by omega) (by omega) (by omega) hva hvb (by omega) k1630
                        · exact law_d10 K (by omega) hS hh6 hn16 hR8 hD9 (by omega) (by omega) (by omega) (by omega) (by omega) hva hvb  k1630
                    · exact law_d9 K (by omega) hS hh6 hn16 hR8 hD9 (by omega) (by omega) (by omega) (by omega) (by omega) hva hvb  k1630
                  · refine V_iload C dL_law_926 rfl ?_
                    refine V_if_leN (a := n) (tgt := 995) C dL_law_928 (by decide) (by omega) (fun h928_30 => ?_) (fun h928_30 => ?_)
                    · refine V_iload C dL_law_995 rfl ?_
                      refine V_bipush (v := (10 : Int32)) C dL_law_997 (by decide) ?_
                      refine V_icmp_geN (a := d) (b := 10) (tgt := 1057) C dL_law_999 (by decide) (by omega) (by omega) (fun h999_31 => ?_) (fun h999_31 => ?_)
                      · refine V_iload C dL_law_1057 rfl ?_
                        refine V_bipush (v := (10 : Int32)) C dL_law_1059 (by decide) ?_
                        refine V_icmp_neN (a := d) (b := 10) (tgt := 1149) C dL_law_1061 (by decide) (by omega) (by omega) (fun h1061_32 => ?_) (fun h1061_32 => ?_)
                        · refine V_iload C dL_law_1149 rfl ?_
                          refine V_bipush (v := (13 : Int32)) C dL_law_1151 (by decide) ?_
                          refine V_icmp_geN (a := d) (b := 13) (tgt := 1364) C dL_law_1153 (by decide) (by omega) (by omega) (fun h1153_33 => ?_) (fun h1153_33 => ?_)
                          · refine V_iload C dL_law_1364 rfl ?_
                            refine V_bipush (v := (13 : Int32)) C dL_law_1366 (by decide) ?_
                            refine V_icmp_neN (a := d) (b := 13) (tgt := 1472) C dL_law_1368 (by decide) (by omega) (by omega) (fun h1368_34 => ?_) (fun h1368_34 => ?_)
                            · exact law_dt K (by omega) hS hh6 hn16 hR8 hD9 (by omega) (by omega) (by omega) (by omega) (by omega) hva hvb  k1630
                            · refine V_iload C dL_law_1371 rfl ?_
                              refine V_if_leN (a := R) (tgt := 1472) C dL_law_1373 (by decide) (by omega) (fun h1373_35 => ?_) (fun h1373_35 => ?_)
                              · exact law_dt K (by omega) hS hh6 hn16 hR8 hD9 (by omega) (by omega) (by omega) (by omega) (by omega) hva hvb  k1630
                              · refine V_iload C dL_law_1376 rfl ?_
                                refine V_iconst (v := (3 : Int32)) C dL_law_1378 (by decide) ?_
                                refine V_iand C dL_law_1379 ?_
                                refine V_eqi (y := nI (a1 % 4)) (pk_andN (by omega) 2 (by decide)) ?_
                                refine V_if_neN (a := a1 % 4) (tgt := 1472) C dL_law_1380 (by decide) (by omega) (fun h1380_36 => ?_) (fun h1380_36 => ?_)
                                · exact law_dt K (by omega) hS hh6 hn16 hR8 hD9 (by omega) (by omega) (by omega) (by omega) (by omega) hva hvb  k1630
                                · exact law_d13 K (by omega) hS hh6 hn16 hR8 hD9 (by omega) (by omega) (by omega) (by omega) (by omega) hva hvb (by omega) k1630
                          · refine V_iload C dL_law_1156 rfl ?_
                            refine V_bipush (v := (8 : Int32)) C dL_law_1158 (by decide) ?_
                            refine V_icmp_geN (a := R) (b := 8) (tgt := 1364) C dL_law_1160 (by decide) (by omega) (by omega) (fun h1160_37 => ?_) (fun h1160_37 => ?_)
                            · refine V_iload C dL_law_1364 rfl ?_
                              refine V_bipush (v := (13 : Int32)) C dL_law_1366 (by decide) ?_
                              refine V_icmp_neN (a := d) (b := 13) (tgt := 1472) C dL_law_1368 (by decide) (by omega) (by omega) (fun h1368_38 => ?_) (fun h1368_38 => ?_)
                              · exact law_dt K (by omega) hS hh6 hn16 hR8 hD9 (by omega) (by omega) (by omega) (by omega) (by omega) hva hvb  k1630
                              · refine V_iload C dL_law_1371 rfl ?_
                                refine V_if_leN (a := R) (tgt := 1472) C dL_law_1373 (by decide) (by omega) (fun h1373_39 => ?_) (fun h1373_39 => ?_)
                                · exact law_dt K (by omega) hS hh6 hn16 hR8 hD9 (by omega) (by omega) (by omega) (by omega) (by omega) hva hvb  k1630
                                · refine V_iload C dL_law_1376 rfl ?_
                                  refine V_iconst (v := (3 : Int32)) C dL_law_1378 (by decide) ?_
                                  refine V_iand C dL_law_1379 ?_
                                  refine V_eqi (y := nI (a1 % 4)) (pk_andN (by omega) 2 (by decide)) ?_
                                  refine V_if_neN (a := a1 % 4) (tgt := 1472) C dL_law_1380 (by decide) (by omega) (fun h1380_40 => ?_) (fun h1380_40 => ?_)
                                  · exact law_dt K (by omega) hS hh6 hn16 hR8 hD9 (by omega) (by omega) (by omega) (by omega) (by omega) hva hvb  k1630
                                  · exact law_d13 K (by omega) hS hh6 hn16 hR8 hD9 (by omega) (by omega) (by omega) (by omega) (by omega) hva hvb (by omega) k1630
                            · exact law_d11 K (by omega) hS hh6 hn16 hR8 hD9 (by omega) (by omega) (by omega) (by omega) (by omega) hva hvb (by omega) k1630
                        · refine V_iload C dL_law_1064 rfl ?_
                          refine V_iconst (v := (1 : Int32)) C dL_law_1066 (by decide) ?_
                          refine V_iand C dL_law_1067 ?_
                          refine V_eqi (y := nI (a1 % 2)) (pk_andN (by omega) 1 (by decide)) ?_
                          refine V_if_neN (a := a1 % 2) (tgt := 1149) C dL_law_1068 (by decide) (by omega) (fun h1068_41 => ?_) (fun h1068_41 => ?_)
                          · refine V_iload C dL_law_1149 rfl ?_
                            refine V_bipush (v := (13 : Int32)) C dL_law_1151 (by decide) ?_
                            refine V_icmp_geN (a := d) (b := 13) (tgt := 1364) C dL_law_1153 (by decide) (by omega) (by omega) (fun h1153_42 => ?_) (fun h1153_42 => ?_)
                            · refine V_iload C dL_law_1364 rfl ?_
                              refine V_bipush (v := (13 : Int32)) C dL_law_1366 (by decide) ?_
                              refine V_icmp_neN (a := d) (b := 13) (tgt := 1472) C dL_law_1368 (by decide) (by omega) (by omega) (fun h1368_43 => ?_) (fun h1368_43 => ?_)
                              · exact law_dt K (by omega) hS hh6 hn16 hR8 hD9 (by omega) (by omega) (by omega) (by omega) (by omega) hva hvb  k1630
                              · refine V_iload C dL_law_1371 rfl ?_
                                refine V_if_leN (a := R) (tgt := 1472) C dL_law_1373 (by decide) (by omega) (fun h1373_44 => ?_) (fun h1373_44 => ?_)
                                · exact law_dt K (by omega) hS hh6 hn16 hR8 hD9 (by omega) (by omega) (by omega) (by omega) (by omega) hva hvb  k1630
                                · refine V_iload C dL_law_1376 rfl ?_
                                  refine V_iconst (v := (3 : Int32)) C dL_law_1378 (by decide) ?_
                                  refine V_iand C dL_law_1379 ?_
                                  refine V_eqi (y := nI (a1 % 4)) (pk_andN (by omega) 2 (by decide)) ?_
                                  refine V_if_neN (a := a1 % 4) (tgt := 1472) C dL_law_1380 (by decide) (by omega) (fun h1380_45 => ?_) (fun h1380_45 => ?_)
                                  · exact law_dt K (by omega) hS hh6 hn16 hR8 hD9 (by omega) (by omega) (by omega) (by omega) (by omega) hva hvb  k1630
                                  · exact law_d13 K (by omega) hS hh6 hn16 hR8 hD9 (by omega) (by omega) (by omega) (by omega) (by omega) hva hvb (by omega) k1630
                            · refine V_iload C dL_law_1156 rfl ?_
                              refine V_bipush (v := (8 : Int32)) C dL_law_1158 (by decide) ?_
                              refine V_icmp_geN (a := R) (b := 8) (tgt := 1364) C dL_law_1160 (by decide) (by omega) (by omega) (fun h1160_46 => ?_) (fun h1160_46 => ?_)
                              · refine V_iload C dL_law_1364 rfl ?_
                                refine V_bipush (v := (13 : Int32)) C dL_law_1366 (by decide) ?_
                                refine V_icmp_neN (a := d) (b := 13) (tgt := 1472) C dL_law_1368 (by decide) (by omega) (by omega) (fun h1368_47 => ?_) (fun h1368_47 => ?_)
                                · exact law_dt K (by omega) hS hh6 hn16 hR8 hD9 (by omega) (by omega) (by omega) (by omega) (by omega) hva hvb  k1630
                                · refine V_iload C dL_law_1371 rfl ?_
                                  refine V_if_leN (a := R) (tgt := 1472) C dL_law_1373 (by decide) (by omega) (fun h1373_48 => ?_) (fun h1373_48 => ?_)
                                  · exact law_dt K (by omega) hS hh6 hn16 hR8 hD9 (by omega) (by omega) (by omega) (by omega) (by omega) hva hvb  k1630
                                  · refine V_iload C dL_law_1376 rfl ?_
                                    refine V_iconst (v := (3 : Int32)) C dL_law_1378 (by decide) ?_
                                    refine V_iand C dL_law_1379 ?_
                                    refine V_eqi (y := nI (a1 % 4)) (pk_andN (by omega) 2 (by decide)) ?_
                                    refine V_if_neN (a := a1 % 4) (tgt := 1472) C dL_law_1380 (by decide) (by omega) (fun h1380_49 => ?_) (fun h1380_49 => ?_)
                                    · exact law_dt K (by omega) hS hh6 hn16 hR8 hD9 (by omega) (by omega) (by omega) (by omega) (by omega) hva hvb  k1630
                                    · exact law_d13 K (by omega) hS hh6 hn16 hR8 hD9 (by omega) (by omega) (by omega) (by omega) (by omega) hva hvb (by omega) k1630
                              · exact law_d11 K (by omega) hS hh6 hn16 hR8 hD9 (by omega) (by omega) (by omega) (by omega) (by omega) hva hvb (by omega) k1630
                          · exact law_d10 K (by omega) hS hh6 hn16 hR8 hD9 (by omega) (by omega) (by omega) (by omega) (by omega) hva hvb  k1630
                      · exact law_d9 K (by omega) hS hh6 hn16 hR8 hD9 (by omega) (by omega) (by omega) (by omega) (by omega) hva hvb  k1630
                    · refine V_iload C dL_law_931 rfl ?_
                      refine V_iconst (v := (3 : Int32)) C dL_law_933 (by decide) ?_
                      refine V_iand C dL_law_934 ?_
                      refine V_eqi (y := nI (a1 % 4)) (pk_andN (by omega) 2 (by decide)) ?_
                      refine V_if_neN (a := a1 % 4) (tgt := 995) C dL_law_935 (by decide) (by omega) (fun h935_50 => ?_) (fun h935_50 => ?_)
                      · refine V_iload C dL_law_995 rfl ?_
                        refine V_bipush (v := (10 : Int32)) C dL_law_997 (by decide) ?_
                        refine V_icmp_geN (a := d) (b := 10) (tgt := 1057) C dL_law_999 (by decide) (by omega) (by omega) (fun h999_51 => ?_) (fun h999_51 => ?_)
                        · refine V_iload C dL_law_1057 rfl ?_
                          refine V_bipush (v := (10 : Int32)) C dL_law_1059 (by decide) ?_
                          refine V_icmp_neN (a := d) (b := 10) (tgt := 1149) C dL_law_1061 (by decide) (by omega) (by omega) (fun h1061_52 => ?_) (fun h1061_52 => ?_)
                          · refine V_iload C dL_law_1149 rfl ?_
                            refine V_bipush (v := (13 : Int32)) C dL_law_1151 (by decide) ?_
                            refine V_icmp_geN (a := d) (b := 13) (tgt := 1364) C dL_law_1153 (by decide) (by omega) (by omega) (fun h1153_53 => ?_) (fun h1153_53 => ?_)
                            · refine V_iload C dL_law_1364 rfl ?_
                              refine V_bipush (v := (13 : Int32)) C dL_law_1366 (by decide) ?_
                              refine V_icmp_neN (a := d) (b := 13) (tgt := 1472) C dL_law_1368 (by decide) (by omega) (by omega) (fun h1368_54 => ?_) (fun h1368_54 => ?_)
                              · exact law_dt K (by omega) hS hh6 hn16 hR8 hD9 (by omega) (by omega) (by omega) (by omega) (by omega) hva hvb  k1630
                              · refine V_iload C dL_law_1371 rfl ?_
                                refine V_if_leN (a := R) (tgt := 1472) C dL_law_1373 (by decide) (by omega) (fun h1373_55 => ?_) (fun h1373_55 => ?_)
                                · exact law_dt K (by omega) hS hh6 hn16 hR8 hD9 (by omega) (by omega) (by omega) (by omega) (by omega) hva hvb  k1630
                                · refine V_iload C dL_law_1376 rfl ?_
                                  refine V_iconst (v := (3 : Int32)) C dL_law_1378 (by decide) ?_
                                  refine V_iand C dL_law_1379 ?_
                                  refine V_eqi (y := nI (a1 % 4)) (pk_andN (by omega) 2 (by decide)) ?_
                                  refine V_if_neN (a := a1 % 4) (tgt := 1472) C dL_law_1380 (by decide) (by omega) (fun h1380_56 => ?_) (fun h1380_56 => ?_)
                                  · exact law_dt K (by omega) hS hh6 hn16 hR8 hD9 (by omega) (by omega) (by omega) (by omega) (by omega) hva hvb  k1630
                                  · exact law_d13 K (by omega) hS hh6 hn16 hR8 hD9 (by omega) (by omega) (by omega) (by omega) (by omega) hva hvb (by omega) k1630
                            · refine V_iload C dL_law_1156 rfl ?_
                              refine V_bipush (v := (8 : Int32)) C dL_law_1158 (by decide) ?_
                              refine V_icmp_geN (a := R) (b := 8) (tgt := 1364) C dL_law_1160 (by decide) (by omega) (by omega) (fun h1160_57 => ?_) (fun h1160_57 => ?_)
                              · refine V_iload C dL_law_1364 rfl ?_
                                refine V_bipush (v := (13 : Int32)) C dL_law_1366 (by decide) ?_
                                refine V_icmp_neN (a := d) (b := 13) (tgt := 1472) C dL_law_1368 (by decide) (by omega) (by omega) (fun h1368_58 => ?_) (fun h1368_58 => ?_)
                                · exact law_dt K (by omega) hS hh6 hn16 hR8 hD9 (by omega) (by omega) (by omega) (by omega) (by omega) hva hvb  k1630
                                · refine V_iload C dL_law_1371 rfl ?_
                                  refine V_if_leN (a := R) (tgt := 1472) C dL_law_1373 (by decide) (by omega) (fun h1373_59 => ?_) (fun h1373_59 => ?_)
                                  · exact law_dt K (by omega) hS hh6 hn16 hR8 hD9 (by omega) (by omega) (by omega) (by omega) (by omega) hva hvb  k1630
                                  · refine V_iload C dL_law_1376 rfl ?_
                                    refine V_iconst (v := (3 : Int32)) C dL_law_1378 (by decide) ?_
                                    refine V_iand C dL_law_1379 ?_
                                    refine V_eqi (y := nI (a1 % 4)) (pk_andN (by omega) 2 (by decide)) ?_
                                    refine V_if_neN (a := a1 % 4) (tgt := 1472) C dL_law_1380 (by decide) (by omega) (fun h1380_60 => ?_) (fun h1380_60 => ?_)
                                    · exact law_dt K (by omega) hS hh6 hn16 hR8 hD9 (by omega) (by omega) (by omega) (by omega) (by omega) hva hvb  k1630
                                    · exact law_d13 K (by omega) hS hh6 hn16 hR8 hD9 (by omega) (by omega) (by omega) (by omega) (by omega) hva hvb (by omega) k1630
                              · exact law_d11 K (by omega) hS hh6 hn16 hR8 hD9 (by omega) (by omega) (by omega) (by omega) (by omega) hva hvb (by omega) k1630
                          · refine V_iload C dL_law_1064 rfl ?_
                            refine V_iconst (v := (1 : Int32)) C dL_law_1066 (by decide) ?_
                            refine V_iand C dL_law_1067 ?_
                            refine V_eqi (y := nI (a1 % 2)) (pk_andN (by omega) 1 (by decide)) ?_
                            refine V_if_neN (a := a1 % 2) (tgt := 1149) C dL_law_1068 (by decide) (by omega) (fun h1068_61 => ?_) (fun h1068_61 => ?_)
                            · refine V_iload C dL_law_1149 rfl ?_
                              refine V_bipush (v := (13 : Int32)) C dL_law_1151 (by decide) ?_
                              refine V_icmp_geN (a := d) (b := 13) (tgt := 1364) C dL_law_1153 (by decide) (by omega) (by omega) (fun h1153_62 => ?_) (fun h1153_62 => ?_)
                              · refine V_iload C dL_law_1364 rfl ?_
                                refine V_bipush (v := (13 : Int32)) C dL_law_1366 (by decide) ?_
                                refine V_icmp_neN (a := d) (b := 13) (tgt := 1472) C dL_law_1368 (by decide) (by omega) (by omega) (fun h1368_63 => ?_) (fun h1368_63 => ?_)
                                · exact law_dt K (by omega) hS hh6 hn16 hR8 hD9 (by omega) (by omega) (by omega) (by omega) (by omega) hva hvb  k1630
                                · refine V_iload C dL_law_1371 rfl ?_
                                  refine V_if_leN (a := R) (tgt := 1472) C dL_law_1373 (by decide) (by omega) (fun h1373_64 => ?_) (fun h1373_64 => ?_)
                                  · exact law_dt K (by omega) hS hh6 hn16 hR8 hD9 (by omega) (by omega) (by omega) (by omega) (by omega) hva hvb  k1630
                                  · refine V_iload C dL_law_1376 rfl ?_
                                    refine V_iconst (v := (3 : Int32)) C dL_law_1378 (by decide) ?_
                                    refine V_iand C dL_law_1379 ?_
                                    refine V_eqi (y := nI (a1 % 4)) (pk_andN (by omega) 2 (by decide)) ?_
                                    refine V_if_neN (a := a1 % 4) (tgt := 1472) C dL_law_1380 (by decide) (by omega) (fun h1380_65 => ?_) (fun h1380_65 => ?_)
                                    · exact law_dt K (by omega) hS hh6 hn16 hR8 hD9 (by omega) (by omega) (by omega) (by omega) (by omega) hva hvb  k1630
                                    · exact law_d13 K (by omega) hS hh6 hn16 hR8 hD9 (by omega) (by omega) (by omega) (by omega) (by omega) hva hvb (by omega) k1630
                              · refine V_iload C dL_law_1156 rfl ?_
                                refine V_bipush (v := (8 : Int32)) C dL_law_1158 (by decide) ?_
                                refine V_icmp_geN (a := R) (b := 8) (tgt := 1364) C dL_law_1160 (by decide) (by omega) (by omega) (fun h1160_66 => ?_) (fun h1160_66 => ?_)
                                · refine V_iload C dL_law_1364 rfl ?_
                                  refine V_bipush (v := (13 : Int32)) C dL_law_1366 (by decide) ?_
                                  refine V_icmp_neN (a := d) (b := 13) (tgt := 1472) C dL_law_1368 (by decide) (by omega) (by omega) (fun h1368_67 => ?_) (fun h1368_67 => ?_)
                                  · exact law_dt K (by omega) hS hh6 hn16 hR8 hD9 (by omega) (by omega) (by omega) (by omega) (by omega) hva hvb  k1630
                                  · refine V_iload C dL_law_1371 rfl ?_
                                    refine V_if_leN (a := R) (tgt := 1472) C dL_law_1373 (by decide) (by omega) (fun h1373_68 => ?_) (fun h1373_68 => ?_)
                                    · exact law_dt K (by omega) hS hh6 hn16 hR8 hD9 (by omega) (by omega) (by omega) (by omega) (by omega) hva hvb  k1630
                                    · refine V_iload C dL_law_1376 rfl ?_
                                      refine V_iconst (v := (3 : Int32)) C dL_law_1378 (by decide) ?_
                                      refine V_iand C dL_law_1379 ?_
                                      refine V_eqi (y := nI (a1 % 4)) (pk_andN (by omega) 2 (by decide)) ?_
                                      refine V_if_neN (a := a1 % 4) (tgt := 1472) C dL_law_1380 (by decide) (by omega) (fun h1380_69 => ?_) (fun h1380_69 => ?_)
                                      · exact law_dt K (by omega) hS hh6 hn16 hR8 hD9 (by omega) (by omega) (by omega) (by omega) (by omega) hva hvb  k1630
                                      · exact law_d13 K (by omega) hS hh6 hn16 hR8 hD9 (by omega) (by omega) (by omega) (by omega) (by omega) hva hvb (by omega) k1630
                                · exact law_d11 K (by omega) hS hh6 hn16 hR8 hD9 (by omega) (by omega) (by omega) (by omega) (by omega) hva hvb (by omega) k1630
                            · exact law_d10 K (by omega) hS hh6 hn16 hR8 hD9 (by omega) (by omega) (by omega) (by omega) (by omega) hva hvb  k1630
                        · exact law_d9 K (by omega) hS hh6 hn16 hR8 hD9 (by omega) (by omega) (by omega) (by omega) (by omega) hva hvb  k1630
                      · exact law_d8 K (by omega) hS hh6 hn16 hR8 hD9 (by omega) (by omega) (by omega) (by omega) (by omega) hva hvb (by omega) k1630
                · refine V_iload C dL_law_863 rfl ?_
                  refine V_if_leN (a := n) (tgt := 919) C dL_law_865 (by decide) (by omega) (fun h865_70 => ?_) (fun h865_70 => ?_)
                  · refine V_iload C dL_law_919 rfl ?_
                    refine V_bipush (v := (8 : Int32)) C dL_law_921 (by decide) ?_
                    refine V_icmp_neN (a := d) (b := 8) (tgt := 995) C dL_law_923 (by decide) (by omega) (by omega) (fun h923_71 => ?_) (fun h923_71 => ?_)
                    · refine V_iload C dL_law_995 rfl ?_
                      refine V_bipush (v := (10 : Int32)) C dL_law_997 (by decide) ?_
                      refine V_icmp_geN (a := d) (b := 10) (tgt := 1057) C dL_law_999 (by decide) (by omega) (by omega) (fun h999_72 => ?_) (fun h999_72 => ?_)
                      · refine V_iload C dL_law_1057 rfl ?_
                        refine V_bipush (v := (10 : Int32)) C dL_law_1059 (by decide) ?_
                        refine V_icmp_neN (a := d) (b := 10) (tgt := 1149) C dL_law_1061 (by decide) (by omega) (by omega) (fun h1061_73 => ?_) (fun h1061_73 => ?_)
                        · refine V_iload C dL_law_1149 rfl ?_
                          refine V_bipush (v := (13 : Int32)) C dL_law_1151 (by decide) ?_
                          refine V_icmp_geN (a := d) (b := 13) (tgt := 1364) C dL_law_1153 (by decide) (by omega) (by omega) (fun h1153_74 => ?_) (fun h1153_74 => ?_)
                          · refine V_iload C dL_law_1364 rfl ?_
                            refine V_bipush (v := (13 : Int32)) C dL_law_1366 (by decide) ?_
                            refine V_icmp_neN (a := d) (b := 13) (tgt := 1472) C dL_law_1368 (by decide) (by omega) (by omega) (fun h1368_75 => ?_) (fun h1368_75 => ?_)
                            · exact law_dt K (by omega) hS hh6 hn16 hR8 hD9 (by omega) (by omega) (by omega) (by omega) (by omega) hva hvb  k1630
                            · refine V_iload C dL_law_1371 rfl ?_
                              refine V_if_leN (a := R) (tgt := 1472) C dL_law_1373 (by decide) (by omega) (fun h1373_76 => ?_) (fun h1373_76 => ?_)
                              · exact law_dt K (by omega) hS hh6 hn16 hR8 hD9 (by omega) (by omega) (by omega) (by omega) (by omega) hva hvb  k1630
                              · refine V_iload C dL_law_1376 rfl ?_
                                refine V_iconst (v := (3 : Int32)) C dL_law_1378 (by decide) ?_
                                refine V_iand C dL_law_1379 ?_
                                refine V_eqi (y := nI (a1 % 4)) (pk_andN (by omega) 2 (by decide)) ?_
                                refine V_if_neN (a := a1 % 4) (tgt := 1472) C dL_law_1380 (by decide) (by omega) (fun h1380_77 => ?_) (fun h1380_77 => ?_)
                                · exact law_dt K (by omega) hS hh6 hn16 hR8 hD9 (by omega) (by omega) (by omega) (by omega) (by omega) hva hvb  k1630
                                · exact law_d13 K (by omega) hS hh6 hn16 hR8 hD9 (by omega) (by omega) (by omega) (by omega) (by omega) hva hvb (by omega) k1630
                          · refine V_iload C dL_law_1156 rfl ?_
                            refine V_bipush (v := (8 : Int32)) C dL_law_1158 (by decide) ?_
                            refine V_icmp_geN (a := R) (b := 8) (tgt := 1364) C dL_law_1160 (by decide) (by omega) (by omega) (fun h1160_78 => ?_) (fun h1160_78 => ?_)
                            · refine V_iload C dL_law_1364 rfl ?_
                              refine V_bipush (v := (13 : Int32)) C dL_law_1366 (by decide) ?_
                              refine V_icmp_neN (a := d) (b := 13) (tgt := 1472) C dL_law_1368 (by decide) (by omega) (by omega) (fun h1368_79 => ?_) (fun h1368_79 => ?_)
                              · exact law_dt K (by omega) hS hh6 hn16 hR8 hD9 (by omega) (by omega) (by omega) (by omega) (by omega) hva hvb  k1630
                              · refine V_iload C dL_law_1371 rfl ?_
                                refine V_if_leN (a := R) (tgt := 1472) C dL_law_1373 (by decide) (by omega) (fun h1373_80 => ?_) (fun h1373_80 => ?_)
                                · exact law_dt K (by omega) hS hh6 hn16 hR8 hD9 (by omega) (by omega) (by omega) (by omega) (by omega) hva hvb  k1630
                                · refine V_iload C dL_law_1376 rfl ?_
                                  refine V_iconst (v := (3 : Int32)) C dL_law_1378 (by decide) ?_
                                  refine V_iand C dL_law_1379 ?_
                                  refine V_eqi (y := nI (a1 % 4)) (pk_andN (by omega) 2 (by decide)) ?_
                                  refine V_if_neN (a := a1 % 4) (tgt := 1472) C dL_law_1380 (by decide) (by omega) (fun h1380_81 => ?_) (fun h1380_81 => ?_)
                                  · exact law_dt K (by omega) hS hh6 hn16 hR8 hD9 (by omega) (by omega) (by omega) (by omega) (by omega) hva hvb  k1630
                                  · exact law_d13 K (by omega) hS hh6 hn16 hR8 hD9 (by omega) (by omega) (by omega) (by omega) (by omega) hva hvb (by omega) k1630
                            · exact law_d11 K (by omega) hS hh6 hn16 hR8 hD9 (by omega) (by omega) (by omega) (by omega) (by omega) hva hvb (by omega) k1630
                        · refine V_iload C dL_law_1064 rfl ?_
                          refine V_iconst (v := (1 : Int32)) C dL_law_1066 (by decide) ?_
                          refine V_iand C dL_law_1067 ?_
                          refine V_eqi (y := nI (a1 % 2)) (pk_andN (by omega) 1 (by decide)) ?_
                          refine V_if_neN (a := a1 % 2) (tgt := 1149) C dL_law_1068 (by decide) (by omega) (fun h1068_82 => ?_) (fun h1068_82 => ?_)
                          · refine V_iload C dL_law_1149 rfl ?_
                            refine V_bipush (v := (13 : Int32)) C dL_law_1151 (by decide) ?_
                            refine V_icmp_geN (a := d) (b := 13) (tgt := 1364) C dL_law_1153 (by decide) (by omega) (by omega) (fun h1153_83 => ?_) (fun h1153_83 => ?_)
                            · refine V_iload C dL_law_1364 rfl ?_
                              refine V_bipush (v := (13 : Int32)) C dL_law_1366 (by decide) ?_
                              refine V_icmp_neN (a := d) (b := 13) (tgt := 1472) C dL_law_1368 (by decide) (by omega) (by omega) (fun h1368_84 => ?_) (fun h1368_84 => ?_)
                              · exact law_dt K (by omega) hS hh6 hn16 hR8 hD9 (by omega) (by omega) (by omega) (by omega) (by omega) hva hvb  k1630
                              · refine V_iload C dL_law_1371 rfl ?_
                                refine V_if_leN (a := R) (tgt := 1472) C dL_law_1373 (by decide) (by omega) (fun h1373_85 => ?_) (fun h1373_85 => ?_)
                                · exact law_dt K (by omega) hS hh6 hn16 hR8 hD9 (by omega) (by omega) (by omega) (by omega) (by omega) hva hvb  k1630
                                · refine V_iload C dL_law_1376 rfl ?_
                                  refine V_iconst (v := (3 : Int32)) C dL_law_1378 (by decide) ?_
                                  refine V_iand C dL_law_1379 ?_
                                  refine V_eqi (y := nI (a1 % 4)) (pk_andN (by omega) 2 (by decide)) ?_
                                  refine V_if_neN (a := a1 % 4) (tgt := 1472) C dL_law_1380 (by decide) (by omega) (fun h1380_86 => ?_) (fun h1380_86 => ?_)
                                  · exact law_dt K (by omega) hS hh6 hn16 hR8 hD9 (by omega) (by omega) (by omega) (by omega) (by omega) hva hvb  k1630
                                  · exact law_d13 K (by omega) hS hh6 hn16 hR8 hD9 (by omega) (by omega) (by omega) (by omega) (by omega) hva hvb (by omega) k1630
                            · refine V_iload C dL_law_1156 rfl ?_
                              refine V_bipush (v := (8 : Int32)) C dL_law_1158 (by decide) ?_
                              refine V_icmp_geN (a := R) (b := 8) (tgt := 1364) C dL_law_1160 (by decide) (by omega) (by omega) (fun h1160_87 => ?_) (fun h1160_87 => ?_)
                              · refine V_iload C dL_law_1364 rfl ?_
                                refine V_bipush (v := (13 : Int32)) C dL_law_1366 (by decide) ?_
                                refine V_icmp_neN (a := d) (b := 13) (tgt := 1472) C dL_law_1368 (by decide) (by omega) (by omega) (fun h1368_88 => ?_) (fun h1368_88 => ?_)
                                · exact law_dt K (by omega) hS hh6 hn16 hR8 hD9 (by omega) (by omega) (by omega) (by omega) (by omega) hva hvb  k1630
                                · refine V_iload C dL_law_1371 rfl ?_
                                  refine V_if_leN (a := R) (tgt := 1472) C dL_law_1373 (by decide) (by omega) (fun h1373_89 => ?_) (fun h1373_89 => ?_)
                                  · exact law_dt K (by omega) hS hh6 hn16 hR8 hD9 (by omega) (by omega) (by omega) (by omega) (by omega) hva hvb  k1630
                                  · refine V_iload C dL_law_1376 rfl ?_
                                    refine V_iconst (v := (3 : Int32)) C dL_law_1378 (by decide) ?_
                                    refine V_iand C dL_law_1379 ?_
                                    refine V_eqi (y := nI (a1 % 4)) (pk_andN (by omega) 2 (by decide)) ?_
                                    refine V_if_neN (a := a1 % 4) (tgt := 1472) C dL_law_1380 (by decide) (by omega) (fun h1380_90 => ?_) (fun h1380_90 => ?_)
                                    · exact law_dt K (by omega) hS hh6 hn16 hR8 hD9 (by omega) (by omega) (by omega) (by omega) (by omega) hva hvb  k1630
                                    · exact law_d13 K (by omega) hS hh6 hn16 hR8 hD9 (by omega) (by omega) (by omega) (by omega) (by omega) hva hvb (by omega) k1630
                              · exact law_d11 K (by omega) hS hh6 hn16 hR8 hD9 (by omega) (by omega) (by omega) (by omega) (by omega) hva hvb (by omega) k1630
                          · exact law_d10 K (by omega) hS hh6 hn16 hR8 hD9 (by omega) (by omega) (by omega) (by omega) (by omega) hva hvb  k1630
                      · exact law_d9 K (by omega) hS hh6 hn16 hR8 hD9 (by omega) (by omega) (by omega) (by omega) (by omega) hva hvb  k1630
                    · refine V_iload C dL_law_926 rfl ?_
                      refine V_if_leN (a := n) (tgt := 995) C dL_law_928 (by decide) (by omega) (fun h928_91 => ?_) (fun h928_91 => ?_)
                      · refine V_iload C dL_law_995 rfl ?_
                        refine V_bipush (v := (10 : Int32)) C dL_law_997 (by decide) ?_
                        refine V_icmp_geN (a := d) (b := 10) (tgt := 1057) C dL_law_999 (by decide) (by omega) (by omega) (fun h999_92 => ?_) (fun h999_92 => ?_)
                        · refine V_iload C dL_law_1057 rfl ?_
                          refine V_bipush (v := (10 : Int32)) C dL_law_1059 (by decide) ?_
                          refine V_icmp_neN (a := d) (b := 10) (tgt := 1149) C dL_law_1061 (by decide) (by omega) (by omega) (fun h1061_93 => ?_) (fun h1061_93 => ?_)
                          · refine V_iload C dL_law_1149 rfl ?_
                            refine V_bipush (v := (13 : Int32)) C dL_law_1151 (by decide) ?_
                            refine V_icmp_geN (a := d) (b := 13) (tgt := 1364) C dL_law_1153 (by decide) (by omega) (by omega) (fun h1153_94 => ?_) (fun h1153_94 => ?_)
                            · refine V_iload C dL_law_1364 rfl ?_
                              refine V_bipush (v := (13 : Int32)) C dL_law_1366 (by decide) ?_
                              refine V_icmp_neN (a := d) (b := 13) (tgt := 1472) C dL_law_1368 (by decide) (by omega) (by omega) (fun h1368_95 => ?_) (fun h1368_95 => ?_)
                              · exact law_dt K (by omega) hS hh6 hn16 hR8 hD9 (by omega) (by omega) (by omega) (by omega) (by omega) hva hvb  k1630
                              · refine V_iload C dL_law_1371 rfl ?_
                                refine V_if_leN (a := R) (tgt := 1472) C dL_law_1373 (by decide) (by omega) (fun h1373_96 => ?_) (fun h1373_96 => ?_)
                                · exact law_dt K (by omega) hS hh6 hn16 hR8 hD9 (by omega) (by omega) (by omega) (by omega) (by omega) hva hvb  k1630
                                · refine V_iload C dL_law_1376 rfl ?_
                                  refine V_iconst (v := (3 : Int32)) C dL_law_1378 (by decide) ?_
                                  refine V_iand C dL_law_1379 ?_
                                  refine V_eqi (y := nI (a1 % 4)) (pk_andN (by omega) 2 (by decide)) ?_
                                  refine V_if_neN (a := a1 % 4) (tgt := 1472) C dL_law_1380 (by decide) (by omega) (fun h1380_97 => ?_) (fun h1380_97 => ?_)
                                  · exact law_dt K (by omega) hS hh6 hn16 hR8 hD9 (by omega) (by omega) (by omega) (by omega) (by omega) hva hvb  k1630
                                  · exact law_d13 K (by omega) hS hh6 hn16 hR8 hD9 (by omega) (by omega) (by omega) (by omega) (by omega) hva hvb (by omega) k1630
                            · refine V_iload C dL_law_1156 rfl ?_
                              refine V_bipush (v := (8 : Int32)) C dL_law_1158 (by decide) ?_
                              refine V_icmp_geN (a := R) (b := 8) (tgt := 1364) C dL_law_1160 (by decide) (by omega) (by omega) (fun h1160_98 => ?_) (fun h1160_98 => ?_)
                              · refine V_iload C dL_law_1364 rfl ?_
                                refine V_bipush (v := (13 : Int32)) C dL_law_1366 (by decide) ?_
                                refine V_icmp_neN (a := d) (b := 13) (tgt := 1472) C dL_law_1368 (by decide) (by omega) (by omega) (fun h1368_99 => ?_) (fun h1368_99 => ?_)
                                · exact law_dt K (by omega) hS hh6 hn16 hR8 hD9 (by omega) (by omega) (by omega) (by omega) (by omega) hva hvb  k1630
                                · refine V_iload C dL_law_1371 rfl ?_
                                  refine V_if_leN (a := R) (tgt := 1472) C dL_law_1373 (by decide) (by omega) (fun h1373_100 => ?_) (fun h1373_100 => ?_)
                                  · exact law_dt K (by omega) hS hh6 hn16 hR8 hD9 (by omega) (by omega) (by omega) (by omega) (by omega) hva hvb  k1630
                                  · refine V_iload C dL_law_1376 rfl ?_
                                    refine V_iconst (v := (3 : Int32)) C dL_law_1378 (by decide) ?_
                                    refine V_iand C dL_law_1379 ?_
                                    refine V_eqi (y := nI (a1 % 4)) (pk_andN (by omega) 2 (by decide)) ?_
                                    refine V_if_neN (a := a1 % 4) (tgt := 1472) C dL_law_1380 (by decide) (by omega) (fun h1380_101 => ?_) (fun h1380_101 => ?_)
                                    · exact law_dt K (by omega) hS hh6 hn16 hR8 hD9 (by omega) (by omega) (by omega) (by omega) (by omega) hva hvb  k1630
                                    · exact law_d13 K (by omega) hS hh6 hn16 hR8 hD9 (by omega) (by omega) (by omega) (by omega) (by omega) hva hvb (by omega) k1630
                              · exact law_d11 K (by omega) hS hh6 hn16 hR8 hD9 (by omega) (by omega) (by omega) (by omega) (by omega) hva hvb (by omega) k1630
                          · refine V_iload C dL_law_1064 rfl ?_
                            refine V_iconst (v := (1 : Int32)) C dL_law_1066 (by decide) ?_
                            refine V_iand C dL_law_1067 ?_
                            refine V_eqi (y := nI (a1 % 2)) (pk_andN (by omega) 1 (by decide)) ?_
                            refine V_if_neN (a := a1 % 2) (tgt := 1149) C dL_law_1068 (by decide) (by omega) (fun h1068_102 => ?_) (fun h1068_102 => ?_)
                            · refine V_iload C dL_law_1149 rfl ?_
                              refine V_bipush (v := (13 : Int32)) C dL_law_1151 (by decide) ?_
                              refine V_icmp_geN (a := d) (b := 13) (tgt := 1364) C dL_law_1153 (by decide) (by omega) (by omega) (fun h1153_103 => ?_) (fun h1153_103 => ?_)
                              · refine V_iload C dL_law_1364 rfl ?_
                                refine V_bipush (v := (13 : Int32)) C dL_law_1366 (by decide) ?_
                                refine V_icmp_neN (a := d) (b := 13) (tgt := 1472) C dL_law_1368 (by decide) (by omega) (by omega) (fun h1368_104 => ?_) (fun h1368_104 => ?_)
                                · exact law_dt K (by omega) hS hh6 hn16 hR8 hD9 (by omega) (by omega) (by omega) (by omega) (by omega) hva hvb  k1630
                                · refine V_iload C dL_law_1371 rfl ?_
                                  refine V_if_leN (a := R) (tgt := 1472) C dL_law_1373 (by decide) (by omega) (fun h1373_105 => ?_) (fun h1373_105 => ?_)
                                  · exact law_dt K (by omega) hS hh6 hn16 hR8 hD9 (by omega) (by omega) (by omega) (by omega) (by omega) hva hvb  k1630
                                  · refine V_iload C dL_law_1376 rfl ?_
                                    refine V_iconst (v := (3 : Int32)) C dL_law_1378 (by decide) ?_
                                    refine V_iand C dL_law_1379 ?_
                                    refine V_eqi (y := nI (a1 % 4)) (pk_andN (by omega) 2 (by decide)) ?_
                                    refine V_if_neN (a := a1 % 4) (tgt := 1472) C dL_law_1380 (by decide) (by omega) (fun h1380_106 => ?_) (fun h1380_106 => ?_)
                                    · exact law_dt K (by omega) hS hh6 hn16 hR8 hD9 (by omega) (by omega) (by omega) (by omega) (by omega) hva hvb  k1630
                                    · exact law_d13 K (by omega) hS hh6 hn16 hR8 hD9 (by omega) (by omega) (by omega) (by omega) (by omega) hva hvb (by omega) k1630
                              · refine V_iload C dL_law_1156 rfl ?_
                                refine V_bipush (v := (8 : Int32)) C dL_law_1158 (by decide) ?_
                                refine V_icmp_geN (a := R) (b := 8) (tgt := 1364) C dL_law_1160 (by decide) (by omega) (by omega) (fun h1160_107 => ?_) (fun h1160_107 => ?_)
                                · refine V_iload C dL_law_1364 rfl ?_
                                  refine V_bipush (v := (13 : Int32)) C dL_law_1366 (by decide) ?_
                                  refine V_icmp_neN (a := d) (b := 13) (tgt := 1472) C dL_law_1368 (by decide) (by omega) (by omega) (fun h1368_108 => ?_) (fun h1368_108 => ?_)
                                  · exact law_dt K (by omega) hS hh6 hn16 hR8 hD9 (by omega) (by omega) (by omega) (by omega) (by omega) hva hvb  k1630
                                  · refine V_iload C dL_law_1371 rfl ?_
                                    refine V_if_leN (a := R) (tgt := 1472) C dL_law_1373 (by decide) (by omega) (fun h1373_109 => ?_) (fun h1373_109 => ?_)
                                    · exact law_dt K (by omega) hS hh6 hn16 hR8 hD9 (by omega) (by omega) (by omega) (by omega) (by omega) hva hvb  k1630
                                    · refine V_iload C dL_law_1376 rfl ?_
                                      refine V_iconst (v := (3 : Int32)) C dL_law_1378 (by decide) ?_
                                      refine V_iand C dL_law_1379 ?_
                                      refine V_eqi (y := nI (a1 % 4)) (pk_andN (by omega) 2 (by decide)) ?_
                                      refine V_if_neN (a := a1 % 4) (tgt := 1472) C dL_law_1380 (by decide) (by omega) (fun h1380_110 => ?_) (fun h1380_110 => ?_)
                                      · exact law_dt K (by omega) hS hh6 hn16 hR8 hD9 (by omega) (by omega) (by omega) (by omega) (by omega) hva hvb  k1630
                                      · exact law_d13 K (by omega) hS hh6 hn16 hR8 hD9 (by omega) (by omega) (by omega) (by omega) (by omega) hva hvb (by omega) k1630
                                · exact law_d11 K (by omega) hS hh6 hn16 hR8 hD9 (by omega) (by omega) (by omega) (by omega) (by omega) hva hvb (by omega) k1630
                            · exact law_d10 K (by omega) hS hh6 hn16 hR8 hD9 (by omega) (by omega) (by omega) (by omega) (by omega) hva hvb  k1630
                        · exact law_d9 K (by omega) hS hh6 hn16 hR8 hD9 (by omega) (by omega) (by omega) (by omega) (by omega) hva hvb  k1630
                      · refine V_iload C dL_law_931 rfl ?_
                        refine V_iconst (v := (3 : Int32)) C dL_law_933 (by decide) ?_
                        refine V_iand C dL_law_934 ?_
                        refine V_eqi (y := nI (a1 % 4)) (pk_andN (by omega) 2 (by decide)) ?_
                        refine V_if_neN (a := a1 % 4) (tgt := 995) C dL_law_935 (by decide) (by omega) (fun h935_111 => ?_) (fun h935_111 => ?_)
                        · refine V_iload C dL_law_995 rfl ?_
                          refine V_bipush (v := (10 : Int32)) C dL_law_997 (by decide) ?_
                          refine V_icmp_geN (a := d) (b := 10) (tgt := 1057) C dL_law_999 (by decide) (by omega) (by omega) (fun h999_112 => ?_) (fun h999_112 => ?_)
                          · refine V_iload C dL_law_1057 rfl ?_
                            refine V_bipush (v := (10 : Int32)) C dL_law_1059 (by decide) ?_
                            refine V_icmp_neN (a := d) (b := 10) (tgt := 1149) C dL_law_1061 (by decide) (by omega) (by omega) (fun h1061_113 => ?_) (fun h1061_113 => ?_)
                            · refine V_iload C dL_law_1149 rfl ?_
                              refine V_bipush (v := (13 : Int32)) C dL_law_1151 (by decide) ?_
                              refine V_icmp_geN (a := d) (b := 13) (tgt := 1364) C dL_law_1153 (by decide) (by omega) (by omega) (fun h1153_114 => ?_) (fun h1153_114 => ?_)
                              · refine V_iload C dL_law_1364 rfl ?_
                                refine V_bipush (v := (13 : Int32)) C dL_law_1366 (by decide) ?_
                                refine V_icmp_neN (a := d) (b := 13) (tgt := 1472) C dL_law_1368 (by decide) (by omega) (by omega) (fun h1368_115 => ?_) (fun h1368_115 => ?_)
                                · exact law_dt K (by omega) hS hh6 hn16 hR8 hD9 (by omega) (by omega) (by omega) (by omega) (by omega) hva hvb  k1630
                                · refine V_iload C dL_law_1371 rfl ?_
                                  refine V_if_leN (a := R) (tgt := 1472) C dL_law_1373 (by decide) (by omega) (fun h1373_116 => ?_) (fun h1373_116 => ?_)
                                  · exact law_dt K (by omega) hS hh6 hn16 hR8 hD9 (by omega) (by omega) (by omega) (by omega) (by omega) hva hvb  k1630
                                  · refine V_iload C dL_law_1376 rfl ?_
                                    refine V_iconst (v := (3 : Int32)) C dL_law_1378 (by decide) ?_
                                    refine V_iand C dL_law_1379 ?_
                                    refine V_eqi (y := nI (a1 % 4)) (pk_andN (by omega) 2 (by decide)) ?_
                                    refine V_if_neN (a := a1 % 4) (tgt := 1472) C dL_law_1380 (by decide) (by omega) (fun h1380_117 => ?_) (fun h1380_117 => ?_)
                                    · exact law_dt K (by omega) hS hh6 hn16 hR8 hD9 (by omega) (by omega) (by omega) (by omega) (by omega) hva hvb  k1630
                                    · exact law_d13 K (by omega) hS hh6 hn16 hR8 hD9 (by omega) (by omega) (by omega) (by omega) (by omega) hva hvb (by omega) k1630
                              · refine V_iload C dL_law_1156 rfl ?_
                                refine V_bipush (v := (8 : Int32)) C dL_law_1158 (by decide) ?_
                                refine V_icmp_geN (a := R) (b := 8) (tgt := 1364) C dL_law_1160 (by decide) (by omega) (by omega) (fun h1160_118 => ?_) (fun h1160_118 => ?_)
                                · refine V_iload C dL_law_1364 rfl ?_
                                  refine V_bipush (v := (13 : Int32)) C dL_law_1366 (by decide) ?_
                                  refine V_icmp_neN (a := d) (b := 13) (tgt := 1472) C dL_law_1368 (by decide) (by omega) (by omega) (fun h1368_119 => ?_) (fun h1368_119 => ?_)
                                  · exact law_dt K (by omega) hS hh6 hn16 hR8 hD9 (by omega) (by omega) (by omega) (by omega) (by omega) hva hvb  k1630
                                  · refine V_iload C dL_law_1371 rfl ?_
                                    refine V_if_leN (a := R) (tgt := 1472) C dL_law_1373 (by decide) (by omega) (fun h1373_120 => ?_) (fun h1373_120 => ?_)
                                    · exact law_dt K (by omega) hS hh6 hn16 hR8 hD9 (by omega) (by omega) (by omega) (by omega) (by omega) hva hvb  k1630
                                    · refine V_iload C dL_law_1376 rfl ?_
                                      refine V_iconst (v := (3 : Int32)) C dL_law_1378 (by decide) ?_
                                      refine V_iand C dL_law_1379 ?_
                                      refine V_eqi (y := nI (a1 % 4)) (pk_andN (by omega) 2 (by decide)) ?_
                                      refine V_if_neN (a := a1 % 4) (tgt := 1472) C dL_law_1380 (by decide) (by omega) (fun h1380_121 => ?_) (fun h1380_121 => ?_)
                                      · exact law_dt K (by omega) hS hh6 hn16 hR8 hD9 (by omega) (by omega) (by omega) (by omega) (by omega) hva hvb  k1630
                                      · exact law_d13 K (by omega) hS hh6 hn16 hR8 hD9 (by omega) (by omega) (by omega) (by omega) (by omega) hva hvb (by omega) k1630
                                · exact law_d11 K (by omega) hS hh6 hn16 hR8 hD9 (by omega) (by omega) (by omega) (by omega) (by omega) hva hvb (by omega) k1630
                            · refine V_iload C dL_law_1064 rfl ?_
                              refine V_iconst (v := (1 : Int32)) C dL_law_1066 (by decide) ?_
                              refine V_iand C dL_law_1067 ?_
                              refine V_eqi (y := nI (a1 % 2)) (pk_andN (by omega) 1 (by decide)) ?_
                              refine V_if_neN (a := a1 % 2) (tgt := 1149) C dL_law_1068 (by decide) (by omega) (fun h1068_122 => ?_) (fun h1068_122 => ?_)
                              · refine V_iload C dL_law_1149 rfl ?_
                                refine V_bipush (v := (13 : Int32)) C dL_law_1151 (by decide) ?_
                                refine V_icmp_geN (a := d) (b := 13) (tgt := 1364) C dL_law_1153 (by decide) (by omega) (by omega) (fun h1153_123 => ?_) (fun h1153_123 => ?_)
                                · refine V_iload C dL_law_1364 rfl ?_
                                  refine V_bipush (v := (13 : Int32)) C dL_law_1366 (by decide) ?_
                                  refine V_icmp_neN (a := d) (b := 13) (tgt := 1472) C dL_law_1368 (by decide) (by omega) (by omega) (fun h1368_124 => ?_) (fun h1368_124 => ?_)
                                  · exact law_dt K (by omega) hS hh6 hn16 hR8 hD9 (by omega) (by omega) (by omega) (by omega) (by omega) hva hvb  k1630
                                  · refine V_iload C dL_law_1371 rfl ?_
                                    refine V_if_leN (a := R) (tgt := 1472) C dL_law_1373 (by decide) (by omega) (fun h1373_125 => ?_) (fun h1373_125 => ?_)
                                    · exact law_dt K (by omega) hS hh6 hn16 hR8 hD9 (by omega) (by omega) (by omega) (by omega) (by omega) hva hvb  k1630
                                    · refine V_iload C dL_law_1376 rfl ?_
                                      refine V_iconst (v := (3 : Int32)) C dL_law_1378 (by decide) ?_
                                      refine V_iand C dL_law_1379 ?_
                                      refine V_eqi (y := nI (a1 % 4)) (pk_andN (by omega) 2 (by decide)) ?_
                                      refine V_if_neN (a := a1 % 4) (tgt := 1472) C dL_law_1380 (by decide) (by omega) (fun h1380_126 => ?_) (fun h1380_126 => ?_)
                                      · exact law_dt K (by omega) hS hh6 hn16 hR8 hD9 (by omega) (by omega) (by omega) (by omega) (by omega) hva hvb  k1630
                                      · exact law_d13 K (by omega) hS hh6 hn16 hR8 hD9 (by omega) (by omega) (by omega) (by omega) (by omega) hva hvb (by omega) k1630
                                · refine V_iload C dL_law_1156 rfl ?_
                                  refine V_bipush (v := (8 : Int32)) C dL_law_1158 (by decide) ?_
                                  refine V_icmp_geN (a := R) (b := 8) (tgt := 1364) C dL_law_1160 (by decide) (by omega) (by omega) (fun h1160_127 => ?_) (fun h1160_127 => ?_)
                                  · refine V_iload C dL_law_1364 rfl ?_
                                    refine V_bipush (v := (13 : Int32)) C dL_law_1366 (by decide) ?_
                                    refine V_icmp_neN (a := d) (b := 13) (tgt := 1472) C dL_law_1368 (by decide) (by omega) (by omega) (fun h1368_128 => ?_) (fun h1368_128 => ?_)
                                    · exact law_dt K (by omega) hS hh6 hn16 hR8 hD9 (by omega) (by omega) (by omega) (by omega) (by omega) hva hvb  k1630
                                    · refine V_iload C dL_law_1371 rfl ?_
                                      refine V_if_leN (a := R) (tgt := 1472) C dL_law_1373 (by decide) (by omega) (fun h1373_129 => ?_) (fun h1373_129 => ?_)
                                      · exact law_dt K (by omega) hS hh6 hn16 hR8 hD9 (by omega) (by omega) (by omega) (by omega) (by omega) hva hvb  k1630
                                      · refine V_iload C dL_law_1376 rfl ?_
                                        refine V_iconst (v := (3 : Int32)) C dL_law_1378 (by decide) ?_
                                        refine V_iand C dL_law_1379 ?_
                                        refine V_eqi (y := nI (a1 % 4)) (pk_andN (by omega) 2 (by decide)) ?_
                                        refine V_if_neN (a := a1 % 4) (tgt := 1472) C dL_law_1380 (by decide) (by omega) (fun h1380_130 => ?_) (fun h1380_130 => ?_)
                                        · exact law_dt K (by omega) hS hh6 hn16 hR8 hD9 (by omega) (by omega) (by omega) (by omega) (by omega) hva hvb  k1630
                                        · exact law_d13 K (by omega) hS hh6 hn16 hR8 hD9 (by omega) (by omega) (by omega) (by omega) (by omega) hva hvb (by omega) k1630
                                  · exact law_d11 K (by omega) hS hh6 hn16 hR8 hD9 (by omega) (by omega) (by omega) (by omega) (by omega) hva hvb (by omega) k1630
                              · exact law_d10 K (by omega) hS hh6 hn16 hR8 hD9 (by omega) (by omega) (by omega) (by omega) (by omega) hva hvb  k1630
                          · exact law_d9 K (by omega) hS hh6 hn16 hR8 hD9 (by omega) (by omega) (by omega) (by omega) (by omega) hva hvb  k1630
                        · exact law_d8 K (by omega) hS hh6 hn16 hR8 hD9 (by omega) (by omega) (by omega) (by omega) (by omega) hva hvb (by omega) k1630
                  · exact law_d7 K (by omega) hS hh6 hn16 hR8 hD9 (by omega) (by omega) (by omega) (by omega) (by omega) hva hvb (by omega) k1630
              · refine V_iload C dL_law_712 rfl ?_
                refine V_if_leN (a := n) (tgt := 856) C dL_law_714 (by decide) (by omega) (fun h714_131 => ?_) (fun h714_131 => ?_)
                · refine V_iload C dL_law_856 rfl ?_
                  refine V_bipush (v := (7 : Int32)) C dL_law_858 (by decide) ?_
                  refine V_icmp_neN (a := d) (b := 7) (tgt := 919) C dL_law_860 (by decide) (by omega) (by omega) (fun h860_132 => ?_) (fun h860_132 => ?_)
                  · refine V_iload C dL_law_919 rfl ?_
                    refine V_bipush (v := (8 : Int32)) C dL_law_921 (by decide) ?_
                    refine V_icmp_neN (a := d) (b := 8) (tgt := 995) C dL_law_923 (by decide) (by omega) (by omega) (fun h923_133 => ?_) (fun h923_133 => ?_)
                    · refine V_iload C dL_law_995 rfl ?_
                      refine V_bipush (v := (10 : Int32)) C dL_law_997 (by decide) ?_
                      refine V_icmp_geN (a := d) (b := 10) (tgt := 1057) C dL_law_999 (by decide) (by omega) (by omega) (fun h999_134 => ?_) (fun h999_134 => ?_)
                      · refine V_iload C dL_law_1057 rfl ?_
                        refine V_bipush (v := (10 : Int32)) C dL_law_1059 (by decide) ?_
                        refine V_icmp_neN (a := d) (b := 10) (tgt := 1149) C dL_law_1061 (by decide) (by omega) (by omega) (fun h1061_135 => ?_) (fun h1061_135 => ?_)
                        · refine V_iload C dL_law_1149 rfl ?_
                          refine V_bipush (v := (13 : Int32)) C dL_law_1151 (by decide) ?_
                          refine V_icmp_geN (a := d) (b := 13) (tgt := 1364) C dL_law_1153 (by decide) (by omega) (by omega) (fun h1153_136 => ?_) (fun h1153_136 => ?_)
                          · refine V_iload C dL_law_1364 rfl ?_
                            refine V_bipush (v := (13 : Int32)) C dL_law_1366 (by decide) ?_
                            refine V_icmp_neN (a := d) (b := 13) (tgt := 1472) C dL_law_1368 (by decide) (by omega) (by omega) (fun h1368_137 => ?_) (fun h1368_137 => ?_)
                            · exact law_dt K (by omega) hS hh6 hn16 hR8 hD9 (by omega) (by omega) (by omega) (by omega) (by omega) hva hvb  k1630
                            · refine V_iload C dL_law_1371 rfl ?_
                              refine V_if_leN (a := R) (tgt := 1472) C dL_law_1373 (by decide) (by omega) (fun h1373_138 => ?_) (fun h1373_138 => ?_)
                              · exact law_dt K (by omega) hS hh6 hn16 hR8 hD9 (by omega) (by omega) (by omega) (by omega) (by omega) hva hvb  k1630
                              · refine V_iload C dL_law_1376 rfl ?_
                                refine V_iconst (v := (3 : Int32)) C dL_law_1378 (by decide) ?_
                                refine V_iand C dL_law_1379 ?_
                                refine V_eqi (y := nI (a1 % 4)) (pk_andN (by omega) 2 (by decide)) ?_
                                refine V_if_neN (a := a1 % 4) (tgt := 1472) C dL_law_1380 (by decide) (by omega) (fun h1380_139 => ?_) (fun h1380_139 => ?_)
                                · exact law_dt K (by omega) hS hh6 hn16 hR8 hD9 (by omega) (by omega) (by omega) (by omega) (by omega) hva hvb  k1630
                                · exact law_d13 K (by omega) hS hh6 hn16 hR8 hD9 (by omega) (by omega) (by omega) (by omega) (by omega) hva hvb (by omega) k1630
                          · refine V_iload C dL_law_1156 rfl ?_
                            refine V_bipush (v := (8 : Int32)) C dL_law_1158 (by decide) ?_
                            refine V_icmp_geN (a := R) (b := 8) (tgt := 1364) C dL_law_1160 (by decide) (by omega) (by omega) (fun h1160_140 => ?_) (fun h1160_140 => ?_)
                            · refine V_iload C dL_law_1364 rfl ?_
                              refine V_bipush (v := (13 : Int32)) C dL_law_1366 (by decide) ?_
                              refine V_icmp_neN (a := d) (b := 13) (tgt := 1472) C dL_law_1368 (by decide) (by omega) (by omega) (fun h1368_141 => ?_) (fun h1368_141 => ?_)
                              · exact law_dt K (by omega) hS hh6 hn16 hR8 hD9 (by omega) (by omega) (by omega) (by omega) (by omega) hva hvb  k1630
                              · refine V_iload C dL_law_1371 rfl ?_
                                refine V_if_leN (a := R) (tgt := 1472) C dL_law_1373 (by decide) (by omega) (fun h1373_142 => ?_) (fun h1373_142 => ?_)
                                · exact law_dt K (by omega) hS hh6 hn16 hR8 hD9 (by omega) (by omega) (by omega) (by omega) (by omega) hva hvb  k1630
                                · refine V_iload C dL_law_1376 rfl ?_
                                  refine V_iconst (v := (3 : Int32)) C dL_law_1378 (by decide) ?_
                                  refine V_iand C dL_law_1379 ?_
                                  refine V_eqi (y := nI (a1 % 4)) (pk_andN (by omega) 2 (by decide)) ?_
                                  refine V_if_neN (a := a1 % 4) (tgt := 1472) C dL_law_1380 (by decide) (by omega) (fun h1380_143 => ?_) (fun h1380_143 => ?_)
                                  · exact law_dt K (by omega) hS hh6 hn16 hR8 hD9 (by omega) (by omega) (by omega) (by omega) (by omega) hva hvb  k1630
                                  · exact law_d13 K (by omega) hS hh6 hn16 hR8 hD9 (by omega) (by omega) (by omega) (by omega) (by omega) hva hvb (by omega) k1630
                            · exact law_d11 K (by omega) hS hh6 hn16 hR8 hD9 (by omega) (by omega) (by omega) (by omega) (by omega) hva hvb (by omega) k1630
                        · refine V_iload C dL_law_1064 rfl ?_
                          refine V_iconst (v := (1 : Int32)) C dL_law_1066 (by decide) ?_
                          refine V_iand C dL_law_1067 ?_
                          refine V_eqi (y := nI (a1 % 2)) (pk_andN (by omega) 1 (by decide)) ?_
                          refine V_if_neN (a := a1 % 2) (tgt := 1149) C dL_law_1068 (by decide) (by omega) (fun h1068_144 => ?_) (fun h1068_144 => ?_)
                          · refine V_iload C dL_law_1149 rfl ?_
                            refine V_bipush (v := (13 : Int32)) C dL_law_1151 (by decide) ?_
                            refine V_icmp_geN (a := d) (b := 13) (tgt := 1364) C dL_law_1153 (by decide) (by omega) (by omega) (fun h1153_145 => ?_) (fun h1153_145 => ?_)
                            · refine V_iload C dL_law_1364 rfl ?_
                              refine V_bipush (v := (13 : Int32)) C dL_law_1366 (by decide) ?_
                              refine V_icmp_neN (a := d) (b := 13) (tgt := 1472) C dL_law_1368 (by decide) (by omega) (by omega) (fun h1368_146 => ?_) (fun h1368_146 => ?_)
                              · exact law_dt K (by omega) hS hh6 hn16 hR8 hD9 (by omega) (by omega) (by omega) (by omega) (by omega) hva hvb  k1630
                              · refine V_iload C dL_law_1371 rfl ?_
                                refine V_if_leN (a := R) (tgt := 1472) C dL_law_1373 (by decide) (by omega) (fun h1373_147 => ?_) (fun h1373_147 => ?_)
                                · exact law_dt K (by omega) hS hh6 hn16 hR8 hD9 (by omega) (by omega) (by omega) (by omega) (by omega) hva hvb  k1630
                                · refine V_iload C dL_law_1376 rfl ?_
                                  refine V_iconst (v := (3 : Int32)) C dL_law_1378 (by decide) ?_
                                  refine V_iand C dL_law_1379 ?_
                                  refine V_eqi (y := nI (a1 % 4)) (pk_andN (by omega) 2 (by decide)) ?_
                                  refine V_if_neN (a := a1 % 4) (tgt := 1472) C dL_law_1380 (by decide) (by omega) (fun h1380_148 => ?_) (fun h1380_148 => ?_)
                                  · exact law_dt K (by omega) hS hh6 hn16 hR8 hD9 (by omega) (by omega) (by omega) (by omega) (by omega) hva hvb  k1630
                                  · exact law_d13 K (by omega) hS hh6 hn16 hR8 hD9 (by omega) (by omega) (by omega) (by omega) (by omega) hva hvb (by omega) k1630
                            · refine V_iload C dL_law_1156 rfl ?_
                              refine V_bipush (v := (8 : Int32)) C dL_law_1158 (by decide) ?_
                              refine V_icmp_geN (a := R) (b := 8) (tgt := 1364) C dL_law_1160 (by decide) (by omega) (by omega) (fun h1160_149 => ?_) (fun h1160_149 => ?_)
                              · refine V_iload C dL_law_1364 rfl ?_
                                refine V_bipush (v := (13 : Int32)) C dL_law_1366 (by decide) ?_
                                refine V_icmp_neN (a := d) (b := 13) (tgt := 1472) C dL_law_1368 (by decide) (by omega) (by omega) (fun h1368_150 => ?_) (fun h1368_150 => ?_)
                                · exact law_dt K (by omega) hS hh6 hn16 hR8 hD9 (by omega) (by omega) (by omega) (by omega) (by omega) hva hvb  k1630
                                · refine V_iload C dL_law_1371 rfl ?_
                                  refine V_if_leN (a := R) (tgt := 1472) C dL_law_1373 (by decide) (by omega) (fun h1373_151 => ?_) (fun h1373_151 => ?_)
                                  · exact law_dt K (by omega) hS hh6 hn16 hR8 hD9 (by omega) (by omega) (by omega) (by omega) (by omega) hva hvb  k1630
                                  · refine V_iload C dL_law_1376 rfl ?_
                                    refine V_iconst (v := (3 : Int32)) C dL_law_1378 (by decide) ?_
                                    refine V_iand C dL_law_1379 ?_
                                    refine V_eqi (y := nI (a1 % 4)) (pk_andN (by omega) 2 (by decide)) ?_
                                    refine V_if_neN (a := a1 % 4) (tgt := 1472) C dL_law_1380 (by decide) (by omega) (fun h1380_152 => ?_) (fun h1380_152 => ?_)
                                    · exact law_dt K (by omega) hS hh6 hn16 hR8 hD9 (by omega) (by omega) (by omega) (by omega) (by omega) hva hvb  k1630
                                    · exact law_d13 K (by omega) hS hh6 hn16 hR8 hD9 (by omega) (by omega) (by omega) (by omega) (by omega) hva hvb (by omega) k1630
                              · exact law_d11 K (by omega) hS hh6 hn16 hR8 hD9 (by omega) (by omega) (by omega) (by omega) (by omega) hva hvb (by omega) k1630
                          · exact law_d10 K (by omega) hS hh6 hn16 hR8 hD9 (by omega) (by omega) (by omega) (by omega) (by omega) hva hvb  k1630
                      · exact law_d9 K (by omega) hS hh6 hn16 hR8 hD9 (by omega) (by omega) (by omega) (by omega) (by omega) hva hvb  k1630
                    · refine V_iload C dL_law_926 rfl ?_
                      refine V_if_leN (a := n) (tgt := 995) C dL_law_928 (by decide) (by omega) (fun h928_153 => ?_) (fun h928_153 => ?_)
                      · refine V_iload C dL_law_995 rfl ?_
                        refine V_bipush (v := (10 : Int32)) C dL_law_997 (by decide) ?_
                        refine V_icmp_geN (a := d) (b := 10) (tgt := 1057) C dL_law_999 (by decide) (by omega) (by omega) (fun h999_154 => ?_) (fun h999_154 => ?_)
                        · refine V_iload C dL_law_1057 rfl ?_
                          refine V_bipush (v := (10 : Int32)) C dL_law_1059 (by decide) ?_
                          refine V_icmp_neN (a := d) (b := 10) (tgt := 1149) C dL_law_1061 (by decide) (by omega) (by omega) (fun h1061_155 => ?_) (fun h1061_155 => ?_)
                          · refine V_iload C dL_law_1149 rfl ?_
                            refine V_bipush (v := (13 : Int32)) C dL_law_1151 (by decide) ?_
                            refine V_icmp_geN (a := d) (b := 13) (tgt := 1364) C dL_law_1153 (by decide) (by omega) (by omega) (fun h1153_156 => ?_) (fun h1153_156 => ?_)
                            · refine V_iload C dL_law_1364 rfl ?_
                              refine V_bipush (v := (13 : Int32)) C dL_law_1366 (by decide) ?_
                              refine V_icmp_neN (a := d) (b := 13) (tgt := 1472) C dL_law_1368 (by decide) (by omega) (by omega) (fun h1368_157 => ?_) (fun h1368_157 => ?_)
                              · exact law_dt K (by omega) hS hh6 hn16 hR8 hD9 (by omega) (by omega) (by omega) (by omega) (by omega) hva hvb  k1630
                              · refine V_iload C dL_law_1371 rfl ?_
                                refine V_if_leN (a := R) (tgt := 1472) C dL_law_1373 (by decide) (by omega) (fun h1373_158 => ?_) (fun h1373_158 => ?_)
                                · exact law_dt K (by omega) hS hh6 hn16 hR8 hD9 (by omega) (by omega) (by omega) (by omega) (by omega) hva hvb  k1630
                                · refine V_iload C dL_law_1376 rfl ?_
                                  refine V_iconst (v := (3 : Int32)) C dL_law_1378 (by decide) ?_
                                  refine V_iand C dL_law_1379 ?_
                                  refine V_eqi (y := nI (a1 % 4)) (pk_andN (by omega) 2 (by decide)) ?_
                                  refine V_if_neN (a := a1 % 4) (tgt := 1472) C dL_law_1380 (by decide) (by omega) (fun h1380_159 => ?_) (fun h1380_159 => ?_)
                                  · exact law_dt K (by omega) hS hh6 hn16 hR8 hD9 (by omega) (by omega) (by omega) (by omega) (by omega) hva hvb  k1630
                                  · exact law_d13 K (by omega) hS hh6 hn16 hR8 hD9 (by omega) (by omega) (by omega) (by omega) (by omega) hva hvb (by omega) k1630
                            · refine V_iload C dL_law_1156 rfl ?_
                              refine V_bipush (v := (8 : Int32)) C dL_law_1158 (by decide) ?_
                              refine V_icmp_geN (a := R) (b := 8) (tgt := 1364) C dL_law_1160 (by decide) (by omega) (by omega) (fun h1160_160 => ?_) (fun h1160_160 => ?_)
                              · refine V_iload C dL_law_1364 rfl ?_
                                refine V_bipush (v := (13 : Int32)) C dL_law_1366 (by decide) ?_
                                refine V_icmp_neN (a := d) (b := 13) (tgt := 1472) C dL_law_1368 (by decide) (by omega) (by omega) (fun h1368_161 => ?_) (fun h1368_161 => ?_)
                                · exact law_dt K (by omega) hS hh6 hn16 hR8 hD9 (by omega) (by omega) (by omega) (by omega) (by omega) hva hvb  k1630
                                · refine V_iload C dL_law_1371 rfl ?_
                                  refine V_if_leN (a := R) (tgt := 1472) C dL_law_1373 (by decide) (by omega) (fun h1373_162 => ?_) (fun h1373_162 => ?_)
                                  · exact law_dt K (by omega) hS hh6 hn16 hR8 hD9 (by omega) (by omega) (by omega) (by omega) (by omega) hva hvb  k1630
                                  · refine V_iload C dL_law_1376 rfl ?_
                                    refine V_iconst (v := (3 : Int32)) C dL_law_1378 (by decide) ?_
                                    refine V_iand C dL_law_1379 ?_
                                    refine V_eqi (y := nI (a1 % 4)) (pk_andN (by omega) 2 (by decide)) ?_
                                    refine V_if_neN (a := a1 % 4) (tgt := 1472) C dL_law_1380 (by decide) (by omega) (fun h1380_163 => ?_) (fun h1380_163 => ?_)
                                    · exact law_dt K (by omega) hS hh6 hn16 hR8 hD9 (by omega) (by omega) (by omega) (by omega) (by omega) hva hvb  k1630
                                    · exact law_d13 K (by omega) hS hh6 hn16 hR8 hD9 (by omega) (by omega) (by omega) (by omega) (by omega) hva hvb (by omega) k1630
                              · exact law_d11 K (by omega) hS hh6 hn16 hR8 hD9 (by omega) (by omega) (by omega) (by omega) (by omega) hva hvb (by omega) k1630
                          · refine V_iload C dL_law_1064 rfl ?_
                            refine V_iconst (v := (1 : Int32)) C dL_law_1066 (by decide) ?_
                            refine V_iand C dL_law_1067 ?_
                            refine V_eqi (y := nI (a1 % 2)) (pk_andN (by omega) 1 (by decide)) ?_
                            refine V_if_neN (a := a1 % 2) (tgt := 1149) C dL_law_1068 (by decide) (by omega) (fun h1068_164 => ?_) (fun h1068_164 => ?_)
                            · refine V_iload C dL_law_1149 rfl ?_
                              refine V_bipush (v := (13 : Int32)) C dL_law_1151 (by decide) ?_
                              refine V_icmp_geN (a := d) (b := 13) (tgt := 1364) C dL_law_1153 (by decide) (by omega) (by omega) (fun h1153_165 => ?_) (fun h1153_165 => ?_)
                              · refine V_iload C dL_law_1364 rfl ?_
                                refine V_bipush (v := (13 : Int32)) C dL_law_1366 (by decide) ?_
                                refine V_icmp_neN (a := d) (b := 13) (tgt := 1472) C dL_law_1368 (by decide) (by omega) (by omega) (fun h1368_166 => ?_) (fun h1368_166 => ?_)
                                · exact law_dt K (by omega) hS hh6 hn16 hR8 hD9 (by omega) (by omega) (by omega) (by omega) (by omega) hva hvb  k1630
                                · refine V_iload C dL_law_1371 rfl ?_
                                  refine V_if_leN (a := R) (tgt := 1472) C dL_law_1373 (by decide) (by omega) (fun h1373_167 => ?_) (fun h1373_167 => ?_)
                                  · exact law_dt K (by omega) hS hh6 hn16 hR8 hD9 (by omega) (by omega) (by omega) (by omega) (by omega) hva hvb  k1630
                                  · refine V_iload C dL_law_1376 rfl ?_
                                    refine V_iconst (v := (3 : Int32)) C dL_law_1378 (by decide) ?_
                                    refine V_iand C dL_law_1379 ?_
                                    refine V_eqi (y := nI (a1 % 4)) (pk_andN (by omega) 2 (by decide)) ?_
                                    refine V_if_neN (a := a1 % 4) (tgt := 1472) C dL_law_1380 (by decide) (by omega) (fun h1380_168 => ?_) (fun h1380_168 => ?_)
                                    · exact law_dt K (by omega) hS hh6 hn16 hR8 hD9 (by omega) (by omega) (by omega) (by omega) (by omega) hva hvb  k1630
                                    · exact law_d13 K (by omega) hS hh6 hn16 hR8 hD9 (by omega) (by omega) (by omega) (by omega) (by omega) hva hvb (by omega) k1630
                              · refine V_iload C dL_law_1156 rfl ?_
                                refine V_bipush (v := (8 : Int32)) C dL_law_1158 (by decide) ?_
                                refine V_icmp_geN (a := R) (b := 8) (tgt := 1364) C dL_law_1160 (by decide) (by omega) (by omega) (fun h1160_169 => ?_) (fun h1160_169 => ?_)
                                · refine V_iload C dL_law_1364 rfl ?_
                                  refine V_bipush (v := (13 : Int32)) C dL_law_1366 (by decide) ?_
                                  refine V_icmp_neN (a := d) (b := 13) (tgt := 1472) C dL_law_1368 (by decide) (by omega) (by omega) (fun h1368_170 => ?_) (fun h1368_170 => ?_)
                                  · exact law_dt K (by omega) hS hh6 hn16 hR8 hD9 (by omega) (by omega) (by omega) (by omega) (by omega) hva hvb  k1630
                                  · refine V_iload C dL_law_1371 rfl ?_
                                    refine V_if_leN (a := R) (tgt := 1472) C dL_law_1373 (by decide) (by omega) (fun h1373_171 => ?_) (fun h1373_171 => ?_)
                                    · exact law_dt K (by omega) hS hh6 hn16 hR8 hD9 (by omega) (by omega) (by omega) (by omega) (by omega) hva hvb  k1630
                                    · refine V_iload C dL_law_1376 rfl ?_
                                      refine V_iconst (v := (3 : Int32)) C dL_law_1378 (by decide) ?_
                                      refine V_iand C dL_law_1379 ?_
                                      refine V_eqi (y := nI (a1 % 4)) (pk_andN (by omega) 2 (by decide)) ?_
                                      refine V_if_neN (a := a1 % 4) (tgt := 1472) C dL_law_1380 (by decide) (by omega) (fun h1380_172 => ?_) (fun h1380_172 => ?_)
                                      · exact law_dt K (by omega) hS hh6 hn16 hR8 hD9 (by omega) (by omega) (by omega) (by omega) (by omega) hva hvb  k1630
                                      · exact law_d13 K (by omega) hS hh6 hn16 hR8 hD9 (by omega) (by omega) (by omega) (by omega) (by omega) hva hvb (by omega) k1630
                                · exact law_d11 K (by omega) hS hh6 hn16 hR8 hD9 (by omega) (by omega) (by omega) (by omega) (by omega) hva hvb (by omega) k1630
                            · exact law_d10 K (by omega) hS hh6 hn16 hR8 hD9 (by omega) (by omega) (by omega) (by omega) (by omega) hva hvb  k1630
                        · exact law_d9 K (by omega) hS hh6 hn16 hR8 hD9 (by omega) (by omega) (by omega) (by omega) (by omega) hva hvb  k1630
                      · refine V_iload C dL_law_931 rfl ?_
                        refine V_iconst (v := (3 : Int32)) C dL_law_933 (by decide) ?_
                        refine V_iand C dL_law_934 ?_
                        refine V_eqi (y := nI (a1 % 4)) (pk_andN (by omega) 2 (by decide)) ?_
                        refine V_if_neN (a := a1 % 4) (tgt := 995) C dL_law_935 (by decide) (by omega) (fun h935_173 => ?_) (fun h935_173 => ?_)
                        · refine V_iload C dL_law_995 rfl ?_
                          refine V_bipush (v := (10 : Int32)) C dL_law_997 (by decide) ?_
                          refine V_icmp_geN (a := d) (b := 10) (tgt := 1057) C dL_law_999 (by decide) (by omega) (by omega) (fun h999_174 => ?_) (fun h999_174 => ?_)
                          · refine V_iload C dL_law_1057 rfl ?_
                            refine V_bipush (v := (10 : Int32)) C dL_law_1059 (by decide) ?_
                            refine V_icmp_neN (a := d) (b := 10) (tgt := 1149) C dL_law_1061 (by decide) (by omega) (by omega) (fun h1061_175 => ?_) (fun h1061_175 => ?_)
                            · refine V_iload C dL_law_1149 rfl ?_
                              refine V_bipush (v := (13 : Int32)) C dL_law_1151 (by decide) ?_
                              refine V_icmp_geN (a := d) (b := 13) (tgt := 1364) C dL_law_1153 (by decide) (by omega) (by omega) (fun h1153_176 => ?_) (fun h1153_176 => ?_)
                              · refine V_iload C dL_law_1364 rfl ?_
                                refine V_bipush (v := (13 : Int32)) C dL_law_1366 (by decide) ?_
                                refine V_icmp_neN (a := d) (b := 13) (tgt := 1472) C dL_law_1368 (by decide) (by omega) (by omega) (fun h1368_177 => ?_) (fun h1368_177 => ?_)
                                · exact law_dt K (by omega) hS hh6 hn16 hR8 hD9 (by omega) (by omega) (by omega) (by omega) (by omega) hva hvb  k1630
                                · refine V_iload C dL_law_1371 rfl ?_
                                  refine V_if_leN (a := R) (tgt := 1472) C dL_law_1373 (by decide) (by omega) (fun h1373_178 => ?_) (fun h1373_178 => ?_)
                                  · exact law_dt K (by omega) hS hh6 hn16 hR8 hD9 (by omega) (by omega) (by omega) (by omega) (by omega) hva hvb  k1630
                                  · refine V_iload C dL_law_1376 rfl ?_
                                    refine V_iconst (v := (3 : Int32)) C dL_law_1378 (by decide) ?_
                                    refine V_iand C dL_law_1379 ?_
                                    refine V_eqi (y := nI (a1 % 4)) (pk_andN (by omega) 2 (by decide)) ?_
                                    refine V_if_neN (a := a1 % 4) (tgt := 1472) C dL_law_1380 (by decide) (by omega) (fun h1380_179 => ?_) (fun h1380_179 => ?_)
                                    · exact law_dt K (by omega) hS hh6 hn16 hR8 hD9 (by omega) (by omega) (by omega) (by omega) (by omega) hva hvb  k1630
                                    · exact law_d13 K (by omega) hS hh6 hn16 hR8 hD9 (by omega) (by omega) (by omega) (by omega) (by omega) hva hvb (by omega) k1630
                              · refine V_iload C dL_law_1156 rfl ?_
                                refine V_bipush (v := (8 : Int32)) C dL_law_1158 (by decide) ?_
                                refine V_icmp_geN (a := R) (b := 8) (tgt := 1364) C dL_law_1160 (by decide) (by omega) (by omega) (fun h1160_180 => ?_) (fun h1160_180 => ?_)
                                · refine V_iload C dL_law_1364 rfl ?_
                                  refine V_bipush (v := (13 : Int32)) C dL_law_1366 (by decide) ?_
                                  refine V_icmp_neN (a := d) (b := 13) (tgt := 1472) C dL_law_1368 (by decide) (by omega) (by omega) (fun h1368_181 => ?_) (fun h1368_181 => ?_)
                                  · exact law_dt K (by omega) hS hh6 hn16 hR8 hD9 (by omega) (by omega) (by omega) (by omega) (by omega) hva hvb  k1630
                                  · refine V_iload C dL_law_1371 rfl ?_
                                    refine V_if_leN (a := R) (tgt := 1472) C dL_law_1373 (by decide) (by omega) (fun h1373_182 => ?_) (fun h1373_182 => ?_)
                                    · exact law_dt K (by omega) hS hh6 hn16 hR8 hD9 (by omega) (by omega) (by omega) (by omega) (by omega) hva hvb  k1630
                                    · refine V_iload C dL_law_1376 rfl ?_
                                      refine V_iconst (v := (3 : Int32)) C dL_law_1378 (by decide) ?_
                                      refine V_iand C dL_law_1379 ?_
                                      refine V_eqi (y := nI (a1 % 4)) (pk_andN (by omega) 2 (by decide)) ?_
                                      refine V_if_neN (a := a1 % 4) (tgt := 1472) C dL_law_1380 (by decide) (by omega) (fun h1380_183 => ?_) (fun h1380_183 => ?_)
                                      · exact law_dt K (by omega) hS hh6 hn16 hR8 hD9 (by omega) (by omega) (by omega) (by omega) (by omega) hva hvb  k1630
                                      · exact law_d13 K (by omega) hS hh6 hn16 hR8 hD9 (by omega) (by omega) (by omega) (by omega) (by omega) hva hvb (by omega) k1630
                                · exact law_d11 K (by omega) hS hh6 hn16 hR8 hD9 (by omega) (by omega) (by omega) (by omega) (by omega) hva hvb (by omega) k1630
                            · refine V_iload C dL_law_1064 rfl ?_
                              refine V_iconst (v := (1 : Int32)) C dL_law_1066 (by decide) ?_
                              refine V_iand C dL_law_1067 ?_
                              refine V_eqi (y := nI (a1 % 2)) (pk_andN (by omega) 1 (by decide)) ?_
                              refine V_if_neN (a := a1 % 2) (tgt := 1149) C dL_law_1068 (by decide) (by omega) (fun h1068_184 => ?_) (fun h1068_184 => ?_)
                              · refine V_iload C dL_law_1149 rfl ?_
                                refine V_bipush (v := (13 : Int32)) C dL_law_1151 (by decide) ?_
                                refine V_icmp_geN (a := d) (b := 13) (tgt := 1364) C dL_law_1153 (by decide) (by omega) (by omega) (fun h1153_185 => ?_) (fun h1153_185 => ?_)
                                · refine V_iload C dL_law_1364 rfl ?_
                                  refine V_bipush (v := (13 : Int32)) C dL_law_1366 (by decide) ?_
                                  refine V_icmp_neN (a := d) (b := 13) (tgt := 1472) C dL_law_1368 (by decide) (by omega) (by omega) (fun h1368_186 => ?_) (fun h1368_186 => ?_)
                                  · exact law_dt K (by omega) hS hh6 hn16 hR8 hD9 (by omega) (by omega) (by omega) (by omega) (by omega) hva hvb  k1630
                                  · refine V_iload C dL_law_1371 rfl ?_
                                    refine V_if_leN (a := R) (tgt := 1472) C dL_law_1373 (by decide) (by omega) (fun h1373_187 => ?_) (fun h1373_187 => ?_)
                                    · exact law_dt K (by omega) hS hh6 hn16 hR8 hD9 (by omega) (by omega) (by omega) (by omega) (by omega) hva hvb  k1630
                                    · refine V_iload C dL_law_1376 rfl ?_
                                      refine V_iconst (v := (3 : Int32)) C dL_law_1378 (by decide) ?_
                                      refine V_iand C dL_law_1379 ?_
                                      refine V_eqi (y := nI (a1 % 4)) (pk_andN (by omega) 2 (by decide)) ?_
                                      refine V_if_neN (a := a1 % 4) (tgt := 1472) C dL_law_1380 (by decide) (by omega) (fun h1380_188 => ?_) (fun h1380_188 => ?_)
                                      · exact law_dt K (by omega) hS hh6 hn16 hR8 hD9 (by omega) (by omega) (by omega) (by omega) (by omega) hva hvb  k1630
                                      · exact law_d13 K (by omega) hS hh6 hn16 hR8 hD9 (by omega) (by omega) (by omega) (by omega) (by omega) hva hvb (by omega) k1630
                                · refine V_iload C dL_law_1156 rfl ?_
                                  refine V_bipush (v := (8 : Int32)) C dL_law_1158 (by decide) ?_
                                  refine V_icmp_geN (a := R) (b := 8) (tgt := 1364) C dL_law_1160 (by decide) (by omega) (by omega) (fun h1160_189 => ?_) (fun h1160_189 => ?_)
                                  · refine V_iload C dL_law_1364 rfl ?_
                                    refine V_bipush (v := (13 : Int32)) C dL_law_1366 (by decide) ?_
                                    refine V_icmp_neN (a := d) (b := 13) (tgt := 1472) C dL_law_1368 (by decide) (by omega) (by omega) (fun h1368_190 => ?_) (fun h1368_190 => ?_)
                                    · exact law_dt K (by omega) hS hh6 hn16 hR8 hD9 (by omega) (by omega) (by omega) (by omega) (by omega) hva hvb  k1630
                                    · refine V_iload C dL_law_1371 rfl ?_
                                      refine V_if_leN (a := R) (tgt := 1472) C dL_law_1373 (by decide) (by omega) (fun h1373_191 => ?_) (fun h1373_191 => ?_)
                                      · exact law_dt K (by omega) hS hh6 hn16 hR8 hD9 (by omega) (by omega) (by omega) (by omega) (by omega) hva hvb  k1630
                                      · refine V_iload C dL_law_1376 rfl ?_
                                        refine V_iconst (v := (3 : Int32)) C dL_law_1378 (by decide) ?_
                                        refine V_iand C dL_law_1379 ?_
                                        refine V_eqi (y := nI (a1 % 4)) (pk_andN (by omega) 2 (by decide)) ?_
                                        refine V_if_neN (a := a1 % 4) (tgt := 1472) C dL_law_1380 (by decide) (by omega) (fun h1380_192 => ?_) (fun h1380_192 => ?_)
                                        · exact law_dt K (by omega) hS hh6 hn16 hR8 hD9 (by omega) (by omega) (by omega) (by omega) (by omega) hva hvb  k1630
                                        · exact law_d13 K (by omega) hS hh6 hn16 hR8 hD9 (by omega) (by omega) (by omega) (by omega) (by omega) hva hvb (by omega) k1630
                                  · exact law_d11 K (by omega) hS hh6 hn16 hR8 hD9 (by omega) (by omega) (by omega) (by omega) (by omega) hva hvb (by omega) k1630
                              · exact law_d10 K (by omega) hS hh6 hn16 hR8 hD9 (by omega) (by omega) (by omega) (by omega) (by omega) hva hvb  k1630
                          · exact law_d9 K (by omega) hS hh6 hn16 hR8 hD9 (by omega) (by omega) (by omega) (by omega) (by omega) hva hvb  k1630
                        · exact law_d8 K (by omega) hS hh6 hn16 hR8 hD9 (by omega) (by omega) (by omega) (by omega) (by omega) hva hvb (by omega) k1630
                  · refine V_iload C dL_law_863 rfl ?_
                    refine V_if_leN (a := n) (tgt := 919) C dL_law_865 (by decide) (by omega) (fun h865_193 => ?_) (fun h865_193 => ?_)
                    · refine V_iload C dL_law_919 rfl ?_
                      refine V_bipush (v := (8 : Int32)) C dL_law_921 (by decide) ?_
                      refine V_icmp_neN (a := d) (b := 8) (tgt := 995) C dL_law_923 (by decide) (by omega) (by omega) (fun h923_194 => ?_) (fun h923_194 => ?_)
                      · refine V_iload C dL_law_995 rfl ?_
                        refine V_bipush (v := (10 : Int32)) C dL_law_997 (by decide) ?_
                        refine V_icmp_geN (a := d) (b := 10) (tgt := 1057) C dL_law_999 (by decide) (by omega) (by omega) (fun h999_195 => ?_) (fun h999_195 => ?_)
                        · refine V_iload C dL_law_1057 rfl ?_
                          refine V_bipush (v := (10 : Int32)) C dL_law_1059 (by decide) ?_
                          refine V_icmp_neN (a := d) (b := 10) (tgt := 1149) C dL_law_1061 (by decide) (by omega) (by omega) (fun h1061_196 => ?_) (fun h1061_196 => ?_)
                          · refine V_iload C dL_law_1149 rfl ?_
                            refine V_bipush (v := (13 : Int32)) C dL_law_1151 (by decide) ?_
                            refine V_icmp_geN (a := d) (b := 13) (tgt := 1364) C dL_law_1153 (by decide) (by omega) (by omega) (fun h1153_197 => ?_) (fun h1153_197 => ?_)
                            · refine V_iload C dL_law_1364 rfl ?_
                              refine V_bipush (v := (13 : Int32)) C dL_law_1366 (by decide) ?_
                              refine V_icmp_neN (a := d) (b := 13) (tgt := 1472) C dL_law_1368 (by decide) (by omega) (by omega) (fun h1368_198 => ?_) (fun h1368_198 => ?_)
                              · exact law_dt K (by omega) hS hh6 hn16 hR8 hD9 (by omega) (by omega) (by omega) (by omega) (by omega) hva hvb  k1630
                              · refine V_iload C dL_law_1371 rfl ?_
                                refine V_if_leN (a := R) (tgt := 1472) C dL_law_1373 (by decide) (by omega) (fun h1373_199 => ?_) (fun h1373_199 => ?_)
                                · exact law_dt K (by omega) hS hh6 hn16 hR8 hD9 (by omega) (by omega) (by omega) (by omega) (by omega) hva hvb  k1630
                                · refine V_iload C dL_law_1376 rfl ?_
                                  refine V_iconst (v := (3 : Int32)) C dL_law_1378 (by decide) ?_
                                  refine V_iand C dL_law_1379 ?_
                                  refine V_eqi (y := nI (a1 % 4)) (pk_andN (by omega) 2 (by decide)) ?_
                                  refine V_if_neN (a := a1 % 4) (tgt := 1472) C dL_law_1380 (by decide) (by omega) (fun h1380_200 => ?_) (fun h1380_200 => ?_)
                                  · exact law_dt K (by omega) hS hh6 hn16 hR8 hD9 (by omega) (by omega) (by omega) (by omega) (by omega) hva hvb  k1630
                                  · exact law_d13 K (by omega) hS hh6 hn16 hR8 hD9 (by omega) (by omega) (by omega) (by omega) (by omega) hva hvb (by omega) k1630
                            · refine V_iload C dL_law_1156 rfl ?_
                              refine V_bipush (v := (8 : Int32)) C dL_law_1158 (by decide) ?_
                              refine V_icmp_geN (a := R) (b := 8) (tgt := 1364) C dL_law_1160 (by decide) (by omega) (by omega) (fun h1160_201 => ?_) (fun h1160_201 => ?_)
                              · refine V_iload C dL_law_1364 rfl ?_
                                refine V_bipush (v := (13 : Int32)) C dL_law_1366 (by decide) ?_
                                refine V_icmp_neN (a := d) (b := 13) (tgt := 1472) C dL_law_1368 (by decide) (by omega) (by omega) (fun h1368_202 => ?_) (fun h1368_202 => ?_)
                                · exact law_dt K (by omega) hS hh6 hn16 hR8 hD9 (by omega) (by omega) (by omega) (by omega) (by omega) hva hvb  k1630
                                · refine V_iload C dL_law_1371 rfl ?_
                                  refine V_if_leN (a := R) (tgt := 1472) C dL_law_1373 (by decide) (by omega) (fun h1373_203 => ?_) (fun h1373_203 => ?_)
                                  · exact law_dt K (by omega) hS hh6 hn16 hR8 hD9 (by omega) (by omega) (by omega) (by omega) (by omega) hva hvb  k1630
                                  · refine V_iload C dL_law_1376 rfl ?_
                                    refine V_iconst (v := (3 : Int32)) C dL_law_1378 (by decide) ?_
                                    refine V_iand C dL_law_1379 ?_
                                    refine V_eqi (y := nI (a1 % 4)) (pk_andN (by omega) 2 (by decide)) ?_
                                    refine V_if_neN (a := a1 % 4) (tgt := 1472) C dL_law_1380 (by decide) (by omega) (fun h1380_204 => ?_) (fun h1380_204 => ?_)
                                    · exact law_dt K (by omega) hS hh6 hn16 hR8 hD9 (by omega) (by omega) (by omega) (by omega) (by omega) hva hvb  k1630
                                    · exact law_d13 K (by omega) hS hh6 hn16 hR8 hD9 (by omega) (by omega) (by omega) (by omega) (by omega) hva hvb (by omega) k1630
                              · exact law_d11 K (by omega) hS hh6 hn16 hR8 hD9 (by omega) (by omega) (by omega) (by omega) (by omega) hva hvb (by omega) k1630
                          · refine V_iload C dL_law_1064 rfl ?_
                            refine V_iconst (v := (1 : Int32)) C dL_law_1066 (by decide) ?_
                            refine V_iand C dL_law_1067 ?_
                            refine V_eqi (y := nI (a1 % 2)) (pk_andN (by omega) 1 (by decide)) ?_
                            refine V_if_neN (a := a1 % 2) (tgt := 1149) C dL_law_1068 (by decide) (by omega) (fun h1068_205 => ?_) (fun h1068_205 => ?_)
                            · refine V_iload C dL_law_1149 rfl ?_
                              refine V_bipush (v := (13 : Int32)) C dL_law_1151 (by decide) ?_
                              refine V_icmp_geN (a := d) (b := 13) (tgt := 1364) C dL_law_1153 (by decide) (by omega) (by omega) (fun h1153_206 => ?_) (fun h1153_206 => ?_)
                              · refine V_iload C dL_law_1364 rfl ?_
                                refine V_bipush (v := (13 : Int32)) C dL_law_1366 (by decide) ?_
                                refine V_icmp_neN (a := d) (b := 13) (tgt := 1472) C dL_law_1368 (by decide) (by omega) (by omega) (fun h1368_207 => ?_) (fun h1368_207 => ?_)
                                · exact law_dt K (by omega) hS hh6 hn16 hR8 hD9 (by omega) (by omega) (by omega) (by omega) (by omega) hva hvb  k1630
                                · refine V_iload C dL_law_1371 rfl ?_
                                  refine V_if_leN (a := R) (tgt := 1472) C dL_law_1373 (by decide) (by omega) (fun h1373_208 => ?_) (fun h1373_208 => ?_)
                                  · exact law_dt K (by omega) hS hh6 hn16 hR8 hD9 (by omega) (by omega) (by omega) (by omega) (by omega) hva hvb  k1630
                                  · refine V_iload C dL_law_1376 rfl ?_
                                    refine V_iconst (v := (3 : Int32)) C dL_law_1378 (by decide) ?_
                                    refine V_iand C dL_law_1379 ?_
                                    refine V_eqi (y := nI (a1 % 4)) (pk_andN (by omega) 2 (by decide)) ?_
                                    refine V_if_neN (a := a1 % 4) (tgt := 1472) C dL_law_1380 (by decide) (by omega) (fun h1380_209 => ?_) (fun h1380_209 => ?_)
                                    · exact law_dt K (by omega) hS hh6 hn16 hR8 hD9 (by omega) (by omega) (by omega) (by omega) (by omega) hva hvb  k1630
                                    · exact law_d13 K (by omega) hS hh6 hn16 hR8 hD9 (by omega) (by omega) (by omega) (by omega) (by omega) hva hvb (by omega) k1630
                              · refine V_iload C dL_law_1156 rfl ?_
                                refine V_bipush (v := (8 : Int32)) C dL_law_1158 (by decide) ?_
                                refine V_icmp_geN (a := R) (b := 8) (tgt := 1364) C dL_law_1160 (by decide) (by omega) (by omega) (fun h1160_210 => ?_) (fun h1160_210 => ?_)
                                · refine V_iload C dL_law_1364 rfl ?_
                                  refine V_bipush (v := (13 : Int32)) C dL_law_1366 (by decide) ?_
                                  refine V_icmp_neN (a := d) (b := 13) (tgt := 1472) C dL_law_1368 (by decide) (by omega) (by omega) (fun h1368_211 => ?_) (fun h1368_211 => ?_)
                                  · exact law_dt K (by omega) hS hh6 hn16 hR8 hD9 (by omega) (by omega) (by omega) (by omega) (by omega) hva hvb  k1630
                                  · refine V_iload C dL_law_1371 rfl ?_
                                    refine V_if_leN (a := R) (tgt := 1472) C dL_law_1373 (by decide) (by omega) (fun h1373_212 => ?_) (fun h1373_212 => ?_)
                                    · exact law_dt K (by omega) hS hh6 hn16 hR8 hD9 (by omega) (by omega) (by omega) (by omega) (by omega) hva hvb  k1630
                                    · refine V_iload C dL_law_1376 rfl ?_
                                      refine V_iconst (v := (3 : Int32)) C dL_law_1378 (by decide) ?_
                                      refine V_iand C dL_law_1379 ?_
                                      refine V_eqi (y := nI (a1 % 4)) (pk_andN (by omega) 2 (by decide)) ?_
                                      refine V_if_neN (a := a1 % 4) (tgt := 1472) C dL_law_1380 (by decide) (by omega) (fun h1380_213 => ?_) (fun h1380_213 => ?_)
                                      · exact law_dt K (by omega) hS hh6 hn16 hR8 hD9 (by omega) (by omega) (by omega) (by omega) (by omega) hva hvb  k1630
                                      · exact law_d13 K (by omega) hS hh6 hn16 hR8 hD9 (by omega) (by omega) (by omega) (by omega) (by omega) hva hvb (by omega) k1630
                                · exact law_d11 K (by omega) hS hh6 hn16 hR8 hD9 (by omega) (by omega) (by omega) (by omega) (by omega) hva hvb (by omega) k1630
                            · exact law_d10 K (by omega) hS hh6 hn16 hR8 hD9 (by omega) (by omega) (by omega) (by omega) (by omega) hva hvb  k1630
                        · exact law_d9 K (by omega) hS hh6 hn16 hR8 hD9 (by omega) (by omega) (by omega) (by omega) (by omega) hva hvb  k1630
                      · refine V_iload C dL_law_926 rfl ?_
                        refine V_if_leN (a := n) (tgt := 995) C dL_law_928 (by decide) (by omega) (fun h928_214 => ?_) (fun h928_214 => ?_)
                        · refine V_iload C dL_law_995 rfl ?_
                          refine V_bipush (v := (10 : Int32)) C dL_law_997 (by decide) ?_
                          refine V_icmp_geN (a := d) (b := 10) (tgt := 1057) C dL_law_999 (by decide) (by omega) (by omega) (fun h999_215 => ?_) (fun h999_215 => ?_)
                          · refine V_iload C dL_law_1057 rfl ?_
                            refine V_bipush (v := (10 : Int32)) C dL_law_1059 (by decide) ?_
                            refine V_icmp_neN (a := d) (b := 10) (tgt := 1149) C dL_law_1061 (by decide) (by omega) (by omega) (fun h1061_216 => ?_) (fun h1061_216 => ?_)
                            · refine V_iload C dL_law_1149 rfl ?_
                              refine V_bipush (v := (13 : Int32)) C dL_law_1151 (by decide) ?_
                              refine V_icmp_geN (a := d) (b := 13) (tgt := 1364) C dL_law_1153 (by decide) (by omega) (by omega) (fun h1153_217 => ?_) (fun h1153_217 => ?_)
                              · refine V_iload C dL_law_1364 rfl ?_
                                refine V_bipush (v := (13 : Int32)) C dL_law_1366 (by decide) ?_
                                refine V_icmp_neN (a := d) (b := 13) (tgt := 1472) C dL_law_1368 (by decide) (by omega) (by omega) (fun h1368_218 => ?_) (fun h1368_218 => ?_)
                                · exact law_dt K (by omega) hS hh6 hn16 hR8 hD9 (by omega) (by omega) (by omega) (by omega) (by omega) hva hvb  k1630
                                · refine V_iload C dL_law_1371 rfl ?_
                                  refine V_if_leN (a := R) (tgt := 1472) C dL_law_1373 (by decide) (by omega) (fun h1373_219 => ?_) (fun h1373_219 => ?_)
                                  · exact law_dt K (by omega) hS hh6 hn16 hR8 hD9 (by omega) (by omega) (by omega) (by omega) (by omega) hva hvb  k1630
                                  · refine V_iload C dL_law_1376 rfl ?_
                                    refine V_iconst (v := (3 : Int32)) C dL_law_1378 (by decide) ?_
                                    refine V_iand C dL_law_1379 ?_
                                    refine V_eqi (y := nI (a1 % 4)) (pk_andN (by omega) 2 (by decide)) ?_
                                    refine V_if_neN (a := a1 % 4) (tgt := 1472) C dL_law_1380 (by decide) (by omega) (fun h1380_220 => ?_) (fun h1380_220 => ?_)
                                    · exact law_dt K (by omega) hS hh6 hn16 hR8 hD9 (by omega) (by omega) (by omega) (by omega) (by omega) hva hvb  k1630
                                    · exact law_d13 K (by omega) hS hh6 hn16 hR8 hD9 (by omega) (by omega) (by omega) (by omega) (by omega) hva hvb (by omega) k1630
                              · refine V_iload C dL_law_1156 rfl ?_
                                refine V_bipush (v := (8 : Int32)) C dL_law_1158 (by decide) ?_
                                refine V_icmp_geN (a := R) (b := 8) (tgt := 1364) C dL_law_1160 (by decide) (by omega) (by omega) (fun h1160_221 => ?_) (fun h1160_221 => ?_)
                                · refine V_iload C dL_law_1364 rfl ?_
                                  refine V_bipush (v := (13 : Int32)) C dL_law_1366 (by decide) ?_
                                  refine V_icmp_neN (a := d) (b := 13) (tgt := 1472) C dL_law_1368 (by decide) (by omega) (by omega) (fun h1368_222 => ?_) (fun h1368_222 => ?_)
                                  · exact law_dt K (by omega) hS hh6 hn16 hR8 hD9 (by omega) (by omega) (by omega) (by omega) (by omega) hva hvb  k1630
                                  · refine V_iload C dL_law_1371 rfl ?_
                                    refine V_if_leN (a := R) (tgt := 1472) C dL_law_1373 (by decide) (by omega) (fun h1373_223 => ?_) (fun h1373_223 => ?_)
                                    · exact law_dt K (by omega) hS hh6 hn16 hR8 hD9 (by omega) (by omega) (by omega) (by omega) (by omega) hva hvb  k1630
                                    · refine V_iload C dL_law_1376 rfl ?_
                                      refine V_iconst (v := (3 : Int32)) C dL_law_1378 (by decide) ?_
                                      refine V_iand C dL_law_1379 ?_
                                      refine V_eqi (y := nI (a1 % 4)) (pk_andN (by omega) 2 (by decide)) ?_
                                      refine V_if_neN (a := a1 % 4) (tgt := 1472) C dL_law_1380 (by decide) (by omega) (fun h1380_224 => ?_) (fun h1380_224 => ?_)
                                      · exact law_dt K (by omega) hS hh6 hn16 hR8 hD9 (by omega) (by omega) (by omega) (by omega) (by omega) hva hvb  k1630
                                      · exact law_d13 K (by omega) hS hh6 hn16 hR8 hD9 (by omega) (by omega) (by omega) (by omega) (by omega) hva hvb (by omega) k1630
                                · exact law_d11 K (by omega) hS hh6 hn16 hR8 hD9 (by omega) (by omega) (by omega) (by omega) (by omega) hva hvb (by omega) k1630
                            · refine V_iload C dL_law_1064 rfl ?_
                              refine V_iconst (v := (1 : Int32)) C dL_law_1066 (by decide) ?_
                              refine V_iand C dL_law_1067 ?_
                              refine V_eqi (y := nI (a1 % 2)) (pk_andN (by omega) 1 (by decide)) ?_
                              refine V_if_neN (a := a1 % 2) (tgt := 1149) C dL_law_1068 (by decide) (by omega) (fun h1068_225 => ?_) (fun h1068_225 => ?_)
                              · refine V_iload C dL_law_1149 rfl ?_
                                refine V_bipush (v := (13 : Int32)) C dL_law_1151 (by decide) ?_
                                refine V_icmp_geN (a := d) (b := 13) (tgt := 1364) C dL_law_1153 (by decide) (by omega) (by omega) (fun h1153_226 => ?_) (fun h1153_226 => ?_)
                                · refine V_iload C dL_law_1364 rfl ?_
                                  refine V_bipush (v := (13 : Int32)) C dL_law_1366 (by decide) ?_
                                  refine V_icmp_neN (a := d) (b := 13) (tgt := 1472) C dL_law_1368 (by decide) (by omega) (by omega) (fun h1368_227 => ?_) (fun h1368_227 => ?_)
                                  · exact law_dt K (by omega) hS hh6 hn16 hR8 hD9 (by omega) (by omega) (by omega) (by omega) (by omega) hva hvb  k1630
                                  · refine V_iload C dL_law_1371 rfl ?_
                                    refine V_if_leN (a := R) (tgt := 1472) C dL_law_1373 (by decide) (by omega) (fun h1373_228 => ?_) (fun h1373_228 => ?_)
                                    · exact law_dt K (by omega) hS hh6 hn16 hR8 hD9 (by omega) (by omega) (by omega) (by omega) (by omega) hva hvb  k1630
                                    · refine V_iload C dL_law_1376 rfl ?_
                                      refine V_iconst (v := (3 : Int32)) C dL_law_1378 (by decide) ?_
                                      refine V_iand C dL_law_1379 ?_
                                      refine V_eqi (y := nI (a1 % 4)) (pk_andN (by omega) 2 (by decide)) ?_
                                      refine V_if_neN (a := a1 % 4) (tgt := 1472) C dL_law_1380 (by decide) (by omega) (fun h1380_229 => ?_) (fun h1380_229 => ?_)
                                      · exact law_dt K (by omega) hS hh6 hn16 hR8 hD9 (by omega) (by omega) (by omega) (by omega) (by omega) hva hvb  k1630
                                      · exact law_d13 K (by omega) hS hh6 hn16 hR8 hD9 (by omega) (by omega) (by omega) (by omega) (by omega) hva hvb (by omega) k1630
                                · refine V_iload C dL_law_1156 rfl ?_
                                  refine V_bipush (v := (8 : Int32)) C dL_law_1158 (by decide) ?_
                                  refine V_icmp_geN (a := R) (b := 8) (tgt := 1364) C dL_law_1160 (by decide) (by omega) (by omega) (fun h1160_230 => ?_) (fun h1160_230 => ?_)
                                  · refine V_iload C dL_law_1364 rfl ?_
                                    refine V_bipush (v := (13 : Int32)) C dL_law_1366 (by decide) ?_
                                    refine V_icmp_neN (a := d) (b := 13) (tgt := 1472) C dL_law_1368 (by decide) (by omega) (by omega) (fun h1368_231 => ?_) (fun h1368_231 => ?_)
                                    · exact law_dt K (by omega) hS hh6 hn16 hR8 hD9 (by omega) (by omega) (by omega) (by omega) (by omega) hva hvb  k1630
                                    · refine V_iload C dL_law_1371 rfl ?_
                                      refine V_if_leN (a := R) (tgt := 1472) C dL_law_1373 (by decide) (by omega) (fun h1373_232 => ?_) (fun h1373_232 => ?_)
                                      · exact law_dt K (by omega) hS hh6 hn16 hR8 hD9 (by omega) (by omega) (by omega) (by omega) (by omega) hva hvb  k1630
                                      · refine V_iload C dL_law_1376 rfl ?_
                                        refine V_iconst (v := (3 : Int32)) C dL_law_1378 (by decide) ?_
                                        refine V_iand C dL_law_1379 ?_
                                        refine V_eqi (y := nI (a1 % 4)) (pk_andN (by omega) 2 (by decide)) ?_
                                        refine V_if_neN (a := a1 % 4) (tgt := 1472) C dL_law_1380 (by decide) (by omega) (fun h1380_233 => ?_) (fun h1380_233 => ?_)
                                        · exact law_dt K (by omega) hS hh6 hn16 hR8 hD9 (by omega) (by omega) (by omega) (by omega) (by omega) hva hvb  k1630
                                        · exact law_d13 K (by omega) hS hh6 hn16 hR8 hD9 (by omega) (by omega) (by omega) (by omega) (by omega) hva hvb (by omega) k1630
                                  · exact law_d11 K (by omega) hS hh6 hn16 hR8 hD9 (by omega) (by omega) (by omega) (by omega) (by omega) hva hvb (by omega) k1630
                              · exact law_d10 K (by omega) hS hh6 hn16 hR8 hD9 (by omega) (by omega) (by omega) (by omega) (by omega) hva hvb  k1630
                          · exact law_d9 K (by omega) hS hh6 hn16 hR8 hD9 (by omega) (by omega) (by omega) (by omega) (by omega) hva hvb  k1630
                        · refine V_iload C dL_law_931 rfl ?_
                          refine V_iconst (v := (3 : Int32)) C dL_law_933 (by decide) ?_
                          refine V_iand C dL_law_934 ?_
                          refine V_eqi (y := nI (a1 % 4)) (pk_andN (by omega) 2 (by decide)) ?_
                          refine V_if_neN (a := a1 % 4) (tgt := 995) C dL_law_935 (by decide) (by omega) (fun h935_234 => ?_) (fun h935_234 => ?_)
                          · refine V_iload C dL_law_995 rfl ?_
                            refine V_bipush (v := (10 : Int32)) C dL_law_997 (by decide) ?_
                            refine V_icmp_geN (a := d) (b := 10) (tgt := 1057) C dL_law_999 (by decide) (by omega) (by omega) (fun h999_235 => ?_) (fun h999_235 => ?_)
                            · refine V_iload C dL_law_1057 rfl ?_
                              refine V_bipush (v := (10 : Int32)) C dL_law_1059 (by decide) ?_
                              refine V_icmp_neN (a := d) (b := 10) (tgt := 1149) C dL_law_1061 (by decide) (by omega) (by omega) (fun h1061_236 => ?_) (fun h1061_236 => ?_)
                              · refine V_iload C dL_law_1149 rfl ?_
                                refine V_bipush (v := (13 : Int32)) C dL_law_1151 (by decide) ?_
                                refine V_icmp_geN (a := d) (b := 13) (tgt := 1364) C dL_law_1153 (by decide) (by omega) (by omega) (fun h1153_237 => ?_) (fun h1153_237 => ?_)
                                · refine V_iload C dL_law_1364 rfl ?_
                                  refine V_bipush (v := (13 : Int32)) C dL_law_1366 (by decide) ?_
                                  refine V_icmp_neN (a := d) (b := 13) (tgt := 1472) C dL_law_1368 (by decide) (by omega) (by omega) (fun h1368_238 => ?_) (fun h1368_238 => ?_)
                                  · exact law_dt K (by omega) hS hh6 hn16 hR8 hD9 (by omega) (by omega) (by omega) (by omega) (by omega) hva hvb  k1630
                                  · refine V_iload C dL_law_1371 rfl ?_
                                    refine V_if_leN (a := R) (tgt := 1472) C dL_law_1373 (by decide) (by omega) (fun h1373_239 => ?_) (fun h1373_239 => ?_)
                                    · exact law_dt K (by omega) hS hh6 hn16 hR8 hD9 (by omega) (by omega) (by omega) (by omega) (by omega) hva hvb  k1630
                                    · refine V_iload C dL_law_1376 rfl ?_
                                      refine V_iconst (v := (3 : Int32)) C dL_law_1378 (by decide) ?_
                                      refine V_iand C dL_law_1379 ?_
                                      refine V_eqi (y := nI (a1 % 4)) (pk_andN (by omega) 2 (by decide)) ?_
                                      refine V_if_neN (a := a1 % 4) (tgt := 1472) C dL_law_1380 (by decide) (by omega) (fun h1380_240 => ?_) (fun h1380_240 => ?_)
                                      · exact law_dt K (by omega) hS hh6 hn16 hR8 hD9 (by omega) (by omega) (by omega) (by omega) (by omega) hva hvb  k1630
                                      · exact law_d13 K (by omega) hS hh6 hn16 hR8 hD9 (by omega) (by omega) (by omega) (by omega) (by omega) hva hvb (by omega) k1630
                                · refine V_iload C dL_law_1156 rfl ?_
                                  refine V_bipush (v := (8 : Int32)) C dL_law_1158 (by decide) ?_
                                  refine V_icmp_geN (a := R) (b := 8) (tgt := 1364) C dL_law_1160 (by decide) (by omega) (by omega) (fun h1160_241 => ?_) (fun h1160_241 => ?_)
                                  · refine V_iload C dL_law_1364 rfl ?_
                                    refine V_bipush (v := (13 : Int32)) C dL_law_1366 (by decide) ?_
                                    refine V_icmp_neN (a := d) (b := 13) (tgt := 1472) C dL_law_1368 (by decide) (by omega) (by omega) (fun h1368_242 => ?_) (fun h1368_242 => ?_)
                                    · exact law_dt K (by omega) hS hh6 hn16 hR8 hD9 (by omega) (by omega) (by omega) (by omega) (by omega) hva hvb  k1630
                                    · refine V_iload C dL_law_1371 rfl ?_
                                      refine V_if_leN (a := R) (tgt := 1472) C dL_law_1373 (by decide) (by omega) (fun h1373_243 => ?_) (fun h1373_243 => ?_)
                                      · exact law_dt K (by omega) hS hh6 hn16 hR8 hD9 (by omega) (by omega) (by omega) (by omega) (by omega) hva hvb  k1630
                                      · refine V_iload C dL_law_1376 rfl ?_
                                        refine V_iconst (v := (3 : Int32)) C dL_law_1378 (by decide) ?_
                                        refine V_iand C dL_law_1379 ?_
                                        refine V_eqi (y := nI (a1 % 4)) (pk_andN (by omega) 2 (by decide)) ?_
                                        refine V_if_neN (a := a1 % 4) (tgt := 1472) C dL_law_1380 (by decide) (by omega) (fun h1380_244 => ?_) (fun h1380_244 => ?_)
                                        · exact law_dt K (by omega) hS hh6 hn16 hR8 hD9 (by omega) (by omega) (by omega) (by omega) (by omega) hva hvb  k1630
                                        · exact law_d13 K (by omega) hS hh6 hn16 hR8 hD9 (by omega) (by omega) (by omega) (by omega) (by omega) hva hvb (by omega) k1630
                                  · exact law_d11 K (by omega) hS hh6 hn16 hR8 hD9 (by omega) (by omega) (by omega) (by omega) (by omega) hva hvb (by omega) k1630
                              · refine V_iload C dL_law_1064 rfl ?_
                                refine V_iconst (v := (1 : Int32)) C dL_law_1066 (by decide) ?_
                                refine V_iand C dL_law_1067 ?_
                                refine V_eqi (y := nI (a1 % 2)) (pk_andN (by omega) 1 (by decide)) ?_
                                refine V_if_neN (a := a1 % 2) (tgt := 1149) C dL_law_1068 (by decide) (by omega) (fun h1068_245 => ?_) (fun h1068_245 => ?_)
                                · refine V_iload C dL_law_1149 rfl ?_
                                  refine V_bipush (v := (13 : Int32)) C dL_law_1151 (by decide) ?_
                                  refine V_icmp_geN (a := d) (b := 13) (tgt := 1364) C dL_law_1153 (by decide) (by omega) (by omega) (fun h1153_246 => ?_) (fun h1153_246 => ?_)
                                  · refine V_iload C dL_law_1364 rfl ?_
                                    refine V_bipush (v := (13 : Int32)) C dL_law_1366 (by decide) ?_
                                    refine V_icmp_neN (a := d) (b := 13) (tgt := 1472) C dL_law_1368 (by decide) (by omega) (by omega) (fun h1368_247 => ?_) (fun h1368_247 => ?_)
                                    · exact law_dt K (by omega) hS hh6 hn16 hR8 hD9 (by omega) (by omega) (by omega) (by omega) (by omega) hva hvb  k1630
                                    · refine V_iload C dL_law_1371 rfl ?_
                                      refine V_if_leN (a := R) (tgt := 1472) C dL_law_1373 (by decide) (by omega) (fun h1373_248 => ?_) (fun h1373_248 => ?_)
                                      · exact law_dt K (by omega) hS hh6 hn16 hR8 hD9 (by omega) (by omega) (by omega) (by omega) (by omega) hva hvb  k1630
                                      · refine V_iload C dL_law_1376 rfl ?_
                                        refine V_iconst (v := (3 : Int32)) C dL_law_1378 (by decide) ?_
                                        refine V_iand C dL_law_1379 ?_
                                        refine V_eqi (y := nI (a1 % 4)) (pk_andN (by omega) 2 (by decide)) ?_
                                        refine V_if_neN (a := a1 % 4) (tgt := 1472) C dL_law_1380 (by decide) (by omega) (fun h1380_249 => ?_) (fun h1380_249 => ?_)
                                        · exact law_dt K (by omega) hS hh6 hn16 hR8 hD9 (by omega) (by omega) (by omega) (by omega) (by omega) hva hvb  k1630
                                        · exact law_d13 K (by omega) hS hh6 hn16 hR8 hD9 (by omega) (by omega) (by omega) (by omega) (by omega) hva hvb (by omega) k1630
                                  · refine V_iload C dL_law_1156 rfl ?_
                                    refine V_bipush (v := (8 : Int32)) C dL_law_1158 (by decide) ?_
                                    refine V_icmp_geN (a := R) (b := 8) (tgt := 1364) C dL_law_1160 (by decide) (by omega) (by omega) (fun h1160_250 => ?_) (fun h1160_250 => ?_)
                                    · refine V_iload C dL_law_1364 rfl ?_
                                      refine V_bipush (v := (13 : Int32)) C dL_law_1366 (by decide) ?_
                                      refine V_icmp_neN (a := d) (b := 13) (tgt := 1472) C dL_law_1368 (by decide) (by omega) (by omega) (fun h1368_251 => ?_) (fun h1368_251 => ?_)
                                      · exact law_dt K (by omega) hS hh6 hn16 hR8 hD9 (by omega) (by omega) (by omega) (by omega) (by omega) hva hvb  k1630
                                      · refine V_iload C dL_law_1371 rfl ?_
                                        refine V_if_leN (a := R) (tgt := 1472) C dL_law_1373 (by decide) (by omega) (fun h1373_252 => ?_) (fun h1373_252 => ?_)
                                        · exact law_dt K (by omega) hS hh6 hn16 hR8 hD9 (by omega) (by omega) (by omega) (by omega) (by omega) hva hvb  k1630
                                        · refine V_iload C dL_law_1376 rfl ?_
                                          refine V_iconst (v := (3 : Int32)) C dL_law_1378 (by decide) ?_
                                          refine V_iand C dL_law_1379 ?_
                                          refine V_eqi (y := nI (a1 % 4)) (pk_andN (by omega) 2 (by decide)) ?_
                                          refine V_if_neN (a := a1 % 4) (tgt := 1472) C dL_law_1380 (by decide) (by omega) (fun h1380_253 => ?_) (fun h1380_253 => ?_)
                                          · exact law_dt K (by omega) hS hh6 hn16 hR8 hD9 (by omega) (by omega) (by omega) (by omega) (by omega) hva hvb  k1630
                                          · exact law_d13 K (by omega) hS hh6 hn16 hR8 hD9 (by omega) (by omega) (by omega) (by omega) (by omega) hva hvb (by omega) k1630
                                    · exact law_d11 K (by omega) hS hh6 hn16 hR8 hD9 (by omega) (by omega) (by omega) (by omega) (by omega) hva hvb (by omega) k1630
                                · exact law_d10 K (by omega) hS hh6 hn16 hR8 hD9 (by omega) (by omega) (by omega) (by omega) (by omega) hva hvb  k1630
                            · exact law_d9 K (by omega) hS hh6 hn16 hR8 hD9 (by omega) (by omega) (by omega) (by omega) (by omega) hva hvb  k1630
                          · exact law_d8 K (by omega) hS hh6 hn16 hR8 hD9 (by omega) (by omega) (by omega) (by omega) (by omega) hva hvb (by omega) k1630
                    · exact law_d7 K (by omega) hS hh6 hn16 hR8 hD9 (by omega) (by omega) (by omega) (by omega) (by omega) hva hvb (by omega) k1630
                · have hko2 : ko < n := by omega
                  obtain ⟨kq, hkq3, ekq⟩ := (hJ.2.1.2.1.2 ko hko2).2.1
                  obtain ⟨e0, he2, he12⟩ := (hL.1 ko hko2).2.2.2.2.2.2.1
                  have he1 : kq = 1 → e0 ≤ 8 := fun q => by obtain ⟨c9, hc9, ec9⟩ := (hJ.2.1.2.1.2 ko hko2).2.2.2.2.2.2.2.2.2.1 (by rw [ekq, q]; rfl); have := nIu (m := 1024) (by decide) he2 (by omega) (he12.symm.trans ec9); omega
                  by_cases hq0 : kq = 0
                  · exact law_d6g (kq := 0) K (by omega) hS hh6 hn16 hR8 hD9 (by omega) (by omega) (by omega) (by omega) (by omega) hva hvb (by omega) (by rw [show X 7 ko = nI kq from ekq, hq0]; rfl) he12 he2 k1630
                  · exact law_d6n K (by omega) hS hh6 hn16 hR8 hD9 (by omega) (by omega) (by omega) (by omega) (by omega) hva hvb (by omega) ekq (by omega) he12 he2 he1 k1630
            · refine V_iload C dL_law_354 rfl ?_
              refine V_bipush (v := (16 : Int32)) C dL_law_356 (by decide) ?_
              refine V_icmp_geN (a := n) (b := 16) (tgt := 705) C dL_law_358 (by decide) (by omega) (by omega) (fun h358_254 => ?_) (fun h358_254 => ?_)
              · refine V_iload C dL_law_705 rfl ?_
                refine V_bipush (v := (6 : Int32)) C dL_law_707 (by decide) ?_
                refine V_icmp_neN (a := d) (b := 6) (tgt := 856) C dL_law_709 (by decide) (by omega) (by omega) (fun h709_255 => ?_) (fun h709_255 => ?_)
                · refine V_iload C dL_law_856 rfl ?_
                  refine V_bipush (v := (7 : Int32)) C dL_law_858 (by decide) ?_
                  refine V_icmp_neN (a := d) (b := 7) (tgt := 919) C dL_law_860 (by decide) (by omega) (by omega) (fun h860_256 => ?_) (fun h860_256 => ?_)
                  · refine V_iload C dL_law_919 rfl ?_
                    refine V_bipush (v := (8 : Int32)) C dL_law_921 (by decide) ?_
                    refine V_icmp_neN (a := d) (b := 8) (tgt := 995) C dL_law_923 (by decide) (by omega) (by omega) (fun h923_257 => ?_) (fun h923_257 => ?_)
                    · refine V_iload C dL_law_995 rfl ?_
                      refine V_bipush (v := (10 : Int32)) C dL_law_997 (by decide) ?_
                      refine V_icmp_geN (a := d) (b := 10) (tgt := 1057) C dL_law_999 (by decide) (by omega) (by omega) (fun h999_258 => ?_) (fun h999_258 => ?_)
                      · refine V_iload C dL_law_1057 rfl ?_
                        refine V_bipush (v := (10 : Int32)) C dL_law_1059 (by decide) ?_
                        refine V_icmp_neN (a := d) (b := 10) (tgt := 1149) C dL_law_1061 (by decide) (by omega) (by omega) (fun h1061_259 => ?_) (fun h1061_259 => ?_)
                        · refine V_iload C dL_law_1149 rfl ?_
                          refine V_bipush (v := (13 : Int32)) C dL_law_1151 (by decide) ?_
                          refine V_icmp_geN (a := d) (b := 13) (tgt := 1364) C dL_law_1153 (by decide) (by omega) (by omega) (fun h1153_260 => ?_) (fun h1153_260 => ?_)
                          · refine V_iload C dL_law_1364 rfl ?_
                            refine V_bipush (v := (13 : Int32)) C dL_law_1366 (by decide) ?_
                            refine V_icmp_neN (a := d) (b := 13) (tgt := 1472) C dL_law_1368 (by decide) (by omega) (by omega) (fun h1368_261 => ?_) (fun h1368_261 => ?_)
                            · exact law_dt K (by omega) hS hh6 hn16 hR8 hD9 (by omega) (by omega) (by omega) (by omega) (by omega) hva hvb  k1630
                            · refine V_iload C dL_law_1371 rfl ?_
                              refine V_if_leN (a := R) (tgt := 1472) C dL_law_1373 (by decide) (by omega) (fun h1373_262 => ?_) (fun h1373_262 => ?_)
                              · exact law_dt K (by omega) hS hh6 hn16 hR8 hD9 (by omega) (by omega) (by omega) (by omega) (by omega) hva hvb  k1630
                              · refine V_iload C dL_law_1376 rfl ?_
                                refine V_iconst (v := (3 : Int32)) C dL_law_1378 (by decide) ?_
                                refine V_iand C dL_law_1379 ?_
                                refine V_eqi (y := nI (a1 % 4)) (pk_andN (by omega) 2 (by decide)) ?_
                                refine V_if_neN (a := a1 % 4) (tgt := 1472) C dL_law_1380 (by decide) (by omega) (fun h1380_263 => ?_) (fun h1380_263 => ?_)
                                · exact law_dt K (by omega) hS hh6 hn16 hR8 hD9 (by omega) (by omega) (by omega) (by omega) (by omega) hva hvb  k1630
                                · exact law_d13 K (by omega) hS hh6 hn16 hR8 hD9 (by omega) (by omega) (by omega) (by omega) (by omega) hva hvb (by omega) k1630
                          · refine V_iload C dL_law_1156 rfl ?_
                            refine V_bipush (v := (8 : Int32)) C dL_law_1158 (by decide) ?_
                            refine V_icmp_geN (a := R) (b := 8) (tgt := 1364) C dL_law_1160 (by decide) (by omega) (by omega) (fun h1160_264 => ?_) (fun h1160_264 => ?_)
                            · refine V_iload C dL_law_1364 rfl ?_
                              refine V_bipush (v := (13 : Int32)) C dL_law_1366 (by decide) ?_
                              refine V_icmp_neN (a := d) (b := 13) (tgt := 1472) C dL_law_1368 (by decide) (by omega) (by omega) (fun h1368_265 => ?_) (fun h1368_265 => ?_)
                              · exact law_dt K (by omega) hS hh6 hn16 hR8 hD9 (by omega) (by omega) (by omega) (by omega) (by omega) hva hvb  k1630
                              · refine V_iload C dL_law_1371 rfl ?_
                                refine V_if_leN (a := R) (tgt := 1472) C dL_law_1373 (by decide) (by omega) (fun h1373_266 => ?_) (fun h1373_266 => ?_)
                                · exact law_dt K (by omega) hS hh6 hn16 hR8 hD9 (by omega) (by omega) (by omega) (by omega) (by omega) hva hvb  k1630
                                · refine V_iload C dL_law_1376 rfl ?_
                                  refine V_iconst (v := (3 : Int32)) C dL_law_1378 (by decide) ?_
                                  refine V_iand C dL_law_1379 ?_
                                  refine V_eqi (y := nI (a1 % 4)) (pk_andN (by omega) 2 (by decide)) ?_
                                  refine V_if_neN (a := a1 % 4) (tgt := 1472) C dL_law_1380 (by decide) (by omega) (fun h1380_267 => ?_) (fun h1380_267 => ?_)
                                  · exact law_dt K (by omega) hS hh6 hn16 hR8 hD9 (by omega) (by omega) (by omega) (by omega) (by omega) hva hvb  k1630
                                  · exact law_d13 K (by omega) hS hh6 hn16 hR8 hD9 (by omega) (by omega) (by omega) (by omega) (by omega) hva hvb (by omega) k1630
                            · exact law_d11 K (by omega) hS hh6 hn16 hR8 hD9 (by omega) (by omega) (by omega) (by omega) (by omega) hva hvb (by omega) k1630
                        · refine V_iload C dL_law_1064 rfl ?_
                          refine V_iconst (v := (1 : Int32)) C dL_law_1066 (by decide) ?_
                          refine V_iand C dL_law_1067 ?_
                          refine V_eqi (y := nI (a1 % 2)) (pk_andN (by omega) 1 (by decide)) ?_
                          refine V_if_neN (a := a1 % 2) (tgt := 1149) C dL_law_1068 (by decide) (by omega) (fun h1068_268 => ?_) (fun h1068_268 => ?_)
                          · refine V_iload C dL_law_1149 rfl ?_
                            refine V_bipush (v := (13 : Int32)) C dL_law_1151 (by decide) ?_
                            refine V_icmp_geN (a := d) (b := 13) (tgt := 1364) C dL_law_1153 (by decide) (by omega) (by omega) (fun h1153_269 => ?_) (fun h1153_269 => ?_)
                            · refine V_iload C dL_law_1364 rfl ?_
                              refine V_bipush (v := (13 : Int32)) C dL_law_1366 (by decide) ?_
                              refine V_icmp_neN (a := d) (b := 13) (tgt := 1472) C dL_law_1368 (by decide) (by omega) (by omega) (fun h1368_270 => ?_) (fun h1368_270 => ?_)
                              · exact law_dt K (by omega) hS hh6 hn16 hR8 hD9 (by omega) (by omega) (by omega) (by omega) (by omega) hva hvb  k1630
                              · refine V_iload C dL_law_1371 rfl ?_
                                refine V_if_leN (a := R) (tgt := 1472) C dL_law_1373 (by decide) (by omega) (fun h1373_271 => ?_) (fun h1373_271 => ?_)
                                · exact law_dt K (by omega) hS hh6 hn16 hR8 hD9 (by omega) (by omega) (by omega) (by omega) (by omega) hva hvb  k1630
                                · refine V_iload C dL_law_1376 rfl ?_
                                  refine V_iconst (v := (3 : Int32)) C dL_law_1378 (by decide) ?_
                                  refine V_iand C dL_law_1379 ?_
                                  refine V_eqi (y := nI (a1 % 4)) (pk_andN (by omega) 2 (by decide)) ?_
                                  refine V_if_neN (a := a1 % 4) (tgt := 1472) C dL_law_1380 (by decide) (by omega) (fun h1380_272 => ?_) (fun h1380_272 => ?_)
                                  · exact law_dt K (by omega) hS hh6 hn16 hR8 hD9 (by omega) (by omega) (by omega) (by omega) (by omega) hva hvb  k1630
                                  · exact law_d13 K (by omega) hS hh6 hn16 hR8 hD9 (by omega) (by omega) (by omega) (by omega) (by omega) hva hvb (by omega) k1630
                            · refine V_iload C dL_law_1156 rfl ?_
                              refine V_bipush (v := (8 : Int32)) C dL_law_1158 (by decide) ?_
                              refine V_icmp_geN (a := R) (b := 8) (tgt := 1364) C dL_law_1160 (by decide) (by omega) (by omega) (fun h1160_273 => ?_) (fun h1160_273 => ?_)
                              · refine V_iload C dL_law_1364 rfl ?_
                                refine V_bipush (v := (13 : Int32)) C dL_law_1366 (by decide) ?_
                                refine V_icmp_neN (a := d) (b := 13) (tgt := 1472) C dL_law_1368 (by decide) (by omega) (by omega) (fun h1368_274 => ?_) (fun h1368_274 => ?_)
                                · exact law_dt K (by omega) hS hh6 hn16 hR8 hD9 (by omega) (by omega) (by omega) (by omega) (by omega) hva hvb  k1630
                                · refine V_iload C dL_law_1371 rfl ?_
                                  refine V_if_leN (a := R) (tgt := 1472) C dL_law_1373 (by decide) (by omega) (fun h1373_275 => ?_) (fun h1373_275 => ?_)
                                  · exact law_dt K (by omega) hS hh6 hn16 hR8 hD9 (by omega) (by omega) (by omega) (by omega) (by omega) hva hvb  k1630
                                  · refine V_iload C dL_law_1376 rfl ?_
                                    refine V_iconst (v := (3 : Int32)) C dL_law_1378 (by decide) ?_
                                    refine V_iand C dL_law_1379 ?_
                                    refine V_eqi (y := nI (a1 % 4)) (pk_andN (by omega) 2 (by decide)) ?_
                                    refine V_if_neN (a := a1 % 4) (tgt := 1472) C dL_law_1380 (by decide) (by omega) (fun h1380_276 => ?_) (fun h1380_276 => ?_)
                                    · exact law_dt K (by omega) hS hh6 hn16 hR8 hD9 (by omega) (by omega) (by omega) (by omega) (by omega) hva hvb  k1630
                                    · exact law_d13 K (by omega) hS hh6 hn16 hR8 hD9 (by omega) (by omega) (by omega) (by omega) (by omega) hva hvb (by omega) k1630
                              · exact law_d11 K (by omega) hS hh6 hn16 hR8 hD9 (by omega) (by omega) (by omega) (by omega) (by omega) hva hvb (by omega) k1630
                          · exact law_d10 K (by omega) hS hh6 hn16 hR8 hD9 (by omega) (by omega) (by omega) (by omega) (by omega) hva hvb  k1630
                      · exact law_d9 K (by omega) hS hh6 hn16 hR8 hD9 (by omega) (by omega) (by omega) (by omega) (by omega) hva hvb  k1630
                    · refine V_iload C dL_law_926 rfl ?_
                      refine V_if_leN (a := n) (tgt := 995) C dL_law_928 (by decide) (by omega) (fun h928_277 => ?_) (fun h928_277 => ?_)
                      · refine V_iload C dL_law_995 rfl ?_
                        refine V_bipush (v := (10 : Int32)) C dL_law_997 (by decide) ?_
                        refine V_icmp_geN (a := d) (b := 10) (tgt := 1057) C dL_law_999 (by decide) (by omega) (by omega) (fun h999_278 => ?_) (fun h999_278 => ?_)
                        · refine V_iload C dL_law_1057 rfl ?_
                          refine V_bipush (v := (10 : Int32)) C dL_law_1059 (by decide) ?_
                          refine V_icmp_neN (a := d) (b := 10) (tgt := 1149) C dL_law_1061 (by decide) (by omega) (by omega) (fun h1061_279 => ?_) (fun h1061_279 => ?_)
                          · refine V_iload C dL_law_1149 rfl ?_
                            refine V_bipush (v := (13 : Int32)) C dL_law_1151 (by decide) ?_
                            refine V_icmp_geN (a := d) (b := 13) (tgt := 1364) C dL_law_1153 (by decide) (by omega) (by omega) (fun h1153_280 => ?_) (fun h1153_280 => ?_)
                            · refine V_iload C dL_law_1364 rfl ?_
                              refine V_bipush (v := (13 : Int32)) C dL_law_1366 (by decide) ?_
                              refine V_icmp_neN (a := d) (b := 13) (tgt := 1472) C dL_law_1368 (by decide) (by omega) (by omega) (fun h1368_281 => ?_) (fun h1368_281 => ?_)
                              · exact law_dt K (by omega) hS hh6 hn16 hR8 hD9 (by omega) (by omega) (by omega) (by omega) (by omega) hva hvb  k1630
                              · refine V_iload C dL_law_1371 rfl ?_
                                refine V_if_leN (a := R) (tgt := 1472) C dL_law_1373 (by decide) (by omega) (fun h1373_282 => ?_) (fun h1373_282 => ?_)
                                · exact law_dt K (by omega) hS hh6 hn16 hR8 hD9 (by omega) (by omega) (by omega) (by omega) (by omega) hva hvb  k1630
                                · refine V_iload C dL_law_1376 rfl ?_
                                  refine V_iconst (v := (3 : Int32)) C dL_law_1378 (by decide) ?_
                                  refine V_iand C dL_law_1379 ?_
                                  refine V_eqi (y := nI (a1 % 4)) (pk_andN (by omega) 2 (by decide)) ?_
                                  refine V_if_neN (a := a1 % 4) (tgt := 1472) C dL_law_1380 (by decide) (by omega) (fun h1380_283 => ?_) (fun h1380_283 => ?_)
                                  · exact law_dt K (by omega) hS hh6 hn16 hR8 hD9 (by omega) (by omega) (by omega) (by omega) (by omega) hva hvb  k1630
                                  · exact law_d13 K (by omega) hS hh6 hn16 hR8 hD9 (by omega) (by omega) (by omega) (by omega) (by omega) hva hvb (by omega) k1630
                            · refine V_iload C dL_law_1156 rfl ?_
                              refine V_bipush (v := (8 : Int32)) C dL_law_1158 (by decide) ?_
                              refine V_icmp_geN (a := R) (b := 8) (tgt := 1364) C dL_law_1160 (by decide) (by omega) (by omega) (fun h1160_284 => ?_) (fun h1160_284 => ?_)
                              · refine V_iload C dL_law_1364 rfl ?_
                                refine V_bipush (v := (13 : Int32)) C dL_law_1366 (by decide) ?_
                                refine V_icmp_neN (a := d) (b := 13) (tgt := 1472) C dL_law_1368 (by decide) (by omega) (by omega) (fun h1368_285 => ?_) (fun h1368_285 => ?_)
                                · exact law_dt K (by omega) hS hh6 hn16 hR8 hD9 (by omega) (by omega) (by omega) (by omega) (by omega) hva hvb  k1630
                                · refine V_iload C dL_law_1371 rfl ?_
                                  refine V_if_leN (a := R) (tgt := 1472) C dL_law_1373 (by decide) (by omega) (fun h1373_286 => ?_) (fun h1373_286 => ?_)
                                  · exact law_dt K (by omega) hS hh6 hn16 hR8 hD9 (by omega) (by omega) (by omega) (by omega) (by omega) hva hvb  k1630
                                  · refine V_iload C dL_law_1376 rfl ?_
                                    refine V_iconst (v := (3 : Int32)) C dL_law_1378 (by decide) ?_
                                    refine V_iand C dL_law_1379 ?_
                                    refine V_eqi (y := nI (a1 % 4)) (pk_andN (by omega) 2 (by decide)) ?_
                                    refine V_if_neN (a := a1 % 4) (tgt := 1472) C dL_law_1380 (by decide) (by omega) (fun h1380_287 => ?_) (fun h1380_287 => ?_)
                                    · exact law_dt K (by omega) hS hh6 hn16 hR8 hD9 (by omega) (by omega) (by omega) (by omega) (by omega) hva hvb  k1630
                                    · exact law_d13 K (by omega) hS hh6 hn16 hR8 hD9 (by omega) (by omega) (by omega) (by omega) (by omega) hva hvb (by omega) k1630
                              · exact law_d11 K (by omega) hS hh6 hn16 hR8 hD9 (by omega) (by omega) (by omega) (by omega) (by omega) hva hvb (by omega) k1630
                          · refine V_iload C dL_law_1064 rfl ?_
                            refine V_iconst (v := (1 : Int32)) C dL_law_1066 (by decide) ?_
                            refine V_iand C dL_law_1067 ?_
                            refine V_eqi (y := nI (a1 % 2)) (pk_andN (by omega) 1 (by decide)) ?_
                            refine V_if_neN (a := a1 % 2) (tgt := 1149) C dL_law_1068 (by decide) (by omega) (fun h1068_288 => ?_) (fun h1068_288 => ?_)
                            · refine V_iload C dL_law_1149 rfl ?_
                              refine V_bipush (v := (13 : Int32)) C dL_law_1151 (by decide) ?_
                              refine V_icmp_geN (a := d) (b := 13) (tgt := 1364) C dL_law_1153 (by decide) (by omega) (by omega) (fun h1153_289 => ?_) (fun h1153_289 => ?_)
                              · refine V_iload C dL_law_1364 rfl ?_
                                refine V_bipush (v := (13 : Int32)) C dL_law_1366 (by decide) ?_
                                refine V_icmp_neN (a := d) (b := 13) (tgt := 1472) C dL_law_1368 (by decide) (by omega) (by omega) (fun h1368_290 => ?_) (fun h1368_290 => ?_)
                                · exact law_dt K (by omega) hS hh6 hn16 hR8 hD9 (by omega) (by omega) (by omega) (by omega) (by omega) hva hvb  k1630
                                · refine V_iload C dL_law_1371 rfl ?_
                                  refine V_if_leN (a := R) (tgt := 1472) C dL_law_1373 (by decide) (by omega) (fun h1373_291 => ?_) (fun h1373_291 => ?_)
                                  · exact law_dt K (by omega) hS hh6 hn16 hR8 hD9 (by omega) (by omega) (by omega) (by omega) (by omega) hva hvb  k1630
                                  · refine V_iload C dL_law_1376 rfl ?_
                                    refine V_iconst (v := (3 : Int32)) C dL_law_1378 (by decide) ?_
                                    refine V_iand C dL_law_1379 ?_
                                    refine V_eqi (y := nI (a1 % 4)) (pk_andN (by omega) 2 (by decide)) ?_
                                    refine V_if_neN (a := a1 % 4) (tgt := 1472) C dL_law_1380 (by decide) (by omega) (fun h1380_292 => ?_) (fun h1380_292 => ?_)
                                    · exact law_dt K (by omega) hS hh6 hn16 hR8 hD9 (by omega) (by omega) (by omega) (by omega) (by omega) hva hvb  k1630
                                    · exact law_d13 K (by omega) hS hh6 hn16 hR8 hD9 (by omega) (by omega) (by omega) (by omega) (by omega) hva hvb (by omega) k1630
                              · refine V_iload C dL_law_1156 rfl ?_
                                refine V_bipush (v := (8 : Int32)) C dL_law_1158 (by decide) ?_
                                refine V_icmp_geN (a := R) (b := 8) (tgt := 1364) C dL_law_1160 (by decide) (by omega) (by omega) (fun h1160_293 => ?_) (fun h1160_293 => ?_)
                                · refine V_iload C dL_law_1364 rfl ?_
                                  refine V_bipush (v := (13 : Int32)) C dL_law_1366 (by decide) ?_
                                  refine V_icmp_neN (a := d) (b := 13) (tgt := 1472) C dL_law_1368 (by decide) (by omega) (by omega) (fun h1368_294 => ?_) (fun h1368_294 => ?_)
                                  · exact law_dt K (by omega) hS hh6 hn16 hR8 hD9 (by omega) (by omega) (by omega) (by omega) (by omega) hva hvb  k1630
                                  · refine V_iload C dL_law_1371 rfl ?_
                                    refine V_if_leN (a := R) (tgt := 1472) C dL_law_1373 (by decide) (by omega) (fun h1373_295 => ?_) (fun h1373_295 => ?_)
                                    · exact law_dt K (by omega) hS hh6 hn16 hR8 hD9 (by omega) (by omega) (by omega) (by omega) (by omega) hva hvb  k1630
                                    · refine V_iload C dL_law_1376 rfl ?_
                                      refine V_iconst (v := (3 : Int32)) C dL_law_1378 (by decide) ?_
                                      refine V_iand C dL_law_1379 ?_
                                      refine V_eqi (y := nI (a1 % 4)) (pk_andN (by omega) 2 (by decide)) ?_
                                      refine V_if_neN (a := a1 % 4) (tgt := 1472) C dL_law_1380 (by decide) (by omega) (fun h1380_296 => ?_) (fun h1380_296 => ?_)
                                      · exact law_dt K (by omega) hS hh6 hn16 hR8 hD9 (by omega) (by omega) (by omega) (by omega) (by omega) hva hvb  k1630
                                      · exact law_d13 K (by omega) hS hh6 hn16 hR8 hD9 (by omega) (by omega) (by omega) (by omega) (by omega) hva hvb (by omega) k1630
                                · exact law_d11 K (by omega) hS hh6 hn16 hR8 hD9 (by omega) (by omega) (by omega) (by omega) (by omega) hva hvb (by omega) k1630
                            · exact law_d10 K (by omega) hS hh6 hn16 hR8 hD9 (by omega) (by omega) (by omega) (by omega) (by omega) hva hvb  k1630
                        · exact law_d9 K (by omega) hS hh6 hn16 hR8 hD9 (by omega) (by omega) (by omega) (by omega) (by omega) hva hvb  k1630
                      · refine V_iload C dL_law_931 rfl ?_
                        refine V_iconst (v := (3 : Int32)) C dL_law_933 (by decide) ?_
                        refine V_iand C dL_law_934 ?_
                        refine V_eqi (y := nI (a1 % 4)) (pk_andN (by omega) 2 (by decide)) ?_
                        refine V_if_neN (a := a1 % 4) (tgt := 995) C dL_law_935 (by decide) (by omega) (fun h935_297 => ?_) (fun h935_297 => ?_)
                        · refine V_iload C dL_law_995 rfl ?_
                          refine V_bipush (v := (10 : Int32)) C dL_law_997 (by decide) ?_
                          refine V_icmp_geN (a := d) (b := 10) (tgt := 1057) C dL_law_999 (by decide) (by omega) (by omega) (fun h999_298 => ?_) (fun h999_298 => ?_)
                          · refine V_iload C dL_law_1057 rfl ?_
                            refine V_bipush (v := (10 : Int32)) C dL_law_1059 (by decide) ?_
                            refine V_icmp_neN (a := d) (b := 10) (tgt := 1149) C dL_law_1061 (by decide) (by omega) (by omega) (fun h1061_299 => ?_) (fun h1061_299 => ?_)
                            · refine V_iload C dL_law_1149 rfl ?_
                              refine V_bipush (v := (13 : Int32)) C dL_law_1151 (by decide) ?_
                              refine V_icmp_geN (a := d) (b := 13) (tgt := 1364) C dL_law_1153 (by decide) (by omega) (by omega) (fun h1153_300 => ?_) (fun h1153_300 => ?_)
                              · refine V_iload C dL_law_1364 rfl ?_
                                refine V_bipush (v := (13 : Int32)) C dL_law_1366 (by decide) ?_
                                refine V_icmp_neN (a := d) (b := 13) (tgt := 1472) C dL_law_1368 (by decide) (by omega) (by omega) (fun h1368_301 => ?_) (fun h1368_301 => ?_)
                                · exact law_dt K (by omega) hS hh6 hn16 hR8 hD9 (by omega) (by omega) (by omega) (by omega) (by omega) hva hvb  k1630
                                · refine V_iload C dL_law_1371 rfl ?_
                                  refine V_if_leN (a := R) (tgt := 1472) C dL_law_1373 (by decide) (by omega) (fun h1373_302 => ?_) (fun h1373_302 => ?_)
                                  · exact law_dt K (by omega) hS hh6 hn16 hR8 hD9 (by omega) (by omega) (by omega) (by omega) (by omega) hva hvb  k1630
                                  · refine V_iload C dL_law_1376 rfl ?_
                                    refine V_iconst (v := (3 : Int32)) C dL_law_1378 (by decide) ?_
                                    refine V_iand C dL_law_1379 ?_
                                    refine V_eqi (y := nI (a1 % 4)) (pk_andN (by omega) 2 (by decide)) ?_
                                    refine V_if_neN (a := a1 % 4) (tgt := 1472) C dL_law_1380 (by decide) (by omega) (fun h1380_303 => ?_) (fun h1380_303 => ?_)
                                    · exact law_dt K (by omega) hS hh6 hn16 hR8 hD9 (by omega) (by omega) (by omega) (by omega) (by omega) hva hvb  k1630
                                    · exact law_d13 K (by omega) hS hh6 hn16 hR8 hD9 (by omega) (by omega) (by omega) (by omega) (by omega) hva hvb (by omega) k1630
                              · refine V_iload C dL_law_1156 rfl ?_
                                refine V_bipush (v := (8 : Int32)) C dL_law_1158 (by decide) ?_
                                refine V_icmp_geN (a := R) (b := 8) (tgt := 1364) C dL_law_1160 (by decide) (by omega) (by omega) (fun h1160_304 => ?_) (fun h1160_304 => ?_)
                                · refine V_iload C dL_law_1364 rfl ?_
                                  refine V_bipush (v := (13 : Int32)) C dL_law_1366 (by decide) ?_
                                  refine V_icmp_neN (a := d) (b := 13) (tgt := 1472) C dL_law_1368 (by decide) (by omega) (by omega) (fun h1368_305 => ?_) (fun h1368_305 => ?_)
                                  · exact law_dt K (by omega) hS hh6 hn16 hR8 hD9 (by omega) (by omega) (by omega) (by omega) (by omega) hva hvb  k1630
                                  · refine V_iload C dL_law_1371 rfl ?_
                                    refine V_if_leN (a := R) (tgt := 1472) C dL_law_1373 (by decide) (by omega) (fun h1373_306 => ?_) (fun h1373_306 => ?_)
                                    · exact law_dt K (by omega) hS hh6 hn16 hR8 hD9 (by omega) (by omega) (by omega) (by omega) (by omega) hva hvb  k1630
                                    · refine V_iload C dL_law_1376 rfl ?_
                                      refine V_iconst (v := (3 : Int32)) C dL_law_1378 (by decide) ?_
                                      refine V_iand C dL_law_1379 ?_
                                      refine V_eqi (y := nI (a1 % 4)) (pk_andN (by omega) 2 (by decide)) ?_
                                      refine V_if_neN (a := a1 % 4) (tgt := 1472) C dL_law_1380 (by decide) (by omega) (fun h1380_307 => ?_) (fun h1380_307 => ?_)
                                      · exact law_dt K (by omega) hS hh6 hn16 hR8 hD9 (by omega) (by omega) (by omega) (by omega) (by omega) hva hvb  k1630
                                      · exact law_d13 K (by omega) hS hh6 hn16 hR8 hD9 (by omega) (by omega) (by omega) (by omega) (by omega) hva hvb (by omega) k1630
                                · exact law_d11 K (by omega) hS hh6 hn16 hR8 hD9 (by omega) (by omega) (by omega) (by omega) (by omega) hva hvb (by omega) k1630
                            · refine V_iload C dL_law_1064 rfl ?_
                              refine V_iconst (v := (1 : Int32)) C dL_law_1066 (by decide) ?_
                              refine V_iand C dL_law_1067 ?_
                              refine V_eqi (y := nI (a1 % 2)) (pk_andN (by omega) 1 (by decide)) ?_
                              refine V_if_neN (a := a1 % 2) (tgt := 1149) C dL_law_1068 (by decide) (by omega) (fun h1068_308 => ?_) (fun h1068_308 => ?_)
                              · refine V_iload C dL_law_1149 rfl ?_
                                refine V_bipush (v := (13 : Int32)) C dL_law_1151 (by decide) ?_
                                refine V_icmp_geN (a := d) (b := 13) (tgt := 1364) C dL_law_1153 (by decide) (by omega) (by omega) (fun h1153_309 => ?_) (fun h1153_309 => ?_)
                                · refine V_iload C dL_law_1364 rfl ?_
                                  refine V_bipush (v := (13 : Int32)) C dL_law_1366 (by decide) ?_
                                  refine V_icmp_neN (a := d) (b := 13) (tgt := 1472) C dL_law_1368 (by decide) (by omega) (by omega) (fun h1368_310 => ?_) (fun h1368_310 => ?_)
                                  · exact law_dt K (by omega) hS hh6 hn16 hR8 hD9 (by omega) (by omega) (by omega) (by omega) (by omega) hva hvb  k1630
                                  · refine V_iload C dL_law_1371 rfl ?_
                                    refine V_if_leN (a := R) (tgt := 1472) C dL_law_1373 (by decide) (by omega) (fun h1373_311 => ?_) (fun h1373_311 => ?_)
                                    · exact law_dt K (by omega) hS hh6 hn16 hR8 hD9 (by omega) (by omega) (by omega) (by omega) (by omega) hva hvb  k1630
                                    · refine V_iload C dL_law_1376 rfl ?_
                                      refine V_iconst (v := (3 : Int32)) C dL_law_1378 (by decide) ?_
                                      refine V_iand C dL_law_1379 ?_
                                      refine V_eqi (y := nI (a1 % 4)) (pk_andN (by omega) 2 (by decide)) ?_
                                      refine V_if_neN (a := a1 % 4) (tgt := 1472) C dL_law_1380 (by decide) (by omega) (fun h1380_312 => ?_) (fun h1380_312 => ?_)
                                      · exact law_dt K (by omega) hS hh6 hn16 hR8 hD9 (by omega) (by omega) (by omega) (by omega) (by omega) hva hvb  k1630
                                      · exact law_d13 K (by omega) hS hh6 hn16 hR8 hD9 (by omega) (by omega) (by omega) (by omega) (by omega) hva hvb (by omega) k1630
                                · refine V_iload C dL_law_1156 rfl ?_
                                  refine V_bipush (v := (8 : Int32)) C dL_law_1158 (by decide) ?_
                                  refine V_icmp_geN (a := R) (b := 8) (tgt := 1364) C dL_law_1160 (by decide) (by omega) (by omega) (fun h1160_313 => ?_) (fun h1160_313 => ?_)
                                  · refine V_iload C dL_law_1364 rfl ?_
                                    refine V_bipush (v := (13 : Int32)) C dL_law_1366 (by decide) ?_
                                    refine V_icmp_neN (a := d) (b := 13) (tgt := 1472) C dL_law_1368 (by decide) (by omega) (by omega) (fun h1368_314 => ?_) (fun h1368_314 => ?_)
                                    · exact law_dt K (by omega) hS hh6 hn16 hR8 hD9 (by omega) (by omega) (by omega) (by omega) (by omega) hva hvb  k1630
                                    · refine V_iload C dL_law_1371 rfl ?_
                                      refine V_if_leN (a := R) (tgt := 1472) C dL_law_1373 (by decide) (by omega) (fun h1373_315 => ?_) (fun h1373_315 => ?_)
                                      · exact law_dt K (by omega) hS hh6 hn16 hR8 hD9 (by omega) (by omega) (by omega) (by omega) (by omega) hva hvb  k1630
                                      · refine V_iload C dL_law_1376 rfl ?_
                                        refine V_iconst (v := (3 : Int32)) C dL_law_1378 (by decide) ?_
                                        refine V_iand C dL_law_1379 ?_
                                        refine V_eqi (y := nI (a1 % 4)) (pk_andN (by omega) 2 (by decide)) ?_
                                        refine V_if_neN (a := a1 % 4) (tgt := 1472) C dL_law_1380 (by decide) (by omega) (fun h1380_316 => ?_) (fun h1380_316 => ?_)
                                        · exact law_dt K (by omega) hS hh6 hn16 hR8 hD9 (by omega) (by omega) (by omega) (by omega) (by omega) hva hvb  k1630
                                        · exact law_d13 K (by omega) hS hh6 hn16 hR8 hD9 (by omega) (by omega) (by omega) (by omega) (by omega) hva hvb (by omega) k1630
                                  · exact law_d11 K (by omega) hS hh6 hn16 hR8 hD9 (by omega) (by omega) (by omega) (by omega) (by omega) hva hvb (by omega) k1630
                              · exact law_d10 K (by omega) hS hh6 hn16 hR8 hD9 (by omega) (by omega) (by omega) (by omega) (by omega) hva hvb  k1630
                          · exact law_d9 K (by omega) hS hh6 hn16 hR8 hD9 (by omega) (by omega) (by omega) (by omega) (by omega) hva hvb  k1630
                        · exact law_d8 K (by omega) hS hh6 hn16 hR8 hD9 (by omega) (by omega) (by omega) (by omega) (by omega) hva hvb (by omega) k1630
                  · refine V_iload C dL_law_863 rfl ?_
                    refine V_if_leN (a := n) (tgt := 919) C dL_law_865 (by decide) (by omega) (fun h865_317 => ?_) (fun h865_317 => ?_)
                    · refine V_iload C dL_law_919 rfl ?_
                      refine V_bipush (v := (8 : Int32)) C dL_law_921 (by decide) ?_
                      refine V_icmp_neN (a := d) (b := 8) (tgt := 995) C dL_law_923 (by decide) (by omega) (by omega) (fun h923_318 => ?_) (fun h923_318 => ?_)
                      · refine V_iload C dL_law_995 rfl ?_
                        refine V_bipush (v := (10 : Int32)) C dL_law_997 (by decide) ?_
                        refine V_icmp_geN (a := d) (b := 10) (tgt := 1057) C dL_law_999 (by decide) (by omega) (by omega) (fun h999_319 => ?_) (fun h999_319 => ?_)
                        · refine V_iload C dL_law_1057 rfl ?_
                          refine V_bipush (v := (10 : Int32)) C dL_law_1059 (by decide) ?_
                          refine V_icmp_neN (a := d) (b := 10) (tgt := 1149) C dL_law_1061 (by decide) (by omega) (by omega) (fun h1061_320 => ?_) (fun h1061_320 => ?_)
                          · refine V_iload C dL_law_1149 rfl ?_
                            refine V_bipush (v := (13 : Int32)) C dL_law_1151 (by decide) ?_
                            refine V_icmp_geN (a := d) (b := 13) (tgt := 1364) C dL_law_1153 (by decide) (by omega) (by omega) (fun h1153_321 => ?_) (fun h1153_321 => ?_)
                            · refine V_iload C dL_law_1364 rfl ?_
                              refine V_bipush (v := (13 : Int32)) C dL_law_1366 (by decide) ?_
                              refine V_icmp_neN (a := d) (b := 13) (tgt := 1472) C dL_law_1368 (by decide) (by omega) (by omega) (fun h1368_322 => ?_) (fun h1368_322 => ?_)
                              · exact law_dt K (by omega) hS hh6 hn16 hR8 hD9 (by omega) (by omega) (by omega) (by omega) (by omega) hva hvb  k1630
                              · refine V_iload C dL_law_1371 rfl ?_
                                refine V_if_leN (a := R) (tgt := 1472) C dL_law_1373 (by decide) (by omega) (fun h1373_323 => ?_) (fun h1373_323 => ?_)
                                · exact law_dt K (by omega) hS hh6 hn16 hR8 hD9 (by omega) (by omega) (by omega) (by omega) (by omega) hva hvb  k1630
                                · refine V_iload C dL_law_1376 rfl ?_
                                  refine V_iconst (v := (3 : Int32)) C dL_law_1378 (by decide) ?_
                                  refine V_iand C dL_law_1379 ?_
                                  refine V_eqi (y := nI (a1 % 4)) (pk_andN (by omega) 2 (by decide)) ?_
                                  refine V_if_neN (a := a1 % 4) (tgt := 1472) C dL_law_1380 (by decide) (by omega) (fun h1380_324 => ?_) (fun h1380_324 => ?_)
                                  · exact law_dt K (by omega) hS hh6 hn16 hR8 hD9 (by omega) (by omega) (by omega) (by omega) (by omega) hva hvb  k1630
                                  · exact law_d13 K (by omega) hS hh6 hn16 hR8 hD9 (by omega) (by omega) (by omega) (by omega) (by omega) hva hvb (by omega) k1630
                            · refine V_iload C dL_law_1156 rfl ?_
                              refine V_bipush (v := (8 : Int32)) C dL_law_1158 (by decide) ?_
                              refine V_icmp_geN (a := R) (b := 8) (tgt := 1364) C dL_law_1160 (by decide) (by omega) (by omega) (fun h1160_325 => ?_) (fun h1160_325 => ?_)
                              · refine V_iload C dL_law_1364 rfl ?_
                                refine V_bipush (v := (13 : Int32)) C dL_law_1366 (by decide) ?_
                                refine V_icmp_neN (a := d) (b := 13) (tgt := 1472) C dL_law_1368 (by decide) (by omega) (by omega) (fun h1368_326 => ?_) (fun h1368_326 => ?_)
                                · exact law_dt K (by omega) hS hh6 hn16 hR8 hD9 (by omega) (by omega) (by omega) (by omega) (by omega) hva hvb  k1630
                                · refine V_iload C dL_law_1371 rfl ?_
                                  refine V_if_leN (a := R) (tgt := 1472) C dL_law_1373 (by decide) (by omega) (fun h1373_327 => ?_) (fun h1373_327 => ?_)
                                  · exact law_dt K (by omega) hS hh6 hn16 hR8 hD9 (by omega) (by omega) (by omega) (by omega) (by omega) hva hvb  k1630
                                  · refine V_iload C dL_law_1376 rfl ?_
                                    refine V_iconst (v := (3 : Int32)) C dL_law_1378 (by decide) ?_
                                    refine V_iand C dL_law_1379 ?_
                                    refine V_eqi (y := nI (a1 % 4)) (pk_andN (by omega) 2 (by decide)) ?_
                                    refine V_if_neN (a := a1 % 4) (tgt := 1472) C dL_law_1380 (by decide) (by omega) (fun h1380_328 => ?_) (fun h1380_328 => ?_)
                                    · exact law_dt K (by omega) hS hh6 hn16 hR8 hD9 (by omega) (by omega) (by omega) (by omega) (by omega) hva hvb  k1630
                                    · exact law_d13 K (by omega) hS hh6 hn16 hR8 hD9 (by omega) (by omega) (by omega) (by omega) (by omega) hva hvb (by omega) k1630
                              · exact law_d11 K (by omega) hS hh6 hn16 hR8 hD9 (by omega) (by omega) (by omega) (by omega) (by omega) hva hvb (by omega) k1630
                          · refine V_iload C dL_law_1064 rfl ?_
                            refine V_iconst (v := (1 : Int32)) C dL_law_1066 (by decide) ?_
                            refine V_iand C dL_law_1067 ?_
                            refine V_eqi (y := nI (a1 % 2)) (pk_andN (by omega) 1 (by decide)) ?_
                            refine V_if_neN (a := a1 % 2) (tgt := 1149) C dL_law_1068 (by decide) (by omega) (fun h1068_329 => ?_) (fun h1068_329 => ?_)
                            · refine V_iload C dL_law_1149 rfl ?_
                              refine V_bipush (v := (13 : Int32)) C dL_law_1151 (by decide) ?_
                              refine V_icmp_geN (a := d) (b := 13) (tgt := 1364) C dL_law_1153 (by decide) (by omega) (by omega) (fun h1153_330 => ?_) (fun h1153_330 => ?_)
                              · refine V_iload C dL_law_1364 rfl ?_
                                refine V_bipush (v := (13 : Int32)) C dL_law_1366 (by decide) ?_
                                refine V_icmp_neN (a := d) (b := 13) (tgt := 1472) C dL_law_1368 (by decide) (by omega) (by omega) (fun h1368_331 => ?_) (fun h1368_331 => ?_)
                                · exact law_dt K (by omega) hS hh6 hn16 hR8 hD9 (by omega) (by omega) (by omega) (by omega) (by omega) hva hvb  k1630
                                · refine V_iload C dL_law_1371 rfl ?_
                                  refine V_if_leN (a := R) (tgt := 1472) C dL_law_1373 (by decide) (by omega) (fun h1373_332 => ?_) (fun h1373_332 => ?_)
                                  · exact law_dt K (by omega) hS hh6 hn16 hR8 hD9 (by omega) (by omega) (by omega) (by omega) (by omega) hva hvb  k1630
                                  · refine V_iload C dL_law_1376 rfl ?_
                                    refine V_iconst (v := (3 : Int32)) C dL_law_1378 (by decide) ?_
                                    refine V_iand C dL_law_1379 ?_
                                    refine V_eqi (y := nI (a1 % 4)) (pk_andN (by omega) 2 (by decide)) ?_
                                    refine V_if_neN (a := a1 % 4) (tgt := 1472) C dL_law_1380 (by decide) (by omega) (fun h1380_333 => ?_) (fun h1380_333 => ?_)
                                    · exact law_dt K (by omega) hS hh6 hn16 hR8 hD9 (by omega) (by omega) (by omega) (by omega) (by omega) hva hvb  k1630
                                    · exact law_d13 K (by omega) hS hh6 hn16 hR8 hD9 (by omega) (by omega) (by omega) (by omega) (by omega) hva hvb (by omega) k1630
                              · refine V_iload C dL_law_1156 rfl ?_
                                refine V_bipush (v := (8 : Int32)) C dL_law_1158 (by decide) ?_
                                refine V_icmp_geN (a := R) (b := 8) (tgt := 1364) C dL_law_1160 (by decide) (by omega) (by omega) (fun h1160_334 => ?_) (fun h1160_334 => ?_)
                                · refine V_iload C dL_law_1364 rfl ?_
                                  refine V_bipush (v := (13 : Int32)) C dL_law_1366 (by decide) ?_
                                  refine V_icmp_neN (a := d) (b := 13) (tgt := 1472) C dL_law_1368 (by decide) (by omega) (by omega) (fun h1368_335 => ?_) (fun h1368_335 => ?_)
                                  · exact law_dt K (by omega) hS hh6 hn16 hR8 hD9 (by omega) (by omega) (by omega) (by omega) (by omega) hva hvb  k1630
                                  · refine V_iload C dL_law_1371 rfl ?_
                                    refine V_if_leN (a := R) (tgt := 1472) C dL_law_1373 (by decide) (by omega) (fun h1373_336 => ?_) (fun h1373_336 => ?_)
                                    · exact law_dt K (by omega) hS hh6 hn16 hR8 hD9 (by omega) (by omega) (by omega) (by omega) (by omega) hva hvb  k1630
                                    · refine V_iload C dL_law_1376 rfl ?_
                                      refine V_iconst (v := (3 : Int32)) C dL_law_1378 (by decide) ?_
                                      refine V_iand C dL_law_1379 ?_
                                      refine V_eqi (y := nI (a1 % 4)) (pk_andN (by omega) 2 (by decide)) ?_
                                      refine V_if_neN (a := a1 % 4) (tgt := 1472) C dL_law_1380 (by decide) (by omega) (fun h1380_337 => ?_) (fun h1380_337 => ?_)
                                      · exact law_dt K (by omega) hS hh6 hn16 hR8 hD9 (by omega) (by omega) (by omega) (by omega) (by omega) hva hvb  k1630
                                      · exact law_d13 K (by omega) hS hh6 hn16 hR8 hD9 (by omega) (by omega) (by omega) (by omega) (by omega) hva hvb (by omega) k1630
                                · exact law_d11 K (by omega) hS hh6 hn16 hR8 hD9 (by omega) (by omega) (by omega) (by omega) (by omega) hva hvb (by omega) k1630
                            · exact law_d10 K (by omega) hS hh6 hn16 hR8 hD9 (by omega) (by omega) (by omega) (by omega) (by omega) hva hvb  k1630
                        · exact law_d9 K (by omega) hS hh6 hn16 hR8 hD9 (by omega) (by omega) (by omega) (by omega) (by omega) hva hvb  k1630
                      · refine V_iload C dL_law_926 rfl ?_
                        refine V_if_leN (a := n) (tgt := 995) C dL_law_928 (by decide) (by omega) (fun h928_338 => ?_) (fun h928_338 => ?_)
                        · refine V_iload C dL_law_995 rfl ?_
                          refine V_bipush (v := (10 : Int32)) C dL_law_997 (by decide) ?_
                          refine V_icmp_geN (a := d) (b := 10) (tgt := 1057) C dL_law_999 (by decide) (by omega) (by omega) (fun h999_339 => ?_) (fun h999_339 => ?_)
                          · refine V_iload C dL_law_1057 rfl ?_
                            refine V_bipush (v := (10 : Int32)) C dL_law_1059 (by decide) ?_
                            refine V_icmp_neN (a := d) (b := 10) (tgt := 1149) C dL_law_1061 (by decide) (by omega) (by omega) (fun h1061_340 => ?_) (fun h1061_340 => ?_)
                            · refine V_iload C dL_law_1149 rfl ?_
                              refine V_bipush (v := (13 : Int32)) C dL_law_1151 (by decide) ?_
                              refine V_icmp_geN (a := d) (b := 13) (tgt := 1364) C dL_law_1153 (by decide) (by omega) (by omega) (fun h1153_341 => ?_) (fun h1153_341 => ?_)
                              · refine V_iload C dL_law_1364 rfl ?_
                                refine V_bipush (v := (13 : Int32)) C dL_law_1366 (by decide) ?_
                                refine V_icmp_neN (a := d) (b := 13) (tgt := 1472) C dL_law_1368 (by decide) (by omega) (by omega) (fun h1368_342 => ?_) (fun h1368_342 => ?_)
                                · exact law_dt K (by omega) hS hh6 hn16 hR8 hD9 (by omega) (by omega) (by omega) (by omega) (by omega) hva hvb  k1630
                                · refine V_iload C dL_law_1371 rfl ?_
                                  refine V_if_leN (a := R) (tgt := 1472) C dL_law_1373 (by decide) (by omega) (fun h1373_343 => ?_) (fun h1373_343 => ?_)
                                  · exact law_dt K (by omega) hS hh6 hn16 hR8 hD9 (by omega) (by omega) (by omega) (by omega) (by omega) hva hvb  k1630
                                  · refine V_iload C dL_law_1376 rfl ?_
                                    refine V_iconst (v := (3 : Int32)) C dL_law_1378 (by decide) ?_
                                    refine V_iand C dL_law_1379 ?_
                                    refine V_eqi (y := nI (a1 % 4)) (pk_andN (by omega) 2 (by decide)) ?_
                                    refine V_if_neN (a := a1 % 4) (tgt := 1472) C dL_law_1380 (by decide) (by omega) (fun h1380_344 => ?_) (fun h1380_344 => ?_)
                                    · exact law_dt K (by omega) hS hh6 hn16 hR8 hD9 (by omega) (by omega) (by omega) (by omega) (by omega) hva hvb  k1630
                                    · exact law_d13 K (by omega) hS hh6 hn16 hR8 hD9 (by omega) (by omega) (by omega) (by omega) (by omega) hva hvb (by omega) k1630
                              · refine V_iload C dL_law_1156 rfl ?_
                                refine V_bipush (v := (8 : Int32)) C dL_law_1158 (by decide) ?_
                                refine V_icmp_geN (a := R) (b := 8) (tgt := 1364) C dL_law_1160 (by decide) (by omega) (by omega) (fun h1160_345 => ?_) (fun h1160_345 => ?_)
                                · refine V_iload C dL_law_1364 rfl ?_
                                  refine V_bipush (v := (13 : Int32)) C dL_law_1366 (by decide) ?_
                                  refine V_icmp_neN (a := d) (b := 13) (tgt := 1472) C dL_law_1368 (by decide) (by omega) (by omega) (fun h1368_346 => ?_) (fun h1368_346 => ?_)
                                  · exact law_dt K (by omega) hS hh6 hn16 hR8 hD9 (by omega) (by omega) (by omega) (by omega) (by omega) hva hvb  k1630
                                  · refine V_iload C dL_law_1371 rfl ?_
                                    refine V_if_leN (a := R) (tgt := 1472) C dL_law_1373 (by decide) (by omega) (fun h1373_347 => ?_) (fun h1373_347 => ?_)
                                    · exact law_dt K (by omega) hS hh6 hn16 hR8 hD9 (by omega) (by omega) (by omega) (by omega) (by omega) hva hvb  k1630
                                    · refine V_iload C dL_law_1376 rfl ?_
                                      refine V_iconst (v := (3 : Int32)) C dL_law_1378 (by decide) ?_
                                      refine V_iand C dL_law_1379 ?_
                                      refine V_eqi (y := nI (a1 % 4)) (pk_andN (by omega) 2 (by decide)) ?_
                                      refine V_if_neN (a := a1 % 4) (tgt := 1472) C dL_law_1380 (by decide) (by omega) (fun h1380_348 => ?_) (fun h1380_348 => ?_)
                                      · exact law_dt K (by omega) hS hh6 hn16 hR8 hD9 (by omega) (by omega) (by omega) (by omega) (by omega) hva hvb  k1630
                                      · exact law_d13 K (by omega) hS hh6 hn16 hR8 hD9 (by omega) (by omega) (by omega) (by omega) (by omega) hva hvb (by omega) k1630
                                · exact law_d11 K (by omega) hS hh6 hn16 hR8 hD9 (by omega) (by omega) (by omega) (by omega) (by omega) hva hvb (by omega) k1630
                            · refine V_iload C dL_law_1064 rfl ?_
                              refine V_iconst (v := (1 : Int32)) C dL_law_1066 (by decide) ?_
                              refine V_iand C dL_law_1067 ?_
                              refine V_eqi (y := nI (a1 % 2)) (pk_andN (by omega) 1 (by decide)) ?_
                              refine V_if_neN (a := a1 % 2) (tgt := 1149) C dL_law_1068 (by decide) (by omega) (fun h1068_349 => ?_) (fun h1068_349 => ?_)
                              · refine V_iload C dL_law_1149 rfl ?_
                                refine V_bipush (v := (13 : Int32)) C dL_law_1151 (by decide) ?_
                                refine V_icmp_geN (a := d) (b := 13) (tgt := 1364) C dL_law_1153 (by decide) (by omega) (by omega) (fun h1153_350 => ?_) (fun h1153_350 => ?_)
                                · refine V_iload C dL_law_1364 rfl ?_
                                  refine V_bipush (v := (13 : Int32)) C dL_law_1366 (by decide) ?_
                                  refine V_icmp_neN (a := d) (b := 13) (tgt := 1472) C dL_law_1368 (by decide) (by omega) (by omega) (fun h1368_351 => ?_) (fun h1368_351 => ?_)
                                  · exact law_dt K (by omega) hS hh6 hn16 hR8 hD9 (by omega) (by omega) (by omega) (by omega) (by omega) hva hvb  k1630
                                  · refine V_iload C dL_law_1371 rfl ?_
                                    refine V_if_leN (a := R) (tgt := 1472) C dL_law_1373 (by decide) (by omega) (fun h1373_352 => ?_) (fun h1373_352 => ?_)
                                    · exact law_dt K (by omega) hS hh6 hn16 hR8 hD9 (by omega) (by omega) (by omega) (by omega) (by omega) hva hvb  k1630
                                    · refine V_iload C dL_law_1376 rfl ?_
                                      refine V_iconst (v := (3 : Int32)) C dL_law_1378 (by decide) ?_
                                      refine V_iand C dL_law_1379 ?_
                                      refine V_eqi (y := nI (a1 % 4)) (pk_andN (by omega) 2 (by decide)) ?_
                                      refine V_if_neN (a := a1 % 4) (tgt := 1472) C dL_law_1380 (by decide) (by omega) (fun h1380_353 => ?_) (fun h1380_353 => ?_)
                                      · exact law_dt K (by omega) hS hh6 hn16 hR8 hD9 (by omega) (by omega) (by omega) (by omega) (by omega) hva hvb  k1630
                                      · exact law_d13 K (by omega) hS hh6 hn16 hR8 hD9 (by omega) (by omega) (by omega) (by omega) (by omega) hva hvb (by omega) k1630
                                · refine V_iload C dL_law_1156 rfl ?_
                                  refine V_bipush (v := (8 : Int32)) C dL_law_1158 (by decide) ?_
                                  refine V_icmp_geN (a := R) (b := 8) (tgt := 1364) C dL_law_1160 (by decide) (by omega) (by omega) (fun h1160_354 => ?_) (fun h1160_354 => ?_)
                                  · refine V_iload C dL_law_1364 rfl ?_
                                    refine V_bipush (v := (13 : Int32)) C dL_law_1366 (by decide) ?_
                                    refine V_icmp_neN (a := d) (b := 13) (tgt := 1472) C dL_law_1368 (by decide) (by omega) (by omega) (fun h1368_355 => ?_) (fun h1368_355 => ?_)
                                    · exact law_dt K (by omega) hS hh6 hn16 hR8 hD9 (by omega) (by omega) (by omega) (by omega) (by omega) hva hvb  k1630
                                    · refine V_iload C dL_law_1371 rfl ?_
                                      refine V_if_leN (a := R) (tgt := 1472) C dL_law_1373 (by decide) (by omega) (fun h1373_356 => ?_) (fun h1373_356 => ?_)
                                      · exact law_dt K (by omega) hS hh6 hn16 hR8 hD9 (by omega) (by omega) (by omega) (by omega) (by omega) hva hvb  k1630
                                      · refine V_iload C dL_law_1376 rfl ?_
                                        refine V_iconst (v := (3 : Int32)) C dL_law_1378 (by decide) ?_
                                        refine V_iand C dL_law_1379 ?_
                                        refine V_eqi (y := nI (a1 % 4)) (pk_andN (by omega) 2 (by decide)) ?_
                                        refine V_if_neN (a := a1 % 4) (tgt := 1472) C dL_law_1380 (by decide) (by omega) (fun h1380_357 => ?_) (fun h1380_357 => ?_)
                                        · exact law_dt K (by omega) hS hh6 hn16 hR8 hD9 (by omega) (by omega) (by omega) (by omega) (by omega) hva hvb  k1630
                                        · exact law_d13 K (by omega) hS hh6 hn16 hR8 hD9 (by omega) (by omega) (by omega) (by omega) (by omega) hva hvb (by omega) k1630
                                  · exact law_d11 K (by omega) hS hh6 hn16 hR8 hD9 (by omega) (by omega) (by omega) (by omega) (by omega) hva hvb (by omega) k1630
                              · exact law_d10 K (by omega) hS hh6 hn16 hR8 hD9 (by omega) (by omega) (by omega) (by omega) (by omega) hva hvb  k1630
                          · exact law_d9 K (by omega) hS hh6 hn16 hR8 hD9 (by omega) (by omega) (by omega) (by omega) (by omega) hva hvb  k1630
                        · refine V_iload C dL_law_931 rfl ?_
                          refine V_iconst (v := (3 : Int32)) C dL_law_933 (by decide) ?_
                          refine V_iand C dL_law_934 ?_
                          refine V_eqi (y := nI (a1 % 4)) (pk_andN (by omega) 2 (by decide)) ?_
                          refine V_if_neN (a := a1 % 4) (tgt := 995) C dL_law_935 (by decide) (by omega) (fun h935_358 => ?_) (fun h935_358 => ?_)
                          · refine V_iload C dL_law_995 rfl ?_
                            refine V_bipush (v := (10 : Int32)) C dL_law_997 (by decide) ?_
                            refine V_icmp_geN (a := d) (b := 10) (tgt := 1057) C dL_law_999 (by decide) (by omega) (by omega) (fun h999_359 => ?_) (fun h999_359 => ?_)
                            · refine V_iload C dL_law_1057 rfl ?_
                              refine V_bipush (v := (10 : Int32)) C dL_law_1059 (by decide) ?_
                              refine V_icmp_neN (a := d) (b := 10) (tgt := 1149) C dL_law_1061 (by decide) (by omega) (by omega) (fun h1061_360 => ?_) (fun h1061_360 => ?_)
                              · refine V_iload C dL_law_1149 rfl ?_
                                refine V_bipush (v := (13 : Int32)) C dL_law_1151 (by decide) ?_
                                refine V_icmp_geN (a := d) (b := 13) (tgt := 1364) C dL_law_1153 (by decide) (by omega) (by omega) (fun h1153_361 => ?_) (fun h1153_361 => ?_)
                                · refine V_iload C dL_law_1364 rfl ?_
                                  refine V_bipush (v := (13 : Int32)) C dL_law_1366 (by decide) ?_
                                  refine V_icmp_neN (a := d) (b := 13) (tgt := 1472) C dL_law_1368 (by decide) (by omega) (by omega) (fun h1368_362 => ?_) (fun h1368_362 => ?_)
                                  · exact law_dt K (by omega) hS hh6 hn16 hR8 hD9 (by omega) (by omega) (by omega) (by omega) (by omega) hva hvb  k1630
                                  · refine V_iload C dL_law_1371 rfl ?_
                                    refine V_if_leN (a := R) (tgt := 1472) C dL_law_1373 (by decide) (by omega) (fun h1373_363 => ?_) (fun h1373_363 => ?_)
                                    · exact law_dt K (by omega) hS hh6 hn16 hR8 hD9 (by omega) (by omega) (by omega) (by omega) (by omega) hva hvb  k1630
                                    · refine V_iload C dL_law_1376 rfl ?_
                                      refine V_iconst (v := (3 : Int32)) C dL_law_1378 (by decide) ?_
                                      refine V_iand C dL_law_1379 ?_
                                      refine V_eqi (y := nI (a1 % 4)) (pk_andN (by omega) 2 (by decide)) ?_
                                      refine V_if_neN (a := a1 % 4) (tgt := 1472) C dL_law_1380 (by decide) (by omega) (fun h1380_364 => ?_) (fun h1380_364 => ?_)
                                      · exact law_dt K (by omega) hS hh6 hn16 hR8 hD9 (by omega) (by omega) (by omega) (by omega) (by omega) hva hvb  k1630
                                      · exact law_d13 K (by omega) hS hh6 hn16 hR8 hD9 (by omega) (by omega) (by omega) (by omega) (by omega) hva hvb (by omega) k1630
                                · refine V_iload C dL_law_1156 rfl ?_
                                  refine V_bipush (v := (8 : Int32)) C dL_law_1158 (by decide) ?_
                                  refine V_icmp_geN (a := R) (b := 8) (tgt := 1364) C dL_law_1160 (by decide) (by omega) (by omega) (fun h1160_365 => ?_) (fun h1160_365 => ?_)
                                  · refine V_iload C dL_law_1364 rfl ?_
                                    refine V_bipush (v := (13 : Int32)) C dL_law_1366 (by decide) ?_
                                    refine V_icmp_neN (a := d) (b := 13) (tgt := 1472) C dL_law_1368 (by decide) (by omega) (by omega) (fun h1368_366 => ?_) (fun h1368_366 => ?_)
                                    · exact law_dt K (by omega) hS hh6 hn16 hR8 hD9 (by omega) (by omega) (by omega) (by omega) (by omega) hva hvb  k1630
                                    · refine V_iload C dL_law_1371 rfl ?_
                                      refine V_if_leN (a := R) (tgt := 1472) C dL_law_1373 (by decide) (by omega) (fun h1373_367 => ?_) (fun h1373_367 => ?_)
                                      · exact law_dt K (by omega) hS hh6 hn16 hR8 hD9 (by omega) (by omega) (by omega) (by omega) (by omega) hva hvb  k1630
                                      · refine V_iload C dL_law_1376 rfl ?_
                                        refine V_iconst (v := (3 : Int32)) C dL_law_1378 (by decide) ?_
                                        refine V_iand C dL_law_1379 ?_
                                        refine V_eqi (y := nI (a1 % 4)) (pk_andN (by omega) 2 (by decide)) ?_
                                        refine V_if_neN (a := a1 % 4) (tgt := 1472) C dL_law_1380 (by decide) (by omega) (fun h1380_368 => ?_) (fun h1380_368 => ?_)
                                        · exact law_dt K (by omega) hS hh6 hn16 hR8 hD9 (by omega) (by omega) (by omega) (by omega) (by omega) hva hvb  k1630
                                        · exact law_d13 K (by omega) hS hh6 hn16 hR8 hD9 (by omega) (by omega) (by omega) (by omega) (by omega) hva hvb (by omega) k1630
                                  · exact law_d11 K (by omega) hS hh6 hn16 hR8 hD9 (by omega) (by omega) (by omega) (by omega) (by omega) hva hvb (by omega) k1630
                              · refine V_iload C dL_law_1064 rfl ?_
                                refine V_iconst (v := (1 : Int32)) C dL_law_1066 (by decide) ?_
                                refine V_iand C dL_law_1067 ?_
                                refine V_eqi (y := nI (a1 % 2)) (pk_andN (by omega) 1 (by decide)) ?_
                                refine V_if_neN (a := a1 % 2) (tgt := 1149) C dL_law_1068 (by decide) (by omega) (fun h1068_369 => ?_) (fun h1068_369 => ?_)
                                · refine V_iload C dL_law_1149 rfl ?_
                                  refine V_bipush (v := (13 : Int32)) C dL_law_1151 (by decide) ?_
                                  refine V_icmp_geN (a := d) (b := 13) (tgt := 1364) C dL_law_1153 (by decide) (by omega) (by omega) (fun h1153_370 => ?_) (fun h1153_370 => ?_)
                                  · refine V_iload C dL_law_1364 rfl ?_
                                    refine V_bipush (v := (13 : Int32)) C dL_law_1366 (by decide) ?_
                                    refine V_icmp_neN (a := d) (b := 13) (tgt := 1472) C dL_law_1368 (by decide) (by omega) (by omega) (fun h1368_371 => ?_) (fun h1368_371 => ?_)
                                    · exact law_dt K (by omega) hS hh6 hn16 hR8 hD9 (by omega) (by omega) (by omega) (by omega) (by omega) hva hvb  k1630
                                    · refine V_iload C dL_law_1371 rfl ?_
                                      refine V_if_leN (a := R) (tgt := 1472) C dL_law_1373 (by decide) (by omega) (fun h1373_372 => ?_) (fun h1373_372 => ?_)
                                      · exact law_dt K (by omega) hS hh6 hn16 hR8 hD9 (by omega) (by omega) (by omega) (by omega) (by omega) hva hvb  k1630
                                      · refine V_iload C dL_law_1376 rfl ?_
                                        refine V_iconst (v := (3 : Int32)) C dL_law_1378 (by decide) ?_
                                        refine V_iand C dL_law_1379 ?_
                                        refine V_eqi (y := nI (a1 % 4)) (pk_andN (by omega) 2 (by decide)) ?_
                                        refine V_if_neN (a := a1 % 4) (tgt := 1472) C dL_law_1380 (by decide) (by omega) (fun h1380_373 => ?_) (fun h1380_373 => ?_)
                                        · exact law_dt K (by omega) hS hh6 hn16 hR8 hD9 (by omega) (by omega) (by omega) (by omega) (by omega) hva hvb  k1630
                                        · exact law_d13 K (by omega) hS hh6 hn16 hR8 hD9 (by omega) (by omega) (by omega) (by omega) (by omega) hva hvb (by omega) k1630
                                  · refine V_iload C dL_law_1156 rfl ?_
                                    refine V_bipush (v := (8 : Int32)) C dL_law_1158 (by decide) ?_
                                    refine V_icmp_geN (a := R) (b := 8) (tgt := 1364) C dL_law_1160 (by decide) (by omega) (by omega) (fun h1160_374 => ?_) (fun h1160_374 => ?_)
                                    · refine V_iload C dL_law_1364 rfl ?_
                                      refine V_bipush (v := (13 : Int32)) C dL_law_1366 (by decide) ?_
                                      refine V_icmp_neN (a := d) (b := 13) (tgt := 1472) C dL_law_1368 (by decide) (by omega) (by omega) (fun h1368_375 => ?_) (fun h1368_375 => ?_)
                                      · exact law_dt K (by omega) hS hh6 hn16 hR8 hD9 (by omega) (by omega) (by omega) (by omega) (by omega) hva hvb  k1630
                                      · refine V_iload C dL_law_1371 rfl ?_
                                        refine V_if_leN (a := R) (tgt := 1472) C dL_law_1373 (by decide) (by omega) (fun h1373_376 => ?_) (fun h1373_376 => ?_)
                                        · exact law_dt K (by omega) hS hh6 hn16 hR8 hD9 (by omega) (by omega) (by omega) (by omega) (by omega) hva hvb  k1630
                                        · refine V_iload C dL_law_1376 rfl ?_
                                          refine V_iconst (v := (3 : Int32)) C dL_law_1378 (by decide) ?_
                                          refine V_iand C dL_law_1379 ?_
                                          refine V_eqi (y := nI (a1 % 4)) (pk_andN (by omega) 2 (by decide)) ?_
                                          refine V_if_neN (a := a1 % 4) (tgt := 1472) C dL_law_1380 (by decide) (by omega) (fun h1380_377 => ?_) (fun h1380_377 => ?_)
                                          · exact law_dt K (by omega) hS hh6 hn16 hR8 hD9 (by omega) (by omega) (by omega) (by omega) (by omega) hva hvb  k1630
                                          · exact law_d13 K (by omega) hS hh6 hn16 hR8 hD9 (by omega) (by omega) (by omega) (by omega) (by omega) hva hvb (by omega) k1630
                                    · exact law_d11 K (by omega) hS hh6 hn16 hR8 hD9 (by omega) (by omega) (by omega) (by omega) (by omega) hva hvb (by omega) k1630
                                · exact law_d10 K (by omega) hS hh6 hn16 hR8 hD9 (by omega) (by omega) (by omega) (by omega) (by omega) hva hvb  k1630
                            · exact law_d9 K (by omega) hS hh6 hn16 hR8 hD9 (by omega) (by omega) (by omega) (by omega) (by omega) hva hvb  k1630
                          · exact law_d8 K (by omega) hS hh6 hn16 hR8 hD9 (by omega) (by omega) (by omega) (by omega) (by omega) hva hvb (by omega) k1630
                    · exact law_d7 K (by omega) hS hh6 hn16 hR8 hD9 (by omega) (by omega) (by omega) (by omega) (by omega) hva hvb (by omega) k1630
                · refine V_iload C dL_law_712 rfl ?_
                  refine V_if_leN (a := n) (tgt := 856) C dL_law_714 (by decide) (by omega) (fun h714_378 => ?_) (fun h714_378 => ?_)
                  · refine V_iload C dL_law_856 rfl ?_
                    refine V_bipush (v := (7 : Int32)) C dL_law_858 (by decide) ?_
                    refine V_icmp_neN (a := d) (b := 7) (tgt := 919) C dL_law_860 (by decide) (by omega) (by omega) (fun h860_379 => ?_) (fun h860_379 => ?_)
                    · refine V_iload C dL_law_919 rfl ?_
                      refine V_bipush (v := (8 : Int32)) C dL_law_921 (by decide) ?_
                      refine V_icmp_neN (a := d) (b := 8) (tgt := 995) C dL_law_923 (by decide) (by omega) (by omega) (fun h923_380 => ?_) (fun h923_380 => ?_)
                      · refine V_iload C dL_law_995 rfl ?_
                        refine V_bipush (v := (10 : Int32)) C dL_law_997 (by decide) ?_
                        refine V_icmp_geN (a := d) (b := 10) (tgt := 1057) C dL_law_999 (by decide) (by omega) (by omega) (fun h999_381 => ?_) (fun h999_381 => ?_)
                        · refine V_iload C dL_law_1057 rfl ?_
                          refine V_bipush (v := (10 : Int32)) C dL_law_1059 (by decide) ?_
                          refine V_icmp_neN (a := d) (b := 10) (tgt := 1149) C dL_law_1061 (by decide) (by omega) (by omega) (fun h1061_382 => ?_) (fun h1061_382 => ?_)
                          · refine V_iload C dL_law_1149 rfl ?_
                            refine V_bipush (v := (13 : Int32)) C dL_law_1151 (by decide) ?_
                            refine V_icmp_geN (a := d) (b := 13) (tgt := 1364) C dL_law_1153 (by decide) (by omega) (by omega) (fun h1153_383 => ?_) (fun h1153_383 => ?_)
                            · refine V_iload C dL_law_1364 rfl ?_
                              refine V_bipush (v := (13 : Int32)) C dL_law_1366 (by decide) ?_
                              refine V_icmp_neN (a := d) (b := 13) (tgt := 1472) C dL_law_1368 (by decide) (by omega) (by omega) (fun h1368_384 => ?_) (fun h1368_384 => ?_)
                              · exact law_dt K (by omega) hS hh6 hn16 hR8 hD9 (by omega) (by omega) (by omega) (by omega) (by omega) hva hvb  k1630
                              · refine V_iload C dL_law_1371 rfl ?_
                                refine V_if_leN (a := R) (tgt := 1472) C dL_law_1373 (by decide) (by omega) (fun h1373_385 => ?_) (fun h1373_385 => ?_)
                                · exact law_dt K (by omega) hS hh6 hn16 hR8 hD9 (by omega) (by omega) (by omega) (by omega) (by omega) hva hvb  k1630
                                · refine V_iload C dL_law_1376 rfl ?_
                                  refine V_iconst (v := (3 : Int32)) C dL_law_1378 (by decide) ?_
                                  refine V_iand C dL_law_1379 ?_
                                  refine V_eqi (y := nI (a1 % 4)) (pk_andN (by omega) 2 (by decide)) ?_
                                  refine V_if_neN (a := a1 % 4) (tgt := 1472) C dL_law_1380 (by decide) (by omega) (fun h1380_386 => ?_) (fun h1380_386 => ?_)
                                  · exact law_dt K (by omega) hS hh6 hn16 hR8 hD9 (by omega) (by omega) (by omega) (by omega) (by omega) hva hvb  k1630
                                  · exact law_d13 K (by omega) hS hh6 hn16 hR8 hD9 (by omega) (by omega) (by omega) (by omega) (by omega) hva hvb (by omega) k1630
                            · refine V_iload C dL_law_1156 rfl ?_
                              refine V_bipush (v := (8 : Int32)) C dL_law_1158 (by decide) ?_
                              refine V_icmp_geN (a := R) (b := 8) (tgt := 1364) C dL_law_1160 (by decide) (by omega) (by omega) (fun h1160_387 => ?_) (fun h1160_387 => ?_)
                              · refine V_iload C dL_law_1364 rfl ?_
                                refine V_bipush (v := (13 : Int32)) C dL_law_1366 (by decide) ?_
                                refine V_icmp_neN (a := d) (b := 13) (tgt := 1472) C dL_law_1368 (by decide) (by omega) (by omega) (fun h1368_388 => ?_) (fun h1368_388 => ?_)
                                · exact law_dt K (by omega) hS hh6 hn16 hR8 hD9 (by omega) (by omega) (by omega) (by omega) (by omega) hva hvb  k1630
                                · refine V_iload C dL_law_1371 rfl ?_
                                  refine V_if_leN (a := R) (tgt := 1472) C dL_law_1373 (by decide) (by omega) (fun h1373_389 => ?_) (fun h1373_389 => ?_)
                                  · exact law_dt K (by omega) hS hh6 hn16 hR8 hD9 (by omega) (by omega) (by omega) (by omega) (by omega) hva hvb  k1630
                                  · refine V_iload C dL_law_1376 rfl ?_
                                    refine V_iconst (v := (3 : Int32)) C dL_law_1378 (by decide) ?_
                                    refine V_iand C dL_law_1379 ?_
                                    refine V_eqi (y := nI (a1 % 4)) (pk_andN (by omega) 2 (by decide)) ?_
                                    refine V_if_neN (a := a1 % 4) (tgt := 1472) C dL_law_1380 (by decide) (by omega) (fun h1380_390 => ?_) (fun h1380_390 => ?_)
                                    · exact law_dt K (by omega) hS hh6 hn16 hR8 hD9 (by omega) (by omega) (by omega) (by omega) (by omega) hva hvb  k1630
                                    · exact law_d13 K (by omega) hS hh6 hn16 hR8 hD9 (by omega) (by omega) (by omega) (by omega) (by omega) hva hvb (by omega) k1630
                              · exact law_d11 K (by omega) hS hh6 hn16 hR8 hD9 (by omega) (by omega) (by omega) (by omega) (by omega) hva hvb (by omega) k1630
                          · refine V_iload C dL_law_1064 rfl ?_
                            refine V_iconst (v := (1 : Int32)) C dL_law_1066 (by decide) ?_
                            refine V_iand C dL_law_1067 ?_
                            refine V_eqi (y := nI (a1 % 2)) (pk_andN (by omega) 1 (by decide)) ?_
                            refine V_if_neN (a := a1 % 2) (tgt := 1149) C dL_law_1068 (by decide) (by omega) (fun h1068_391 => ?_) (fun h1068_391 => ?_)
                            · refine V_iload C dL_law_1149 rfl ?_
                              refine V_bipush (v := (13 : Int32)) C dL_law_1151 (by decide) ?_
                              refine V_icmp_geN (a := d) (b := 13) (tgt := 1364) C dL_law_1153 (by decide) (by omega) (by omega) (fun h1153_392 => ?_) (fun h1153_392 => ?_)
                              · refine V_iload C dL_law_1364 rfl ?_
                                refine V_bipush (v := (13 : Int32)) C dL_law_1366 (by decide) ?_
                                refine V_icmp_neN (a := d) (b := 13) (tgt := 1472) C dL_law_1368 (by decide) (by omega) (by omega) (fun h1368_393 => ?_) (fun h1368_393 => ?_)
                                · exact law_dt K (by omega) hS hh6 hn16 hR8 hD9 (by omega) (by omega) (by omega) (by omega) (by omega) hva hvb  k1630
                                · refine V_iload C dL_law_1371 rfl ?_
                                  refine V_if_leN (a := R) (tgt := 1472) C dL_law_1373 (by decide) (by omega) (fun h1373_394 => ?_) (fun h1373_394 => ?_)
                                  · exact law_dt K (by omega) hS hh6 hn16 hR8 hD9 (by omega) (by omega) (by omega) (by omega) (by omega) hva hvb  k1630
                                  · refine V_iload C dL_law_1376 rfl ?_
                                    refine V_iconst (v := (3 : Int32)) C dL_law_1378 (by decide) ?_
                                    refine V_iand C dL_law_1379 ?_
                                    refine V_eqi (y := nI (a1 % 4)) (pk_andN (by omega) 2 (by decide)) ?_
                                    refine V_if_neN (a := a1 % 4) (tgt := 1472) C dL_law_1380 (by decide) (by omega) (fun h1380_395 => ?_) (fun h1380_395 => ?_)
                                    · exact law_dt K (by omega) hS hh6 hn16 hR8 hD9 (by omega) (by omega) (by omega) (by omega) (by omega) hva hvb  k1630
                                    · exact law_d13 K (by omega) hS hh6 hn16 hR8 hD9 (by omega) (by omega) (by omega) (by omega) (by omega) hva hvb (by omega) k1630
                              · refine V_iload C dL_law_1156 rfl ?_
                                refine V_bipush (v := (8 : Int32)) C dL_law_1158 (by decide) ?_
                                refine V_icmp_geN (a := R) (b := 8) (tgt := 1364) C dL_law_1160 (by decide) (by omega) (by omega) (fun h1160_396 => ?_) (fun h1160_396 => ?_)
                                · refine V_iload C dL_law_1364 rfl ?_
                                  refine V_bipush (v := (13 : Int32)) C dL_law_1366 (by decide) ?_
                                  refine V_icmp_neN (a := d) (b := 13) (tgt := 1472) C dL_law_1368 (by decide) (by omega) (by omega) (fun h1368_397 => ?_) (fun h1368_397 => ?_)
                                  · exact law_dt K (by omega) hS hh6 hn16 hR8 hD9 (by omega) (by omega) (by omega) (by omega) (by omega) hva hvb  k1630
                                  · refine V_iload C dL_law_1371 rfl ?_
                                    refine V_if_leN (a := R) (tgt := 1472) C dL_law_1373 (by decide) (by omega) (fun h1373_398 => ?_) (fun h1373_398 => ?_)
                                    · exact law_dt K (by omega) hS hh6 hn16 hR8 hD9 (by omega) (by omega) (by omega) (by omega) (by omega) hva hvb  k1630
                                    · refine V_iload C dL_law_1376 rfl ?_
                                      refine V_iconst (v := (3 : Int32)) C dL_law_1378 (by decide) ?_
                                      refine V_iand C dL_law_1379 ?_
                                      refine V_eqi (y := nI (a1 % 4)) (pk_andN (by omega) 2 (by decide)) ?_
                                      refine V_if_neN (a := a1 % 4) (tgt := 1472) C dL_law_1380 (by decide) (by omega) (fun h1380_399 => ?_) (fun h1380_399 => ?_)
                                      · exact law_dt K (by omega) hS hh6 hn16 hR8 hD9 (by omega) (by omega) (by omega) (by omega) (by omega) hva hvb  k1630
                                      · exact law_d13 K (by omega) hS hh6 hn16 hR8 hD9 (by omega) (by omega) (by omega) (by omega) (by omega) hva hvb (by omega) k1630
                                · exact law_d11 K (by omega) hS hh6 hn16 hR8 hD9 (by omega) (by omega) (by omega) (by omega) (by omega) hva hvb (by omega) k1630
                            · exact law_d10 K (by omega) hS hh6 hn16 hR8 hD9 (by omega) (by omega) (by omega) (by omega) (by omega) hva hvb  k1630
                        · exact law_d9 K (by omega) hS hh6 hn16 hR8 hD9 (by omega) (by omega) (by omega) (by omega) (by omega) hva hvb  k1630
                      · refine V_iload C dL_law_926 rfl ?_
                        refine V_if_leN (a := n) (tgt := 995) C dL_law_928 (by decide) (by omega) (fun h928_400 => ?_) (fun h928_400 => ?_)
                        · refine V_iload C dL_law_995 rfl ?_
                          refine V_bipush (v := (10 : Int32)) C dL_law_997 (by decide) ?_
                          refine V_icmp_geN (a := d) (b := 10) (tgt := 1057) C dL_law_999 (by decide) (by omega) (by omega) (fun h999_401 => ?_) (fun h999_401 => ?_)
                          · refine V_iload C dL_law_1057 rfl ?_
                            refine V_bipush (v := (10 : Int32)) C dL_law_1059 (by decide) ?_
                            refine V_icmp_neN (a := d) (b := 10) (tgt := 1149) C dL_law_1061 (by decide) (by omega) (by omega) (fun h1061_402 => ?_) (fun h1061_402 => ?_)
                            · refine V_iload C dL_law_1149 rfl ?_
                              refine V_bipush (v := (13 : Int32)) C dL_law_1151 (by decide) ?_
                              refine V_icmp_geN (a := d) (b := 13) (tgt := 1364) C dL_law_1153 (by decide) (by omega) (by omega) (fun h1153_403 => ?_) (fun h1153_403 => ?_)
                              · refine V_iload C dL_law_1364 rfl ?_
                                refine V_bipush (v := (13 : Int32)) C dL_law_1366 (by decide) ?_
                                refine V_icmp_neN (a := d) (b := 13) (tgt := 1472) C dL_law_1368 (by decide) (by omega) (by omega) (fun h1368_404 => ?_) (fun h1368_404 => ?_)
                                · exact law_dt K (by omega) hS hh6 hn16 hR8 hD9 (by omega) (by omega) (by omega) (by omega) (by omega) hva hvb  k1630
                                · refine V_iload C dL_law_1371 rfl ?_
                                  refine V_if_leN (a := R) (tgt := 1472) C dL_law_1373 (by decide) (by omega) (fun h1373_405 => ?_) (fun h1373_405 => ?_)
                                  · exact law_dt K (by omega) hS hh6 hn16 hR8 hD9 (by omega) (by omega) (by omega) (by omega) (by omega) hva hvb  k1630
                                  · refine V_iload C dL_law_1376 rfl ?_
                                    refine V_iconst (v := (3 : Int32)) C dL_law_1378 (by decide) ?_
                                    refine V_iand C dL_law_1379 ?_
                                    refine V_eqi (y := nI (a1 % 4)) (pk_andN (by omega) 2 (by decide)) ?_
                                    refine V_if_neN (a := a1 % 4) (tgt := 1472) C dL_law_1380 (by decide) (by omega) (fun h1380_406 => ?_) (fun h1380_406 => ?_)
                                    · exact law_dt K (by omega) hS hh6 hn16 hR8 hD9 (by omega) (by omega) (by omega) (by omega) (by omega) hva hvb  k1630
                                    · exact law_d13 K (by omega) hS hh6 hn16 hR8 hD9 (by omega) (by omega) (by omega) (by omega) (by omega) hva hvb (by omega) k1630
                              · refine V_iload C dL_law_1156 rfl ?_
                                refine V_bipush (v := (8 : Int32)) C dL_law_1158 (by decide) ?_
                                refine V_icmp_geN (a := R) (b := 8) (tgt := 1364) C dL_law_1160 (by decide) (by omega) (by omega) (fun h1160_407 => ?_) (fun h1160_407 => ?_)
                                · refine V_iload C dL_law_1364 rfl ?_
                                  refine V_bipush (v := (13 : Int32)) C dL_law_1366 (by decide) ?_
                                  refine V_icmp_neN (a := d) (b := 13) (tgt := 1472) C dL_law_1368 (by decide) (by omega) (by omega) (fun h1368_408 => ?_) (fun h1368_408 => ?_)
                                  · exact law_dt K (by omega) hS hh6 hn16 hR8 hD9 (by omega) (by omega) (by omega) (by omega) (by omega) hva hvb  k1630
                                  · refine V_iload C dL_law_1371 rfl ?_
                                    refine V_if_leN (a := R) (tgt := 1472) C dL_law_1373 (by decide) (by omega) (fun h1373_409 => ?_) (fun h1373_409 => ?_)
                                    · exact law_dt K (by omega) hS hh6 hn16 hR8 hD9 (by omega) (by omega) (by omega) (by omega) (by omega) hva hvb  k1630
                                    · refine V_iload C dL_law_1376 rfl ?_
                                      refine V_iconst (v := (3 : Int32)) C dL_law_1378 (by decide) ?_
                                      refine V_iand C dL_law_1379 ?_
                                      refine V_eqi (y := nI (a1 % 4)) (pk_andN (by omega) 2 (by decide)) ?_
                                      refine V_if_neN (a := a1 % 4) (tgt := 1472) C dL_law_1380 (by decide) (by omega) (fun h1380_410 => ?_) (fun h1380_410 => ?_)
                                      · exact law_dt K (by omega) hS hh6 hn16 hR8 hD9 (by omega) (by omega) (by omega) (by omega) (by omega) hva hvb  k1630
                                      · exact law_d13 K (by omega) hS hh6 hn16 hR8 hD9 (by omega) (by omega) (by omega) (by omega) (by omega) hva hvb (by omega) k1630
                                · exact law_d11 K (by omega) hS hh6 hn16 hR8 hD9 (by omega) (by omega) (by omega) (by omega) (by omega) hva hvb (by omega) k1630
                            · refine V_iload C dL_law_1064 rfl ?_
                              refine V_iconst (v := (1 : Int32)) C dL_law_1066 (by decide) ?_
                              refine V_iand C dL_law_1067 ?_
                              refine V_eqi (y := nI (a1 % 2)) (pk_andN (by omega) 1 (by decide)) ?_
                              refine V_if_neN (a := a1 % 2) (tgt := 1149) C dL_law_1068 (by decide) (by omega) (fun h1068_411 => ?_) (fun h1068_411 => ?_)
                              · refine V_iload C dL_law_1149 rfl ?_
                                refine V_bipush (v := (13 : Int32)) C dL_law_1151 (by decide) ?_
                                refine V_icmp_geN (a := d) (b := 13) (tgt := 1364) C dL_law_1153 (by decide) (by omega) (by omega) (fun h1153_412 => ?_) (fun h1153_412 => ?_)
                                · refine V_iload C dL_law_1364 rfl ?_
                                  refine V_bipush (v := (13 : Int32)) C dL_law_1366 (by decide) ?_
                                  refine V_icmp_neN (a := d) (b := 13) (tgt := 1472) C dL_law_1368 (by decide) (by omega) (by omega) (fun h1368_413 => ?_) (fun h1368_413 => ?_)
                                  · exact law_dt K (by omega) hS hh6 hn16 hR8 hD9 (by omega) (by omega) (by omega) (by omega) (by omega) hva hvb  k1630
                                  · refine V_iload C dL_law_1371 rfl ?_
                                    refine V_if_leN (a := R) (tgt := 1472) C dL_law_1373 (by decide) (by omega) (fun h1373_414 => ?_) (fun h1373_414 => ?_)
                                    · exact law_dt K (by omega) hS hh6 hn16 hR8 hD9 (by omega) (by omega) (by omega) (by omega) (by omega) hva hvb  k1630
                                    · refine V_iload C dL_law_1376 rfl ?_
                                      refine V_iconst (v := (3 : Int32)) C dL_law_1378 (by decide) ?_
                                      refine V_iand C dL_law_1379 ?_
                                      refine V_eqi (y := nI (a1 % 4)) (pk_andN (by omega) 2 (by decide)) ?_
                                      refine V_if_neN (a := a1 % 4) (tgt := 1472) C dL_law_1380 (by decide) (by omega) (fun h1380_415 => ?_) (fun h1380_415 => ?_)
                                      · exact law_dt K (by omega) hS hh6 hn16 hR8 hD9 (by omega) (by omega) (by omega) (by omega) (by omega) hva hvb  k1630
                                      · exact law_d13 K (by omega) hS hh6 hn16 hR8 hD9 (by omega) (by omega) (by omega) (by omega) (by omega) hva hvb (by omega) k1630
                                · refine V_iload C dL_law_1156 rfl ?_
                                  refine V_bipush (v := (8 : Int32)) C dL_law_1158 (by decide) ?_
                                  refine V_icmp_geN (a := R) (b := 8) (tgt := 1364) C dL_law_1160 (by decide) (by omega) (by omega) (fun h1160_416 => ?_) (fun h1160_416 => ?_)
                                  · refine V_iload C dL_law_1364 rfl ?_
                                    refine V_bipush (v := (13 : Int32)) C dL_law_1366 (by decide) ?_
                                    refine V_icmp_neN (a := d) (b := 13) (tgt := 1472) C dL_law_1368 (by decide) (by omega) (by omega) (fun h1368_417 => ?_) (fun h1368_417 => ?_)
                                    · exact law_dt K (by omega) hS hh6 hn16 hR8 hD9 (by omega) (by omega) (by omega) (by omega) (by omega) hva hvb  k1630
                                    · refine V_iload C dL_law_1371 rfl ?_
                                      refine V_if_leN (a := R) (tgt := 1472) C dL_law_1373 (by decide) (by omega) (fun h1373_418 => ?_) (fun h1373_418 => ?_)
                                      · exact law_dt K (by omega) hS hh6 hn16 hR8 hD9 (by omega) (by omega) (by omega) (by omega) (by omega) hva hvb  k1630
                                      · refine V_iload C dL_law_1376 rfl ?_
                                        refine V_iconst (v := (3 : Int32)) C dL_law_1378 (by decide) ?_
                                        refine V_iand C dL_law_1379 ?_
                                        refine V_eqi (y := nI (a1 % 4)) (pk_andN (by omega) 2 (by decide)) ?_
                                        refine V_if_neN (a := a1 % 4) (tgt := 1472) C dL_law_1380 (by decide) (by omega) (fun h1380_419 => ?_) (fun h1380_419 => ?_)
                                        · exact law_dt K (by omega) hS hh6 hn16 hR8 hD9 (by omega) (by omega) (by omega) (by omega) (by omega) hva hvb  k1630
                                        · exact law_d13 K (by omega) hS hh6 hn16 hR8 hD9 (by omega) (by omega) (by omega) (by omega) (by omega) hva hvb (by omega) k1630
                                  · exact law_d11 K (by omega) hS hh6 hn16 hR8 hD9 (by omega) (by omega) (by omega) (by omega) (by omega) hva hvb (by omega) k1630
                              · exact law_d10 K (by omega) hS hh6 hn16 hR8 hD9 (by omega) (by omega) (by omega) (by omega) (by omega) hva hvb  k1630
                          · exact law_d9 K (by omega) hS hh6 hn16 hR8 hD9 (by omega) (by omega) (by omega) (by omega) (by omega) hva hvb  k1630
                        · refine V_iload C dL_law_931 rfl ?_
                          refine V_iconst (v := (3 : Int32)) C dL_law_933 (by decide) ?_
                          refine V_iand C dL_law_934 ?_
                          refine V_eqi (y := nI (a1 % 4)) (pk_andN (by omega) 2 (by decide)) ?_
                          refine V_if_neN (a := a1 % 4) (tgt := 995) C dL_law_935 (by decide) (by omega) (fun h935_420 => ?_) (fun h935_420 => ?_)
                          · refine V_iload C dL_law_995 rfl ?_
                            refine V_bipush (v := (10 : Int32)) C dL_law_997 (by decide) ?_
                            refine V_icmp_geN (a := d) (b := 10) (tgt := 1057) C dL_law_999 (by decide) (by omega) (by omega) (fun h999_421 => ?_) (fun h999_421 => ?_)
                            · refine V_iload C dL_law_1057 rfl ?_
                              refine V_bipush (v := (10 : Int32)) C dL_law_1059 (by decide) ?_
                              refine V_icmp_neN (a := d) (b := 10) (tgt := 1149) C dL_law_1061 (by decide) (by omega) (by omega) (fun h1061_422 => ?_) (fun h1061_422 => ?_)
                              · refine V_iload C dL_law_1149 rfl ?_
                                refine V_bipush (v := (13 : Int32)) C dL_law_1151 (by decide) ?_
                                refine V_icmp_geN (a := d) (b := 13) (tgt := 1364) C dL_law_1153 (by decide) (by omega) (by omega) (fun h1153_423 => ?_) (fun h1153_423 => ?_)
                                · refine V_iload C dL_law_1364 rfl ?_
                                  refine V_bipush (v := (13 : Int32)) C dL_law_1366 (by decide) ?_
                                  refine V_icmp_neN (a := d) (b := 13) (tgt := 1472) C dL_law_1368 (by decide) (by omega) (by omega) (fun h1368_424 => ?_) (fun h1368_424 => ?_)
                                  · exact law_dt K (by omega) hS hh6 hn16 hR8 hD9 (by omega) (by omega) (by omega) (by omega) (by omega) hva hvb  k1630
                                  · refine V_iload C dL_law_1371 rfl ?_
                                    refine V_if_leN (a := R) (tgt := 1472) C dL_law_1373 (by decide) (by omega) (fun h1373_425 => ?_) (fun h1373_425 => ?_)
                                    · exact law_dt K (by omega) hS hh6 hn16 hR8 hD9 (by omega) (by omega) (by omega) (by omega) (by omega) hva hvb  k1630
                                    · refine V_iload C dL_law_1376 rfl ?_
                                      refine V_iconst (v := (3 : Int32)) C dL_law_1378 (by decide) ?_
                                      refine V_iand C dL_law_1379 ?_
                                      refine V_eqi (y := nI (a1 % 4)) (pk_andN (by omega) 2 (by decide)) ?_
                                      refine V_if_neN (a := a1 % 4) (tgt := 1472) C dL_law_1380 (by decide) (by omega) (fun h1380_426 => ?_) (fun h1380_426 => ?_)
                                      · exact law_dt K (by omega) hS hh6 hn16 hR8 hD9 (by omega) (by omega) (by omega) (by omega) (by omega) hva hvb  k1630
                                      · exact law_d13 K (by omega) hS hh6 hn16 hR8 hD9 (by omega) (by omega) (by omega) (by omega) (by omega) hva hvb (by omega) k1630
                                · refine V_iload C dL_law_1156 rfl ?_
                                  refine V_bipush (v := (8 : Int32)) C dL_law_1158 (by decide) ?_
                                  refine V_icmp_geN (a := R) (b := 8) (tgt := 1364) C dL_law_1160 (by decide) (by omega) (by omega) (fun h1160_427 => ?_) (fun h1160_427 => ?_)
                                  · refine V_iload C dL_law_1364 rfl ?_
                                    refine V_bipush (v := (13 : Int32)) C dL_law_1366 (by decide) ?_
                                    refine V_icmp_neN (a := d) (b := 13) (tgt := 1472) C dL_law_1368 (by decide) (by omega) (by omega) (fun h1368_428 => ?_) (fun h1368_428 => ?_)
                                    · exact law_dt K (by omega) hS hh6 hn16 hR8 hD9 (by omega) (by omega) (by omega) (by omega) (by omega) hva hvb  k1630
                                    · refine V_iload C dL_law_1371 rfl ?_
                                      refine V_if_leN (a := R) (tgt := 1472) C dL_law_1373 (by decide) (by omega) (fun h1373_429 => ?_) (fun h1373_429 => ?_)
                                      · exact law_dt K (by omega) hS hh6 hn16 hR8 hD9 (by omega) (by omega) (by omega) (by omega) (by omega) hva hvb  k1630
                                      · refine V_iload C dL_law_1376 rfl ?_
                                        refine V_iconst (v := (3 : Int32)) C dL_law_1378 (by decide) ?_
                                        refine V_iand C dL_law_1379 ?_
                                        refine V_eqi (y := nI (a1 % 4)) (pk_andN (by omega) 2 (by decide)) ?_
                                        refine V_if_neN (a := a1 % 4) (tgt := 1472) C dL_law_1380 (by decide) (by omega) (fun h1380_430 => ?_) (fun h1380_430 => ?_)
                                        · exact law_dt K (by omega) hS hh6 hn16 hR8 hD9 (by omega) (by omega) (by omega) (by omega) (by omega) hva hvb  k1630
                                        · exact law_d13 K (by omega) hS hh6 hn16 hR8 hD9 (by omega) (by omega) (by omega) (by omega) (by omega) hva hvb (by omega) k1630
                                  · exact law_d11 K (by omega) hS hh6 hn16 hR8 hD9 (by omega) (by omega) (by omega) (by omega) (by omega) hva hvb (by omega) k1630
                              · refine V_iload C dL_law_1064 rfl ?_
                                refine V_iconst (v := (1 : Int32)) C dL_law_1066 (by decide) ?_
                                refine V_iand C dL_law_1067 ?_
                                refine V_eqi (y := nI (a1 % 2)) (pk_andN (by omega) 1 (by decide)) ?_
                                refine V_if_neN (a := a1 % 2) (tgt := 1149) C dL_law_1068 (by decide) (by omega) (fun h1068_431 => ?_) (fun h1068_431 => ?_)
                                · refine V_iload C dL_law_1149 rfl ?_
                                  refine V_bipush (v := (13 : Int32)) C dL_law_1151 (by decide) ?_
                                  refine V_icmp_geN (a := d) (b := 13) (tgt := 1364) C dL_law_1153 (by decide) (by omega) (by omega) (fun h1153_432 => ?_) (fun h1153_432 => ?_)
                                  · refine V_iload C dL_law_1364 rfl ?_
                                    refine V_bipush (v := (13 : Int32)) C dL_law_1366 (by decide) ?_
                                    refine V_icmp_neN (a := d) (b := 13) (tgt := 1472) C dL_law_1368 (by decide) (by omega) (by omega) (fun h1368_433 => ?_) (fun h1368_433 => ?_)
                                    · exact law_dt K (by omega) hS hh6 hn16 hR8 hD9 (by omega) (by omega) (by omega) (by omega) (by omega) hva hvb  k1630
                                    · refine V_iload C dL_law_1371 rfl ?_
                                      refine V_if_leN (a := R) (tgt := 1472) C dL_law_1373 (by decide) (by omega) (fun h1373_434 => ?_) (fun h1373_434 => ?_)
                                      · exact law_dt K (by omega) hS hh6 hn16 hR8 hD9 (by omega) (by omega) (by omega) (by omega) (by omega) hva hvb  k1630
                                      · refine V_iload C dL_law_1376 rfl ?_
                                        refine V_iconst (v := (3 : Int32)) C dL_law_1378 (by decide) ?_
                                        refine V_iand C dL_law_1379 ?_
                                        refine V_eqi (y := nI (a1 % 4)) (pk_andN (by omega) 2 (by decide)) ?_
                                        refine V_if_neN (a := a1 % 4) (tgt := 1472) C dL_law_1380 (by decide) (by omega) (fun h1380_435 => ?_) (fun h1380_435 => ?_)
                                        · exact law_dt K (by omega) hS hh6 hn16 hR8 hD9 (by omega) (by omega) (by omega) (by omega) (by omega) hva hvb  k1630
                                        · exact law_d13 K (by omega) hS hh6 hn16 hR8 hD9 (by omega) (by omega) (by omega) (by omega) (by omega) hva hvb (by omega) k1630
                                  · refine V_iload C dL_law_1156 rfl ?_
                                    refine V_bipush (v := (8 : Int32)) C dL_law_1158 (by decide) ?_
                                    refine V_icmp_geN (a := R) (b := 8) (tgt := 1364) C dL_law_1160 (by decide) (by omega) (by omega) (fun h1160_436 => ?_) (fun h1160_436 => ?_)
                                    · refine V_iload C dL_law_1364 rfl ?_
                                      refine V_bipush (v := (13 : Int32)) C dL_law_1366 (by decide) ?_
                                      refine V_icmp_neN (a := d) (b := 13) (tgt := 1472) C dL_law_1368 (by decide) (by omega) (by omega) (fun h1368_437 => ?_) (fun h1368_437 => ?_)
                                      · exact law_dt K (by omega) hS hh6 hn16 hR8 hD9 (by omega) (by omega) (by omega) (by omega) (by omega) hva hvb  k1630
                                      · refine V_iload C dL_law_1371 rfl ?_
                                        refine V_if_leN (a := R) (tgt := 1472) C dL_law_1373 (by decide) (by omega) (fun h1373_438 => ?_) (fun h1373_438 => ?_)
                                        · exact law_dt K (by omega) hS hh6 hn16 hR8 hD9 (by omega) (by omega) (by omega) (by omega) (by omega) hva hvb  k1630
                                        · refine V_iload C dL_law_1376 rfl ?_
                                          refine V_iconst (v := (3 : Int32)) C dL_law_1378 (by decide) ?_
                                          refine V_iand C dL_law_1379 ?_
                                          refine V_eqi (y := nI (a1 % 4)) (pk_andN (by omega) 2 (by decide)) ?_
                                          refine V_if_neN (a := a1 % 4) (tgt := 1472) C dL_law_1380 (by decide) (by omega) (fun h1380_439 => ?_) (fun h1380_439 => ?_)
                                          · exact law_dt K (by omega) hS hh6 hn16 hR8 hD9 (by omega) (by omega) (by omega) (by omega) (by omega) hva hvb  k1630
                                          · exact law_d13 K (by omega) hS hh6 hn16 hR8 hD9 (by omega) (by omega) (by omega) (by omega) (by omega) hva hvb (by omega) k1630
                                    · exact law_d11 K (by omega) hS hh6 hn16 hR8 hD9 (by omega) (by omega) (by omega) (by omega) (by omega) hva hvb (by omega) k1630
                                · exact law_d10 K (by omega) hS hh6 hn16 hR8 hD9 (by omega) (by omega) (by omega) (by omega) (by omega) hva hvb  k1630
                            · exact law_d9 K (by omega) hS hh6 hn16 hR8 hD9 (by omega) (by omega) (by omega) (by omega) (by omega) hva hvb  k1630
                          · exact law_d8 K (by omega) hS hh6 hn16 hR8 hD9 (by omega) (by omega) (by omega) (by omega) (by omega) hva hvb (by omega) k1630
                    · refine V_iload C dL_law_863 rfl ?_
                      refine V_if_leN (a := n) (tgt := 919) C dL_law_865 (by decide) (by omega) (fun h865_440 => ?_) (fun h865_440 => ?_)
                      · refine V_iload C dL_law_919 rfl ?_
                        refine V_bipush (v := (8 : Int32)) C dL_law_921 (by decide) ?_
                        refine V_icmp_neN (a := d) (b := 8) (tgt := 995) C dL_law_923 (by decide) (by omega) (by omega) (fun h923_441 => ?_) (fun h923_441 => ?_)
                        · refine V_iload C dL_law_995 rfl ?_
                          refine V_bipush (v := (10 : Int32)) C dL_law_997 (by decide) ?_
                          refine V_icmp_geN (a := d) (b := 10) (tgt := 1057) C dL_law_999 (by decide) (by omega) (by omega) (fun h999_442 => ?_) (fun h999_442 => ?_)
                          · refine V_iload C dL_law_1057 rfl ?_
                            refine V_bipush (v := (10 : Int32)) C dL_law_1059 (by decide) ?_
                            refine V_icmp_neN (a := d) (b := 10) (tgt := 1149) C dL_law_1061 (by decide) (by omega) (by omega) (fun h1061_443 => ?_) (fun h1061_443 => ?_)
                            · refine V_iload C dL_law_1149 rfl ?_
                              refine V_bipush (v := (13 : Int32)) C dL_law_1151 (by decide) ?_
                              refine V_icmp_geN (a := d) (b := 13) (tgt := 1364) C dL_law_1153 (by decide) (by omega) (by omega) (fun h1153_444 => ?_) (fun h1153_444 => ?_)
                              · refine V_iload C dL_law_1364 rfl ?_
                                refine V_bipush (v := (13 : Int32)) C dL_law_1366 (by decide) ?_
                                refine V_icmp_neN (a := d) (b := 13) (tgt := 1472) C dL_law_1368 (by decide) (by omega) (by omega) (fun h1368_445 => ?_) (fun h1368_445 => ?_)
                                · exact law_dt K (by omega) hS hh6 hn16 hR8 hD9 (by omega) (by omega) (by omega) (by omega) (by omega) hva hvb  k1630
                                · refine V_iload C dL_law_1371 rfl ?_
                                  refine V_if_leN (a := R) (tgt := 1472) C dL_law_1373 (by decide) (by omega) (fun h1373_446 => ?_) (fun h1373_446 => ?_)
                                  · exact law_dt K (by omega) hS hh6 hn16 hR8 hD9 (by omega) (by omega) (by omega) (by omega) (by omega) hva hvb  k1630
                                  · refine V_iload C dL_law_1376 rfl ?_
                                    refine V_iconst (v := (3 : Int32)) C dL_law_1378 (by decide) ?_
                                    refine V_iand C dL_law_1379 ?_
                                    refine V_eqi (y := nI (a1 % 4)) (pk_andN (by omega) 2 (by decide)) ?_
                                    refine V_if_neN (a := a1 % 4) (tgt := 1472) C dL_law_1380 (by decide) (by omega) (fun h1380_447 => ?_) (fun h1380_447 => ?_)
                                    · exact law_dt K (by omega) hS hh6 hn16 hR8 hD9 (by omega) (by omega) (by omega) (by omega) (by omega) hva hvb  k1630
                                    · exact law_d13 K (by omega) hS hh6 hn16 hR8 hD9 (by omega) (by omega) (by omega) (by omega) (by omega) hva hvb (by omega) k1630
                              · refine V_iload C dL_law_1156 rfl ?_
                                refine V_bipush (v := (8 : Int32)) C dL_law_1158 (by decide) ?_
                                refine V_icmp_geN (a := R) (b := 8) (tgt := 1364) C dL_law_1160 (by decide) (by omega) (by omega) (fun h1160_448 => ?_) (fun h1160_448 => ?_)
                                · refine V_iload C dL_law_1364 rfl ?_
                                  refine V_bipush (v := (13 : Int32)) C dL_law_1366 (by decide) ?_
                                  refine V_icmp_neN (a := d) (b := 13) (tgt := 1472) C dL_law_1368 (by decide) (by omega) (by omega) (fun h1368_449 => ?_) (fun h1368_449 => ?_)
                                  · exact law_dt K (by omega) hS hh6 hn16 hR8 hD9 (by omega) (by omega) (by omega) (by omega) (by omega) hva hvb  k1630
                                  · refine V_iload C dL_law_1371 rfl ?_
                                    refine V_if_leN (a := R) (tgt := 1472) C dL_law_1373 (by decide) (by omega) (fun h1373_450 => ?_) (fun h1373_450 => ?_)
                                    · exact law_dt K (by omega) hS hh6 hn16 hR8 hD9 (by omega) (by omega) (by omega) (by omega) (by omega) hva hvb  k1630
                                    · refine V_iload C dL_law_1376 rfl ?_
                                      refine V_iconst (v := (3 : Int32)) C dL_law_1378 (by decide) ?_
                                      refine V_iand C dL_law_1379 ?_
                                      refine V_eqi (y := nI (a1 % 4)) (pk_andN (by omega) 2 (by decide)) ?_
                                      refine V_if_neN (a := a1 % 4) (tgt := 1472) C dL_law_1380 (by decide) (by omega) (fun h1380_451 => ?_) (fun h1380_451 => ?_)
                                      · exact law_dt K (by omega) hS hh6 hn16 hR8 hD9 (by omega) (by omega) (by omega) (by omega) (by omega) hva hvb  k1630
                                      · exact law_d13 K (by omega) hS hh6 hn16 hR8 hD9 (by omega) (by omega) (by omega) (by omega) (by omega) hva hvb (by omega) k1630
                                · exact law_d11 K (by omega) hS hh6 hn16 hR8 hD9 (by omega) (by omega) (by omega) (by omega) (by omega) hva hvb (by omega) k1630
                            · refine V_iload C dL_law_1064 rfl ?_
                              refine V_iconst (v := (1 : Int32)) C dL_law_1066 (by decide) ?_
                              refine V_iand C dL_law_1067 ?_
                              refine V_eqi (y := nI (a1 % 2)) (pk_andN (by omega) 1 (by decide)) ?_
                              refine V_if_neN (a := a1 % 2) (tgt := 1149) C dL_law_1068 (by decide) (by omega) (fun h1068_452 => ?_) (fun h1068_452 => ?_)
                              · refine V_iload C dL_law_1149 rfl ?_
                                refine V_bipush (v := (13 : Int32)) C dL_law_1151 (by decide) ?_
                                refine V_icmp_geN (a := d) (b := 13) (tgt := 1364) C dL_law_1153 (by decide) (by omega) (by omega) (fun h1153_453 => ?_) (fun h1153_453 => ?_)
                                · refine V_iload C dL_law_1364 rfl ?_
                                  refine V_bipush (v := (13 : Int32)) C dL_law_1366 (by decide) ?_
                                  refine V_icmp_neN (a := d) (b := 13) (tgt := 1472) C dL_law_1368 (by decide) (by omega) (by omega) (fun h1368_454 => ?_) (fun h1368_454 => ?_)
                                  · exact law_dt K (by omega) hS hh6 hn16 hR8 hD9 (by omega) (by omega) (by omega) (by omega) (by omega) hva hvb  k1630
                                  · refine V_iload C dL_law_1371 rfl ?_
                                    refine V_if_leN (a := R) (tgt := 1472) C dL_law_1373 (by decide) (by omega) (fun h1373_455 => ?_) (fun h1373_455 => ?_)
                                    · exact law_dt K (by omega) hS hh6 hn16 hR8 hD9 (by omega) (by omega) (by omega) (by omega) (by omega) hva hvb  k1630
                                    · refine V_iload C dL_law_1376 rfl ?_
                                      refine V_iconst (v := (3 : Int32)) C dL_law_1378 (by decide) ?_
                                      refine V_iand C dL_law_1379 ?_
                                      refine V_eqi (y := nI (a1 % 4)) (pk_andN (by omega) 2 (by decide)) ?_
                                      refine V_if_neN (a := a1 % 4) (tgt := 1472) C dL_law_1380 (by decide) (by omega) (fun h1380_456 => ?_) (fun h1380_456 => ?_)
                                      · exact law_dt K (by omega) hS hh6 hn16 hR8 hD9 (by omega) (by omega) (by omega) (by omega) (by omega) hva hvb  k1630
                                      · exact law_d13 K (by omega) hS hh6 hn16 hR8 hD9 (by omega) (by omega) (by omega) (by omega) (by omega) hva hvb (by omega) k1630
                                · refine V_iload C dL_law_1156 rfl ?_
                                  refine V_bipush (v := (8 : Int32)) C dL_law_1158 (by decide) ?_
                                  refine V_icmp_geN (a := R) (b := 8) (tgt := 1364) C dL_law_1160 (by decide) (by omega) (by omega) (fun h1160_457 => ?_) (fun h1160_457 => ?_)
                                  · refine V_iload C dL_law_1364 rfl ?_
                                    refine V_bipush (v := (13 : Int32)) C dL_law_1366 (by decide) ?_
                                    refine V_icmp_neN (a := d) (b := 13) (tgt := 1472) C dL_law_1368 (by decide) (by omega) (by omega) (fun h1368_458 => ?_) (fun h1368_458 => ?_)
                                    · exact law_dt K (by omega) hS hh6 hn16 hR8 hD9 (by omega) (by omega) (by omega) (by omega) (by omega) hva hvb  k1630
                                    · refine V_iload C dL_law_1371 rfl ?_
                                      refine V_if_leN (a := R) (tgt := 1472) C dL_law_1373 (by decide) (by omega) (fun h1373_459 => ?_) (fun h1373_459 => ?_)
                                      · exact law_dt K (by omega) hS hh6 hn16 hR8 hD9 (by omega) (by omega) (by omega) (by omega) (by omega) hva hvb  k1630
                                      · refine V_iload C dL_law_1376 rfl ?_
                                        refine V_iconst (v := (3 : Int32)) C dL_law_1378 (by decide) ?_
                                        refine V_iand C dL_law_1379 ?_
                                        refine V_eqi (y := nI (a1 % 4)) (pk_andN (by omega) 2 (by decide)) ?_
                                        refine V_if_neN (a := a1 % 4) (tgt := 1472) C dL_law_1380 (by decide) (by omega) (fun h1380_460 => ?_) (fun h1380_460 => ?_)
                                        · exact law_dt K (by omega) hS hh6 hn16 hR8 hD9 (by omega) (by omega) (by omega) (by omega) (by omega) hva hvb  k1630
                                        · exact law_d13 K (by omega) hS hh6 hn16 hR8 hD9 (by omega) (by omega) (by omega) (by omega) (by omega) hva hvb (by omega) k1630
                                  · exact law_d11 K (by omega) hS hh6 hn16 hR8 hD9 (by omega) (by omega) (by omega) (by omega) (by omega) hva hvb (by omega) k1630
                              · exact law_d10 K (by omega) hS hh6 hn16 hR8 hD9 (by omega) (by omega) (by omega) (by omega) (by omega) hva hvb  k1630
                          · exact law_d9 K (by omega) hS hh6 hn16 hR8 hD9 (by omega) (by omega) (by omega) (by omega) (by omega) hva hvb  k1630
                        · refine V_iload C dL_law_926 rfl ?_
                          refine V_if_leN (a := n) (tgt := 995) C dL_law_928 (by decide) (by omega) (fun h928_461 => ?_) (fun h928_461 => ?_)
                          · refine V_iload C dL_law_995 rfl ?_
                            refine V_bipush (v := (10 : Int32)) C dL_law_997 (by decide) ?_
                            refine V_icmp_geN (a := d) (b := 10) (tgt := 1057) C dL_law_999 (by decide) (by omega) (by omega) (fun h999_462 => ?_) (fun h999_462 => ?_)
                            · refine V_iload C dL_law_1057 rfl ?_
                              refine V_bipush (v := (10 : Int32)) C dL_law_1059 (by decide) ?_
                              refine V_icmp_neN (a := d) (b := 10) (tgt := 1149) C dL_law_1061 (by decide) (by omega) (by omega) (fun h1061_463 => ?_) (fun h1061_463 => ?_)
                              · refine V_iload C dL_law_1149 rfl ?_
                                refine V_bipush (v := (13 : Int32)) C dL_law_1151 (by decide) ?_
                                refine V_icmp_geN (a := d) (b := 13) (tgt := 1364) C dL_law_1153 (by decide) (by omega) (by omega) (fun h1153_464 => ?_) (fun h1153_464 => ?_)
                                · refine V_iload C dL_law_1364 rfl ?_
                                  refine V_bipush (v := (13 : Int32)) C dL_law_1366 (by decide) ?_
                                  refine V_icmp_neN (a := d) (b := 13) (tgt := 1472) C dL_law_1368 (by decide) (by omega) (by omega) (fun h1368_465 => ?_) (fun h1368_465 => ?_)
                                  · exact law_dt K (by omega) hS hh6 hn16 hR8 hD9 (by omega) (by omega) (by omega) (by omega) (by omega) hva hvb  k1630
                                  · refine V_iload C dL_law_1371 rfl ?_
                                    refine V_if_leN (a := R) (tgt := 1472) C dL_law_1373 (by decide) (by omega) (fun h1373_466 => ?_) (fun h1373_466 => ?_)
                                    · exact law_dt K (by omega) hS hh6 hn16 hR8 hD9 (by omega) (by omega) (by omega) (by omega) (by omega) hva hvb  k1630
                                    · refine V_iload C dL_law_1376 rfl ?_
                                      refine V_iconst (v := (3 : Int32)) C dL_law_1378 (by decide) ?_
                                      refine V_iand C dL_law_1379 ?_
                                      refine V_eqi (y := nI (a1 % 4)) (pk_andN (by omega) 2 (by decide)) ?_
                                      refine V_if_neN (a := a1 % 4) (tgt := 1472) C dL_law_1380 (by decide) (by omega) (fun h1380_467 => ?_) (fun h1380_467 => ?_)
                                      · exact law_dt K (by omega) hS hh6 hn16 hR8 hD9 (by omega) (by omega) (by omega) (by omega) (by omega) hva hvb  k1630
                                      · exact law_d13 K (by omega) hS hh6 hn16 hR8 hD9 (by omega) (by omega) (by omega) (by omega) (by omega) hva hvb (by omega) k1630
                                · refine V_iload C dL_law_1156 rfl ?_
                                  refine V_bipush (v := (8 : Int32)) C dL_law_1158 (by decide) ?_
                                  refine V_icmp_geN (a := R) (b := 8) (tgt := 1364) C dL_law_1160 (by decide) (by omega) (by omega) (fun h1160_468 => ?_) (fun h1160_468 => ?_)
                                  · refine V_iload C dL_law_1364 rfl ?_
                                    refine V_bipush (v := (13 : Int32)) C dL_law_1366 (by decide) ?_
                                    refine V_icmp_neN (a := d) (b := 13) (tgt := 1472) C dL_law_1368 (by decide) (by omega) (by omega) (fun h1368_469 => ?_) (fun h1368_469 => ?_)
                                    · exact law_dt K (by omega) hS hh6 hn16 hR8 hD9 (by omega) (by omega) (by omega) (by omega) (by omega) hva hvb  k1630
                                    · refine V_iload C dL_law_1371 rfl ?_
                                      refine V_if_leN (a := R) (tgt := 1472) C dL_law_1373 (by decide) (by omega) (fun h1373_470 => ?_) (fun h1373_470 => ?_)
                                      · exact law_dt K (by omega) hS hh6 hn16 hR8 hD9 (by omega) (by omega) (by omega) (by omega) (by omega) hva hvb  k1630
                                      · refine V_iload C dL_law_1376 rfl ?_
                                        refine V_iconst (v := (3 : Int32)) C dL_law_1378 (by decide) ?_
                                        refine V_iand C dL_law_1379 ?_
                                        refine V_eqi (y := nI (a1 % 4)) (pk_andN (by omega) 2 (by decide)) ?_
                                        refine V_if_neN (a := a1 % 4) (tgt := 1472) C dL_law_1380 (by decide) (by omega) (fun h1380_471 => ?_) (fun h1380_471 => ?_)
                                        · exact law_dt K (by omega) hS hh6 hn16 hR8 hD9 (by omega) (by omega) (by omega) (by omega) (by omega) hva hvb  k1630
                                        · exact law_d13 K (by omega) hS hh6 hn16 hR8 hD9 (by omega) (by omega) (by omega) (by omega) (by omega) hva hvb (by omega) k1630
                                  · exact law_d11 K (by omega) hS hh6 hn16 hR8 hD9 (by omega) (by omega) (by omega) (by omega) (by omega) hva hvb (by omega) k1630
                              · refine V_iload C dL_law_1064 rfl ?_
                                refine V_iconst (v := (1 : Int32)) C dL_law_1066 (by decide) ?_
                                refine V_iand C dL_law_1067 ?_
                                refine V_eqi (y := nI (a1 % 2)) (pk_andN (by omega) 1 (by decide)) ?_
                                refine V_if_neN (a := a1 % 2) (tgt := 1149) C dL_law_1068 (by decide) (by omega) (fun h1068_472 => ?_) (fun h1068_472 => ?_)
                                · refine V_iload C dL_law_1149 rfl ?_
                                  refine V_bipush (v := (13 : Int32)) C dL_law_1151 (by decide) ?_
                                  refine V_icmp_geN (a := d) (b := 13) (tgt := 1364) C dL_law_1153 (by decide) (by omega) (by omega) (fun h1153_473 => ?_) (fun h1153_473 => ?_)
                                  · refine V_iload C dL_law_1364 rfl ?_
                                    refine V_bipush (v := (13 : Int32)) C dL_law_1366 (by decide) ?_
                                    refine V_icmp_neN (a := d) (b := 13) (tgt := 1472) C dL_law_1368 (by decide) (by omega) (by omega) (fun h1368_474 => ?_) (fun h1368_474 => ?_)
                                    · exact law_dt K (by omega) hS hh6 hn16 hR8 hD9 (by omega) (by omega) (by omega) (by omega) (by omega) hva hvb  k1630
                                    · refine V_iload C dL_law_1371 rfl ?_
                                      refine V_if_leN (a := R) (tgt := 1472) C dL_law_1373 (by decide) (by omega) (fun h1373_475 => ?_) (fun h1373_475 => ?_)
                                      · exact law_dt K (by omega) hS hh6 hn16 hR8 hD9 (by omega) (by omega) (by omega) (by omega) (by omega) hva hvb  k1630
                                      · refine V_iload C dL_law_1376 rfl ?_
                                        refine V_iconst (v := (3 : Int32)) C dL_law_1378 (by decide) ?_
                                        refine V_iand C dL_law_1379 ?_
                                        refine V_eqi (y := nI (a1 % 4)) (pk_andN (by omega) 2 (by decide)) ?_
                                        refine V_if_neN (a := a1 % 4) (tgt := 1472) C dL_law_1380 (by decide) (by omega) (fun h1380_476 => ?_) (fun h1380_476 => ?_)
                                        · exact law_dt K (by omega) hS hh6 hn16 hR8 hD9 (by omega) (by omega) (by omega) (by omega) (by omega) hva hvb  k1630
                                        · exact law_d13 K (by omega) hS hh6 hn16 hR8 hD9 (by omega) (by omega) (by omega) (by omega) (by omega) hva hvb (by omega) k1630
                                  · refine V_iload C dL_law_1156 rfl ?_
                                    refine V_bipush (v := (8 : Int32)) C dL_law_1158 (by decide) ?_
                                    refine V_icmp_geN (a := R) (b := 8) (tgt := 1364) C dL_law_1160 (by decide) (by omega) (by omega) (fun h1160_477 => ?_) (fun h1160_477 => ?_)
                                    · refine V_iload C dL_law_1364 rfl ?_
                                      refine V_bipush (v := (13 : Int32)) C dL_law_1366 (by decide) ?_
                                      refine V_icmp_neN (a := d) (b := 13) (tgt := 1472) C dL_law_1368 (by decide) (by omega) (by omega) (fun h1368_478 => ?_) (fun h1368_478 => ?_)
                                      · exact law_dt K (by omega) hS hh6 hn16 hR8 hD9 (by omega) (by omega) (by omega) (by omega) (by omega) hva hvb  k1630
                                      · refine V_iload C dL_law_1371 rfl ?_
                                        refine V_if_leN (a := R) (tgt := 1472) C dL_law_1373 (by decide) (by omega) (fun h1373_479 => ?_) (fun h1373_479 => ?_)
                                        · exact law_dt K (by omega) hS hh6 hn16 hR8 hD9 (by omega) (by omega) (by omega) (by omega) (by omega) hva hvb  k1630
                                        · refine V_iload C dL_law_1376 rfl ?_
                                          refine V_iconst (v := (3 : Int32)) C dL_law_1378 (by decide) ?_
                                          refine V_iand C dL_law_1379 ?_
                                          refine V_eqi (y := nI (a1 % 4)) (pk_andN (by omega) 2 (by decide)) ?_
                                          refine V_if_neN (a := a1 % 4) (tgt := 1472) C dL_law_1380 (by decide) (by omega) (fun h1380_480 => ?_) (fun h1380_480 => ?_)
                                          · exact law_dt K (by omega) hS hh6 hn16 hR8 hD9 (by omega) (by omega) (by omega) (by omega) (by omega) hva hvb  k1630
                                          · exact law_d13 K (by omega) hS hh6 hn16 hR8 hD9 (by omega) (by omega) (by omega) (by omega) (by omega) hva hvb (by omega) k1630
                                    · exact law_d11 K (by omega) hS hh6 hn16 hR8 hD9 (by omega) (by omega) (by omega) (by omega) (by omega) hva hvb (by omega) k1630
                                · exact law_d10 K (by omega) hS hh6 hn16 hR8 hD9 (by omega) (by omega) (by omega) (by omega) (by omega) hva hvb  k1630
                            · exact law_d9 K (by omega) hS hh6 hn16 hR8 hD9 (by omega) (by omega) (by omega) (by omega) (by omega) hva hvb  k1630
                          · refine V_iload C dL_law_931 rfl ?_
                            refine V_iconst (v := (3 : Int32)) C dL_law_933 (by decide) ?_
                            refine V_iand C dL_law_934 ?_
                            refine V_eqi (y := nI (a1 % 4)) (pk_andN (by omega) 2 (by decide)) ?_
                            refine V_if_neN (a := a1 % 4) (tgt := 995) C dL_law_935 (by decide) (by omega) (fun h935_481 => ?_) (fun h935_481 => ?_)
                            · refine V_iload C dL_law_995 rfl ?_
                              refine V_bipush (v := (10 : Int32)) C dL_law_997 (by decide) ?_
                              refine V_icmp_geN (a := d) (b := 10) (tgt := 1057) C dL_law_999 (by decide) (by omega) (by omega) (fun h999_482 => ?_) (fun h999_482 => ?_)
                              · refine V_iload C dL_law_1057 rfl ?_
                                refine V_bipush (v := (10 : Int32)) C dL_law_1059 (by decide) ?_
                                refine V_icmp_neN (a := d) (b := 10) (tgt := 1149) C dL_law_1061 (by decide) (by omega) (by omega) (fun h1061_483 => ?_) (fun h1061_483 => ?_)
                                · refine V_iload C dL_law_1149 rfl ?_
                                  refine V_bipush (v := (13 : Int32)) C dL_law_1151 (by decide) ?_
                                  refine V_icmp_geN (a := d) (b := 13) (tgt := 1364) C dL_law_1153 (by decide) (by omega) (by omega) (fun h1153_484 => ?_) (fun h1153_484 => ?_)
                                  · refine V_iload C dL_law_1364 rfl ?_
                                    refine V_bipush (v := (13 : Int32)) C dL_law_1366 (by decide) ?_
                                    refine V_icmp_neN (a := d) (b := 13) (tgt := 1472) C dL_law_1368 (by decide) (by omega) (by omega) (fun h1368_485 => ?_) (fun h1368_485 => ?_)
                                    · exact law_dt K (by omega) hS hh6 hn16 hR8 hD9 (by omega) (by omega) (by omega) (by omega) (by omega) hva hvb  k1630
                                    · refine V_iload C dL_law_1371 rfl ?_
                                      refine V_if_leN (a := R) (tgt := 1472) C dL_law_1373 (by decide) (by omega) (fun h1373_486 => ?_) (fun h1373_486 => ?_)
                                      · exact law_dt K (by omega) hS hh6 hn16 hR8 hD9 (by omega) (by omega) (by omega) (by omega) (by omega) hva hvb  k1630
                                      · refine V_iload C dL_law_1376 rfl ?_
                                        refine V_iconst (v := (3 : Int32)) C dL_law_1378 (by decide) ?_
                                        refine V_iand C dL_law_1379 ?_
                                        refine V_eqi (y := nI (a1 % 4)) (pk_andN (by omega) 2 (by decide)) ?_
                                        refine V_if_neN (a := a1 % 4) (tgt := 1472) C dL_law_1380 (by decide) (by omega) (fun h1380_487 => ?_) (fun h1380_487 => ?_)
                                        · exact law_dt K (by omega) hS hh6 hn16 hR8 hD9 (by omega) (by omega) (by omega) (by omega) (by omega) hva hvb  k1630
                                        · exact law_d13 K (by omega) hS hh6 hn16 hR8 hD9 (by omega) (by omega) (by omega) (by omega) (by omega) hva hvb (by omega) k1630
                                  · refine V_iload C dL_law_1156 rfl ?_
                                    refine V_bipush (v := (8 : Int32)) C dL_law_1158 (by decide) ?_
                                    refine V_icmp_geN (a := R) (b := 8) (tgt := 1364) C dL_law_1160 (by decide) (by omega) (by omega) (fun h1160_488 => ?_) (fun h1160_488 => ?_)
                                    · refine V_iload C dL_law_1364 rfl ?_
                                      refine V_bipush (v := (13 : Int32)) C dL_law_1366 (by decide) ?_
                                      refine V_icmp_neN (a := d) (b := 13) (tgt := 1472) C dL_law_1368 (by decide) (by omega) (by omega) (fun h1368_489 => ?_) (fun h1368_489 => ?_)
                                      · exact law_dt K (by omega) hS hh6 hn16 hR8 hD9 (by omega) (by omega) (by omega) (by omega) (by omega) hva hvb  k1630
                                      · refine V_iload C dL_law_1371 rfl ?_
                                        refine V_if_leN (a := R) (tgt := 1472) C dL_law_1373 (by decide) (by omega) (fun h1373_490 => ?_) (fun h1373_490 => ?_)
                                        · exact law_dt K (by omega) hS hh6 hn16 hR8 hD9 (by omega) (by omega) (by omega) (by omega) (by omega) hva hvb  k1630
                                        · refine V_iload C dL_law_1376 rfl ?_
                                          refine V_iconst (v := (3 : Int32)) C dL_law_1378 (by decide) ?_
                                          refine V_iand C dL_law_1379 ?_
                                          refine V_eqi (y := nI (a1 % 4)) (pk_andN (by omega) 2 (by decide)) ?_
                                          refine V_if_neN (a := a1 % 4) (tgt := 1472) C dL_law_1380 (by decide) (by omega) (fun h1380_491 => ?_) (fun h1380_491 => ?_)
                                          · exact law_dt K (by omega) hS hh6 hn16 hR8 hD9 (by omega) (by omega) (by omega) (by omega) (by omega) hva hvb  k1630
                                          · exact law_d13 K (by omega) hS hh6 hn16 hR8 hD9 (by omega) (by omega) (by omega) (by omega) (by omega) hva hvb (by omega) k1630
                                    · exact law_d11 K (by omega) hS hh6 hn16 hR8 hD9 (by omega) (by omega) (by omega) (by omega) (by omega) hva hvb (by omega) k1630
                                · refine V_iload C dL_law_1064 rfl ?_
                                  refine V_iconst (v := (1 : Int32)) C dL_law_1066 (by decide) ?_
                                  refine V_iand C dL_law_1067 ?_
                                  refine V_eqi (y := nI (a1 % 2)) (pk_andN (by omega) 1 (by decide)) ?_
                                  refine V_if_neN (a := a1 % 2) (tgt := 1149) C dL_law_1068 (by decide) (by omega) (fun h1068_492 => ?_) (fun h1068_492 => ?_)
                                  · refine V_iload C dL_law_1149 rfl ?_
                                    refine V_bipush (v := (13 : Int32)) C dL_law_1151 (by decide) ?_
                                    refine V_icmp_geN (a := d) (b := 13) (tgt := 1364) C dL_law_1153 (by decide) (by omega) (by omega) (fun h1153_493 => ?_) (fun h1153_493 => ?_)
                                    · refine V_iload C dL_law_1364 rfl ?_
                                      refine V_bipush (v := (13 : Int32)) C dL_law_1366 (by decide) ?_
                                      refine V_icmp_neN (a := d) (b := 13) (tgt := 1472) C dL_law_1368 (by decide) (by omega) (by omega) (fun h1368_494 => ?_) (fun h1368_494 => ?_)
                                      · exact law_dt K (by omega) hS hh6 hn16 hR8 hD9 (by omega) (by omega) (by omega) (by omega) (by omega) hva hvb  k1630
                                      · refine V_iload C dL_law_1371 rfl ?_
                                        refine V_if_leN (a := R) (tgt := 1472) C dL_law_1373 (by decide) (by omega) (fun h1373_495 => ?_) (fun h1373_495 => ?_)
                                        · exact law_dt K (by omega) hS hh6 hn16 hR8 hD9 (by omega) (by omega) (by omega) (by omega) (by omega) hva hvb  k1630
                                        · refine V_iload C dL_law_1376 rfl ?_
                                          refine V_iconst (v := (3 : Int32)) C dL_law_1378 (by decide) ?_
                                          refine V_iand C dL_law_1379 ?_
                                          refine V_eqi (y := nI (a1 % 4)) (pk_andN (by omega) 2 (by decide)) ?_
                                          refine V_if_neN (a := a1 % 4) (tgt := 1472) C dL_law_1380 (by decide) (by omega) (fun h1380_496 => ?_) (fun h1380_496 => ?_)
                                          · exact law_dt K (by omega) hS hh6 hn16 hR8 hD9 (by omega) (by omega) (by omega) (by omega) (by omega) hva hvb  k1630
                                          · exact law_d13 K (by omega) hS hh6 hn16 hR8 hD9 (by omega) (by omega) (by omega) (by omega) (by omega) hva hvb (by omega) k1630
                                    · refine V_iload C dL_law_1156 rfl ?_
                                      refine V_bipush (v := (8 : Int32)) C dL_law_1158 (by decide) ?_
                                      refine V_icmp_geN (a := R) (b := 8) (tgt := 1364) C dL_law_1160 (by decide) (by omega) (by omega) (fun h1160_497 => ?_) (fun h1160_497 => ?_)
                                      · refine V_iload C dL_law_1364 rfl ?_
                                        refine V_bipush (v := (13 : Int32)) C dL_law_1366 (by decide) ?_
                                        refine V_icmp_neN (a := d) (b := 13) (tgt := 1472) C dL_law_1368 (by decide) (by omega) (by omega) (fun h1368_498 => ?_) (fun h1368_498 => ?_)
                                        · exact law_dt K (by omega) hS hh6 hn16 hR8 hD9 (by omega) (by omega) (by omega) (by omega) (by omega) hva hvb  k1630
                                        · refine V_iload C dL_law_1371 rfl ?_
                                          refine V_if_leN (a := R) (tgt := 1472) C dL_law_1373 (by decide) (by omega) (fun h1373_499 => ?_) (fun h1373_499 => ?_)
                                          · exact law_dt K (by omega) hS hh6 hn16 hR8 hD9 (by omega) (by omega) (by omega) (by omega) (by omega) hva hvb  k1630
                                          · refine V_iload C dL_law_1376 rfl ?_
                                            refine V_iconst (v := (3 : Int32)) C dL_law_1378 (by decide) ?_
                                            refine V_iand C dL_law_1379 ?_
                                            refine V_eqi (y := nI (a1 % 4)) (pk_andN (by omega) 2 (by decide)) ?_
                                            refine V_if_neN (a := a1 % 4) (tgt := 1472) C dL_law_1380 (by decide) (by omega) (fun h1380_500 => ?_) (fun h1380_500 => ?_)
                                            · exact law_dt K (by omega) hS hh6 hn16 hR8 hD9 (by omega) (by omega) (by omega) (by omega) (by omega) hva hvb  k1630
                                            · exact law_d13 K (by omega) hS hh6 hn16 hR8 hD9 (by omega) (by omega) (by omega) (by omega) (by omega) hva hvb (by omega) k1630
                                      · exact law_d11 K (by omega) hS hh6 hn16 hR8 hD9 (by omega) (by omega) (by omega) (by omega) (by omega) hva hvb (by omega) k1630
                                  · exact law_d10 K (by omega) hS hh6 hn16 hR8 hD9 (by omega) (by omega) (by omega) (by omega) (by omega) hva hvb  k1630
                              · exact law_d9 K (by omega) hS hh6 hn16 hR8 hD9 (by omega) (by omega) (by omega) (by omega) (by omega) hva hvb  k1630
                            · exact law_d8 K (by omega) hS hh6 hn16 hR8 hD9 (by omega) (by omega) (by omega) (by omega) (by omega) hva hvb (by omega) k1630
                      · exact law_d7 K (by omega) hS hh6 hn16 hR8 hD9 (by omega) (by omega) (by omega) (by omega) (by omega) hva hvb (by omega) k1630
                  · have hko2 : ko < n := by omega
                    obtain ⟨kq, hkq3, ekq⟩ := (hJ.2.1.2.1.2 ko hko2).2.1
                    obtain ⟨e0, he2, he12⟩ := (hL.1 ko hko2).2.2.2.2.2.2.1
                    have he1 : kq = 1 → e0 ≤ 8 := fun q => by obtain ⟨c9, hc9, ec9⟩ := (hJ.2.1.2.1.2 ko hko2).2.2.2.2.2.2.2.2.2.1 (by rw [ekq, q]; rfl); have := nIu (m := 1024) (by decide) he2 (by omega) (he12.symm.trans ec9); omega
                    by_cases hq0 : kq = 0
                    · exact law_d6g (kq := 0) K (by omega) hS hh6 hn16 hR8 hD9 (by omega) (by omega) (by omega) (by omega) (by omega) hva hvb (by omega) (by rw [show X 7 ko = nI kq from ekq, hq0]; rfl) he12 he2 k1630
                    · exact law_d6n K (by omega) hS hh6 hn16 hR8 hD9 (by omega) (by omega) (by omega) (by omega) (by omega) hva hvb (by omega) ekq (by omega) he12 he2 he1 k1630
              · exact law_d2 K (by omega) hS hh6 hn16 hR8 hD9 (by omega) (by omega) (by omega) (by omega) (by omega) hva hvb (by omega) (by omega) (by omega) k1630
          · exact law_d1 K (by omega) hS hh6 hn16 hR8 hD9 (by omega) (by omega) (by omega) (by omega) (by omega) hva hvb  k1630
        · refine V_iload C dL_law_257 rfl ?_
          refine V_bipush (v := (6 : Int32)) C dL_law_259 (by decide) ?_
          refine V_icmp_geN (a := h) (b := 6) (tgt := 307) C dL_law_261 (by decide) (by omega) (by omega) (fun h261_501 => ?_) (fun h261_501 => ?_)
          · refine V_iload C dL_law_307 rfl ?_
            refine V_iconst (v := (2 : Int32)) C dL_law_309 (by decide) ?_
            refine V_icmp_geN (a := d) (b := 2) (tgt := 347) C dL_law_310 (by decide) (by omega) (by omega) (fun h310_502 => ?_) (fun h310_502 => ?_)
            · refine V_iload C dL_law_347 rfl ?_
              refine V_bipush (v := (6 : Int32)) C dL_law_349 (by decide) ?_
              refine V_icmp_geN (a := d) (b := 6) (tgt := 705) C dL_law_351 (by decide) (by omega) (by omega) (fun h351_503 => ?_) (fun h351_503 => ?_)
              · refine V_iload C dL_law_705 rfl ?_
                refine V_bipush (v := (6 : Int32)) C dL_law_707 (by decide) ?_
                refine V_icmp_neN (a := d) (b := 6) (tgt := 856) C dL_law_709 (by decide) (by omega) (by omega) (fun h709_504 => ?_) (fun h709_504 => ?_)
                · refine V_iload C dL_law_856 rfl ?_
                  refine V_bipush (v := (7 : Int32)) C dL_law_858 (by decide) ?_
                  refine V_icmp_neN (a := d) (b := 7) (tgt := 919) C dL_law_860 (by decide) (by omega) (by omega) (fun h860_505 => ?_) (fun h860_505 => ?_)
                  · refine V_iload C dL_law_919 rfl ?_
                    refine V_bipush (v := (8 : Int32)) C dL_law_921 (by decide) ?_
                    refine V_icmp_neN (a := d) (b := 8) (tgt := 995) C dL_law_923 (by decide) (by omega) (by omega) (fun h923_506 => ?_) (fun h923_506 => ?_)
                    · refine V_iload C dL_law_995 rfl ?_
                      refine V_bipush (v := (10 : Int32)) C dL_law_997 (by decide) ?_
                      refine V_icmp_geN (a := d) (b := 10) (tgt := 1057) C dL_law_999 (by decide) (by omega) (by omega) (fun h999_507 => ?_) (fun h999_507 => ?_)
                      · refine V_iload C dL_law_1057 rfl ?_
                        refine V_bipush (v := (10 : Int32)) C dL_law_1059 (by decide) ?_
                        refine V_icmp_neN (a := d) (b := 10) (tgt := 1149) C dL_law_1061 (by decide) (by omega) (by omega) (fun h1061_508 => ?_) (fun h1061_508 => ?_)
                        · refine V_iload C dL_law_1149 rfl ?_
                          refine V_bipush (v := (13 : Int32)) C dL_law_1151 (by decide) ?_
                          refine V_icmp_geN (a := d) (b := 13) (tgt := 1364) C dL_law_1153 (by decide) (by omega) (by omega) (fun h1153_509 => ?_) (fun h1153_509 => ?_)
                          · refine V_iload C dL_law_1364 rfl ?_
                            refine V_bipush (v := (13 : Int32)) C dL_law_1366 (by decide) ?_
                            refine V_icmp_neN (a := d) (b := 13) (tgt := 1472) C dL_law_1368 (by decide) (by omega) (by omega) (fun h1368_510 => ?_) (fun h1368_510 => ?_)
                            · exact law_dt K (by omega) hS hh6 hn16 hR8 hD9 (by omega) (by omega) (by omega) (by omega) (by omega) hva hvb  k1630
                            · refine V_iload C dL_law_1371 rfl ?_
                              refine V_if_leN (a := R) (tgt := 1472) C dL_law_1373 (by decide) (by omega) (fun h1373_511 => ?_) (fun h1373_511 => ?_)
                              · exact law_dt K (by omega) hS hh6 hn16 hR8 hD9 (by omega) (by omega) (by omega) (by omega) (by omega) hva hvb  k1630
                              · refine V_iload C dL_law_1376 rfl ?_
                                refine V_iconst (v := (3 : Int32)) C dL_law_1378 (by decide) ?_
                                refine V_iand C dL_law_1379 ?_
                                refine V_eqi (y := nI (a1 % 4)) (pk_andN (by omega) 2 (by decide)) ?_
                                refine V_if_neN (a := a1 % 4) (tgt := 1472) C dL_law_1380 (by decide) (by omega) (fun h1380_512 => ?_) (fun h1380_512 => ?_)
                                · exact law_dt K (by omega) hS hh6 hn16 hR8 hD9 (by omega) (by omega) (by omega) (by omega) (by omega) hva hvb  k1630
                                · exact law_d13 K (by omega) hS hh6 hn16 hR8 hD9 (by omega) (by omega) (by omega) (by omega) (by omega) hva hvb (by omega) k1630
                          · refine V_iload C dL_law_1156 rfl ?_
                            refine V_bipush (v := (8 : Int32)) C dL_law_1158 (by decide) ?_
                            refine V_icmp_geN (a := R) (b := 8) (tgt := 1364) C dL_law_1160 (by decide) (by omega) (by omega) (fun h1160_513 => ?_) (fun h1160_513 => ?_)
                            · refine V_iload C dL_law_1364 rfl ?_
                              refine V_bipush (v := (13 : Int32)) C dL_law_1366 (by decide) ?_
                              refine V_icmp_neN (a := d) (b := 13) (tgt := 1472) C dL_law_1368 (by decide) (by omega) (by omega) (fun h1368_514 => ?_) (fun h1368_514 => ?_)
                              · exact law_dt K (by omega) hS hh6 hn16 hR8 hD9 (by omega) (by omega) (by omega) (by omega) (by omega) hva hvb  k1630
                              · refine V_iload C dL_law_1371 rfl ?_
                                refine V_if_leN (a := R) (tgt := 1472) C dL_law_1373 (by decide) (by omega) (fun h1373_515 => ?_) (fun h1373_515 => ?_)
                                · exact law_dt K (by omega) hS hh6 hn16 hR8 hD9 (by omega) (by omega) (by omega) (by omega) (by omega) hva hvb  k1630
                                · refine V_iload C dL_law_1376 rfl ?_
                                  refine V_iconst (v := (3 : Int32)) C dL_law_1378 (by decide) ?_
                                  refine V_iand C dL_law_1379 ?_
                                  refine V_eqi (y := nI (a1 % 4)) (pk_andN (by omega) 2 (by decide)) ?_
                                  refine V_if_neN (a := a1 % 4) (tgt := 1472) C dL_law_1380 (by decide) (by omega) (fun h1380_516 => ?_) (fun h1380_516 => ?_)
                                  · exact law_dt K (by omega) hS hh6 hn16 hR8 hD9 (by omega) (by omega) (by omega) (by omega) (by omega) hva hvb  k1630
                                  · exact law_d13 K (by omega) hS hh6 hn16 hR8 hD9 (by omega) (by omega) (by omega) (by omega) (by omega) hva hvb (by omega) k1630
                            · exact law_d11 K (by omega) hS hh6 hn16 hR8 hD9 (by omega) (by omega) (by omega) (by omega) (by omega) hva hvb (by omega) k1630
                        · refine V_iload C dL_law_1064 rfl ?_
                          refine V_iconst (v := (1 : Int32)) C dL_law_1066 (by decide) ?_
                          refine V_iand C dL_law_1067 ?_
                          refine V_eqi (y := nI (a1 % 2)) (pk_andN (by omega) 1 (by decide)) ?_
                          refine V_if_neN (a := a1 % 2) (tgt := 1149) C dL_law_1068 (by decide) (by omega) (fun h1068_517 => ?_) (fun h1068_517 => ?_)
                          · refine V_iload C dL_law_1149 rfl ?_
                            refine V_bipush (v := (13 : Int32)) C dL_law_1151 (by decide) ?_
                            refine V_icmp_geN (a := d) (b := 13) (tgt := 1364) C dL_law_1153 (by decide) (by omega) (by omega) (fun h1153_518 => ?_) (fun h1153_518 => ?_)
                            · refine V_iload C dL_law_1364 rfl ?_
                              refine V_bipush (v := (13 : Int32)) C dL_law_1366 (by decide) ?_
                              refine V_icmp_neN (a := d) (b := 13) (tgt := 1472) C dL_law_1368 (by decide) (by omega) (by omega) (fun h1368_519 => ?_) (fun h1368_519 => ?_)
                              · exact law_dt K (by omega) hS hh6 hn16 hR8 hD9 (by omega) (by omega) (by omega) (by omega) (by omega) hva hvb  k1630
                              · refine V_iload C dL_law_1371 rfl ?_
                                refine V_if_leN (a := R) (tgt := 1472) C dL_law_1373 (by decide) (by omega) (fun h1373_520 => ?_) (fun h1373_520 => ?_)
                                · exact law_dt K (by omega) hS hh6 hn16 hR8 hD9 (by omega) (by omega) (by omega) (by omega) (by omega) hva hvb  k1630
                                · refine V_iload C dL_law_1376 rfl ?_
                                  refine V_iconst (v := (3 : Int32)) C dL_law_1378 (by decide) ?_
                                  refine V_iand C dL_law_1379 ?_
                                  refine V_eqi (y := nI (a1 % 4)) (pk_andN (by omega) 2 (by decide)) ?_
                                  refine V_if_neN (a := a1 % 4) (tgt := 1472) C dL_law_1380 (by decide) (by omega) (fun h1380_521 => ?_) (fun h1380_521 => ?_)
                                  · exact law_dt K (by omega) hS hh6 hn16 hR8 hD9 (by omega) (by omega) (by omega) (by omega) (by omega) hva hvb  k1630
                                  · exact law_d13 K (by omega) hS hh6 hn16 hR8 hD9 (by omega) (by omega) (by omega) (by omega) (by omega) hva hvb (by omega) k1630
                            · refine V_iload C dL_law_1156 rfl ?_
                              refine V_bipush (v := (8 : Int32)) C dL_law_1158 (by decide) ?_
                              refine V_icmp_geN (a := R) (b := 8) (tgt := 1364) C dL_law_1160 (by decide) (by omega) (by omega) (fun h1160_522 => ?_) (fun h1160_522 => ?_)
                              · refine V_iload C dL_law_1364 rfl ?_
                                refine V_bipush (v := (13 : Int32)) C dL_law_1366 (by decide) ?_
                                refine V_icmp_neN (a := d) (b := 13) (tgt := 1472) C dL_law_1368 (by decide) (by omega) (by omega) (fun h1368_523 => ?_) (fun h1368_523 => ?_)
                                · exact law_dt K (by omega) hS hh6 hn16 hR8 hD9 (by omega) (by omega) (by omega) (by omega) (by omega) hva hvb  k1630
                                · refine V_iload C dL_law_1371 rfl ?_
                                  refine V_if_leN (a := R) (tgt := 1472) C dL_law_1373 (by decide) (by omega) (fun h1373_524 => ?_) (fun h1373_524 => ?_)
                                  · exact law_dt K (by omega) hS hh6 hn16 hR8 hD9 (by omega) (by omega) (by omega) (by omega) (by omega) hva hvb  k1630
                                  · refine V_iload C dL_law_1376 rfl ?_
                                    refine V_iconst (v := (3 : Int32)) C dL_law_1378 (by decide) ?_
                                    refine V_iand C dL_law_1379 ?_
                                    refine V_eqi (y := nI (a1 % 4)) (pk_andN (by omega) 2 (by decide)) ?_
                                    refine V_if_neN (a := a1 % 4) (tgt := 1472) C dL_law_1380 (by decide) (by omega) (fun h1380_525 => ?_) (fun h1380_525 => ?_)
                                    · exact law_dt K (by omega) hS hh6 hn16 hR8 hD9 (by omega) (by omega) (by omega) (by omega) (by omega) hva hvb  k1630
                                    · exact law_d13 K (by omega) hS hh6 hn16 hR8 hD9 (by omega) (by omega) (by omega) (by omega) (by omega) hva hvb (by omega) k1630
                              · exact law_d11 K (by omega) hS hh6 hn16 hR8 hD9 (by omega) (by omega) (by omega) (by omega) (by omega) hva hvb (by omega) k1630
                          · exact law_d10 K (by omega) hS hh6 hn16 hR8 hD9 (by omega) (by omega) (by omega) (by omega) (by omega) hva hvb  k1630
                      · exact law_d9 K (by omega) hS hh6 hn16 hR8 hD9 (by omega) (by omega) (by omega) (by omega) (by omega) hva hvb  k1630
                    · refine V_iload C dL_law_926 rfl ?_
                      refine V_if_leN (a := n) (tgt := 995) C dL_law_928 (by decide) (by omega) (fun h928_526 => ?_) (fun h928_526 => ?_)
                      · refine V_iload C dL_law_995 rfl ?_
                        refine V_bipush (v := (10 : Int32)) C dL_law_997 (by decide) ?_
                        refine V_icmp_geN (a := d) (b := 10) (tgt := 1057) C dL_law_999 (by decide) (by omega) (by omega) (fun h999_527 => ?_) (fun h999_527 => ?_)
                        · refine V_iload C dL_law_1057 rfl ?_
                          refine V_bipush (v := (10 : Int32)) C dL_law_1059 (by decide) ?_
                          refine V_icmp_neN (a := d) (b := 10) (tgt := 1149) C dL_law_1061 (by decide) (by omega) (by omega) (fun h1061_528 => ?_) (fun h1061_528 => ?_)
                          · refine V_iload C dL_law_1149 rfl ?_
                            refine V_bipush (v := (13 : Int32)) C dL_law_1151 (by decide) ?_
                            refine V_icmp_geN (a := d) (b := 13) (tgt := 1364) C dL_law_1153 (by decide) (by omega) (by omega) (fun h1153_529 => ?_) (fun h1153_529 => ?_)
                            · refine V_iload C dL_law_1364 rfl ?_
                              refine V_bipush (v := (13 : Int32)) C dL_law_1366 (by decide) ?_
                              refine V_icmp_neN (a := d) (b := 13) (tgt := 1472) C dL_law_1368 (by decide) (by omega) (by omega) (fun h1368_530 => ?_) (fun h1368_530 => ?_)
                              · exact law_dt K (by omega) hS hh6 hn16 hR8 hD9 (by omega) (by omega) (by omega) (by omega) (by omega) hva hvb  k1630
                              · refine V_iload C dL_law_1371 rfl ?_
                                refine V_if_leN (a := R) (tgt := 1472) C dL_law_1373 (by decide) (by omega) (fun h1373_531 => ?_) (fun h1373_531 => ?_)
                                · exact law_dt K (by omega) hS hh6 hn16 hR8 hD9 (by omega) (by omega) (by omega) (by omega) (by omega) hva hvb  k1630
                                · refine V_iload C dL_law_1376 rfl ?_
                                  refine V_iconst (v := (3 : Int32)) C dL_law_1378 (by decide) ?_
                                  refine V_iand C dL_law_1379 ?_
                                  refine V_eqi (y := nI (a1 % 4)) (pk_andN (by omega) 2 (by decide)) ?_
                                  refine V_if_neN (a := a1 % 4) (tgt := 1472) C dL_law_1380 (by decide) (by omega) (fun h1380_532 => ?_) (fun h1380_532 => ?_)
                                  · exact law_dt K (by omega) hS hh6 hn16 hR8 hD9 (by omega) (by omega) (by omega) (by omega) (by omega) hva hvb  k1630
                                  · exact law_d13 K (by omega) hS hh6 hn16 hR8 hD9 (by omega) (by omega) (by omega) (by omega) (by omega) hva hvb (by omega) k1630
                            · refine V_iload C dL_law_1156 rfl ?_
                              refine V_bipush (v := (8 : Int32)) C dL_law_1158 (by decide) ?_
                              refine V_icmp_geN (a := R) (b := 8) (tgt := 1364) C dL_law_1160 (by decide) (by omega) (by omega) (fun h1160_533 => ?_) (fun h1160_533 => ?_)
                              · refine V_iload C dL_law_1364 rfl ?_
                                refine V_bipush (v := (13 : Int32)) C dL_law_1366 (by decide) ?_
                                refine V_icmp_neN (a := d) (b := 13) (tgt := 1472) C dL_law_1368 (by decide) (by omega) (by omega) (fun h1368_534 => ?_) (fun h1368_534 => ?_)
                                · exact law_dt K (by omega) hS hh6 hn16 hR8 hD9 (by omega) (by omega) (by omega) (by omega) (by omega) hva hvb  k1630
                                · refine V_iload C dL_law_1371 rfl ?_
                                  refine V_if_leN (a := R) (tgt := 1472) C dL_law_1373 (by decide) (by omega) (fun h1373_535 => ?_) (fun h1373_535 => ?_)
                                  · exact law_dt K (by omega) hS hh6 hn16 hR8 hD9 (by omega) (by omega) (by omega) (by omega) (by omega) hva hvb  k1630
                                  · refine V_iload C dL_law_1376 rfl ?_
                                    refine V_iconst (v := (3 : Int32)) C dL_law_1378 (by decide) ?_
                                    refine V_iand C dL_law_1379 ?_
                                    refine V_eqi (y := nI (a1 % 4)) (pk_andN (by omega) 2 (by decide)) ?_
                                    refine V_if_neN (a := a1 % 4) (tgt := 1472) C dL_law_1380 (by decide) (by omega) (fun h1380_536 => ?_) (fun h1380_536 => ?_)
                                    · exact law_dt K (by omega) hS hh6 hn16 hR8 hD9 (by omega) (by omega) (by omega) (by omega) (by omega) hva hvb  k1630
                                    · exact law_d13 K (by omega) hS hh6 hn16 hR8 hD9 (by omega) (by omega) (by omega) (by omega) (by omega) hva hvb (by omega) k1630
                              · exact law_d11 K (by omega) hS hh6 hn16 hR8 hD9 (by omega) (by omega) (by omega) (by omega) (by omega) hva hvb (by omega) k1630
                          · refine V_iload C dL_law_1064 rfl ?_
                            refine V_iconst (v := (1 : Int32)) C dL_law_1066 (by decide) ?_
                            refine V_iand C dL_law_1067 ?_
                            refine V_eqi (y := nI (a1 % 2)) (pk_andN (by omega) 1 (by decide)) ?_
                            refine V_if_neN (a := a1 % 2) (tgt := 1149) C dL_law_1068 (by decide) (by omega) (fun h1068_537 => ?_) (fun h1068_537 => ?_)
                            · refine V_iload C dL_law_1149 rfl ?_
                              refine V_bipush (v := (13 : Int32)) C dL_law_1151 (by decide) ?_
                              refine V_icmp_geN (a := d) (b := 13) (tgt := 1364) C dL_law_1153 (by decide) (by omega) (by omega) (fun h1153_538 => ?_) (fun h1153_538 => ?_)
                              · refine V_iload C dL_law_1364 rfl ?_
                                refine V_bipush (v := (13 : Int32)) C dL_law_1366 (by decide) ?_
                                refine V_icmp_neN (a := d) (b := 13) (tgt := 1472) C dL_law_1368 (by decide) (by omega) (by omega) (fun h1368_539 => ?_) (fun h1368_539 => ?_)
                                · exact law_dt K (by omega) hS hh6 hn16 hR8 hD9 (by omega) (by omega) (by omega) (by omega) (by omega) hva hvb  k1630
                                · refine V_iload C dL_law_1371 rfl ?_
                                  refine V_if_leN (a := R) (tgt := 1472) C dL_law_1373 (by decide) (by omega) (fun h1373_540 => ?_) (fun h1373_540 => ?_)
                                  · exact law_dt K (by omega) hS hh6 hn16 hR8 hD9 (by omega) (by omega) (by omega) (by omega) (by omega) hva hvb  k1630
                                  · refine V_iload C dL_law_1376 rfl ?_
                                    refine V_iconst (v := (3 : Int32)) C dL_law_1378 (by decide) ?_
                                    refine V_iand C dL_law_1379 ?_
                                    refine V_eqi (y := nI (a1 % 4)) (pk_andN (by omega) 2 (by decide)) ?_
                                    refine V_if_neN (a := a1 % 4) (tgt := 1472) C dL_law_1380 (by decide) (by omega) (fun h1380_541 => ?_) (fun h1380_541 => ?_)
                                    · exact law_dt K (by omega) hS hh6 hn16 hR8 hD9 (by omega) (by omega) (by omega) (by omega) (by omega) hva hvb  k1630
                                    · exact law_d13 K (by omega) hS hh6 hn16 hR8 hD9 (by omega) (by omega) (by omega) (by omega) (by omega) hva hvb (by omega) k1630
                              · refine V_iload C dL_law_1156 rfl ?_
                                refine V_bipush (v := (8 : Int32)) C dL_law_1158 (by decide) ?_
                                refine V_icmp_geN (a := R) (b := 8) (tgt := 1364) C dL_law_1160 (by decide) (by omega) (by omega) (fun h1160_542 => ?_) (fun h1160_542 => ?_)
                                · refine V_iload C dL_law_1364 rfl ?_
                                  refine V_bipush (v := (13 : Int32)) C dL_law_1366 (by decide) ?_
                                  refine V_icmp_neN (a := d) (b := 13) (tgt := 1472) C dL_law_1368 (by decide) (by omega) (by omega) (fun h1368_543 => ?_) (fun h1368_543 => ?_)
                                  · exact law_dt K (by omega) hS hh6 hn16 hR8 hD9 (by omega) (by omega) (by omega) (by omega) (by omega) hva hvb  k1630
                                  · refine V_iload C dL_law_1371 rfl ?_
                                    refine V_if_leN (a := R) (tgt := 1472) C dL_law_1373 (by decide) (by omega) (fun h1373_544 => ?_) (fun h1373_544 => ?_)
                                    · exact law_dt K (by omega) hS hh6 hn16 hR8 hD9 (by omega) (by omega) (by omega) (by omega) (by omega) hva hvb  k1630
                                    · refine V_iload C dL_law_1376 rfl ?_
                                      refine V_iconst (v := (3 : Int32)) C dL_law_1378 (by decide) ?_
                                      refine V_iand C dL_law_1379 ?_
                                      refine V_eqi (y := nI (a1 % 4)) (pk_andN (by omega) 2 (by decide)) ?_
                                      refine V_if_neN (a := a1 % 4) (tgt := 1472) C dL_law_1380 (by decide) (by omega) (fun h1380_545 => ?_) (fun h1380_545 => ?_)
                                      · exact law_dt K (by omega) hS hh6 hn16 hR8 hD9 (by omega) (by omega) (by omega) (by omega) (by omega) hva hvb  k1630
                                      · exact law_d13 K (by omega) hS hh6 hn16 hR8 hD9 (by omega) (by omega) (by omega) (by omega) (by omega) hva hvb (by omega) k1630
                                · exact law_d11 K (by omega) hS hh6 hn16 hR8 hD9 (by omega) (by omega) (by omega) (by omega) (by omega) hva hvb (by omega) k1630
                            · exact law_d10 K (by omega) hS hh6 hn16 hR8 hD9 (by omega) (by omega) (by omega) (by omega) (by omega) hva hvb  k1630
                        · exact law_d9 K (by omega) hS hh6 hn16 hR8 hD9 (by omega) (by omega) (by omega) (by omega) (by omega) hva hvb  k1630
                      · refine V_iload C dL_law_931 rfl ?_
                        refine V_iconst (v := (3 : Int32)) C dL_law_933 (by decide) ?_
                        refine V_iand C dL_law_934 ?_
                        refine V_eqi (y := nI (a1 % 4)) (pk_andN (by omega) 2 (by decide)) ?_
                        refine V_if_neN (a := a1 % 4) (tgt := 995) C dL_law_935 (by decide) (by omega) (fun h935_546 => ?_) (fun h935_546 => ?_)
                        · refine V_iload C dL_law_995 rfl ?_
                          refine V_bipush (v := (10 : Int32)) C dL_law_997 (by decide) ?_
                          refine V_icmp_geN (a := d) (b := 10) (tgt := 1057) C dL_law_999 (by decide) (by omega) (by omega) (fun h999_547 => ?_) (fun h999_547 => ?_)
                          · refine V_iload C dL_law_1057 rfl ?_
                            refine V_bipush (v := (10 : Int32)) C dL_law_1059 (by decide) ?_
                            refine V_icmp_neN (a := d) (b := 10) (tgt := 1149) C dL_law_1061 (by decide) (by omega) (by omega) (fun h1061_548 => ?_) (fun h1061_548 => ?_)
                            · refine V_iload C dL_law_1149 rfl ?_
                              refine V_bipush (v := (13 : Int32)) C dL_law_1151 (by decide) ?_
                              refine V_icmp_geN (a := d) (b := 13) (tgt := 1364) C dL_law_1153 (by decide) (by omega) (by omega) (fun h1153_549 => ?_) (fun h1153_549 => ?_)
                              · refine V_iload C dL_law_1364 rfl ?_
                                refine V_bipush (v := (13 : Int32)) C dL_law_1366 (by decide) ?_
                                refine V_icmp_neN (a := d) (b := 13) (tgt := 1472) C dL_law_1368 (by decide) (by omega) (by omega) (fun h1368_550 => ?_) (fun h1368_550 => ?_)
                                · exact law_dt K (by omega) hS hh6 hn16 hR8 hD9 (by omega) (by omega) (by omega) (by omega) (by omega) hva hvb  k1630
                                · refine V_iload C dL_law_1371 rfl ?_
                                  refine V_if_leN (a := R) (tgt := 1472) C dL_law_1373 (by decide) (by omega) (fun h1373_551 => ?_) (fun h1373_551 => ?_)
                                  · exact law_dt K (by omega) hS hh6 hn16 hR8 hD9 (by omega) (by omega) (by omega) (by omega) (by omega) hva hvb  k1630
                                  · refine V_iload C dL_law_1376 rfl ?_
                                    refine V_iconst (v := (3 : Int32)) C dL_law_1378 (by decide) ?_
                                    refine V_iand C dL_law_1379 ?_
                                    refine V_eqi (y := nI (a1 % 4)) (pk_andN (by omega) 2 (by decide)) ?_
                                    refine V_if_neN (a := a1 % 4) (tgt := 1472) C dL_law_1380 (by decide) (by omega) (fun h1380_552 => ?_) (fun h1380_552 => ?_)
                                    · exact law_dt K (by omega) hS hh6 hn16 hR8 hD9 (by omega) (by omega) (by omega) (by omega) (by omega) hva hvb  k1630
                                    · exact law_d13 K (by omega) hS hh6 hn16 hR8 hD9 (by omega) (by omega) (by omega) (by omega) (by omega) hva hvb (by omega) k1630
                              · refine V_iload C dL_law_1156 rfl ?_
                                refine V_bipush (v := (8 : Int32)) C dL_law_1158 (by decide) ?_
                                refine V_icmp_geN (a := R) (b := 8) (tgt := 1364) C dL_law_1160 (by decide) (by omega) (by omega) (fun h1160_553 => ?_) (fun h1160_553 => ?_)
                                · refine V_iload C dL_law_1364 rfl ?_
                                  refine V_bipush (v := (13 : Int32)) C dL_law_1366 (by decide) ?_
                                  refine V_icmp_neN (a := d) (b := 13) (tgt := 1472) C dL_law_1368 (by decide) (by omega) (by omega) (fun h1368_554 => ?_) (fun h1368_554 => ?_)
                                  · exact law_dt K (by omega) hS hh6 hn16 hR8 hD9 (by omega) (by omega) (by omega) (by omega) (by omega) hva hvb  k1630
                                  · refine V_iload C dL_law_1371 rfl ?_
                                    refine V_if_leN (a := R) (tgt := 1472) C dL_law_1373 (by decide) (by omega) (fun h1373_555 => ?_) (fun h1373_555 => ?_)
                                    · exact law_dt K (by omega) hS hh6 hn16 hR8 hD9 (by omega) (by omega) (by omega) (by omega) (by omega) hva hvb  k1630
                                    · refine V_iload C dL_law_1376 rfl ?_
                                      refine V_iconst (v := (3 : Int32)) C dL_law_1378 (by decide) ?_
                                      refine V_iand C dL_law_1379 ?_
                                      refine V_eqi (y := nI (a1 % 4)) (pk_andN (by omega) 2 (by decide)) ?_
                                      refine V_if_neN (a := a1 % 4) (tgt := 1472) C dL_law_1380 (by decide) (by omega) (fun h1380_556 => ?_) (fun h1380_556 => ?_)
                                      · exact law_dt K (by omega) hS hh6 hn16 hR8 hD9 (by omega) (by omega) (by omega) (by omega) (by omega) hva hvb  k1630
                                      · exact law_d13 K (by omega) hS hh6 hn16 hR8 hD9 (by omega) (by omega) (by omega) (by omega) (by omega) hva hvb (by omega) k1630
                                · exact law_d11 K (by omega) hS hh6 hn16 hR8 hD9 (by omega) (by omega) (by omega) (by omega) (by omega) hva hvb (by omega) k1630
                            · refine V_iload C dL_law_1064 rfl ?_
                              refine V_iconst (v := (1 : Int32)) C dL_law_1066 (by decide) ?_
                              refine V_iand C dL_law_1067 ?_
                              refine V_eqi (y := nI (a1 % 2)) (pk_andN (by omega) 1 (by decide)) ?_
                              refine V_if_neN (a := a1 % 2) (tgt := 1149) C dL_law_1068 (by decide) (by omega) (fun h1068_557 => ?_) (fun h1068_557 => ?_)
                              · refine V_iload C dL_law_1149 rfl ?_
                                refine V_bipush (v := (13 : Int32)) C dL_law_1151 (by decide) ?_
                                refine V_icmp_geN (a := d) (b := 13) (tgt := 1364) C dL_law_1153 (by decide) (by omega) (by omega) (fun h1153_558 => ?_) (fun h1153_558 => ?_)
                                · refine V_iload C dL_law_1364 rfl ?_
                                  refine V_bipush (v := (13 : Int32)) C dL_law_1366 (by decide) ?_
                                  refine V_icmp_neN (a := d) (b := 13) (tgt := 1472) C dL_law_1368 (by decide) (by omega) (by omega) (fun h1368_559 => ?_) (fun h1368_559 => ?_)
                                  · exact law_dt K (by omega) hS hh6 hn16 hR8 hD9 (by omega) (by omega) (by omega) (by omega) (by omega) hva hvb  k1630
                                  · refine V_iload C dL_law_1371 rfl ?_
                                    refine V_if_leN (a := R) (tgt := 1472) C dL_law_1373 (by decide) (by omega) (fun h1373_560 => ?_) (fun h1373_560 => ?_)
                                    · exact law_dt K (by omega) hS hh6 hn16 hR8 hD9 (by omega) (by omega) (by omega) (by omega) (by omega) hva hvb  k1630
                                    · refine V_iload C dL_law_1376 rfl ?_
                                      refine V_iconst (v := (3 : Int32)) C dL_law_1378 (by decide) ?_
                                      refine V_iand C dL_law_1379 ?_
                                      refine V_eqi (y := nI (a1 % 4)) (pk_andN (by omega) 2 (by decide)) ?_
                                      refine V_if_neN (a := a1 % 4) (tgt := 1472) C dL_law_1380 (by decide) (by omega) (fun h1380_561 => ?_) (fun h1380_561 => ?_)
                                      · exact law_dt K (by omega) hS hh6 hn16 hR8 hD9 (by omega) (by omega) (by omega) (by omega) (by omega) hva hvb  k1630
                                      · exact law_d13 K (by omega) hS hh6 hn16 hR8 hD9 (by omega) (by omega) (by omega) (by omega) (by omega) hva hvb (by omega) k1630
                                · refine V_iload C dL_law_1156 rfl ?_
                                  refine V_bipush (v := (8 : Int32)) C dL_law_1158 (by decide) ?_
                                  refine V_icmp_geN (a := R) (b := 8) (tgt := 1364) C dL_law_1160 (by decide) (by omega) (by omega) (fun h1160_562 => ?_) (fun h1160_562 => ?_)
                                  · refine V_iload C dL_law_1364 rfl ?_
                                    refine V_bipush (v := (13 : Int32)) C dL_law_1366 (by decide) ?_
                                    refine V_icmp_neN (a := d) (b := 13) (tgt := 1472) C dL_law_1368 (by decide) (by omega) (by omega) (fun h1368_563 => ?_) (fun h1368_563 => ?_)
                                    · exact law_dt K (by omega) hS hh6 hn16 hR8 hD9 (by omega) (by omega) (by omega) (by omega) (by omega) hva hvb  k1630
                                    · refine V_iload C dL_law_1371 rfl ?_
                                      refine V_if_leN (a := R) (tgt := 1472) C dL_law_1373 (by decide) (by omega) (fun h1373_564 => ?_) (fun h1373_564 => ?_)
                                      · exact law_dt K (by omega) hS hh6 hn16 hR8 hD9 (by omega) (by omega) (by omega) (by omega) (by omega) hva hvb  k1630
                                      · refine V_iload C dL_law_1376 rfl ?_
                                        refine V_iconst (v := (3 : Int32)) C dL_law_1378 (by decide) ?_
                                        refine V_iand C dL_law_1379 ?_
                                        refine V_eqi (y := nI (a1 % 4)) (pk_andN (by omega) 2 (by decide)) ?_
                                        refine V_if_neN (a := a1 % 4) (tgt := 1472) C dL_law_1380 (by decide) (by omega) (fun h1380_565 => ?_) (fun h1380_565 => ?_)
                                        · exact law_dt K (by omega) hS hh6 hn16 hR8 hD9 (by omega) (by omega) (by omega) (by omega) (by omega) hva hvb  k1630
                                        · exact law_d13 K (by omega) hS hh6 hn16 hR8 hD9 (by omega) (by omega) (by omega) (by omega) (by omega) hva hvb (by omega) k1630
                                  · exact law_d11 K (by omega) hS hh6 hn16 hR8 hD9 (by omega) (by omega) (by omega) (by omega) (by omega) hva hvb (by omega) k1630
                              · exact law_d10 K (by omega) hS hh6 hn16 hR8 hD9 (by omega) (by omega) (by omega) (by omega) (by omega) hva hvb  k1630
                          · exact law_d9 K (by omega) hS hh6 hn16 hR8 hD9 (by omega) (by omega) (by omega) (by omega) (by omega) hva hvb  k1630
                        · exact law_d8 K (by omega) hS hh6 hn16 hR8 hD9 (by omega) (by omega) (by omega) (by omega) (by omega) hva hvb (by omega) k1630
                  · refine V_iload C dL_law_863 rfl ?_
                    refine V_if_leN (a := n) (tgt := 919) C dL_law_865 (by decide) (by omega) (fun h865_566 => ?_) (fun h865_566 => ?_)
                    · refine V_iload C dL_law_919 rfl ?_
                      refine V_bipush (v := (8 : Int32)) C dL_law_921 (by decide) ?_
                      refine V_icmp_neN (a := d) (b := 8) (tgt := 995) C dL_law_923 (by decide) (by omega) (by omega) (fun h923_567 => ?_) (fun h923_567 => ?_)
                      · refine V_iload C dL_law_995 rfl ?_
                        refine V_bipush (v := (10 : Int32)) C dL_law_997 (by decide) ?_
                        refine V_icmp_geN (a := d) (b := 10) (tgt := 1057) C dL_law_999 (by decide) (by omega) (by omega) (fun h999_568 => ?_) (fun h999_568 => ?_)
                        · refine V_iload C dL_law_1057 rfl ?_
                          refine V_bipush (v := (10 : Int32)) C dL_law_1059 (by decide) ?_
                          refine V_icmp_neN (a := d) (b := 10) (tgt := 1149) C dL_law_1061 (by decide) (by omega) (by omega) (fun h1061_569 => ?_) (fun h1061_569 => ?_)
                          · refine V_iload C dL_law_1149 rfl ?_
                            refine V_bipush (v := (13 : Int32)) C dL_law_1151 (by decide) ?_
                            refine V_icmp_geN (a := d) (b := 13) (tgt := 1364) C dL_law_1153 (by decide) (by omega) (by omega) (fun h1153_570 => ?_) (fun h1153_570 => ?_)
                            · refine V_iload C dL_law_1364 rfl ?_
                              refine V_bipush (v := (13 : Int32)) C dL_law_1366 (by decide) ?_
                              refine V_icmp_neN (a := d) (b := 13) (tgt := 1472) C dL_law_1368 (by decide) (by omega) (by omega) (fun h1368_571 => ?_) (fun h1368_571 => ?_)
                              · exact law_dt K (by omega) hS hh6 hn16 hR8 hD9 (by omega) (by omega) (by omega) (by omega) (by omega) hva hvb  k1630
                              · refine V_iload C dL_law_1371 rfl ?_
                                refine V_if_leN (a := R) (tgt := 1472) C dL_law_1373 (by decide) (by omega) (fun h1373_572 => ?_) (fun h1373_572 => ?_)
                                · exact law_dt K (by omega) hS hh6 hn16 hR8 hD9 (by omega) (by omega) (by omega) (by omega) (by omega) hva hvb  k1630
                                · refine V_iload C dL_law_1376 rfl ?_
                                  refine V_iconst (v := (3 : Int32)) C dL_law_1378 (by decide) ?_
                                  refine V_iand C dL_law_1379 ?_
                                  refine V_eqi (y := nI (a1 % 4)) (pk_andN (by omega) 2 (by decide)) ?_
                                  refine V_if_neN (a := a1 % 4) (tgt := 1472) C dL_law_1380 (by decide) (by omega) (fun h1380_573 => ?_) (fun h1380_573 => ?_)
                                  · exact law_dt K (by omega) hS hh6 hn16 hR8 hD9 (by omega) (by omega) (by omega) (by omega) (by omega) hva hvb  k1630
                                  · exact law_d13 K (by omega) hS hh6 hn16 hR8 hD9 (by omega) (by omega) (by omega) (by omega) (by omega) hva hvb (by omega) k1630
                            · refine V_iload C dL_law_1156 rfl ?_
                              refine V_bipush (v := (8 : Int32)) C dL_law_1158 (by decide) ?_
                              refine V_icmp_geN (a := R) (b := 8) (tgt := 1364) C dL_law_1160 (by decide) (by omega) (by omega) (fun h1160_574 => ?_) (fun h1160_574 => ?_)
                              · refine V_iload C dL_law_1364 rfl ?_
                                refine V_bipush (v := (13 : Int32)) C dL_law_1366 (by decide) ?_
                                refine V_icmp_neN (a := d) (b := 13) (tgt := 1472) C dL_law_1368 (by decide) (by omega) (by omega) (fun h1368_575 => ?_) (fun h1368_575 => ?_)
                                · exact law_dt K (by omega) hS hh6 hn16 hR8 hD9 (by omega) (by omega) (by omega) (by omega) (by omega) hva hvb  k1630
                                · refine V_iload C dL_law_1371 rfl ?_
                                  refine V_if_leN (a := R) (tgt := 1472) C dL_law_1373 (by decide) (by omega) (fun h1373_576 => ?_) (fun h1373_576 => ?_)
                                  · exact law_dt K (by omega) hS hh6 hn16 hR8 hD9 (by omega) (by omega) (by omega) (by omega) (by omega) hva hvb  k1630
                                  · refine V_iload C dL_law_1376 rfl ?_
                                    refine V_iconst (v := (3 : Int32)) C dL_law_1378 (by decide) ?_
                                    refine V_iand C dL_law_1379 ?_
                                    refine V_eqi (y := nI (a1 % 4)) (pk_andN (by omega) 2 (by decide)) ?_
                                    refine V_if_neN (a := a1 % 4) (tgt := 1472) C dL_law_1380 (by decide) (by omega) (fun h1380_577 => ?_) (fun h1380_577 => ?_)
                                    · exact law_dt K (by omega) hS hh6 hn16 hR8 hD9 (by omega) (by omega) (by omega) (by omega) (by omega) hva hvb  k1630
                                    · exact law_d13 K (by omega) hS hh6 hn16 hR8 hD9 (by omega) (by omega) (by omega) (by omega) (by omega) hva hvb (by omega) k1630
                              · exact law_d11 K (by omega) hS hh6 hn16 hR8 hD9 (by omega) (by omega) (by omega) (by omega) (by omega) hva hvb (by omega) k1630
                          · refine V_iload C dL_law_1064 rfl ?_
                            refine V_iconst (v := (1 : Int32)) C dL_law_1066 (by decide) ?_
                            refine V_iand C dL_law_1067 ?_
                            refine V_eqi (y := nI (a1 % 2)) (pk_andN (by omega) 1 (by decide)) ?_
                            refine V_if_neN (a := a1 % 2) (tgt := 1149) C dL_law_1068 (by decide) (by omega) (fun h1068_578 => ?_) (fun h1068_578 => ?_)
                            · refine V_iload C dL_law_1149 rfl ?_
                              refine V_bipush (v := (13 : Int32)) C dL_law_1151 (by decide) ?_
                              refine V_icmp_geN (a := d) (b := 13) (tgt := 1364) C dL_law_1153 (by decide) (by omega) (by omega) (fun h1153_579 => ?_) (fun h1153_579 => ?_)
                              · refine V_iload C dL_law_1364 rfl ?_
                                refine V_bipush (v := (13 : Int32)) C dL_law_1366 (by decide) ?_
                                refine V_icmp_neN (a := d) (b := 13) (tgt := 1472) C dL_law_1368 (by decide) (by omega) (by omega) (fun h1368_580 => ?_) (fun h1368_580 => ?_)
                                · exact law_dt K (by omega) hS hh6 hn16 hR8 hD9 (by omega) (by omega) (by omega) (by omega) (by omega) hva hvb  k1630
                                · refine V_iload C dL_law_1371 rfl ?_
                                  refine V_if_leN (a := R) (tgt := 1472) C dL_law_1373 (by decide) (by omega) (fun h1373_581 => ?_) (fun h1373_581 => ?_)
                                  · exact law_dt K (by omega) hS hh6 hn16 hR8 hD9 (by omega) (by omega) (by omega) (by omega) (by omega) hva hvb  k1630
                                  · refine V_iload C dL_law_1376 rfl ?_
                                    refine V_iconst (v := (3 : Int32)) C dL_law_1378 (by decide) ?_
                                    refine V_iand C dL_law_1379 ?_
                                    refine V_eqi (y := nI (a1 % 4)) (pk_andN (by omega) 2 (by decide)) ?_
                                    refine V_if_neN (a := a1 % 4) (tgt := 1472) C dL_law_1380 (by decide) (by omega) (fun h1380_582 => ?_) (fun h1380_582 => ?_)
                                    · exact law_dt K (by omega) hS hh6 hn16 hR8 hD9 (by omega) (by omega) (by omega) (by omega) (by omega) hva hvb  k1630
                                    · exact law_d13 K (by omega) hS hh6 hn16 hR8 hD9 (by omega) (by omega) (by omega) (by omega) (by omega) hva hvb (by omega) k1630
                              · refine V_iload C dL_law_1156 rfl ?_
                                refine V_bipush (v := (8 : Int32)) C dL_law_1158 (by decide) ?_
                                refine V_icmp_geN (a := R) (b := 8) (tgt := 1364) C dL_law_1160 (by decide) (by omega) (by omega) (fun h1160_583 => ?_) (fun h1160_583 => ?_)
                                · refine V_iload C dL_law_1364 rfl ?_
                                  refine V_bipush (v := (13 : Int32)) C dL_law_1366 (by decide) ?_
                                  refine V_icmp_neN (a := d) (b := 13) (tgt := 1472) C dL_law_1368 (by decide) (by omega) (by omega) (fun h1368_584 => ?_) (fun h1368_584 => ?_)
                                  · exact law_dt K (by omega) hS hh6 hn16 hR8 hD9 (by omega) (by omega) (by omega) (by omega) (by omega) hva hvb  k1630
                                  · refine V_iload C dL_law_1371 rfl ?_
                                    refine V_if_leN (a := R) (tgt := 1472) C dL_law_1373 (by decide) (by omega) (fun h1373_585 => ?_) (fun h1373_585 => ?_)
                                    · exact law_dt K (by omega) hS hh6 hn16 hR8 hD9 (by omega) (by omega) (by omega) (by omega) (by omega) hva hvb  k1630
                                    · refine V_iload C dL_law_1376 rfl ?_
                                      refine V_iconst (v := (3 : Int32)) C dL_law_1378 (by decide) ?_
                                      refine V_iand C dL_law_1379 ?_
                                      refine V_eqi (y := nI (a1 % 4)) (pk_andN (by omega) 2 (by decide)) ?_
                                      refine V_if_neN (a := a1 % 4) (tgt := 1472) C dL_law_1380 (by decide) (by omega) (fun h1380_586 => ?_) (fun h1380_586 => ?_)
                                      · exact law_dt K (by omega) hS hh6 hn16 hR8 hD9 (by omega) (by omega) (by omega) (by omega) (by omega) hva hvb  k1630
                                      · exact law_d13 K (by omega) hS hh6 hn16 hR8 hD9 (by omega) (by omega) (by omega) (by omega) (by omega) hva hvb (by omega) k1630
                                · exact law_d11 K (by omega) hS hh6 hn16 hR8 hD9 (by omega) (by omega) (by omega) (by omega) (by omega) hva hvb (by omega) k1630
                            · exact law_d10 K (by omega) hS hh6 hn16 hR8 hD9 (by omega) (by omega) (by omega) (by omega) (by omega) hva hvb  k1630
                        · exact law_d9 K (by omega) hS hh6 hn16 hR8 hD9 (by omega) (by omega) (by omega) (by omega) (by omega) hva hvb  k1630
                      · refine V_iload C dL_law_926 rfl ?_
                        refine V_if_leN (a := n) (tgt := 995) C dL_law_928 (by decide) (by omega) (fun h928_587 => ?_) (fun h928_587 => ?_)
                        · refine V_iload C dL_law_995 rfl ?_
                          refine V_bipush (v := (10 : Int32)) C dL_law_997 (by decide) ?_
                          refine V_icmp_geN (a := d) (b := 10) (tgt := 1057) C dL_law_999 (by decide) (by omega) (by omega) (fun h999_588 => ?_) (fun h999_588 => ?_)
                          · refine V_iload C dL_law_1057 rfl ?_
                            refine V_bipush (v := (10 : Int32)) C dL_law_1059 (by decide) ?_
                            refine V_icmp_neN (a := d) (b := 10) (tgt := 1149) C dL_law_1061 (by decide) (by omega) (by omega) (fun h1061_589 => ?_) (fun h1061_589 => ?_)
                            · refine V_iload C dL_law_1149 rfl ?_
                              refine V_bipush (v := (13 : Int32)) C dL_law_1151 (by decide) ?_
                              refine V_icmp_geN (a := d) (b := 13) (tgt := 1364) C dL_law_1153 (by decide) (by omega) (by omega) (fun h1153_590 => ?_) (fun h1153_590 => ?_)
                              · refine V_iload C dL_law_1364 rfl ?_
                                refine V_bipush (v := (13 : Int32)) C dL_law_1366 (by decide) ?_
                                refine V_icmp_neN (a := d) (b := 13) (tgt := 1472) C dL_law_1368 (by decide) (by omega) (by omega) (fun h1368_591 => ?_) (fun h1368_591 => ?_)
                                · exact law_dt K (by omega) hS hh6 hn16 hR8 hD9 (by omega) (by omega) (by omega) (by omega) (by omega) hva hvb  k1630
                                · refine V_iload C dL_law_1371 rfl ?_
                                  refine V_if_leN (a := R) (tgt := 1472) C dL_law_1373 (by decide) (by omega) (fun h1373_592 => ?_) (fun h1373_592 => ?_)
                                  · exact law_dt K (by omega) hS hh6 hn16 hR8 hD9 (by omega) (by omega) (by omega) (by omega) (by omega) hva hvb  k1630
                                  · refine V_iload C dL_law_1376 rfl ?_
                                    refine V_iconst (v := (3 : Int32)) C dL_law_1378 (by decide) ?_
                                    refine V_iand C dL_law_1379 ?_
                                    refine V_eqi (y := nI (a1 % 4)) (pk_andN (by omega) 2 (by decide)) ?_
                                    refine V_if_neN (a := a1 % 4) (tgt := 1472) C dL_law_1380 (by decide) (by omega) (fun h1380_593 => ?_) (fun h1380_593 => ?_)
                                    · exact law_dt K (by omega) hS hh6 hn16 hR8 hD9 (by omega) (by omega) (by omega) (by omega) (by omega) hva hvb  k1630
                                    · exact law_d13 K (by omega) hS hh6 hn16 hR8 hD9 (by omega) (by omega) (by omega) (by omega) (by omega) hva hvb (by omega) k1630
                              · refine V_iload C dL_law_1156 rfl ?_
                                refine V_bipush (v := (8 : Int32)) C dL_law_1158 (by decide) ?_
                                refine V_icmp_geN (a := R) (b := 8) (tgt := 1364) C dL_law_1160 (by decide) (by omega) (by omega) (fun h1160_594 => ?_) (fun h1160_594 => ?_)
                                · refine V_iload C dL_law_1364 rfl ?_
                                  refine V_bipush (v := (13 : Int32)) C dL_law_1366 (by decide) ?_
                                  refine V_icmp_neN (a := d) (b := 13) (tgt := 1472) C dL_law_1368 (by decide) (by omega) (by omega) (fun h1368_595 => ?_) (fun h1368_595 => ?_)
                                  · exact law_dt K (by omega) hS hh6 hn16 hR8 hD9 (by omega) (by omega) (by omega) (by omega) (by omega) hva hvb  k1630
                                  · refine V_iload C dL_law_1371 rfl ?_
                                    refine V_if_leN (a := R) (tgt := 1472) C dL_law_1373 (by decide) (by omega) (fun h1373_596 => ?_) (fun h1373_596 => ?_)
                                    · exact law_dt K (by omega) hS hh6 hn16 hR8 hD9 (by omega) (by omega) (by omega) (by omega) (by omega) hva hvb  k1630
                                    · refine V_iload C dL_law_1376 rfl ?_
                                      refine V_iconst (v := (3 : Int32)) C dL_law_1378 (by decide) ?_
                                      refine V_iand C dL_law_1379 ?_
                                      refine V_eqi (y := nI (a1 % 4)) (pk_andN (by omega) 2 (by decide)) ?_
                                      refine V_if_neN (a := a1 % 4) (tgt := 1472) C dL_law_1380 (by decide) (by omega) (fun h1380_597 => ?_) (fun h1380_597 => ?_)
                                      · exact law_dt K (by omega) hS hh6 hn16 hR8 hD9 (by omega) (by omega) (by omega) (by omega) (by omega) hva hvb  k1630
                                      · exact law_d13 K (by omega) hS hh6 hn16 hR8 hD9 (by omega) (by omega) (by omega) (by omega) (by omega) hva hvb (by omega) k1630
                                · exact law_d11 K (by omega) hS hh6 hn16 hR8 hD9 (by omega) (by omega) (by omega) (by omega) (by omega) hva hvb (by omega) k1630
                            · refine V_iload C dL_law_1064 rfl ?_
                              refine V_iconst (v := (1 : Int32)) C dL_law_1066 (by decide) ?_
                              refine V_iand C dL_law_1067 ?_
                              refine V_eqi (y := nI (a1 % 2)) (pk_andN (by omega) 1 (by decide)) ?_
                              refine V_if_neN (a := a1 % 2) (tgt := 1149) C dL_law_1068 (by decide) (by omega) (fun h1068_598 => ?_) (fun h1068_598 => ?_)
                              · refine V_iload C dL_law_1149 rfl ?_
                                refine V_bipush (v := (13 : Int32)) C dL_law_1151 (by decide) ?_
                                refine V_icmp_geN (a := d) (b := 13) (tgt := 1364) C dL_law_1153 (by decide) (by omega) (by omega) (fun h1153_599 => ?_) (fun h1153_599 => ?_)
                                · refine V_iload C dL_law_1364 rfl ?_
                                  refine V_bipush (v := (13 : Int32)) C dL_law_1366 (by decide) ?_
                                  refine V_icmp_neN (a := d) (b := 13) (tgt := 1472) C dL_law_1368 (by decide) (by omega) (by omega) (fun h1368_600 => ?_) (fun h1368_600 => ?_)
                                  · exact law_dt K (by omega) hS hh6 hn16 hR8 hD9 (by omega) (by omega) (by omega) (by omega) (by omega) hva hvb  k1630
                                  · refine V_iload C dL_law_1371 rfl ?_
                                    refine V_if_leN (a := R) (tgt := 1472) C dL_law_1373 (by decide) (by omega) (fun h1373_601 => ?_) (fun h1373_601 => ?_)
                                    · exact law_dt K (by omega) hS hh6 hn16 hR8 hD9 (by omega) (by omega) (by omega) (by omega) (by omega) hva hvb  k1630
                                    · refine V_iload C dL_law_1376 rfl ?_
                                      refine V_iconst (v := (3 : Int32)) C dL_law_1378 (by decide) ?_
                                      refine V_iand C dL_law_1379 ?_
                                      refine V_eqi (y := nI (a1 % 4)) (pk_andN (by omega) 2 (by decide)) ?_
                                      refine V_if_neN (a := a1 % 4) (tgt := 1472) C dL_law_1380 (by decide) (by omega) (fun h1380_602 => ?_) (fun h1380_602 => ?_)
                                      · exact law_dt K (by omega) hS hh6 hn16 hR8 hD9 (by omega) (by omega) (by omega) (by omega) (by omega) hva hvb  k1630
                                      · exact law_d13 K (by omega) hS hh6 hn16 hR8 hD9 (by omega) (by omega) (by omega) (by omega) (by omega) hva hvb (by omega) k1630
                                · refine V_iload C dL_law_1156 rfl ?_
                                  refine V_bipush (v := (8 : Int32)) C dL_law_1158 (by decide) ?_
                                  refine V_icmp_geN (a := R) (b := 8) (tgt := 1364) C dL_law_1160 (by decide) (by omega) (by omega) (fun h1160_603 => ?_) (fun h1160_603 => ?_)
                                  · refine V_iload C dL_law_1364 rfl ?_
                                    refine V_bipush (v := (13 : Int32)) C dL_law_1366 (by decide) ?_
                                    refine V_icmp_neN (a := d) (b := 13) (tgt := 1472) C dL_law_1368 (by decide) (by omega) (by omega) (fun h1368_604 => ?_) (fun h1368_604 => ?_)
                                    · exact law_dt K (by omega) hS hh6 hn16 hR8 hD9 (by omega) (by omega) (by omega) (by omega) (by omega) hva hvb  k1630
                                    · refine V_iload C dL_law_1371 rfl ?_
                                      refine V_if_leN (a := R) (tgt := 1472) C dL_law_1373 (by decide) (by omega) (fun h1373_605 => ?_) (fun h1373_605 => ?_)
                                      · exact law_dt K (by omega) hS hh6 hn16 hR8 hD9 (by omega) (by omega) (by omega) (by omega) (by omega) hva hvb  k1630
                                      · refine V_iload C dL_law_1376 rfl ?_
                                        refine V_iconst (v := (3 : Int32)) C dL_law_1378 (by decide) ?_
                                        refine V_iand C dL_law_1379 ?_
                                        refine V_eqi (y := nI (a1 % 4)) (pk_andN (by omega) 2 (by decide)) ?_
                                        refine V_if_neN (a := a1 % 4) (tgt := 1472) C dL_law_1380 (by decide) (by omega) (fun h1380_606 => ?_) (fun h1380_606 => ?_)
                                        · exact law_dt K (by omega) hS hh6 hn16 hR8 hD9 (by omega) (by omega) (by omega) (by omega) (by omega) hva hvb  k1630
                                        · exact law_d13 K (by omega) hS hh6 hn16 hR8 hD9 (by omega) (by omega) (by omega) (by omega) (by omega) hva hvb (by omega) k1630
                                  · exact law_d11 K (by omega) hS hh6 hn16 hR8 hD9 (by omega) (by omega) (by omega) (by omega) (by omega) hva hvb (by omega) k1630
                              · exact law_d10 K (by omega) hS hh6 hn16 hR8 hD9 (by omega) (by omega) (by omega) (by omega) (by omega) hva hvb  k1630
                          · exact law_d9 K (by omega) hS hh6 hn16 hR8 hD9 (by omega) (by omega) (by omega) (by omega) (by omega) hva hvb  k1630
                        · refine V_iload C dL_law_931 rfl ?_
                          refine V_iconst (v := (3 : Int32)) C dL_law_933 (by decide) ?_
                          refine V_iand C dL_law_934 ?_
                          refine V_eqi (y := nI (a1 % 4)) (pk_andN (by omega) 2 (by decide)) ?_
                          refine V_if_neN (a := a1 % 4) (tgt := 995) C dL_law_935 (by decide) (by omega) (fun h935_607 => ?_) (fun h935_607 => ?_)
                          · refine V_iload C dL_law_995 rfl ?_
                            refine V_bipush (v := (10 : Int32)) C dL_law_997 (by decide) ?_
                            refine V_icmp_geN (a := d) (b := 10) (tgt := 1057) C dL_law_999 (by decide) (by omega) (by omega) (fun h999_608 => ?_) (fun h999_608 => ?_)
                            · refine V_iload C dL_law_1057 rfl ?_
                              refine V_bipush (v := (10 : Int32)) C dL_law_1059 (by decide) ?_
                              refine V_icmp_neN (a := d) (b := 10) (tgt := 1149) C dL_law_1061 (by decide) (by omega) (by omega) (fun h1061_609 => ?_) (fun h1061_609 => ?_)
                              · refine V_iload C dL_law_1149 rfl ?_
                                refine V_bipush (v := (13 : Int32)) C dL_law_1151 (by decide) ?_
                                refine V_icmp_geN (a := d) (b := 13) (tgt := 1364) C dL_law_1153 (by decide) (by omega) (by omega) (fun h1153_610 => ?_) (fun h1153_610 => ?_)
                                · refine V_iload C dL_law_1364 rfl ?_
                                  refine V_bipush (v := (13 : Int32)) C dL_law_1366 (by decide) ?_
                                  refine V_icmp_neN (a := d) (b := 13) (tgt := 1472) C dL_law_1368 (by decide) (by omega) (by omega) (fun h1368_611 => ?_) (fun h1368_611 => ?_)
                                  · exact law_dt K (by omega) hS hh6 hn16 hR8 hD9 (by omega) (by omega) (by omega) (by omega) (by omega) hva hvb  k1630
                                  · refine V_iload C dL_law_1371 rfl ?_
                                    refine V_if_leN (a := R) (tgt := 1472) C dL_law_1373 (by decide) (by omega) (fun h1373_612 => ?_) (fun h1373_612 => ?_)
                                    · exact law_dt K (by omega) hS hh6 hn16 hR8 hD9 (by omega) (by omega) (by omega) (by omega) (by omega) hva hvb  k1630
                                    · refine V_iload C dL_law_1376 rfl ?_
                                      refine V_iconst (v := (3 : Int32)) C dL_law_1378 (by decide) ?_
                                      refine V_iand C dL_law_1379 ?_
                                      refine V_eqi (y := nI (a1 % 4)) (pk_andN (by omega) 2 (by decide)) ?_
                                      refine V_if_neN (a := a1 % 4) (tgt := 1472) C dL_law_1380 (by decide) (by omega) (fun h1380_613 => ?_) (fun h1380_613 => ?_)
                                      · exact law_dt K (by omega) hS hh6 hn16 hR8 hD9 (by omega) (by omega) (by omega) (by omega) (by omega) hva hvb  k1630
                                      · exact law_d13 K (by omega) hS hh6 hn16 hR8 hD9 (by omega) (by omega) (by omega) (by omega) (by omega) hva hvb (by omega) k1630
                                · refine V_iload C dL_law_1156 rfl ?_
                                  refine V_bipush (v := (8 : Int32)) C dL_law_1158 (by decide) ?_
                                  refine V_icmp_geN (a := R) (b := 8) (tgt := 1364) C dL_law_1160 (by decide) (by omega) (by omega) (fun h1160_614 => ?_) (fun h1160_614 => ?_)
                                  · refine V_iload C dL_law_1364 rfl ?_
                                    refine V_bipush (v := (13 : Int32)) C dL_law_1366 (by decide) ?_
                                    refine V_icmp_neN (a := d) (b := 13) (tgt := 1472) C dL_law_1368 (by decide) (by omega) (by omega) (fun h1368_615 => ?_) (fun h1368_615 => ?_)
                                    · exact law_dt K (by omega) hS hh6 hn16 hR8 hD9 (by omega) (by omega) (by omega) (by omega) (by omega) hva hvb  k1630
                                    · refine V_iload C dL_law_1371 rfl ?_
                                      refine V_if_leN (a := R) (tgt := 1472) C dL_law_1373 (by decide) (by omega) (fun h1373_616 => ?_) (fun h1373_616 => ?_)
                                      · exact law_dt K (by omega) hS hh6 hn16 hR8 hD9 (by omega) (by omega) (by omega) (by omega) (by omega) hva hvb  k1630
                                      · refine V_iload C dL_law_1376 rfl ?_
                                        refine V_iconst (v := (3 : Int32)) C dL_law_1378 (by decide) ?_
                                        refine V_iand C dL_law_1379 ?_
                                        refine V_eqi (y := nI (a1 % 4)) (pk_andN (by omega) 2 (by decide)) ?_
                                        refine V_if_neN (a := a1 % 4) (tgt := 1472) C dL_law_1380 (by decide) (by omega) (fun h1380_617 => ?_) (fun h1380_617 => ?_)
                                        · exact law_dt K (by omega) hS hh6 hn16 hR8 hD9 (by omega) (by omega) (by omega) (by omega) (by omega) hva hvb  k1630
                                        · exact law_d13 K (by omega) hS hh6 hn16 hR8 hD9 (by omega) (by omega) (by omega) (by omega) (by omega) hva hvb (by omega) k1630
                                  · exact law_d11 K (by omega) hS hh6 hn16 hR8 hD9 (by omega) (by omega) (by omega) (by omega) (by omega) hva hvb (by omega) k1630
                              · refine V_iload C dL_law_1064 rfl ?_
                                refine V_iconst (v := (1 : Int32)) C dL_law_1066 (by decide) ?_
                                refine V_iand C dL_law_1067 ?_
                                refine V_eqi (y := nI (a1 % 2)) (pk_andN (by omega) 1 (by decide)) ?_
                                refine V_if_neN (a := a1 % 2) (tgt := 1149) C dL_law_1068 (by decide) (by omega) (fun h1068_618 => ?_) (fun h1068_618 => ?_)
                                · refine V_iload C dL_law_1149 rfl ?_
                                  refine V_bipush (v := (13 : Int32)) C dL_law_1151 (by decide) ?_
                                  refine V_icmp_geN (a := d) (b := 13) (tgt := 1364) C dL_law_1153 (by decide) (by omega) (by omega) (fun h1153_619 => ?_) (fun h1153_619 => ?_)
                                  · refine V_iload C dL_law_1364 rfl ?_
                                    refine V_bipush (v := (13 : Int32)) C dL_law_1366 (by decide) ?_
                                    refine V_icmp_neN (a := d) (b := 13) (tgt := 1472) C dL_law_1368 (by decide) (by omega) (by omega) (fun h1368_620 => ?_) (fun h1368_620 => ?_)
                                    · exact law_dt K (by omega) hS hh6 hn16 hR8 hD9 (by omega) (by omega) (by omega) (by omega) (by omega) hva hvb  k1630
                                    · refine V_iload C dL_law_1371 rfl ?_
                                      refine V_if_leN (a := R) (tgt := 1472) C dL_law_1373 (by decide) (by omega) (fun h1373_621 => ?_) (fun h1373_621 => ?_)
                                      · exact law_dt K (by omega) hS hh6 hn16 hR8 hD9 (by omega) (by omega) (by omega) (by omega) (by omega) hva hvb  k1630
                                      · refine V_iload C dL_law_1376 rfl ?_
                                        refine V_iconst (v := (3 : Int32)) C dL_law_1378 (by decide) ?_
                                        refine V_iand C dL_law_1379 ?_
                                        refine V_eqi (y := nI (a1 % 4)) (pk_andN (by omega) 2 (by decide)) ?_
                                        refine V_if_neN (a := a1 % 4) (tgt := 1472) C dL_law_1380 (by decide) (by omega) (fun h1380_622 => ?_) (fun h1380_622 => ?_)
                                        · exact law_dt K (by omega) hS hh6 hn16 hR8 hD9 (by omega) (by omega) (by omega) (by omega) (by omega) hva hvb  k1630
                                        · exact law_d13 K (by omega) hS hh6 hn16 hR8 hD9 (by omega) (by omega) (by omega) (by omega) (by omega) hva hvb (by omega) k1630
                                  · refine V_iload C dL_law_1156 rfl ?_
                                    refine V_bipush (v := (8 : Int32)) C dL_law_1158 (by decide) ?_
                                    refine V_icmp_geN (a := R) (b := 8) (tgt := 1364) C dL_law_1160 (by decide) (by omega) (by omega) (fun h1160_623 => ?_) (fun h1160_623 => ?_)
                                    · refine V_iload C dL_law_1364 rfl ?_
                                      refine V_bipush (v := (13 : Int32)) C dL_law_1366 (by decide) ?_
                                      refine V_icmp_neN (a := d) (b := 13) (tgt := 1472) C dL_law_1368 (by decide) (by omega) (by omega) (fun h1368_624 => ?_) (fun h1368_624 => ?_)
                                      · exact law_dt K (by omega) hS hh6 hn16 hR8 hD9 (by omega) (by omega) (by omega) (by omega) (by omega) hva hvb  k1630
                                      · refine V_iload C dL_law_1371 rfl ?_
                                        refine V_if_leN (a := R) (tgt := 1472) C dL_law_1373 (by decide) (by omega) (fun h1373_625 => ?_) (fun h1373_625 => ?_)
                                        · exact law_dt K (by omega) hS hh6 hn16 hR8 hD9 (by omega) (by omega) (by omega) (by omega) (by omega) hva hvb  k1630
                                        · refine V_iload C dL_law_1376 rfl ?_
                                          refine V_iconst (v := (3 : Int32)) C dL_law_1378 (by decide) ?_
                                          refine V_iand C dL_law_1379 ?_
                                          refine V_eqi (y := nI (a1 % 4)) (pk_andN (by omega) 2 (by decide)) ?_
                                          refine V_if_neN (a := a1 % 4) (tgt := 1472) C dL_law_1380 (by decide) (by omega) (fun h1380_626 => ?_) (fun h1380_626 => ?_)
                                          · exact law_dt K (by omega) hS hh6 hn16 hR8 hD9 (by omega) (by omega) (by omega) (by omega) (by omega) hva hvb  k1630
                                          · exact law_d13 K (by omega) hS hh6 hn16 hR8 hD9 (by omega) (by omega) (by omega) (by omega) (by omega) hva hvb (by omega) k1630
                                    · exact law_d11 K (by omega) hS hh6 hn16 hR8 hD9 (by omega) (by omega) (by omega) (by omega) (by omega) hva hvb (by omega) k1630
                                · exact law_d10 K (by omega) hS hh6 hn16 hR8 hD9 (by omega) (by omega) (by omega) (by omega) (by omega) hva hvb  k1630
                            · exact law_d9 K (by omega) hS hh6 hn16 hR8 hD9 (by omega) (by omega) (by omega) (by omega) (by omega) hva hvb  k1630
                          · exact law_d8 K (by omega) hS hh6 hn16 hR8 hD9 (by omega) (by omega) (by omega) (by omega) (by omega) hva hvb (by omega) k1630
                    · exact law_d7 K (by omega) hS hh6 hn16 hR8 hD9 (by omega) (by omega) (by omega) (by omega) (by omega) hva hvb (by omega) k1630
                · refine V_iload C dL_law_712 rfl ?_
                  refine V_if_leN (a := n) (tgt := 856) C dL_law_714 (by decide) (by omega) (fun h714_627 => ?_) (fun h714_627 => ?_)
                  · refine V_iload C dL_law_856 rfl ?_
                    refine V_bipush (v := (7 : Int32)) C dL_law_858 (by decide) ?_
                    refine V_icmp_neN (a := d) (b := 7) (tgt := 919) C dL_law_860 (by decide) (by omega) (by omega) (fun h860_628 => ?_) (fun h860_628 => ?_)
                    · refine V_iload C dL_law_919 rfl ?_
                      refine V_bipush (v := (8 : Int32)) C dL_law_921 (by decide) ?_
                      refine V_icmp_neN (a := d) (b := 8) (tgt := 995) C dL_law_923 (by decide) (by omega) (by omega) (fun h923_629 => ?_) (fun h923_629 => ?_)
                      · refine V_iload C dL_law_995 rfl ?_
                        refine V_bipush (v := (10 : Int32)) C dL_law_997 (by decide) ?_
                        refine V_icmp_geN (a := d) (b := 10) (tgt := 1057) C dL_law_999 (by decide) (by omega) (by omega) (fun h999_630 => ?_) (fun h999_630 => ?_)
                        · refine V_iload C dL_law_1057 rfl ?_
                          refine V_bipush (v := (10 : Int32)) C dL_law_1059 (by decide) ?_
                          refine V_icmp_neN (a := d) (b := 10) (tgt := 1149) C dL_law_1061 (by decide) (by omega) (by omega) (fun h1061_631 => ?_) (fun h1061_631 => ?_)
                          · refine V_iload C dL_law_1149 rfl ?_
                            refine V_bipush (v := (13 : Int32)) C dL_law_1151 (by decide) ?_
                            refine V_icmp_geN (a := d) (b := 13) (tgt := 1364) C dL_law_1153 (by decide) (by omega) (by omega) (fun h1153_632 => ?_) (fun h1153_632 => ?_)
                            · refine V_iload C dL_law_1364 rfl ?_
                              refine V_bipush (v := (13 : Int32)) C dL_law_1366 (by decide) ?_
                              refine V_icmp_neN (a := d) (b := 13) (tgt := 1472) C dL_law_1368 (by decide) (by omega) (by omega) (fun h1368_633 => ?_) (fun h1368_633 => ?_)
                              · exact law_dt K (by omega) hS hh6 hn16 hR8 hD9 (by omega) (by omega) (by omega) (by omega) (by omega) hva hvb  k1630
                              · refine V_iload C dL_law_1371 rfl ?_
                                refine V_if_leN (a := R) (tgt := 1472) C dL_law_1373 (by decide) (by omega) (fun h1373_634 => ?_) (fun h1373_634 => ?_)
                                · exact law_dt K (by omega) hS hh6 hn16 hR8 hD9 (by omega) (by omega) (by omega) (by omega) (by omega) hva hvb  k1630
                                · refine V_iload C dL_law_1376 rfl ?_
                                  refine V_iconst (v := (3 : Int32)) C dL_law_1378 (by decide) ?_
                                  refine V_iand C dL_law_1379 ?_
                                  refine V_eqi (y := nI (a1 % 4)) (pk_andN (by omega) 2 (by decide)) ?_
                                  refine V_if_neN (a := a1 % 4) (tgt := 1472) C dL_law_1380 (by decide) (by omega) (fun h1380_635 => ?_) (fun h1380_635 => ?_)
                                  · exact law_dt K (by omega) hS hh6 hn16 hR8 hD9 (by omega) (by omega) (by omega) (by omega) (by omega) hva hvb  k1630
                                  · exact law_d13 K (by omega) hS hh6 hn16 hR8 hD9 (by omega) (by omega) (by omega) (by omega) (by omega) hva hvb (by omega) k1630
                            · refine V_iload C dL_law_1156 rfl ?_
                              refine V_bipush (v := (8 : Int32)) C dL_law_1158 (by decide) ?_
                              refine V_icmp_geN (a := R) (b := 8) (tgt := 1364) C dL_law_1160 (by decide) (by omega) (by omega) (fun h1160_636 => ?_) (fun h1160_636 => ?_)
                              · refine V_iload C dL_law_1364 rfl ?_
                                refine V_bipush (v := (13 : Int32)) C dL_law_1366 (by decide) ?_
                                refine V_icmp_neN (a := d) (b := 13) (tgt := 1472) C dL_law_1368 (by decide) (by omega) (by omega) (fun h1368_637 => ?_) (fun h1368_637 => ?_)
                                · exact law_dt K (by omega) hS hh6 hn16 hR8 hD9 (by omega) (by omega) (by omega) (by omega) (by omega) hva hvb  k1630
                                · refine V_iload C dL_law_1371 rfl ?_
                                  refine V_if_leN (a := R) (tgt := 1472) C dL_law_1373 (by decide) (by omega) (fun h1373_638 => ?_) (fun h1373_638 => ?_)
                                  · exact law_dt K (by omega) hS hh6 hn16 hR8 hD9 (by omega) (by omega) (by omega) (by omega) (by omega) hva hvb  k1630
                                  · refine V_iload C dL_law_1376 rfl ?_
                                    refine V_iconst (v := (3 : Int32)) C dL_law_1378 (by decide) ?_
                                    refine V_iand C dL_law_1379 ?_
                                    refine V_eqi (y := nI (a1 % 4)) (pk_andN (by omega) 2 (by decide)) ?_
                                    refine V_if_neN (a := a1 % 4) (tgt := 1472) C dL_law_1380 (by decide) (by omega) (fun h1380_639 => ?_) (fun h1380_639 => ?_)
                                    · exact law_dt K (by omega) hS hh6 hn16 hR8 hD9 (by omega) (by omega) (by omega) (by omega) (by omega) hva hvb  k1630
                                    · exact law_d13 K (by omega) hS hh6 hn16 hR8 hD9 (by omega) (by omega) (by omega) (by omega) (by omega) hva hvb (by omega) k1630
                              · exact law_d11 K (by omega) hS hh6 hn16 hR8 hD9 (by omega) (by omega) (by omega) (by omega) (by omega) hva hvb (by omega) k1630
                          · refine V_iload C dL_law_1064 rfl ?_
                            refine V_iconst (v := (1 : Int32)) C dL_law_1066 (by decide) ?_
                            refine V_iand C dL_law_1067 ?_
                            refine V_eqi (y := nI (a1 % 2)) (pk_andN (by omega) 1 (by decide)) ?_
                            refine V_if_neN (a := a1 % 2) (tgt := 1149) C dL_law_1068 (by decide) (by omega) (fun h1068_640 => ?_) (fun h1068_640 => ?_)
                            · refine V_iload C dL_law_1149 rfl ?_
                              refine V_bipush (v := (13 : Int32)) C dL_law_1151 (by decide) ?_
                              refine V_icmp_geN (a := d) (b := 13) (tgt := 1364) C dL_law_1153 (by decide) (by omega) (by omega) (fun h1153_641 => ?_) (fun h1153_641 => ?_)
                              · refine V_iload C dL_law_1364 rfl ?_
                                refine V_bipush (v := (13 : Int32)) C dL_law_1366 (by decide) ?_
                                refine V_icmp_neN (a := d) (b := 13) (tgt := 1472) C dL_law_1368 (by decide) (by omega) (by omega) (fun h1368_642 => ?_) (fun h1368_642 => ?_)
                                · exact law_dt K (by omega) hS hh6 hn16 hR8 hD9 (by omega) (by omega) (by omega) (by omega) (by omega) hva hvb  k1630
                                · refine V_iload C dL_law_1371 rfl ?_
                                  refine V_if_leN (a := R) (tgt := 1472) C dL_law_1373 (by decide) (by omega) (fun h1373_643 => ?_) (fun h1373_643 => ?_)
                                  · exact law_dt K (by omega) hS hh6 hn16 hR8 hD9 (by omega) (by omega) (by omega) (by omega) (by omega) hva hvb  k1630
                                  · refine V_iload C dL_law_1376 rfl ?_
                                    refine V_iconst (v := (3 : Int32)) C dL_law_1378 (by decide) ?_
                                    refine V_iand C dL_law_1379 ?_
                                    refine V_eqi (y := nI (a1 % 4)) (pk_andN (by omega) 2 (by decide)) ?_
                                    refine V_if_neN (a := a1 % 4) (tgt := 1472) C dL_law_1380 (by decide) (by omega) (fun h1380_644 => ?_) (fun h1380_644 => ?_)
                                    · exact law_dt K (by omega) hS hh6 hn16 hR8 hD9 (by omega) (by omega) (by omega) (by omega) (by omega) hva hvb  k1630
                                    · exact law_d13 K (by omega) hS hh6 hn16 hR8 hD9 (by omega) (by omega) (by omega) (by omega) (by omega) hva hvb (by omega) k1630
                              · refine V_iload C dL_law_1156 rfl ?_
                                refine V_bipush (v := (8 : Int32)) C dL_law_1158 (by decide) ?_
                                refine V_icmp_geN (a := R) (b := 8) (tgt := 1364) C dL_law_1160 (by decide) (by omega) (by omega) (fun h1160_645 => ?_) (fun h1160_645 => ?_)
                                · refine V_iload C dL_law_1364 rfl ?_
                                  refine V_bipush (v := (13 : Int32)) C dL_law_1366 (by decide) ?_
                                  refine V_icmp_neN (a := d) (b := 13) (tgt := 1472) C dL_law_1368 (by decide) (by omega) (by omega) (fun h1368_646 => ?_) (fun h1368_646 => ?_)
                                  · exact law_dt K (by omega) hS hh6 hn16 hR8 hD9 (by omega) (by omega) (by omega) (by omega) (by omega) hva hvb  k1630
                                  · refine V_iload C dL_law_1371 rfl ?_
                                    refine V_if_leN (a := R) (tgt := 1472) C dL_law_1373 (by decide) (by omega) (fun h1373_647 => ?_) (fun h1373_647 => ?_)
                                    · exact law_dt K (by omega) hS hh6 hn16 hR8 hD9 (by omega) (by omega) (by omega) (by omega) (by omega) hva hvb  k1630
                                    · refine V_iload C dL_law_1376 rfl ?_
                                      refine V_iconst (v := (3 : Int32)) C dL_law_1378 (by decide) ?_
                                      refine V_iand C dL_law_1379 ?_
                                      refine V_eqi (y := nI (a1 % 4)) (pk_andN (by omega) 2 (by decide)) ?_
                                      refine V_if_neN (a := a1 % 4) (tgt := 1472) C dL_law_1380 (by decide) (by omega) (fun h1380_648 => ?_) (fun h1380_648 => ?_)
                                      · exact law_dt K (by omega) hS hh6 hn16 hR8 hD9 (by omega) (by omega) (by omega) (by omega) (by omega) hva hvb  k1630
                                      · exact law_d13 K (by omega) hS hh6 hn16 hR8 hD9 (by omega) (by omega) (by omega) (by omega) (by omega) hva hvb (by omega) k1630
                                · exact law_d11 K (by omega) hS hh6 hn16 hR8 hD9 (by omega) (by omega) (by omega) (by omega) (by omega) hva hvb (by omega) k1630
                            · exact law_d10 K (by omega) hS hh6 hn16 hR8 hD9 (by omega) (by omega) (by omega) (by omega) (by omega) hva hvb  k1630
                        · exact law_d9 K (by omega) hS hh6 hn16 hR8 hD9 (by omega) (by omega) (by omega) (by omega) (by omega) hva hvb  k1630
                      · refine V_iload C dL_law_926 rfl ?_
                        refine V_if_leN (a := n) (tgt := 995) C dL_law_928 (by decide) (by omega) (fun h928_649 => ?_) (fun h928_649 => ?_)
                        · refine V_iload C dL_law_995 rfl ?_
                          refine V_bipush (v := (10 : Int32)) C dL_law_997 (by decide) ?_
                          refine V_icmp_geN (a := d) (b := 10) (tgt := 1057) C dL_law_999 (by decide) (by omega) (by omega) (fun h999_650 => ?_) (fun h999_650 => ?_)
                          · refine V_iload C dL_law_1057 rfl ?_
                            refine V_bipush (v := (10 : Int32)) C dL_law_1059 (by decide) ?_
                            refine V_icmp_neN (a := d) (b := 10) (tgt := 1149) C dL_law_1061 (by decide) (by omega) (by omega) (fun h1061_651 => ?_) (fun h1061_651 => ?_)
                            · refine V_iload C dL_law_1149 rfl ?_
                              refine V_bipush (v := (13 : Int32)) C dL_law_1151 (by decide) ?_
                              refine V_icmp_geN (a := d) (b := 13) (tgt := 1364) C dL_law_1153 (by decide) (by omega) (by omega) (fun h1153_652 => ?_) (fun h1153_652 => ?_)
                              · refine V_iload C dL_law_1364 rfl ?_
                                refine V_bipush (v := (13 : Int32)) C dL_law_1366 (by decide) ?_
                                refine V_icmp_neN (a := d) (b := 13) (tgt := 1472) C dL_law_1368 (by decide) (by omega) (by omega) (fun h1368_653 => ?_) (fun h1368_653 => ?_)
                                · exact law_dt K (by omega) hS hh6 hn16 hR8 hD9 (by omega) (by omega) (by omega) (by omega) (by omega) hva hvb  k1630
                                · refine V_iload C dL_law_1371 rfl ?_
                                  refine V_if_leN (a := R) (tgt := 1472) C dL_law_1373 (by decide) (by omega) (fun h1373_654 => ?_) (fun h1373_654 => ?_)
                                  · exact law_dt K (by omega) hS hh6 hn16 hR8 hD9 (by omega) (by omega) (by omega) (by omega) (by omega) hva hvb  k1630
                                  · refine V_iload C dL_law_1376 rfl ?_
                                    refine V_iconst (v := (3 : Int32)) C dL_law_1378 (by decide) ?_
                                    refine V_iand C dL_law_1379 ?_
                                    refine V_eqi (y := nI (a1 % 4)) (pk_andN (by omega) 2 (by decide)) ?_
                                    refine V_if_neN (a := a1 % 4) (tgt := 1472) C dL_law_1380 (by decide) (by omega) (fun h1380_655 => ?_) (fun h1380_655 => ?_)
                                    · exact law_dt K (by omega) hS hh6 hn16 hR8 hD9 (by omega) (by omega) (by omega) (by omega) (by omega) hva hvb  k1630
                                    · exact law_d13 K (by omega) hS hh6 hn16 hR8 hD9 (by omega) (by omega) (by omega) (by omega) (by omega) hva hvb (by omega) k1630
                              · refine V_iload C dL_law_1156 rfl ?_
                                refine V_bipush (v := (8 : Int32)) C dL_law_1158 (by decide) ?_
                                refine V_icmp_geN (a := R) (b := 8) (tgt := 1364) C dL_law_1160 (by decide) (by omega) (by omega) (fun h1160_656 => ?_) (fun h1160_656 => ?_)
                                · refine V_iload C dL_law_1364 rfl ?_
                                  refine V_bipush (v := (13 : Int32)) C dL_law_1366 (by decide) ?_
                                  refine V_icmp_neN (a := d) (b := 13) (tgt := 1472) C dL_law_1368 (by decide) (by omega) (by omega) (fun h1368_657 => ?_) (fun h1368_657 => ?_)
                                  · exact law_dt K (by omega) hS hh6 hn16 hR8 hD9 (by omega) (by omega) (by omega) (by omega) (by omega) hva hvb  k1630
                                  · refine V_iload C dL_law_1371 rfl ?_
                                    refine V_if_leN (a := R) (tgt := 1472) C dL_law_1373 (by decide) (by omega) (fun h1373_658 => ?_) (fun h1373_658 => ?_)
                                    · exact law_dt K (by omega) hS hh6 hn16 hR8 hD9 (by omega) (by omega) (by omega) (by omega) (by omega) hva hvb  k1630
                                    · refine V_iload C dL_law_1376 rfl ?_
                                      refine V_iconst (v := (3 : Int32)) C dL_law_1378 (by decide) ?_
                                      refine V_iand C dL_law_1379 ?_
                                      refine V_eqi (y := nI (a1 % 4)) (pk_andN (by omega) 2 (by decide)) ?_
                                      refine V_if_neN (a := a1 % 4) (tgt := 1472) C dL_law_1380 (by decide) (by omega) (fun h1380_659 => ?_) (fun h1380_659 => ?_)
                                      · exact law_dt K (by omega) hS hh6 hn16 hR8 hD9 (by omega) (by omega) (by omega) (by omega) (by omega) hva hvb  k1630
                                      · exact law_d13 K (by omega) hS hh6 hn16 hR8 hD9 (by omega) (by omega) (by omega) (by omega) (by omega) hva hvb (by omega) k1630
                                · exact law_d11 K (by omega) hS hh6 hn16 hR8 hD9 (by omega) (by omega) (by omega) (by omega) (by omega) hva hvb (by omega) k1630
                            · refine V_iload C dL_law_1064 rfl ?_
                              refine V_iconst (v := (1 : Int32)) C dL_law_1066 (by decide) ?_
                              refine V_iand C dL_law_1067 ?_
                              refine V_eqi (y := nI (a1 % 2)) (pk_andN (by omega) 1 (by decide)) ?_
                              refine V_if_neN (a := a1 % 2) (tgt := 1149) C dL_law_1068 (by decide) (by omega) (fun h1068_660 => ?_) (fun h1068_660 => ?_)
                              · refine V_iload C dL_law_1149 rfl ?_
                                refine V_bipush (v := (13 : Int32)) C dL_law_1151 (by decide) ?_
                                refine V_icmp_geN (a := d) (b := 13) (tgt := 1364) C dL_law_1153 (by decide) (by omega) (by omega) (fun h1153_661 => ?_) (fun h1153_661 => ?_)
                                · refine V_iload C dL_law_1364 rfl ?_
                                  refine V_bipush (v := (13 : Int32)) C dL_law_1366 (by decide) ?_
                                  refine V_icmp_neN (a := d) (b := 13) (tgt := 1472) C dL_law_1368 (by decide) (by omega) (by omega) (fun h1368_662 => ?_) (fun h1368_662 => ?_)
                                  · exact law_dt K (by omega) hS hh6 hn16 hR8 hD9 (by omega) (by omega) (by omega) (by omega) (by omega) hva hvb  k1630
                                  · refine V_iload C dL_law_1371 rfl ?_
                                    refine V_if_leN (a := R) (tgt := 1472) C dL_law_1373 (by decide) (by omega) (fun h1373_663 => ?_) (fun h1373_663 => ?_)
                                    · exact law_dt K (by omega) hS hh6 hn16 hR8 hD9 (by omega) (by omega) (by omega) (by omega) (by omega) hva hvb  k1630
                                    · refine V_iload C dL_law_1376 rfl ?_
                                      refine V_iconst (v := (3 : Int32)) C dL_law_1378 (by decide) ?_
                                      refine V_iand C dL_law_1379 ?_
                                      refine V_eqi (y := nI (a1 % 4)) (pk_andN (by omega) 2 (by decide)) ?_
                                      refine V_if_neN (a := a1 % 4) (tgt := 1472) C dL_law_1380 (by decide) (by omega) (fun h1380_664 => ?_) (fun h1380_664 => ?_)
                                      · exact law_dt K (by omega) hS hh6 hn16 hR8 hD9 (by omega) (by omega) (by omega) (by omega) (by omega) hva hvb  k1630
                                      · exact law_d13 K (by omega) hS hh6 hn16 hR8 hD9 (by omega) (by omega) (by omega) (by omega) (by omega) hva hvb (by omega) k1630
                                · refine V_iload C dL_law_1156 rfl ?_
                                  refine V_bipush (v := (8 : Int32)) C dL_law_1158 (by decide) ?_
                                  refine V_icmp_geN (a := R) (b := 8) (tgt := 1364) C dL_law_1160 (by decide) (by omega) (by omega) (fun h1160_665 => ?_) (fun h1160_665 => ?_)
                                  · refine V_iload C dL_law_1364 rfl ?_
                                    refine V_bipush (v := (13 : Int32)) C dL_law_1366 (by decide) ?_
                                    refine V_icmp_neN (a := d) (b := 13) (tgt := 1472) C dL_law_1368 (by decide) (by omega) (by omega) (fun h1368_666 => ?_) (fun h1368_666 => ?_)
                                    · exact law_dt K (by omega) hS hh6 hn16 hR8 hD9 (by omega) (by omega) (by omega) (by omega) (by omega) hva hvb  k1630
                                    · refine V_iload C dL_law_1371 rfl ?_
                                      refine V_if_leN (a := R) (tgt := 1472) C dL_law_1373 (by decide) (by omega) (fun h1373_667 => ?_) (fun h1373_667 => ?_)
                                      · exact law_dt K (by omega) hS hh6 hn16 hR8 hD9 (by omega) (by omega) (by omega) (by omega) (by omega) hva hvb  k1630
                                      · refine V_iload C dL_law_1376 rfl ?_
                                        refine V_iconst (v := (3 : Int32)) C dL_law_1378 (by decide) ?_
                                        refine V_iand C dL_law_1379 ?_
                                        refine V_eqi (y := nI (a1 % 4)) (pk_andN (by omega) 2 (by decide)) ?_
                                        refine V_if_neN (a := a1 % 4) (tgt := 1472) C dL_law_1380 (by decide) (by omega) (fun h1380_668 => ?_) (fun h1380_668 => ?_)
                                        · exact law_dt K (by omega) hS hh6 hn16 hR8 hD9 (by omega) (by omega) (by omega) (by omega) (by omega) hva hvb  k1630
                                        · exact law_d13 K (by omega) hS hh6 hn16 hR8 hD9 (by omega) (by omega) (by omega) (by omega) (by omega) hva hvb (by omega) k1630
                                  · exact law_d11 K (by omega) hS hh6 hn16 hR8 hD9 (by omega) (by omega) (by omega) (by omega) (by omega) hva hvb (by omega) k1630
                              · exact law_d10 K (by omega) hS hh6 hn16 hR8 hD9 (by omega) (by omega) (by omega) (by omega) (by omega) hva hvb  k1630
                          · exact law_d9 K (by omega) hS hh6 hn16 hR8 hD9 (by omega) (by omega) (by omega) (by omega) (by omega) hva hvb  k1630
                        · refine V_iload C dL_law_931 rfl ?_
                          refine V_iconst (v := (3 : Int32)) C dL_law_933 (by decide) ?_
                          refine V_iand C dL_law_934 ?_
                          refine V_eqi (y := nI (a1 % 4)) (pk_andN (by omega) 2 (by decide)) ?_
                          refine V_if_neN (a := a1 % 4) (tgt := 995) C dL_law_935 (by decide) (by omega) (fun h935_669 => ?_) (fun h935_669 => ?_)
                          · refine V_iload C dL_law_995 rfl ?_
                            refine V_bipush (v := (10 : Int32)) C dL_law_997 (by decide) ?_
                            refine V_icmp_geN (a := d) (b := 10) (tgt := 1057) C dL_law_999 (by decide) (by omega) (by omega) (fun h999_670 => ?_) (fun h999_670 => ?_)
                            · refine V_iload C dL_law_1057 rfl ?_
                              refine V_bipush (v := (10 : Int32)) C dL_law_1059 (by decide) ?_
                              refine V_icmp_neN (a := d) (b := 10) (tgt := 1149) C dL_law_1061 (by decide) (by omega) (by omega) (fun h1061_671 => ?_) (fun h1061_671 => ?_)
                              · refine V_iload C dL_law_1149 rfl ?_
                                refine V_bipush (v := (13 : Int32)) C dL_law_1151 (by decide) ?_
                                refine V_icmp_geN (a := d) (b := 13) (tgt := 1364) C dL_law_1153 (by decide) (by omega) (by omega) (fun h1153_672 => ?_) (fun h1153_672 => ?_)
                                · refine V_iload C dL_law_1364 rfl ?_
                                  refine V_bipush (v := (13 : Int32)) C dL_law_1366 (by decide) ?_
                                  refine V_icmp_neN (a := d) (b := 13) (tgt := 1472) C dL_law_1368 (by decide) (by omega) (by omega) (fun h1368_673 => ?_) (fun h1368_673 => ?_)
                                  · exact law_dt K (by omega) hS hh6 hn16 hR8 hD9 (by omega) (by omega) (by omega) (by omega) (by omega) hva hvb  k1630
                                  · refine V_iload C dL_law_1371 rfl ?_
                                    refine V_if_leN (a := R) (tgt := 1472) C dL_law_1373 (by decide) (by omega) (fun h1373_674 => ?_) (fun h1373_674 => ?_)
                                    · exact law_dt K (by omega) hS hh6 hn16 hR8 hD9 (by omega) (by omega) (by omega) (by omega) (by omega) hva hvb  k1630
                                    · refine V_iload C dL_law_1376 rfl ?_
                                      refine V_iconst (v := (3 : Int32)) C dL_law_1378 (by decide) ?_
                                      refine V_iand C dL_law_1379 ?_
                                      refine V_eqi (y := nI (a1 % 4)) (pk_andN (by omega) 2 (by decide)) ?_
                                      refine V_if_neN (a := a1 % 4) (tgt := 1472) C dL_law_1380 (by decide) (by omega) (fun h1380_675 => ?_) (fun h1380_675 => ?_)
                                      · exact law_dt K (by omega) hS hh6 hn16 hR8 hD9 (by omega) (by omega) (by omega) (by omega) (by omega) hva hvb  k1630
                                      · exact law_d13 K (by omega) hS hh6 hn16 hR8 hD9 (by omega) (by omega) (by omega) (by omega) (by omega) hva hvb (by omega) k1630
                                · refine V_iload C dL_law_1156 rfl ?_
                                  refine V_bipush (v := (8 : Int32)) C dL_law_1158 (by decide) ?_
                                  refine V_icmp_geN (a := R) (b := 8) (tgt := 1364) C dL_law_1160 (by decide) (by omega) (by omega) (fun h1160_676 => ?_) (fun h1160_676 => ?_)
                                  · refine V_iload C dL_law_1364 rfl ?_
                                    refine V_bipush (v := (13 : Int32)) C dL_law_1366 (by decide) ?_
                                    refine V_icmp_neN (a := d) (b := 13) (tgt := 1472) C dL_law_1368 (by decide) (by omega) (by omega) (fun h1368_677 => ?_) (fun h1368_677 => ?_)
                                    · exact law_dt K (by omega) hS hh6 hn16 hR8 hD9 (by omega) (by omega) (by omega) (by omega) (by omega) hva hvb  k1630
                                    · refine V_iload C dL_law_1371 rfl ?_
                                      refine V_if_leN (a := R) (tgt := 1472) C dL_law_1373 (by decide) (by omega) (fun h1373_678 => ?_) (fun h1373_678 => ?_)
                                      · exact law_dt K (by omega) hS hh6 hn16 hR8 hD9 (by omega) (by omega) (by omega) (by omega) (by omega) hva hvb  k1630
                                      · refine V_iload C dL_law_1376 rfl ?_
                                        refine V_iconst (v := (3 : Int32)) C dL_law_1378 (by decide) ?_
                                        refine V_iand C dL_law_1379 ?_
                                        refine V_eqi (y := nI (a1 % 4)) (pk_andN (by omega) 2 (by decide)) ?_
                                        refine V_if_neN (a := a1 % 4) (tgt := 1472) C dL_law_1380 (by decide) (by omega) (fun h1380_679 => ?_) (fun h1380_679 => ?_)
                                        · exact law_dt K (by omega) hS hh6 hn16 hR8 hD9 (by omega) (by omega) (by omega) (by omega) (by omega) hva hvb  k1630
                                        · exact law_d13 K (by omega) hS hh6 hn16 hR8 hD9 (by omega) (by omega) (by omega) (by omega) (by omega) hva hvb (by omega) k1630
                                  · exact law_d11 K (by omega) hS hh6 hn16 hR8 hD9 (by omega) (by omega) (by omega) (by omega) (by omega) hva hvb (by omega) k1630
                              · refine V_iload C dL_law_1064 rfl ?_
                                refine V_iconst (v := (1 : Int32)) C dL_law_1066 (by decide) ?_
                                refine V_iand C dL_law_1067 ?_
                                refine V_eqi (y := nI (a1 % 2)) (pk_andN (by omega) 1 (by decide)) ?_
                                refine V_if_neN (a := a1 % 2) (tgt := 1149) C dL_law_1068 (by decide) (by omega) (fun h1068_680 => ?_) (fun h1068_680 => ?_)
                                · refine V_iload C dL_law_1149 rfl ?_
                                  refine V_bipush (v := (13 : Int32)) C dL_law_1151 (by decide) ?_
                                  refine V_icmp_geN (a := d) (b := 13) (tgt := 1364) C dL_law_1153 (by decide) (by omega) (by omega) (fun h1153_681 => ?_) (fun h1153_681 => ?_)
                                  · refine V_iload C dL_law_1364 rfl ?_
                                    refine V_bipush (v := (13 : Int32)) C dL_law_1366 (by decide) ?_
                                    refine V_icmp_neN (a := d) (b := 13) (tgt := 1472) C dL_law_1368 (by decide) (by omega) (by omega) (fun h1368_682 => ?_) (fun h1368_682 => ?_)
                                    · exact law_dt K (by omega) hS hh6 hn16 hR8 hD9 (by omega) (by omega) (by omega) (by omega) (by omega) hva hvb  k1630
                                    · refine V_iload C dL_law_1371 rfl ?_
                                      refine V_if_leN (a := R) (tgt := 1472) C dL_law_1373 (by decide) (by omega) (fun h1373_683 => ?_) (fun h1373_683 => ?_)
                                      · exact law_dt K (by omega) hS hh6 hn16 hR8 hD9 (by omega) (by omega) (by omega) (by omega) (by omega) hva hvb  k1630
                                      · refine V_iload C dL_law_1376 rfl ?_
                                        refine V_iconst (v := (3 : Int32)) C dL_law_1378 (by decide) ?_
                                        refine V_iand C dL_law_1379 ?_
                                        refine V_eqi (y := nI (a1 % 4)) (pk_andN (by omega) 2 (by decide)) ?_
                                        refine V_if_neN (a := a1 % 4) (tgt := 1472) C dL_law_1380 (by decide) (by omega) (fun h1380_684 => ?_) (fun h1380_684 => ?_)
                                        · exact law_dt K (by omega) hS hh6 hn16 hR8 hD9 (by omega) (by omega) (by omega) (by omega) (by omega) hva hvb  k1630
                                        · exact law_d13 K (by omega) hS hh6 hn16 hR8 hD9 (by omega) (by omega) (by omega) (by omega) (by omega) hva hvb (by omega) k1630
                                  · refine V_iload C dL_law_1156 rfl ?_
                                    refine V_bipush (v := (8 : Int32)) C dL_law_1158 (by decide) ?_
                                    refine V_icmp_geN (a := R) (b := 8) (tgt := 1364) C dL_law_1160 (by decide) (by omega) (by omega) (fun h1160_685 => ?_) (fun h1160_685 => ?_)
                                    · refine V_iload C dL_law_1364 rfl ?_
                                      refine V_bipush (v := (13 : Int32)) C dL_law_1366 (by decide) ?_
                                      refine V_icmp_neN (a := d) (b := 13) (tgt := 1472) C dL_law_1368 (by decide) (by omega) (by omega) (fun h1368_686 => ?_) (fun h1368_686 => ?_)
                                      · exact law_dt K (by omega) hS hh6 hn16 hR8 hD9 (by omega) (by omega) (by omega) (by omega) (by omega) hva hvb  k1630
                                      · refine V_iload C dL_law_1371 rfl ?_
                                        refine V_if_leN (a := R) (tgt := 1472) C dL_law_1373 (by decide) (by omega) (fun h1373_687 => ?_) (fun h1373_687 => ?_)
                                        · exact law_dt K (by omega) hS hh6 hn16 hR8 hD9 (by omega) (by omega) (by omega) (by omega) (by omega) hva hvb  k1630
                                        · refine V_iload C dL_law_1376 rfl ?_
                                          refine V_iconst (v := (3 : Int32)) C dL_law_1378 (by decide) ?_
                                          refine V_iand C dL_law_1379 ?_
                                          refine V_eqi (y := nI (a1 % 4)) (pk_andN (by omega) 2 (by decide)) ?_
                                          refine V_if_neN (a := a1 % 4) (tgt := 1472) C dL_law_1380 (by decide) (by omega) (fun h1380_688 => ?_) (fun h1380_688 => ?_)
                                          · exact law_dt K (by omega) hS hh6 hn16 hR8 hD9 (by omega) (by omega) (by omega) (by omega) (by omega) hva hvb  k1630
                                          · exact law_d13 K (by omega) hS hh6 hn16 hR8 hD9 (by omega) (by omega) (by omega) (by omega) (by omega) hva hvb (by omega) k1630
                                    · exact law_d11 K (by omega) hS hh6 hn16 hR8 hD9 (by omega) (by omega) (by omega) (by omega) (by omega) hva hvb (by omega) k1630
                                · exact law_d10 K (by omega) hS hh6 hn16 hR8 hD9 (by omega) (by omega) (by omega) (by omega) (by omega) hva hvb  k1630
                            · exact law_d9 K (by omega) hS hh6 hn16 hR8 hD9 (by omega) (by omega) (by omega) (by omega) (by omega) hva hvb  k1630
                          · exact law_d8 K (by omega) hS hh6 hn16 hR8 hD9 (by omega) (by omega) (by omega) (by omega) (by omega) hva hvb (by omega) k1630
                    · refine V_iload C dL_law_863 rfl ?_
                      refine V_if_leN (a := n) (tgt := 919) C dL_law_865 (by decide) (by omega) (fun h865_689 => ?_) (fun h865_689 => ?_)
                      · refine V_iload C dL_law_919 rfl ?_
                        refine V_bipush (v := (8 : Int32)) C dL_law_921 (by decide) ?_
                        refine V_icmp_neN (a := d) (b := 8) (tgt := 995) C dL_law_923 (by decide) (by omega) (by omega) (fun h923_690 => ?_) (fun h923_690 => ?_)
                        · refine V_iload C dL_law_995 rfl ?_
                          refine V_bipush (v := (10 : Int32)) C dL_law_997 (by decide) ?_
                          refine V_icmp_geN (a := d) (b := 10) (tgt := 1057) C dL_law_999 (by decide) (by omega) (by omega) (fun h999_691 => ?_) (fun h999_691 => ?_)
                          · refine V_iload C dL_law_1057 rfl ?_
                            refine V_bipush (v := (10 : Int32)) C dL_law_1059 (by decide) ?_
                            refine V_icmp_neN (a := d) (b := 10) (tgt := 1149) C dL_law_1061 (by decide) (by omega) (by omega) (fun h1061_692 => ?_) (fun h1061_692 => ?_)
                            · refine V_iload C dL_law_1149 rfl ?_
                              refine V_bipush (v := (13 : Int32)) C dL_law_1151 (by decide) ?_
                              refine V_icmp_geN (a := d) (b := 13) (tgt := 1364) C dL_law_1153 (by decide) (by omega) (by omega) (fun h1153_693 => ?_) (fun h1153_693 => ?_)
                              · refine V_iload C dL_law_1364 rfl ?_
                                refine V_bipush (v := (13 : Int32)) C dL_law_1366 (by decide) ?_
                                refine V_icmp_neN (a := d) (b := 13) (tgt := 1472) C dL_law_1368 (by decide) (by omega) (by omega) (fun h1368_694 => ?_) (fun h1368_694 => ?_)
                                · exact law_dt K (by omega) hS hh6 hn16 hR8 hD9 (by omega) (by omega) (by omega) (by omega) (by omega) hva hvb  k1630
                                · refine V_iload C dL_law_1371 rfl ?_
                                  refine V_if_leN (a := R) (tgt := 1472) C dL_law_1373 (by decide) (by omega) (fun h1373_695 => ?_) (fun h1373_695 => ?_)
                                  · exact law_dt K (by omega) hS hh6 hn16 hR8 hD9 (by omega) (by omega) (by omega) (by omega) (by omega) hva hvb  k1630
                                  · refine V_iload C dL_law_1376 rfl ?_
                                    refine V_iconst (v := (3 : Int32)) C dL_law_1378 (by decide) ?_
                                    refine V_iand C dL_law_1379 ?_
                                    refine V_eqi (y := nI (a1 % 4)) (pk_andN (by omega) 2 (by decide)) ?_
                                    refine V_if_neN (a := a1 % 4) (tgt := 1472) C dL_law_1380 (by decide) (by omega) (fun h1380_696 => ?_) (fun h1380_696 => ?_)
                                    · exact law_dt K (by omega) hS hh6 hn16 hR8 hD9 (by omega) (by omega) (by omega) (by omega) (by omega) hva hvb  k1630
                                    · exact law_d13 K (by omega) hS hh6 hn16 hR8 hD9 (by omega) (by omega) (by omega) (by omega) (by omega) hva hvb (by omega) k1630
                              · refine V_iload C dL_law_1156 rfl ?_
                                refine V_bipush (v := (8 : Int32)) C dL_law_1158 (by decide) ?_
                                refine V_icmp_geN (a := R) (b := 8) (tgt := 1364) C dL_law_1160 (by decide) (by omega) (by omega) (fun h1160_697 => ?_) (fun h1160_697 => ?_)
                                · refine V_iload C dL_law_1364 rfl ?_
                                  refine V_bipush (v := (13 : Int32)) C dL_law_1366 (by decide) ?_
                                  refine V_icmp_neN (a := d) (b := 13) (tgt := 1472) C dL_law_1368 (by decide) (by omega) (by omega) (fun h1368_698 => ?_) (fun h1368_698 => ?_)
                                  · exact law_dt K (by omega) hS hh6 hn16 hR8 hD9 (by omega) (by omega) (by omega) (by omega) (by omega) hva hvb  k1630
                                  · refine V_iload C dL_law_1371 rfl ?_
                                    refine V_if_leN (a := R) (tgt := 1472) C dL_law_1373 (by decide) (by omega) (fun h1373_699 => ?_) (fun h1373_699 => ?_)
                                    · exact law_dt K (by omega) hS hh6 hn16 hR8 hD9 (by omega) (by omega) (by omega) (by omega) (by omega) hva hvb  k1630
                                    · refine V_iload C dL_law_1376 rfl ?_
                                      refine V_iconst (v := (3 : Int32)) C dL_law_1378 (by decide) ?_
                                      refine V_iand C dL_law_1379 ?_
                                      refine V_eqi (y := nI (a1 % 4)) (pk_andN (by omega) 2 (by decide)) ?_
                                      refine V_if_neN (a := a1 % 4) (tgt := 1472) C dL_law_1380 (by decide) (by omega) (fun h1380_700 => ?_) (fun h1380_700 => ?_)
                                      · exact law_dt K (by omega) hS hh6 hn16 hR8 hD9 (by omega) (by omega) (by omega) (by omega) (by omega) hva hvb  k1630
                                      · exact law_d13 K (by omega) hS hh6 hn16 hR8 hD9 (by omega) (by omega) (by omega) (by omega) (by omega) hva hvb (by omega) k1630
                                · exact law_d11 K (by omega) hS hh6 hn16 hR8 hD9 (by omega) (by omega) (by omega) (by omega) (by omega) hva hvb (by omega) k1630
                            · refine V_iload C dL_law_1064 rfl ?_
                              refine V_iconst (v := (1 : Int32)) C dL_law_1066 (by decide) ?_
                              refine V_iand C dL_law_1067 ?_
                              refine V_eqi (y := nI (a1 % 2)) (pk_andN (by omega) 1 (by decide)) ?_
                              refine V_if_neN (a := a1 % 2) (tgt := 1149) C dL_law_1068 (by decide) (by omega) (fun h1068_701 => ?_) (fun h1068_701 => ?_)
                              · refine V_iload C dL_law_1149 rfl ?_
                                refine V_bipush (v := (13 : Int32)) C dL_law_1151 (by decide) ?_
                                refine V_icmp_geN (a := d) (b := 13) (tgt := 1364) C dL_law_1153 (by decide) (by omega) (by omega) (fun h1153_702 => ?_) (fun h1153_702 => ?_)
                                · refine V_iload C dL_law_1364 rfl ?_
                                  refine V_bipush (v := (13 : Int32)) C dL_law_1366 (by decide) ?_
                                  refine V_icmp_neN (a := d) (b := 13) (tgt := 1472) C dL_law_1368 (by decide) (by omega) (by omega) (fun h1368_703 => ?_) (fun h1368_703 => ?_)
                                  · exact law_dt K (by omega) hS hh6 hn16 hR8 hD9 (by omega) (by omega) (by omega) (by omega) (by omega) hva hvb  k1630
                                  · refine V_iload C dL_law_1371 rfl ?_
                                    refine V_if_leN (a := R) (tgt := 1472) C dL_law_1373 (by decide) (by omega) (fun h1373_704 => ?_) (fun h1373_704 => ?_)
                                    · exact law_dt K (by omega) hS hh6 hn16 hR8 hD9 (by omega) (by omega) (by omega) (by omega) (by omega) hva hvb  k1630
                                    · refine V_iload C dL_law_1376 rfl ?_
                                      refine V_iconst (v := (3 : Int32)) C dL_law_1378 (by decide) ?_
                                      refine V_iand C dL_law_1379 ?_
                                      refine V_eqi (y := nI (a1 % 4)) (pk_andN (by omega) 2 (by decide)) ?_
                                      refine V_if_neN (a := a1 % 4) (tgt := 1472) C dL_law_1380 (by decide) (by omega) (fun h1380_705 => ?_) (fun h1380_705 => ?_)
                                      · exact law_dt K (by omega) hS hh6 hn16 hR8 hD9 (by omega) (by omega) (by omega) (by omega) (by omega) hva hvb  k1630
                                      · exact law_d13 K (by omega) hS hh6 hn16 hR8 hD9 (by omega) (by omega) (by omega) (by omega) (by omega) hva hvb (by omega) k1630
                                · refine V_iload C dL_law_1156 rfl ?_
                                  refine V_bipush (v := (8 : Int32)) C dL_law_1158 (by decide) ?_
                                  refine V_icmp_geN (a := R) (b := 8) (tgt := 1364) C dL_law_1160 (by decide) (by omega) (by omega) (fun h1160_706 => ?_) (fun h1160_706 => ?_)
                                  · refine V_iload C dL_law_1364 rfl ?_
                                    refine V_bipush (v := (13 : Int32)) C dL_law_1366 (by decide) ?_
                                    refine V_icmp_neN (a := d) (b := 13) (tgt := 1472) C dL_law_1368 (by decide) (by omega) (by omega) (fun h1368_707 => ?_) (fun h1368_707 => ?_)
                                    · exact law_dt K (by omega) hS hh6 hn16 hR8 hD9 (by omega) (by omega) (by omega) (by omega) (by omega) hva hvb  k1630
                                    · refine V_iload C dL_law_1371 rfl ?_
                                      refine V_if_leN (a := R) (tgt := 1472) C dL_law_1373 (by decide) (by omega) (fun h1373_708 => ?_) (fun h1373_708 => ?_)
                                      · exact law_dt K (by omega) hS hh6 hn16 hR8 hD9 (by omega) (by omega) (by omega) (by omega) (by omega) hva hvb  k1630
                                      · refine V_iload C dL_law_1376 rfl ?_
                                        refine V_iconst (v := (3 : Int32)) C dL_law_1378 (by decide) ?_
                                        refine V_iand C dL_law_1379 ?_
                                        refine V_eqi (y := nI (a1 % 4)) (pk_andN (by omega) 2 (by decide)) ?_
                                        refine V_if_neN (a := a1 % 4) (tgt := 1472) C dL_law_1380 (by decide) (by omega) (fun h1380_709 => ?_) (fun h1380_709 => ?_)
                                        · exact law_dt K (by omega) hS hh6 hn16 hR8 hD9 (by omega) (by omega) (by omega) (by omega) (by omega) hva hvb  k1630
                                        · exact law_d13 K (by omega) hS hh6 hn16 hR8 hD9 (by omega) (by omega) (by omega) (by omega) (by omega) hva hvb (by omega) k1630
                                  · exact law_d11 K (by omega) hS hh6 hn16 hR8 hD9 (by omega) (by omega) (by omega) (by omega) (by omega) hva hvb (by omega) k1630
                              · exact law_d10 K (by omega) hS hh6 hn16 hR8 hD9 (by omega) (by omega) (by omega) (by omega) (by omega) hva hvb  k1630
                          · exact law_d9 K (by omega) hS hh6 hn16 hR8 hD9 (by omega) (by omega) (by omega) (by omega) (by omega) hva hvb  k1630
                        · refine V_iload C dL_law_926 rfl ?_
                          refine V_if_leN (a := n) (tgt := 995) C dL_law_928 (by decide) (by omega) (fun h928_710 => ?_) (fun h928_710 => ?_)
                          · refine V_iload C dL_law_995 rfl ?_
                            refine V_bipush (v := (10 : Int32)) C dL_law_997 (by decide) ?_
                            refine V_icmp_geN (a := d) (b := 10) (tgt := 1057) C dL_law_999 (by decide) (by omega) (by omega) (fun h999_711 => ?_) (fun h999_711 => ?_)
                            · refine V_iload C dL_law_1057 rfl ?_
                              refine V_bipush (v := (10 : Int32)) C dL_law_1059 (by decide) ?_
                              refine V_icmp_neN (a := d) (b := 10) (tgt := 1149) C dL_law_1061 (by decide) (by omega) (by omega) (fun h1061_712 => ?_) (fun h1061_712 => ?_)
                              · refine V_iload C dL_law_1149 rfl ?_
                                refine V_bipush (v := (13 : Int32)) C dL_law_1151 (by decide) ?_
                                refine V_icmp_geN (a := d) (b := 13) (tgt := 1364) C dL_law_1153 (by decide) (by omega) (by omega) (fun h1153_713 => ?_) (fun h1153_713 => ?_)
                                · refine V_iload C dL_law_1364 rfl ?_
                                  refine V_bipush (v := (13 : Int32)) C dL_law_1366 (by decide) ?_
                                  refine V_icmp_neN (a := d) (b := 13) (tgt := 1472) C dL_law_1368 (by decide) (by omega) (by omega) (fun h1368_714 => ?_) (fun h1368_714 => ?_)
                                  · exact law_dt K (by omega) hS hh6 hn16 hR8 hD9 (by omega) (by omega) (by omega) (by omega) (by omega) hva hvb  k1630
                                  · refine V_iload C dL_law_1371 rfl ?_
                                    refine V_if_leN (a := R) (tgt := 1472) C dL_law_1373 (by decide) (by omega) (fun h1373_715 => ?_) (fun h1373_715 => ?_)
                                    · exact law_dt K (by omega) hS hh6 hn16 hR8 hD9 (by omega) (by omega) (by omega) (by omega) (by omega) hva hvb  k1630
                                    · refine V_iload C dL_law_1376 rfl ?_
                                      refine V_iconst (v := (3 : Int32)) C dL_law_1378 (by decide) ?_
                                      refine V_iand C dL_law_1379 ?_
                                      refine V_eqi (y := nI (a1 % 4)) (pk_andN (by omega) 2 (by decide)) ?_
                                      refine V_if_neN (a := a1 % 4) (tgt := 1472) C dL_law_1380 (by decide) (by omega) (fun h1380_716 => ?_) (fun h1380_716 => ?_)
                                      · exact law_dt K (by omega) hS hh6 hn16 hR8 hD9 (by omega) (by omega) (by omega) (by omega) (by omega) hva hvb  k1630
                                      · exact law_d13 K (by omega) hS hh6 hn16 hR8 hD9 (by omega) (by omega) (by omega) (by omega) (by omega) hva hvb (by omega) k1630
                                · refine V_iload C dL_law_1156 rfl ?_
                                  refine V_bipush (v := (8 : Int32)) C dL_law_1158 (by decide) ?_
                                  refine V_icmp_geN (a := R) (b := 8) (tgt := 1364) C dL_law_1160 (by decide) (by omega) (by omega) (fun h1160_717 => ?_) (fun h1160_717 => ?_)
                                  · refine V_iload C dL_law_1364 rfl ?_
                                    refine V_bipush (v := (13 : Int32)) C dL_law_1366 (by decide) ?_
                                    refine V_icmp_neN (a := d) (b := 13) (tgt := 1472) C dL_law_1368 (by decide) (by omega) (by omega) (fun h1368_718 => ?_) (fun h1368_718 => ?_)
                                    · exact law_dt K (by omega) hS hh6 hn16 hR8 hD9 (by omega) (by omega) (by omega) (by omega) (by omega) hva hvb  k1630
                                    · refine V_iload C dL_law_1371 rfl ?_
                                      refine V_if_leN (a := R) (tgt := 1472) C dL_law_1373 (by decide) (by omega) (fun h1373_719 => ?_) (fun h1373_719 => ?_)
                                      · exact law_dt K (by omega) hS hh6 hn16 hR8 hD9 (by omega) (by omega) (by omega) (by omega) (by omega) hva hvb  k1630
                                      · refine V_iload C dL_law_1376 rfl ?_
                                        refine V_iconst (v := (3 : Int32)) C dL_law_1378 (by decide) ?_
                                        refine V_iand C dL_law_1379 ?_
                                        refine V_eqi (y := nI (a1 % 4)) (pk_andN (by omega) 2 (by decide)) ?_
                                        refine V_if_neN (a := a1 % 4) (tgt := 1472) C dL_law_1380 (by decide) (by omega) (fun h1380_720 => ?_) (fun h1380_720 => ?_)
                                        · exact law_dt K (by omega) hS hh6 hn16 hR8 hD9 (by omega) (by omega) (by omega) (by omega) (by omega) hva hvb  k1630
                                        · exact law_d13 K (by omega) hS hh6 hn16 hR8 hD9 (by omega) (by omega) (by omega) (by omega) (by omega) hva hvb (by omega) k1630
                                  · exact law_d11 K (by omega) hS hh6 hn16 hR8 hD9 (by omega) (by omega) (by omega) (by omega) (by omega) hva hvb (by omega) k1630
                              · refine V_iload C dL_law_1064 rfl ?_
                                refine V_iconst (v := (1 : Int32)) C dL_law_1066 (by decide) ?_
                                refine V_iand C dL_law_1067 ?_
                                refine V_eqi (y := nI (a1 % 2)) (pk_andN (by omega) 1 (by decide)) ?_
                                refine V_if_neN (a := a1 % 2) (tgt := 1149) C dL_law_1068 (by decide) (by omega) (fun h1068_721 => ?_) (fun h1068_721 => ?_)
                                · refine V_iload C dL_law_1149 rfl ?_
                                  refine V_bipush (v := (13 : Int32)) C dL_law_1151 (by decide) ?_
                                  refine V_icmp_geN (a := d) (b := 13) (tgt := 1364) C dL_law_1153 (by decide) (by omega) (by omega) (fun h1153_722 => ?_) (fun h1153_722 => ?_)
                                  · refine V_iload C dL_law_1364 rfl ?_
                                    refine V_bipush (v := (13 : Int32)) C dL_law_1366 (by decide) ?_
                                    refine V_icmp_neN (a := d) (b := 13) (tgt := 1472) C dL_law_1368 (by decide) (by omega) (by omega) (fun h1368_723 => ?_) (fun h1368_723 => ?_)
                                    · exact law_dt K (by omega) hS hh6 hn16 hR8 hD9 (by omega) (by omega) (by omega) (by omega) (by omega) hva hvb  k1630
                                    · refine V_iload C dL_law_1371 rfl ?_
                                      refine V_if_leN (a := R) (tgt := 1472) C dL_law_1373 (by decide) (by omega) (fun h1373_724 => ?_) (fun h1373_724 => ?_)
                                      · exact law_dt K (by omega) hS hh6 hn16 hR8 hD9 (by omega) (by omega) (by omega) (by omega) (by omega) hva hvb  k1630
                                      · refine V_iload C dL_law_1376 rfl ?_
                                        refine V_iconst (v := (3 : Int32)) C dL_law_1378 (by decide) ?_
                                        refine V_iand C dL_law_1379 ?_
                                        refine V_eqi (y := nI (a1 % 4)) (pk_andN (by omega) 2 (by decide)) ?_
                                        refine V_if_neN (a := a1 % 4) (tgt := 1472) C dL_law_1380 (by decide) (by omega) (fun h1380_725 => ?_) (fun h1380_725 => ?_)
                                        · exact law_dt K (by omega) hS hh6 hn16 hR8 hD9 (by omega) (by omega) (by omega) (by omega) (by omega) hva hvb  k1630
                                        · exact law_d13 K (by omega) hS hh6 hn16 hR8 hD9 (by omega) (by omega) (by omega) (by omega) (by omega) hva hvb (by omega) k1630
                                  · refine V_iload C dL_law_1156 rfl ?_
                                    refine V_bipush (v := (8 : Int32)) C dL_law_1158 (by decide) ?_
                                    refine V_icmp_geN (a := R) (b := 8) (tgt := 1364) C dL_law_1160 (by decide) (by omega) (by omega) (fun h1160_726 => ?_) (fun h1160_726 => ?_)
                                    · refine V_iload C dL_law_1364 rfl ?_
                                      refine V_bipush (v := (13 : Int32)) C dL_law_1366 (by decide) ?_
                                      refine V_icmp_neN (a := d) (b := 13) (tgt := 1472) C dL_law_1368 (by decide) (by omega) (by omega) (fun h1368_727 => ?_) (fun h1368_727 => ?_)
                                      · exact law_dt K (by omega) hS hh6 hn16 hR8 hD9 (by omega) (by omega) (by omega) (by omega) (by omega) hva hvb  k1630
                                      · refine V_iload C dL_law_1371 rfl ?_
                                        refine V_if_leN (a := R) (tgt := 1472) C dL_law_1373 (by decide) (by omega) (fun h1373_728 => ?_) (fun h1373_728 => ?_)
                                        · exact law_dt K (by omega) hS hh6 hn16 hR8 hD9 (by omega) (by omega) (by omega) (by omega) (by omega) hva hvb  k1630
                                        · refine V_iload C dL_law_1376 rfl ?_
                                          refine V_iconst (v := (3 : Int32)) C dL_law_1378 (by decide) ?_
                                          refine V_iand C dL_law_1379 ?_
                                          refine V_eqi (y := nI (a1 % 4)) (pk_andN (by omega) 2 (by decide)) ?_
                                          refine V_if_neN (a := a1 % 4) (tgt := 1472) C dL_law_1380 (by decide) (by omega) (fun h1380_729 => ?_) (fun h1380_729 => ?_)
                                          · exact law_dt K (by omega) hS hh6 hn16 hR8 hD9 (by omega) (by omega) (by omega) (by omega) (by omega) hva hvb  k1630
                                          · exact law_d13 K (by omega) hS hh6 hn16 hR8 hD9 (by omega) (by omega) (by omega) (by omega) (by omega) hva hvb (by omega) k1630
                                    · exact law_d11 K (by omega) hS hh6 hn16 hR8 hD9 (by omega) (by omega) (by omega) (by omega) (by omega) hva hvb (by omega) k1630
                                · exact law_d10 K (by omega) hS hh6 hn16 hR8 hD9 (by omega) (by omega) (by omega) (by omega) (by omega) hva hvb  k1630
                            · exact law_d9 K (by omega) hS hh6 hn16 hR8 hD9 (by omega) (by omega) (by omega) (by omega) (by omega) hva hvb  k1630
                          · refine V_iload C dL_law_931 rfl ?_
                            refine V_iconst (v := (3 : Int32)) C dL_law_933 (by decide) ?_
                            refine V_iand C dL_law_934 ?_
                            refine V_eqi (y := nI (a1 % 4)) (pk_andN (by omega) 2 (by decide)) ?_
                            refine V_if_neN (a := a1 % 4) (tgt := 995) C dL_law_935 (by decide) (by omega) (fun h935_730 => ?_) (fun h935_730 => ?_)
                            · refine V_iload C dL_law_995 rfl ?_
                              refine V_bipush (v := (10 : Int32)) C dL_law_997 (by decide) ?_
                              refine V_icmp_geN (a := d) (b := 10) (tgt := 1057) C dL_law_999 (by decide) (by omega) (by omega) (fun h999_731 => ?_) (fun h999_731 => ?_)
                              · refine V_iload C dL_law_1057 rfl ?_
                                refine V_bipush (v := (10 : Int32)) C dL_law_1059 (by decide) ?_
                                refine V_icmp_neN (a := d) (b := 10) (tgt := 1149) C dL_law_1061 (by decide) (by omega) (by omega) (fun h1061_732 => ?_) (fun h1061_732 => ?_)
                                · refine V_iload C dL_law_1149 rfl ?_
                                  refine V_bipush (v := (13 : Int32)) C dL_law_1151 (by decide) ?_
                                  refine V_icmp_geN (a := d) (b := 13) (tgt := 1364) C dL_law_1153 (by decide) (by omega) (by omega) (fun h1153_733 => ?_) (fun h1153_733 => ?_)
                                  · refine V_iload C dL_law_1364 rfl ?_
                                    refine V_bipush (v := (13 : Int32)) C dL_law_1366 (by decide) ?_
                                    refine V_icmp_neN (a := d) (b := 13) (tgt := 1472) C dL_law_1368 (by decide) (by omega) (by omega) (fun h1368_734 => ?_) (fun h1368_734 => ?_)
                                    · exact law_dt K (by omega) hS hh6 hn16 hR8 hD9 (by omega) (by omega) (by omega) (by omega) (by omega) hva hvb  k1630
                                    · refine V_iload C dL_law_1371 rfl ?_
                                      refine V_if_leN (a := R) (tgt := 1472) C dL_law_1373 (by decide) (by omega) (fun h1373_735 => ?_) (fun h1373_735 => ?_)
                                      · exact law_dt K (by omega) hS hh6 hn16 hR8 hD9 (by omega) (by omega) (by omega) (by omega) (by omega) hva hvb  k1630
                                      · refine V_iload C dL_law_1376 rfl ?_
                                        refine V_iconst (v := (3 : Int32)) C dL_law_1378 (by decide) ?_
                                        refine V_iand C dL_law_1379 ?_
                                        refine V_eqi (y := nI (a1 % 4)) (pk_andN (by omega) 2 (by decide)) ?_
                                        refine V_if_neN (a := a1 % 4) (tgt := 1472) C dL_law_1380 (by decide) (by omega) (fun h1380_736 => ?_) (fun h1380_736 => ?_)
                                        · exact law_dt K (by omega) hS hh6 hn16 hR8 hD9 (by omega) (by omega) (by omega) (by omega) (by omega) hva hvb  k1630
                                        · exact law_d13 K (by omega) hS hh6 hn16 hR8 hD9 (by omega) (by omega) (by omega) (by omega) (by omega) hva hvb (by omega) k1630
                                  · refine V_iload C dL_law_1156 rfl ?_
                                    refine V_bipush (v := (8 : Int32)) C dL_law_1158 (by decide) ?_
                                    refine V_icmp_geN (a := R) (b := 8) (tgt := 1364) C dL_law_1160 (by decide) (by omega) (by omega) (fun h1160_737 => ?_) (fun h1160_737 => ?_)
                                    · refine V_iload C dL_law_1364 rfl ?_
                                      refine V_bipush (v := (13 : Int32)) C dL_law_1366 (by decide) ?_
                                      refine V_icmp_neN (a := d) (b := 13) (tgt := 1472) C dL_law_1368 (by decide) (by omega) (by omega) (fun h1368_738 => ?_) (fun h1368_738 => ?_)
                                      · exact law_dt K (by omega) hS hh6 hn16 hR8 hD9 (by omega) (by omega) (by omega) (by omega) (by omega) hva hvb  k1630
                                      · refine V_iload C dL_law_1371 rfl ?_
                                        refine V_if_leN (a := R) (tgt := 1472) C dL_law_1373 (by decide) (by omega) (fun h1373_739 => ?_) (fun h1373_739 => ?_)
                                        · exact law_dt K (by omega) hS hh6 hn16 hR8 hD9 (by omega) (by omega) (by omega) (by omega) (by omega) hva hvb  k1630
                                        · refine V_iload C dL_law_1376 rfl ?_
                                          refine V_iconst (v := (3 : Int32)) C dL_law_1378 (by decide) ?_
                                          refine V_iand C dL_law_1379 ?_
                                          refine V_eqi (y := nI (a1 % 4)) (pk_andN (by omega) 2 (by decide)) ?_
                                          refine V_if_neN (a := a1 % 4) (tgt := 1472) C dL_law_1380 (by decide) (by omega) (fun h1380_740 => ?_) (fun h1380_740 => ?_)
                                          · exact law_dt K (by omega) hS hh6 hn16 hR8 hD9 (by omega) (by omega) (by omega) (by omega) (by omega) hva hvb  k1630
                                          · exact law_d13 K (by omega) hS hh6 hn16 hR8 hD9 (by omega) (by omega) (by omega) (by omega) (by omega) hva hvb (by omega) k1630
                                    · exact law_d11 K (by omega) hS hh6 hn16 hR8 hD9 (by omega) (by omega) (by omega) (by omega) (by omega) hva hvb (by omega) k1630
                                · refine V_iload C dL_law_1064 rfl ?_
                                  refine V_iconst (v := (1 : Int32)) C dL_law_1066 (by decide) ?_
                                  refine V_iand C dL_law_1067 ?_
                                  refine V_eqi (y := nI (a1 % 2)) (pk_andN (by omega) 1 (by decide)) ?_
                                  refine V_if_neN (a := a1 % 2) (tgt := 1149) C dL_law_1068 (by decide) (by omega) (fun h1068_741 => ?_) (fun h1068_741 => ?_)
                                  · refine V_iload C dL_law_1149 rfl ?_
                                    refine V_bipush (v := (13 : Int32)) C dL_law_1151 (by decide) ?_
                                    refine V_icmp_geN (a := d) (b := 13) (tgt := 1364) C dL_law_1153 (by decide) (by omega) (by omega) (fun h1153_742 => ?_) (fun h1153_742 => ?_)
                                    · refine V_iload C dL_law_1364 rfl ?_
                                      refine V_bipush (v := (13 : Int32)) C dL_law_1366 (by decide) ?_
                                      refine V_icmp_neN (a := d) (b := 13) (tgt := 1472) C dL_law_1368 (by decide) (by omega) (by omega) (fun h1368_743 => ?_) (fun h1368_743 => ?_)
                                      · exact law_dt K (by omega) hS hh6 hn16 hR8 hD9 (by omega) (by omega) (by omega) (by omega) (by omega) hva hvb  k1630
                                      · refine V_iload C dL_law_1371 rfl ?_
                                        refine V_if_leN (a := R) (tgt := 1472) C dL_law_1373 (by decide) (by omega) (fun h1373_744 => ?_) (fun h1373_744 => ?_)
                                        · exact law_dt K (by omega) hS hh6 hn16 hR8 hD9 (by omega) (by omega) (by omega) (by omega) (by omega) hva hvb  k1630
                                        · refine V_iload C dL_law_1376 rfl ?_
                                          refine V_iconst (v := (3 : Int32)) C dL_law_1378 (by decide) ?_
                                          refine V_iand C dL_law_1379 ?_
                                          refine V_eqi (y := nI (a1 % 4)) (pk_andN (by omega) 2 (by decide)) ?_
                                          refine V_if_neN (a := a1 % 4) (tgt := 1472) C dL_law_1380 (by decide) (by omega) (fun h1380_745 => ?_) (fun h1380_745 => ?_)
                                          · exact law_dt K (by omega) hS hh6 hn16 hR8 hD9 (by omega) (by omega) (by omega) (by omega) (by omega) hva hvb  k1630
                                          · exact law_d13 K (by omega) hS hh6 hn16 hR8 hD9 (by omega) (by omega) (by omega) (by omega) (by omega) hva hvb (by omega) k1630
                                    · refine V_iload C dL_law_1156 rfl ?_
                                      refine V_bipush (v := (8 : Int32)) C dL_law_1158 (by decide) ?_
                                      refine V_icmp_geN (a := R) (b := 8) (tgt := 1364) C dL_law_1160 (by decide) (by omega) (by omega) (fun h1160_746 => ?_) (fun h1160_746 => ?_)
                                      · refine V_iload C dL_law_1364 rfl ?_
                                        refine V_bipush (v := (13 : Int32)) C dL_law_1366 (by decide) ?_
                                        refine V_icmp_neN (a := d) (b := 13) (tgt := 1472) C dL_law_1368 (by decide) (by omega) (by omega) (fun h1368_747 => ?_) (fun h1368_747 => ?_)
                                        · exact law_dt K (by omega) hS hh6 hn16 hR8 hD9 (by omega) (by omega) (by omega) (by omega) (by omega) hva hvb  k1630
                                        · refine V_iload C dL_law_1371 rfl ?_
                                          refine V_if_leN (a := R) (tgt := 1472) C dL_law_1373 (by decide) (by omega) (fun h1373_748 => ?_) (fun h1373_748 => ?_)
                                          · exact law_dt K (by omega) hS hh6 hn16 hR8 hD9 (by omega) (by omega) (by omega) (by omega) (by omega) hva hvb  k1630
                                          · refine V_iload C dL_law_1376 rfl ?_
                                            refine V_iconst (v := (3 : Int32)) C dL_law_1378 (by decide) ?_
                                            refine V_iand C dL_law_1379 ?_
                                            refine V_eqi (y := nI (a1 % 4)) (pk_andN (by omega) 2 (by decide)) ?_
                                            refine V_if_neN (a := a1 % 4) (tgt := 1472) C dL_law_1380 (by decide) (by omega) (fun h1380_749 => ?_) (fun h1380_749 => ?_)
                                            · exact law_dt K (by omega) hS hh6 hn16 hR8 hD9 (by omega) (by omega) (by omega) (by omega) (by omega) hva hvb  k1630
                                            · exact law_d13 K (by omega) hS hh6 hn16 hR8 hD9 (by omega) (by omega) (by omega) (by omega) (by omega) hva hvb (by omega) k1630
                                      · exact law_d11 K (by omega) hS hh6 hn16 hR8 hD9 (by omega) (by omega) (by omega) (by omega) (by omega) hva hvb (by omega) k1630
                                  · exact law_d10 K (by omega) hS hh6 hn16 hR8 hD9 (by omega) (by omega) (by omega) (by omega) (by omega) hva hvb  k1630
                              · exact law_d9 K (by omega) hS hh6 hn16 hR8 hD9 (by omega) (by omega) (by omega) (by omega) (by omega) hva hvb  k1630
                            · exact law_d8 K (by omega) hS hh6 hn16 hR8 hD9 (by omega) (by omega) (by omega) (by omega) (by omega) hva hvb (by omega) k1630
                      · exact law_d7 K (by omega) hS hh6 hn16 hR8 hD9 (by omega) (by omega) (by omega) (by omega) (by omega) hva hvb (by omega) k1630
                  · have hko2 : ko < n := by omega
                    obtain ⟨kq, hkq3, ekq⟩ := (hJ.2.1.2.1.2 ko hko2).2.1
                    obtain ⟨e0, he2, he12⟩ := (hL.1 ko hko2).2.2.2.2.2.2.1
                    have he1 : kq = 1 → e0 ≤ 8 := fun q => by obtain ⟨c9, hc9, ec9⟩ := (hJ.2.1.2.1.2 ko hko2).2.2.2.2.2.2.2.2.2.1 (by rw [ekq, q]; rfl); have := nIu (m := 1024) (by decide) he2 (by omega) (he12.symm.trans ec9); omega
                    by_cases hq0 : kq = 0
                    · exact law_d6g (kq := 0) K (by omega) hS hh6 hn16 hR8 hD9 (by omega) (by omega) (by omega) (by omega) (by omega) hva hvb (by omega) (by rw [show X 7 ko = nI kq from ekq, hq0]; rfl) he12 he2 k1630
                    · exact law_d6n K (by omega) hS hh6 hn16 hR8 hD9 (by omega) (by omega) (by omega) (by omega) (by omega) hva hvb (by omega) ekq (by omega) he12 he2 he1 k1630
              · refine V_iload C dL_law_354 rfl ?_
                refine V_bipush (v := (16 : Int32)) C dL_law_356 (by decide) ?_
                refine V_icmp_geN (a := n) (b := 16) (tgt := 705) C dL_law_358 (by decide) (by omega) (by omega) (fun h358_750 => ?_) (fun h358_750 => ?_)
                · refine V_iload C dL_law_705 rfl ?_
                  refine V_bipush (v := (6 : Int32)) C dL_law_707 (by decide) ?_
                  refine V_icmp_neN (a := d) (b := 6) (tgt := 856) C dL_law_709 (by decide) (by omega) (by omega) (fun h709_751 => ?_) (fun h709_751 => ?_)
                  · refine V_iload C dL_law_856 rfl ?_
                    refine V_bipush (v := (7 : Int32)) C dL_law_858 (by decide) ?_
                    refine V_icmp_neN (a := d) (b := 7) (tgt := 919) C dL_law_860 (by decide) (by omega) (by omega) (fun h860_752 => ?_) (fun h860_752 => ?_)
                    · refine V_iload C dL_law_919 rfl ?_
                      refine V_bipush (v := (8 : Int32)) C dL_law_921 (by decide) ?_
                      refine V_icmp_neN (a := d) (b := 8) (tgt := 995) C dL_law_923 (by decide) (by omega) (by omega) (fun h923_753 => ?_) (fun h923_753 => ?_)
                      · refine V_iload C dL_law_995 rfl ?_
                        refine V_bipush (v := (10 : Int32)) C dL_law_997 (by decide) ?_
                        refine V_icmp_geN (a := d) (b := 10) (tgt := 1057) C dL_law_999 (by decide) (by omega) (by omega) (fun h999_754 => ?_) (fun h999_754 => ?_)
                        · refine V_iload C dL_law_1057 rfl ?_
                          refine V_bipush (v := (10 : Int32)) C dL_law_1059 (by decide) ?_
                          refine V_icmp_neN (a := d) (b := 10) (tgt := 1149) C dL_law_1061 (by decide) (by omega) (by omega) (fun h1061_755 => ?_) (fun h1061_755 => ?_)
                          · refine V_iload C dL_law_1149 rfl ?_
                            refine V_bipush (v := (13 : Int32)) C dL_law_1151 (by decide) ?_
                            refine V_icmp_geN (a := d) (b := 13) (tgt := 1364) C dL_law_1153 (by decide) (by omega) (by omega) (fun h1153_756 => ?_) (fun h1153_756 => ?_)
                            · refine V_iload C dL_law_1364 rfl ?_
                              refine V_bipush (v := (13 : Int32)) C dL_law_1366 (by decide) ?_
                              refine V_icmp_neN (a := d) (b := 13) (tgt := 1472) C dL_law_1368 (by decide) (by omega) (by omega) (fun h1368_757 => ?_) (fun h1368_757 => ?_)
                              · exact law_dt K (by omega) hS hh6 hn16 hR8 hD9 (by omega) (by omega) (by omega) (by omega) (by omega) hva hvb  k1630
                              · refine V_iload C dL_law_1371 rfl ?_
                                refine V_if_leN (a := R) (tgt := 1472) C dL_law_1373 (by decide) (by omega) (fun h1373_758 => ?_) (fun h1373_758 => ?_)
                                · exact law_dt K (by omega) hS hh6 hn16 hR8 hD9 (by omega) (by omega) (by omega) (by omega) (by omega) hva hvb  k1630
                                · refine V_iload C dL_law_1376 rfl ?_
                                  refine V_iconst (v := (3 : Int32)) C dL_law_1378 (by decide) ?_
                                  refine V_iand C dL_law_1379 ?_
                                  refine V_eqi (y := nI (a1 % 4)) (pk_andN (by omega) 2 (by decide)) ?_
                                  refine V_if_neN (a := a1 % 4) (tgt := 1472) C dL_law_1380 (by decide) (by omega) (fun h1380_759 => ?_) (fun h1380_759 => ?_)
                                  · exact law_dt K (by omega) hS hh6 hn16 hR8 hD9 (by omega) (by omega) (by omega) (by omega) (by omega) hva hvb  k1630
                                  · exact law_d13 K (by omega) hS hh6 hn16 hR8 hD9 (by omega) (by omega) (by omega) (by omega) (by omega) hva hvb (by omega) k1630
                            · refine V_iload C dL_law_1156 rfl ?_
                              refine V_bipush (v := (8 : Int32)) C dL_law_1158 (by decide) ?_
                              refine V_icmp_geN (a := R) (b := 8) (tgt := 1364) C dL_law_1160 (by decide) (by omega) (by omega) (fun h1160_760 => ?_) (fun h1160_760 => ?_)
                              · refine V_iload C dL_law_1364 rfl ?_
                                refine V_bipush (v := (13 : Int32)) C dL_law_1366 (by decide) ?_
                                refine V_icmp_neN (a := d) (b := 13) (tgt := 1472) C dL_law_1368 (by decide) (by omega) (by omega) (fun h1368_761 => ?_) (fun h1368_761 => ?_)
                                · exact law_dt K (by omega) hS hh6 hn16 hR8 hD9 (by omega) (by omega) (by omega) (by omega) (by omega) hva hvb  k1630
                                · refine V_iload C dL_law_1371 rfl ?_
                                  refine V_if_leN (a := R) (tgt := 1472) C dL_law_1373 (by decide) (by omega) (fun h1373_762 => ?_) (fun h1373_762 => ?_)
                                  · exact law_dt K (by omega) hS hh6 hn16 hR8 hD9 (by omega) (by omega) (by omega) (by omega) (by omega) hva hvb  k1630
                                  · refine V_iload C dL_law_1376 rfl ?_
                                    refine V_iconst (v := (3 : Int32)) C dL_law_1378 (by decide) ?_
                                    refine V_iand C dL_law_1379 ?_
                                    refine V_eqi (y := nI (a1 % 4)) (pk_andN (by omega) 2 (by decide)) ?_
                                    refine V_if_neN (a := a1 % 4) (tgt := 1472) C dL_law_1380 (by decide) (by omega) (fun h1380_763 => ?_) (fun h1380_763 => ?_)
                                    · exact law_dt K (by omega) hS hh6 hn16 hR8 hD9 (by omega) (by omega) (by omega) (by omega) (by omega) hva hvb  k1630
                                    · exact law_d13 K (by omega) hS hh6 hn16 hR8 hD9 (by omega) (by omega) (by omega) (by omega) (by omega) hva hvb (by omega) k1630
                              · exact law_d11 K (by omega) hS hh6 hn16 hR8 hD9 (by omega) (by omega) (by omega) (by omega) (by omega) hva hvb (by omega) k1630
                          · refine V_iload C dL_law_1064 rfl ?_
                            refine V_iconst (v := (1 : Int32)) C dL_law_1066 (by decide) ?_
                            refine V_iand C dL_law_1067 ?_
                            refine V_eqi (y := nI (a1 % 2)) (pk_andN (by omega) 1 (by decide)) ?_
                            refine V_if_neN (a := a1 % 2) (tgt := 1149) C dL_law_1068 (by decide) (by omega) (fun h1068_764 => ?_) (fun h1068_764 => ?_)
                            · refine V_iload C dL_law_1149 rfl ?_
                              refine V_bipush (v := (13 : Int32)) C dL_law_1151 (by decide) ?_
                              refine V_icmp_geN (a := d) (b := 13) (tgt := 1364) C dL_law_1153 (by decide) (by omega) (by omega) (fun h1153_765 => ?_) (fun h1153_765 => ?_)
                              · refine V_iload C dL_law_1364 rfl ?_
                                refine V_bipush (v := (13 : Int32)) C dL_law_1366 (by decide) ?_
                                refine V_icmp_neN (a := d) (b := 13) (tgt := 1472) C dL_law_1368 (by decide) (by omega) (by omega) (fun h1368_766 => ?_) (fun h1368_766 => ?_)
                                · exact law_dt K (by omega) hS hh6 hn16 hR8 hD9 (by omega) (by omega) (by omega) (by omega) (by omega) hva hvb  k1630
                                · refine V_iload C dL_law_1371 rfl ?_
                                  refine V_if_leN (a := R) (tgt := 1472) C dL_law_1373 (by decide) (by omega) (fun h1373_767 => ?_) (fun h1373_767 => ?_)
                                  · exact law_dt K (by omega) hS hh6 hn16 hR8 hD9 (by omega) (by omega) (by omega) (by omega) (by omega) hva hvb  k1630
                                  · refine V_iload C dL_law_1376 rfl ?_
                                    refine V_iconst (v := (3 : Int32)) C dL_law_1378 (by decide) ?_
                                    refine V_iand C dL_law_1379 ?_
                                    refine V_eqi (y := nI (a1 % 4)) (pk_andN (by omega) 2 (by decide)) ?_
                                    refine V_if_neN (a := a1 % 4) (tgt := 1472) C dL_law_1380 (by decide) (by omega) (fun h1380_768 => ?_) (fun h1380_768 => ?_)
                                    · exact law_dt K (by omega) hS hh6 hn16 hR8 hD9 (by omega) (by omega) (by omega) (by omega) (by omega) hva hvb  k1630
                                    · exact law_d13 K (by omega) hS hh6 hn16 hR8 hD9 (by omega) (by omega) (by omega) (by omega) (by omega) hva hvb (by omega) k1630
                              · refine V_iload C dL_law_1156 rfl ?_
                                refine V_bipush (v := (8 : Int32)) C dL_law_1158 (by decide) ?_
                                refine V_icmp_geN (a := R) (b := 8) (tgt := 1364) C dL_law_1160 (by decide) (by omega) (by omega) (fun h1160_769 => ?_) (fun h1160_769 => ?_)
                                · refine V_iload C dL_law_1364 rfl ?_
                                  refine V_bipush (v := (13 : Int32)) C dL_law_1366 (by decide) ?_
                                  refine V_icmp_neN (a := d) (b := 13) (tgt := 1472) C dL_law_1368 (by decide) (by omega) (by omega) (fun h1368_770 => ?_) (fun h1368_770 => ?_)
                                  · exact law_dt K (by omega) hS hh6 hn16 hR8 hD9 (by omega) (by omega) (by omega) (by omega) (by omega) hva hvb  k1630
                                  · refine V_iload C dL_law_1371 rfl ?_
                                    refine V_if_leN (a := R) (tgt := 1472) C dL_law_1373 (by decide) (by omega) (fun h1373_771 => ?_) (fun h1373_771 => ?_)
                                    · exact law_dt K (by omega) hS hh6 hn16 hR8 hD9 (by omega) (by omega) (by omega) (by omega) (by omega) hva hvb  k1630
                                    · refine V_iload C dL_law_1376 rfl ?_
                                      refine V_iconst (v := (3 : Int32)) C dL_law_1378 (by decide) ?_
                                      refine V_iand C dL_law_1379 ?_
                                      refine V_eqi (y := nI (a1 % 4)) (pk_andN (by omega) 2 (by decide)) ?_
                                      refine V_if_neN (a := a1 % 4) (tgt := 1472) C dL_law_1380 (by decide) (by omega) (fun h1380_772 => ?_) (fun h1380_772 => ?_)
                                      · exact law_dt K (by omega) hS hh6 hn16 hR8 hD9 (by omega) (by omega) (by omega) (by omega) (by omega) hva hvb  k1630
                                      · exact law_d13 K (by omega) hS hh6 hn16 hR8 hD9 (by omega) (by omega) (by omega) (by omega) (by omega) hva hvb (by omega) k1630
                                · exact law_d11 K (by omega) hS hh6 hn16 hR8 hD9 (by omega) (by omega) (by omega) (by omega) (by omega) hva hvb (by omega) k1630
                            · exact law_d10 K (by omega) hS hh6 hn16 hR8 hD9 (by omega) (by omega) (by omega) (by omega) (by omega) hva hvb  k1630
                        · exact law_d9 K (by omega) hS hh6 hn16 hR8 hD9 (by omega) (by omega) (by omega) (by omega) (by omega) hva hvb  k1630
                      · refine V_iload C dL_law_926 rfl ?_
                        refine V_if_leN (a := n) (tgt := 995) C dL_law_928 (by decide) (by omega) (fun h928_773 => ?_) (fun h928_773 => ?_)
                        · refine V_iload C dL_law_995 rfl ?_
                          refine V_bipush (v := (10 : Int32)) C dL_law_997 (by decide) ?_
                          refine V_icmp_geN (a := d) (b := 10) (tgt := 1057) C dL_law_999 (by decide) (by omega) (by omega) (fun h999_774 => ?_) (fun h999_774 => ?_)
                          · refine V_iload C dL_law_1057 rfl ?_
                            refine V_bipush (v := (10 : Int32)) C dL_law_1059 (by decide) ?_
                            refine V_icmp_neN (a := d) (b := 10) (tgt := 1149) C dL_law_1061 (by decide) (by omega) (by omega) (fun h1061_775 => ?_) (fun h1061_775 => ?_)
                            · refine V_iload C dL_law_1149 rfl ?_
                              refine V_bipush (v := (13 : Int32)) C dL_law_1151 (by decide) ?_
                              refine V_icmp_geN (a := d) (b := 13) (tgt := 1364) C dL_law_1153 (by decide) (by omega) (by omega) (fun h1153_776 => ?_) (fun h1153_776 => ?_)
                              · refine V_iload C dL_law_1364 rfl ?_
                                refine V_bipush (v := (13 : Int32)) C dL_law_1366 (by decide) ?_
                                refine V_icmp_neN (a := d) (b := 13) (tgt := 1472) C dL_law_1368 (by decide) (by omega) (by omega) (fun h1368_777 => ?_) (fun h1368_777 => ?_)
                                · exact law_dt K (by omega) hS hh6 hn16 hR8 hD9 (by omega) (by omega) (by omega) (by omega) (by omega) hva hvb  k1630
                                · refine V_iload C dL_law_1371 rfl ?_
                                  refine V_if_leN (a := R) (tgt := 1472) C dL_law_1373 (by decide) (by omega) (fun h1373_778 => ?_) (fun h1373_778 => ?_)
                                  · exact law_dt K (by omega) hS hh6 hn16 hR8 hD9 (by omega) (by omega) (by omega) (by omega) (by omega) hva hvb  k1630
                                  · refine V_iload C dL_law_1376 rfl ?_
                                    refine V_iconst (v := (3 : Int32)) C dL_law_1378 (by decide) ?_
                                    refine V_iand C dL_law_1379 ?_
                                    refine V_eqi (y := nI (a1 % 4)) (pk_andN (by omega) 2 (by decide)) ?_
                                    refine V_if_neN (a := a1 % 4) (tgt := 1472) C dL_law_1380 (by decide) (by omega) (fun h1380_779 => ?_) (fun h1380_779 => ?_)
                                    · exact law_dt K (by omega) hS hh6 hn16 hR8 hD9 (by omega) (by omega) (by omega) (by omega) (by omega) hva hvb  k1630
                                    · exact law_d13 K (by omega) hS hh6 hn16 hR8 hD9 (by omega) (by omega) (by omega) (by omega) (by omega) hva hvb (by omega) k1630
                              · refine V_iload C dL_law_1156 rfl ?_
                                refine V_bipush (v := (8 : Int32)) C dL_law_1158 (by decide) ?_
                                refine V_icmp_geN (a := R) (b := 8) (tgt := 1364) C dL_law_1160 (by decide) (by omega) (by omega) (fun h1160_780 => ?_) (fun h1160_780 => ?_)
                                · refine V_iload C dL_law_1364 rfl ?_
                                  refine V_bipush (v := (13 : Int32)) C dL_law_1366 (by decide) ?_
                                  refine V_icmp_neN (a := d) (b := 13) (tgt := 1472) C dL_law_1368 (by decide) (by omega) (by omega) (fun h1368_781 => ?_) (fun h1368_781 => ?_)
                                  · exact law_dt K (by omega) hS hh6 hn16 hR8 hD9 (by omega) (by omega) (by omega) (by omega) (by omega) hva hvb  k1630
                                  · refine V_iload C dL_law_1371 rfl ?_
                                    refine V_if_leN (a := R) (tgt := 1472) C dL_law_1373 (by decide) (by omega) (fun h1373_782 => ?_) (fun h1373_782 => ?_)
                                    · exact law_dt K (by omega) hS hh6 hn16 hR8 hD9 (by omega) (by omega) (by omega) (by omega) (by omega) hva hvb  k1630
                                    · refine V_iload C dL_law_1376 rfl ?_
                                      refine V_iconst (v := (3 : Int32)) C dL_law_1378 (by decide) ?_
                                      refine V_iand C dL_law_1379 ?_
                                      refine V_eqi (y := nI (a1 % 4)) (pk_andN (by omega) 2 (by decide)) ?_
                                      refine V_if_neN (a := a1 % 4) (tgt := 1472) C dL_law_1380 (by decide) (by omega) (fun h1380_783 => ?_) (fun h1380_783 => ?_)
                                      · exact law_dt K (by omega) hS hh6 hn16 hR8 hD9 (by omega) (by omega) (by omega) (by omega) (by omega) hva hvb  k1630
                                      · exact law_d13 K (by omega) hS hh6 hn16 hR8 hD9 (by omega) (by omega) (by omega) (by omega) (by omega) hva hvb (by omega) k1630
                                · exact law_d11 K (by omega) hS hh6 hn16 hR8 hD9 (by omega) (by omega) (by omega) (by omega) (by omega) hva hvb (by omega) k1630
                            · refine V_iload C dL_law_1064 rfl ?_
                              refine V_iconst (v := (1 : Int32)) C dL_law_1066 (by decide) ?_
                              refine V_iand C dL_law_1067 ?_
                              refine V_eqi (y := nI (a1 % 2)) (pk_andN (by omega) 1 (by decide)) ?_
                              refine V_if_neN (a := a1 % 2) (tgt := 1149) C dL_law_1068 (by decide) (by omega) (fun h1068_784 => ?_) (fun h1068_784 => ?_)
                              · refine V_iload C dL_law_1149 rfl ?_
                                refine V_bipush (v := (13 : Int32)) C dL_law_1151 (by decide) ?_
                                refine V_icmp_geN (a := d) (b := 13) (tgt := 1364) C dL_law_1153 (by decide) (by omega) (by omega) (fun h1153_785 => ?_) (fun h1153_785 => ?_)
                                · refine V_iload C dL_law_1364 rfl ?_
                                  refine V_bipush (v := (13 : Int32)) C dL_law_1366 (by decide) ?_
                                  refine V_icmp_neN (a := d) (b := 13) (tgt := 1472) C dL_law_1368 (by decide) (by omega) (by omega) (fun h1368_786 => ?_) (fun h1368_786 => ?_)
                                  · exact law_dt K (by omega) hS hh6 hn16 hR8 hD9 (by omega) (by omega) (by omega) (by omega) (by omega) hva hvb  k1630
                                  · refine V_iload C dL_law_1371 rfl ?_
                                    refine V_if_leN (a := R) (tgt := 1472) C dL_law_1373 (by decide) (by omega) (fun h1373_787 => ?_) (fun h1373_787 => ?_)
                                    · exact law_dt K (by omega) hS hh6 hn16 hR8 hD9 (by omega) (by omega) (by omega) (by omega) (by omega) hva hvb  k1630
                                    · refine V_iload C dL_law_1376 rfl ?_
                                      refine V_iconst (v := (3 : Int32)) C dL_law_1378 (by decide) ?_
                                      refine V_iand C dL_law_1379 ?_
                                      refine V_eqi (y := nI (a1 % 4)) (pk_andN (by omega) 2 (by decide)) ?_
                                      refine V_if_neN (a := a1 % 4) (tgt := 1472) C dL_law_1380 (by decide) (by omega) (fun h1380_788 => ?_) (fun h1380_788 => ?_)
                                      · exact law_dt K (by omega) hS hh6 hn16 hR8 hD9 (by omega) (by omega) (by omega) (by omega) (by omega) hva hvb  k1630
                                      · exact law_d13 K (by omega) hS hh6 hn16 hR8 hD9 (by omega) (by omega) (by omega) (by omega) (by omega) hva hvb (by omega) k1630
                                · refine V_iload C dL_law_1156 rfl ?_
                                  refine V_bipush (v := (8 : Int32)) C dL_law_1158 (by decide) ?_
                                  refine V_icmp_geN (a := R) (b := 8) (tgt := 1364) C dL_law_1160 (by decide) (by omega) (by omega) (fun h1160_789 => ?_) (fun h1160_789 => ?_)
                                  · refine V_iload C dL_law_1364 rfl ?_
                                    refine V_bipush (v := (13 : Int32)) C dL_law_1366 (by decide) ?_
                                    refine V_icmp_neN (a := d) (b := 13) (tgt := 1472) C dL_law_1368 (by decide) (by omega) (by omega) (fun h1368_790 => ?_) (fun h1368_790 => ?_)
                                    · exact law_dt K (by omega) hS hh6 hn16 hR8 hD9 (by omega) (by omega) (by omega) (by omega) (by omega) hva hvb  k1630
                                    · refine V_iload C dL_law_1371 rfl ?_
                                      refine V_if_leN (a := R) (tgt := 1472) C dL_law_1373 (by decide) (by omega) (fun h1373_791 => ?_) (fun h1373_791 => ?_)
                                      · exact law_dt K (by omega) hS hh6 hn16 hR8 hD9 (by omega) (by omega) (by omega) (by omega) (by omega) hva hvb  k1630
                                      · refine V_iload C dL_law_1376 rfl ?_
                                        refine V_iconst (v := (3 : Int32)) C dL_law_1378 (by decide) ?_
                                        refine V_iand C dL_law_1379 ?_
                                        refine V_eqi (y := nI (a1 % 4)) (pk_andN (by omega) 2 (by decide)) ?_
                                        refine V_if_neN (a := a1 % 4) (tgt := 1472) C dL_law_1380 (by decide) (by omega) (fun h1380_792 => ?_) (fun h1380_792 => ?_)
                                        · exact law_dt K (by omega) hS hh6 hn16 hR8 hD9 (by omega) (by omega) (by omega) (by omega) (by omega) hva hvb  k1630
                                        · exact law_d13 K (by omega) hS hh6 hn16 hR8 hD9 (by omega) (by omega) (by omega) (by omega) (by omega) hva hvb (by omega) k1630
                                  · exact law_d11 K (by omega) hS hh6 hn16 hR8 hD9 (by omega) (by omega) (by omega) (by omega) (by omega) hva hvb (by omega) k1630
                              · exact law_d10 K (by omega) hS hh6 hn16 hR8 hD9 (by omega) (by omega) (by omega) (by omega) (by omega) hva hvb  k1630
                          · exact law_d9 K (by omega) hS hh6 hn16 hR8 hD9 (by omega) (by omega) (by omega) (by omega) (by omega) hva hvb  k1630
                        · refine V_iload C dL_law_931 rfl ?_
                          refine V_iconst (v := (3 : Int32)) C dL_law_933 (by decide) ?_
                          refine V_iand C dL_law_934 ?_
                          refine V_eqi (y := nI (a1 % 4)) (pk_andN (by omega) 2 (by decide)) ?_
                          refine V_if_neN (a := a1 % 4) (tgt := 995) C dL_law_935 (by decide) (by omega) (fun h935_793 => ?_) (fun h935_793 => ?_)
                          · refine V_iload C dL_law_995 rfl ?_
                            refine V_bipush (v := (10 : Int32)) C dL_law_997 (by decide) ?_
                            refine V_icmp_geN (a := d) (b := 10) (tgt := 1057) C dL_law_999 (by decide) (by omega) (by omega) (fun h999_794 => ?_) (fun h999_794 => ?_)
                            · refine V_iload C dL_law_1057 rfl ?_
                              refine V_bipush (v := (10 : Int32)) C dL_law_1059 (by decide) ?_
                              refine V_icmp_neN (a := d) (b := 10) (tgt := 1149) C dL_law_1061 (by decide) (by omega) (by omega) (fun h1061_795 => ?_) (fun h1061_795 => ?_)
                              · refine V_iload C dL_law_1149 rfl ?_
                                refine V_bipush (v := (13 : Int32)) C dL_law_1151 (by decide) ?_
                                refine V_icmp_geN (a := d) (b := 13) (tgt := 1364) C dL_law_1153 (by decide) (by omega) (by omega) (fun h1153_796 => ?_) (fun h1153_796 => ?_)
                                · refine V_iload C dL_law_1364 rfl ?_
                                  refine V_bipush (v := (13 : Int32)) C dL_law_1366 (by decide) ?_
                                  refine V_icmp_neN (a := d) (b := 13) (tgt := 1472) C dL_law_1368 (by decide) (by omega) (by omega) (fun h1368_797 => ?_) (fun h1368_797 => ?_)
                                  · exact law_dt K (by omega) hS hh6 hn16 hR8 hD9 (by omega) (by omega) (by omega) (by omega) (by omega) hva hvb  k1630
                                  · refine V_iload C dL_law_1371 rfl ?_
                                    refine V_if_leN (a := R) (tgt := 1472) C dL_law_1373 (by decide) (by omega) (fun h1373_798 => ?_) (fun h1373_798 => ?_)
                                    · exact law_dt K (by omega) hS hh6 hn16 hR8 hD9 (by omega) (by omega) (by omega) (by omega) (by omega) hva hvb  k1630
                                    · refine V_iload C dL_law_1376 rfl ?_
                                      refine V_iconst (v := (3 : Int32)) C dL_law_1378 (by decide) ?_
                                      refine V_iand C dL_law_1379 ?_
                                      refine V_eqi (y := nI (a1 % 4)) (pk_andN (by omega) 2 (by decide)) ?_
                                      refine V_if_neN (a := a1 % 4) (tgt := 1472) C dL_law_1380 (by decide) (by omega) (fun h1380_799 => ?_) (fun h1380_799 => ?_)
                                      · exact law_dt K (by omega) hS hh6 hn16 hR8 hD9 (by omega) (by omega) (by omega) (by omega) (by omega) hva hvb  k1630
                                      · exact law_d13 K (by omega) hS hh6 hn16 hR8 hD9 (by omega) (by omega) (by omega) (by omega) (by omega) hva hvb (by omega) k1630
                                · refine V_iload C dL_law_1156 rfl ?_
                                  refine V_bipush (v := (8 : Int32)) C dL_law_1158 (by decide) ?_
                                  refine V_icmp_geN (a := R) (b := 8) (tgt := 1364) C dL_law_1160 (by decide) (by omega) (by omega) (fun h1160_800 => ?_) (fun h1160_800 => ?_)
                                  · refine V_iload C dL_law_1364 rfl ?_
                                    refine V_bipush (v := (13 : Int32)) C dL_law_1366 (by decide) ?_
                                    refine V_icmp_neN (a := d) (b := 13) (tgt := 1472) C dL_law_1368 (by decide) (by omega) (by omega) (fun h1368_801 => ?_) (fun h1368_801 => ?_)
                                    · exact law_dt K (by omega) hS hh6 hn16 hR8 hD9 (by omega) (by omega) (by omega) (by omega) (by omega) hva hvb  k1630
                                    · refine V_iload C dL_law_1371 rfl ?_
                                      refine V_if_leN (a := R) (tgt := 1472) C dL_law_1373 (by decide) (by omega) (fun h1373_802 => ?_) (fun h1373_802 => ?_)
                                      · exact law_dt K (by omega) hS hh6 hn16 hR8 hD9 (by omega) (by omega) (by omega) (by omega) (by omega) hva hvb  k1630
                                      · refine V_iload C dL_law_1376 rfl ?_
                                        refine V_iconst (v := (3 : Int32)) C dL_law_1378 (by decide) ?_
                                        refine V_iand C dL_law_1379 ?_
                                        refine V_eqi (y := nI (a1 % 4)) (pk_andN (by omega) 2 (by decide)) ?_
                                        refine V_if_neN (a := a1 % 4) (tgt := 1472) C dL_law_1380 (by decide) (by omega) (fun h1380_803 => ?_) (fun h1380_803 => ?_)
                                        · exact law_dt K (by omega) hS hh6 hn16 hR8 hD9 (by omega) (by omega) (by omega) (by omega) (by omega) hva hvb  k1630
                                        · exact law_d13 K (by omega) hS hh6 hn16 hR8 hD9 (by omega) (by omega) (by omega) (by omega) (by omega) hva hvb (by omega) k1630
                                  · exact law_d11 K (by omega) hS hh6 hn16 hR8 hD9 (by omega) (by omega) (by omega) (by omega) (by omega) hva hvb (by omega) k1630
                              · refine V_iload C dL_law_1064 rfl ?_
                                refine V_iconst (v := (1 : Int32)) C dL_law_1066 (by decide) ?_
                                refine V_iand C dL_law_1067 ?_
                                refine V_eqi (y := nI (a1 % 2)) (pk_andN (by omega) 1 (by decide)) ?_
                                refine V_if_neN (a := a1 % 2) (tgt := 1149) C dL_law_1068 (by decide) (by omega) (fun h1068_804 => ?_) (fun h1068_804 => ?_)
                                · refine V_iload C dL_law_1149 rfl ?_
                                  refine V_bipush (v := (13 : Int32)) C dL_law_1151 (by decide) ?_
                                  refine V_icmp_geN (a := d) (b := 13) (tgt := 1364) C dL_law_1153 (by decide) (by omega) (by omega) (fun h1153_805 => ?_) (fun h1153_805 => ?_)
                                  · refine V_iload C dL_law_1364 rfl ?_
                                    refine V_bipush (v := (13 : Int32)) C dL_law_1366 (by decide) ?_
                                    refine V_icmp_neN (a := d) (b := 13) (tgt := 1472) C dL_law_1368 (by decide) (by omega) (by omega) (fun h1368_806 => ?_) (fun h1368_806 => ?_)
                                    · exact law_dt K (by omega) hS hh6 hn16 hR8 hD9 (by omega) (by omega) (by omega) (by omega) (by omega) hva hvb  k1630
                                    · refine V_iload C dL_law_1371 rfl ?_
                                      refine V_if_leN (a := R) (tgt := 1472) C dL_law_1373 (by decide) (by omega) (fun h1373_807 => ?_) (fun h1373_807 => ?_)
                                      · exact law_dt K (by omega) hS hh6 hn16 hR8 hD9 (by omega) (by omega) (by omega) (by omega) (by omega) hva hvb  k1630
                                      · refine V_iload C dL_law_1376 rfl ?_
                                        refine V_iconst (v := (3 : Int32)) C dL_law_1378 (by decide) ?_
                                        refine V_iand C dL_law_1379 ?_
                                        refine V_eqi (y := nI (a1 % 4)) (pk_andN (by omega) 2 (by decide)) ?_
                                        refine V_if_neN (a := a1 % 4) (tgt := 1472) C dL_law_1380 (by decide) (by omega) (fun h1380_808 => ?_) (fun h1380_808 => ?_)
                                        · exact law_dt K (by omega) hS hh6 hn16 hR8 hD9 (by omega) (by omega) (by omega) (by omega) (by omega) hva hvb  k1630
                                        · exact law_d13 K (by omega) hS hh6 hn16 hR8 hD9 (by omega) (by omega) (by omega) (by omega) (by omega) hva hvb (by omega) k1630
                                  · refine V_iload C dL_law_1156 rfl ?_
                                    refine V_bipush (v := (8 : Int32)) C dL_law_1158 (by decide) ?_
                                    refine V_icmp_geN (a := R) (b := 8) (tgt := 1364) C dL_law_1160 (by decide) (by omega) (by omega) (fun h1160_809 => ?_) (fun h1160_809 => ?_)
                                    · refine V_iload C dL_law_1364 rfl ?_
                                      refine V_bipush (v := (13 : Int32)) C dL_law_1366 (by decide) ?_
                                      refine V_icmp_neN (a := d) (b := 13) (tgt := 1472) C dL_law_1368 (by decide) (by omega) (by omega) (fun h1368_810 => ?_) (fun h1368_810 => ?_)
                                      · exact law_dt K (by omega) hS hh6 hn16 hR8 hD9 (by omega) (by omega) (by omega) (by omega) (by omega) hva hvb  k1630
                                      · refine V_iload C dL_law_1371 rfl ?_
                                        refine V_if_leN (a := R) (tgt := 1472) C dL_law_1373 (by decide) (by omega) (fun h1373_811 => ?_) (fun h1373_811 => ?_)
                                        · exact law_dt K (by omega) hS hh6 hn16 hR8 hD9 (by omega) (by omega) (by omega) (by omega) (by omega) hva hvb  k1630
                                        · refine V_iload C dL_law_1376 rfl ?_
                                          refine V_iconst (v := (3 : Int32)) C dL_law_1378 (by decide) ?_
                                          refine V_iand C dL_law_1379 ?_
                                          refine V_eqi (y := nI (a1 % 4)) (pk_andN (by omega) 2 (by decide)) ?_
                                          refine V_if_neN (a := a1 % 4) (tgt := 1472) C dL_law_1380 (by decide) (by omega) (fun h1380_812 => ?_) (fun h1380_812 => ?_)
                                          · exact law_dt K (by omega) hS hh6 hn16 hR8 hD9 (by omega) (by omega) (by omega) (by omega) (by omega) hva hvb  k1630
                                          · exact law_d13 K (by omega) hS hh6 hn16 hR8 hD9 (by omega) (by omega) (by omega) (by omega) (by omega) hva hvb (by omega) k1630
                                    · exact law_d11 K (by omega) hS hh6 hn16 hR8 hD9 (by omega) (by omega) (by omega) (by omega) (by omega) hva hvb (by omega) k1630
                                · exact law_d10 K (by omega) hS hh6 hn16 hR8 hD9 (by omega) (by omega) (by omega) (by omega) (by omega) hva hvb  k1630
                            · exact law_d9 K (by omega) hS hh6 hn16 hR8 hD9 (by omega) (by omega) (by omega) (by omega) (by omega) hva hvb  k1630
                          · exact law_d8 K (by omega) hS hh6 hn16 hR8 hD9 (by omega) (by omega) (by omega) (by omega) (by omega) hva hvb (by omega) k1630
                    · refine V_iload C dL_law_863 rfl ?_
                      refine V_if_leN (a := n) (tgt := 919) C dL_law_865 (by decide) (by omega) (fun h865_813 => ?_) (fun h865_813 => ?_)
                      · refine V_iload C dL_law_919 rfl ?_
                        refine V_bipush (v := (8 : Int32)) C dL_law_921 (by decide) ?_
                        refine V_icmp_neN (a := d) (b := 8) (tgt := 995) C dL_law_923 (by decide) (by omega) (by omega) (fun h923_814 => ?_) (fun h923_814 => ?_)
                        · refine V_iload C dL_law_995 rfl ?_
                          refine V_bipush (v := (10 : Int32)) C dL_law_997 (by decide) ?_
                          refine V_icmp_geN (a := d) (b := 10) (tgt := 1057) C dL_law_999 (by decide) (by omega) (by omega) (fun h999_815 => ?_) (fun h999_815 => ?_)
                          · refine V_iload C dL_law_1057 rfl ?_
                            refine V_bipush (v := (10 : Int32)) C dL_law_1059 (by decide) ?_
                            refine V_icmp_neN (a := d) (b := 10) (tgt := 1149) C dL_law_1061 (by decide) (by omega) (by omega) (fun h1061_816 => ?_) (fun h1061_816 => ?_)
                            · refine V_iload C dL_law_1149 rfl ?_
                              refine V_bipush (v := (13 : Int32)) C dL_law_1151 (by decide) ?_
                              refine V_icmp_geN (a := d) (b := 13) (tgt := 1364) C dL_law_1153 (by decide) (by omega) (by omega) (fun h1153_817 => ?_) (fun h1153_817 => ?_)
                              · refine V_iload C dL_law_1364 rfl ?_
                                refine V_bipush (v := (13 : Int32)) C dL_law_1366 (by decide) ?_
                                refine V_icmp_neN (a := d) (b := 13) (tgt := 1472) C dL_law_1368 (by decide) (by omega) (by omega) (fun h1368_818 => ?_) (fun h1368_818 => ?_)
                                · exact law_dt K (by omega) hS hh6 hn16 hR8 hD9 (by omega) (by omega) (by omega) (by omega) (by omega) hva hvb  k1630
                                · refine V_iload C dL_law_1371 rfl ?_
                                  refine V_if_leN (a := R) (tgt := 1472) C dL_law_1373 (by decide) (by omega) (fun h1373_819 => ?_) (fun h1373_819 => ?_)
                                  · exact law_dt K (by omega) hS hh6 hn16 hR8 hD9 (by omega) (by omega) (by omega) (by omega) (by omega) hva hvb  k1630
                                  · refine V_iload C dL_law_1376 rfl ?_
                                    refine V_iconst (v := (3 : Int32)) C dL_law_1378 (by decide) ?_
                                    refine V_iand C dL_law_1379 ?_
                                    refine V_eqi (y := nI (a1 % 4)) (pk_andN (by omega) 2 (by decide)) ?_
                                    refine V_if_neN (a := a1 % 4) (tgt := 1472) C dL_law_1380 (by decide) (by omega) (fun h1380_820 => ?_) (fun h1380_820 => ?_)
                                    · exact law_dt K (by omega) hS hh6 hn16 hR8 hD9 (by omega) (by omega) (by omega) (by omega) (by omega) hva hvb  k1630
                                    · exact law_d13 K (by omega) hS hh6 hn16 hR8 hD9 (by omega) (by omega) (by omega) (by omega) (by omega) hva hvb (by omega) k1630
                              · refine V_iload C dL_law_1156 rfl ?_
                                refine V_bipush (v := (8 : Int32)) C dL_law_1158 (by decide) ?_
                                refine V_icmp_geN (a := R) (b := 8) (tgt := 1364) C dL_law_1160 (by decide) (by omega) (by omega) (fun h1160_821 => ?_) (fun h1160_821 => ?_)
                                · refine V_iload C dL_law_1364 rfl ?_
                                  refine V_bipush (v := (13 : Int32)) C dL_law_1366 (by decide) ?_
                                  refine V_icmp_neN (a := d) (b := 13) (tgt := 1472) C dL_law_1368 (by decide) (by omega) (by omega) (fun h1368_822 => ?_) (fun h1368_822 => ?_)
                                  · exact law_dt K (by omega) hS hh6 hn16 hR8 hD9 (by omega) (by omega) (by omega) (by omega) (by omega) hva hvb  k1630
                                  · refine V_iload C dL_law_1371 rfl ?_
                                    refine V_if_leN (a := R) (tgt := 1472) C dL_law_1373 (by decide) (by omega) (fun h1373_823 => ?_) (fun h1373_823 => ?_)
                                    · exact law_dt K (by omega) hS hh6 hn16 hR8 hD9 (by omega) (by omega) (by omega) (by omega) (by omega) hva hvb  k1630
                                    · refine V_iload C dL_law_1376 rfl ?_
                                      refine V_iconst (v := (3 : Int32)) C dL_law_1378 (by decide) ?_
                                      refine V_iand C dL_law_1379 ?_
                                      refine V_eqi (y := nI (a1 % 4)) (pk_andN (by omega) 2 (by decide)) ?_
                                      refine V_if_neN (a := a1 % 4) (tgt := 1472) C dL_law_1380 (by decide) (by omega) (fun h1380_824 => ?_) (fun h1380_824 => ?_)
                                      · exact law_dt K (by omega) hS hh6 hn16 hR8 hD9 (by omega) (by omega) (by omega) (by omega) (by omega) hva hvb  k1630
                                      · exact law_d13 K (by omega) hS hh6 hn16 hR8 hD9 (by omega) (by omega) (by omega) (by omega) (by omega) hva hvb (by omega) k1630
                                · exact law_d11 K (by omega) hS hh6 hn16 hR8 hD9 (by omega) (by omega) (by omega) (by omega) (by omega) hva hvb (by omega) k1630
                            · refine V_iload C dL_law_1064 rfl ?_
                              refine V_iconst (v := (1 : Int32)) C dL_law_1066 (by decide) ?_
                              refine V_iand C dL_law_1067 ?_
                              refine V_eqi (y := nI (a1 % 2)) (pk_andN (by omega) 1 (by decide)) ?_
                              refine V_if_neN (a := a1 % 2) (tgt := 1149) C dL_law_1068 (by decide) (by omega) (fun h1068_825 => ?_) (fun h1068_825 => ?_)
                              · refine V_iload C dL_law_1149 rfl ?_
                                refine V_bipush (v := (13 : Int32)) C dL_law_1151 (by decide) ?_
                                refine V_icmp_geN (a := d) (b := 13) (tgt := 1364) C dL_law_1153 (by decide) (by omega) (by omega) (fun h1153_826 => ?_) (fun h1153_826 => ?_)
                                · refine V_iload C dL_law_1364 rfl ?_
                                  refine V_bipush (v := (13 : Int32)) C dL_law_1366 (by decide) ?_
                                  refine V_icmp_neN (a := d) (b := 13) (tgt := 1472) C dL_law_1368 (by decide) (by omega) (by omega) (fun h1368_827 => ?_) (fun h1368_827 => ?_)
                                  · exact law_dt K (by omega) hS hh6 hn16 hR8 hD9 (by omega) (by omega) (by omega) (by omega) (by omega) hva hvb  k1630
                                  · refine V_iload C dL_law_1371 rfl ?_
                                    refine V_if_leN (a := R) (tgt := 1472) C dL_law_1373 (by decide) (by omega) (fun h1373_828 => ?_) (fun h1373_828 => ?_)
                                    · exact law_dt K (by omega) hS hh6 hn16 hR8 hD9 (by omega) (by omega) (by omega) (by omega) (by omega) hva hvb  k1630
                                    · refine V_iload C dL_law_1376 rfl ?_
                                      refine V_iconst (v := (3 : Int32)) C dL_law_1378 (by decide) ?_
                                      refine V_iand C dL_law_1379 ?_
                                      refine V_eqi (y := nI (a1 % 4)) (pk_andN (by omega) 2 (by decide)) ?_
                                      refine V_if_neN (a := a1 % 4) (tgt := 1472) C dL_law_1380 (by decide) (by omega) (fun h1380_829 => ?_) (fun h1380_829 => ?_)
                                      · exact law_dt K (by omega) hS hh6 hn16 hR8 hD9 (by omega) (by omega) (by omega) (by omega) (by omega) hva hvb  k1630
                                      · exact law_d13 K (by omega) hS hh6 hn16 hR8 hD9 (by omega) (by omega) (by omega) (by omega) (by omega) hva hvb (by omega) k1630
                                · refine V_iload C dL_law_1156 rfl ?_
                                  refine V_bipush (v := (8 : Int32)) C dL_law_1158 (by decide) ?_
                                  refine V_icmp_geN (a := R) (b := 8) (tgt := 1364) C dL_law_1160 (by decide) (by omega) (by omega) (fun h1160_830 => ?_) (fun h1160_830 => ?_)
                                  · refine V_iload C dL_law_1364 rfl ?_
                                    refine V_bipush (v := (13 : Int32)) C dL_law_1366 (by decide) ?_
                                    refine V_icmp_neN (a := d) (b := 13) (tgt := 1472) C dL_law_1368 (by decide) (by omega) (by omega) (fun h1368_831 => ?_) (fun h1368_831 => ?_)
                                    · exact law_dt K (by omega) hS hh6 hn16 hR8 hD9 (by omega) (by omega) (by omega) (by omega) (by omega) hva hvb  k1630
                                    · refine V_iload C dL_law_1371 rfl ?_
                                      refine V_if_leN (a := R) (tgt := 1472) C dL_law_1373 (by decide) (by omega) (fun h1373_832 => ?_) (fun h1373_832 => ?_)
                                      · exact law_dt K (by omega) hS hh6 hn16 hR8 hD9 (by omega) (by omega) (by omega) (by omega) (by omega) hva hvb  k1630
                                      · refine V_iload C dL_law_1376 rfl ?_
                                        refine V_iconst (v := (3 : Int32)) C dL_law_1378 (by decide) ?_
                                        refine V_iand C dL_law_1379 ?_
                                        refine V_eqi (y := nI (a1 % 4)) (pk_andN (by omega) 2 (by decide)) ?_
                                        refine V_if_neN (a := a1 % 4) (tgt := 1472) C dL_law_1380 (by decide) (by omega) (fun h1380_833 => ?_) (fun h1380_833 => ?_)
                                        · exact law_dt K (by omega) hS hh6 hn16 hR8 hD9 (by omega) (by omega) (by omega) (by omega) (by omega) hva hvb  k1630
                                        · exact law_d13 K (by omega) hS hh6 hn16 hR8 hD9 (by omega) (by omega) (by omega) (by omega) (by omega) hva hvb (by omega) k1630
                                  · exact law_d11 K (by omega) hS hh6 hn16 hR8 hD9 (by omega) (by omega) (by omega) (by omega) (by omega) hva hvb (by omega) k1630
                              · exact law_d10 K (by omega) hS hh6 hn16 hR8 hD9 (by omega) (by omega) (by omega) (by omega) (by omega) hva hvb  k1630
                          · exact law_d9 K (by omega) hS hh6 hn16 hR8 hD9 (by omega) (by omega) (by omega) (by omega) (by omega) hva hvb  k1630
                        · refine V_iload C dL_law_926 rfl ?_
                          refine V_if_leN (a := n) (tgt := 995) C dL_law_928 (by decide) (by omega) (fun h928_834 => ?_) (fun h928_834 => ?_)
                          · refine V_iload C dL_law_995 rfl ?_
                            refine V_bipush (v := (10 : Int32)) C dL_law_997 (by decide) ?_
                            refine V_icmp_geN (a := d) (b := 10) (tgt := 1057) C dL_law_999 (by decide) (by omega) (by omega) (fun h999_835 => ?_) (fun h999_835 => ?_)
                            · refine V_iload C dL_law_1057 rfl ?_
                              refine V_bipush (v := (10 : Int32)) C dL_law_1059 (by decide) ?_
                              refine V_icmp_neN (a := d) (b := 10) (tgt := 1149) C dL_law_1061 (by decide) (by omega) (by omega) (fun h1061_836 => ?_) (fun h1061_836 => ?_)
                              · refine V_iload C dL_law_1149 rfl ?_
                                refine V_bipush (v := (13 : Int32)) C dL_law_1151 (by decide) ?_
                                refine V_icmp_geN (a := d) (b := 13) (tgt := 1364) C dL_law_1153 (by decide) (by omega) (by omega) (fun h1153_837 => ?_) (fun h1153_837 => ?_)
                                · refine V_iload C dL_law_1364 rfl ?_
                                  refine V_bipush (v := (13 : Int32)) C dL_law_1366 (by decide) ?_
                                  refine V_icmp_neN (a := d) (b := 13) (tgt := 1472) C dL_law_1368 (by decide) (by omega) (by omega) (fun h1368_838 => ?_) (fun h1368_838 => ?_)
                                  · exact law_dt K (by omega) hS hh6 hn16 hR8 hD9 (by omega) (by omega) (by omega) (by omega) (by omega) hva hvb  k1630
                                  · refine V_iload C dL_law_1371 rfl ?_
                                    refine V_if_leN (a := R) (tgt := 1472) C dL_law_1373 (by decide) (by omega) (fun h1373_839 => ?_) (fun h1373_839 => ?_)
                                    · exact law_dt K (by omega) hS hh6 hn16 hR8 hD9 (by omega) (by omega) (by omega) (by omega) (by omega) hva hvb  k1630
                                    · refine V_iload C dL_law_1376 rfl ?_
                                      refine V_iconst (v := (3 : Int32)) C dL_law_1378 (by decide) ?_
                                      refine V_iand C dL_law_1379 ?_
                                      refine V_eqi (y := nI (a1 % 4)) (pk_andN (by omega) 2 (by decide)) ?_
                                      refine V_if_neN (a := a1 % 4) (tgt := 1472) C dL_law_1380 (by decide) (by omega) (fun h1380_840 => ?_) (fun h1380_840 => ?_)
                                      · exact law_dt K (by omega) hS hh6 hn16 hR8 hD9 (by omega) (by omega) (by omega) (by omega) (by omega) hva hvb  k1630
                                      · exact law_d13 K (by omega) hS hh6 hn16 hR8 hD9 (by omega) (by omega) (by omega) (by omega) (by omega) hva hvb (by omega) k1630
                                · refine V_iload C dL_law_1156 rfl ?_
                                  refine V_bipush (v := (8 : Int32)) C dL_law_1158 (by decide) ?_
                                  refine V_icmp_geN (a := R) (b := 8) (tgt := 1364) C dL_law_1160 (by decide) (by omega) (by omega) (fun h1160_841 => ?_) (fun h1160_841 => ?_)
                                  · refine V_iload C dL_law_1364 rfl ?_
                                    refine V_bipush (v := (13 : Int32)) C dL_law_1366 (by decide) ?_
                                    refine V_icmp_neN (a := d) (b := 13) (tgt := 1472) C dL_law_1368 (by decide) (by omega) (by omega) (fun h1368_842 => ?_) (fun h1368_842 => ?_)
                                    · exact law_dt K (by omega) hS hh6 hn16 hR8 hD9 (by omega) (by omega) (by omega) (by omega) (by omega) hva hvb  k1630
                                    · refine V_iload C dL_law_1371 rfl ?_
                                      refine V_if_leN (a := R) (tgt := 1472) C dL_law_1373 (by decide) (by omega) (fun h1373_843 => ?_) (fun h1373_843 => ?_)
                                      · exact law_dt K (by omega) hS hh6 hn16 hR8 hD9 (by omega) (by omega) (by omega) (by omega) (by omega) hva hvb  k1630
                                      · refine V_iload C dL_law_1376 rfl ?_
                                        refine V_iconst (v := (3 : Int32)) C dL_law_1378 (by decide) ?_
                                        refine V_iand C dL_law_1379 ?_
                                        refine V_eqi (y := nI (a1 % 4)) (pk_andN (by omega) 2 (by decide)) ?_
                                        refine V_if_neN (a := a1 % 4) (tgt := 1472) C dL_law_1380 (by decide) (by omega) (fun h1380_844 => ?_) (fun h1380_844 => ?_)
                                        · exact law_dt K (by omega) hS hh6 hn16 hR8 hD9 (by omega) (by omega) (by omega) (by omega) (by omega) hva hvb  k1630
                                        · exact law_d13 K (by omega) hS hh6 hn16 hR8 hD9 (by omega) (by omega) (by omega) (by omega) (by omega) hva hvb (by omega) k1630
                                  · exact law_d11 K (by omega) hS hh6 hn16 hR8 hD9 (by omega) (by omega) (by omega) (by omega) (by omega) hva hvb (by omega) k1630
                              · refine V_iload C dL_law_1064 rfl ?_
                                refine V_iconst (v := (1 : Int32)) C dL_law_1066 (by decide) ?_
                                refine V_iand C dL_law_1067 ?_
                                refine V_eqi (y := nI (a1 % 2)) (pk_andN (by omega) 1 (by decide)) ?_
                                refine V_if_neN (a := a1 % 2) (tgt := 1149) C dL_law_1068 (by decide) (by omega) (fun h1068_845 => ?_) (fun h1068_845 => ?_)
                                · refine V_iload C dL_law_1149 rfl ?_
                                  refine V_bipush (v := (13 : Int32)) C dL_law_1151 (by decide) ?_
                                  refine V_icmp_geN (a := d) (b := 13) (tgt := 1364) C dL_law_1153 (by decide) (by omega) (by omega) (fun h1153_846 => ?_) (fun h1153_846 => ?_)
                                  · refine V_iload C dL_law_1364 rfl ?_
                                    refine V_bipush (v := (13 : Int32)) C dL_law_1366 (by decide) ?_
                                    refine V_icmp_neN (a := d) (b := 13) (tgt := 1472) C dL_law_1368 (by decide) (by omega) (by omega) (fun h1368_847 => ?_) (fun h1368_847 => ?_)
                                    · exact law_dt K (by omega) hS hh6 hn16 hR8 hD9 (by omega) (by omega) (by omega) (by omega) (by omega) hva hvb  k1630
                                    · refine V_iload C dL_law_1371 rfl ?_
                                      refine V_if_leN (a := R) (tgt := 1472) C dL_law_1373 (by decide) (by omega) (fun h1373_848 => ?_) (fun h1373_848 => ?_)
                                      · exact law_dt K (by omega) hS hh6 hn16 hR8 hD9 (by omega) (by omega) (by omega) (by omega) (by omega) hva hvb  k1630
                                      · refine V_iload C dL_law_1376 rfl ?_
                                        refine V_iconst (v := (3 : Int32)) C dL_law_1378 (by decide) ?_
                                        refine V_iand C dL_law_1379 ?_
                                        refine V_eqi (y := nI (a1 % 4)) (pk_andN (by omega) 2 (by decide)) ?_
                                        refine V_if_neN (a := a1 % 4) (tgt := 1472) C dL_law_1380 (by decide) (by omega) (fun h1380_849 => ?_) (fun h1380_849 => ?_)
                                        · exact law_dt K (by omega) hS hh6 hn16 hR8 hD9 (by omega) (by omega) (by omega) (by omega) (by omega) hva hvb  k1630
                                        · exact law_d13 K (by omega) hS hh6 hn16 hR8 hD9 (by omega) (by omega) (by omega) (by omega) (by omega) hva hvb (by omega) k1630
                                  · refine V_iload C dL_law_1156 rfl ?_
                                    refine V_bipush (v := (8 : Int32)) C dL_law_1158 (by decide) ?_
                                    refine V_icmp_geN (a := R) (b := 8) (tgt := 1364) C dL_law_1160 (by decide) (by omega) (by omega) (fun h1160_850 => ?_) (fun h1160_850 => ?_)
                                    · refine V_iload C dL_law_1364 rfl ?_
                                      refine V_bipush (v := (13 : Int32)) C dL_law_1366 (by decide) ?_
                                      refine V_icmp_neN (a := d) (b := 13) (tgt := 1472) C dL_law_1368 (by decide) (by omega) (by omega) (fun h1368_851 => ?_) (fun h1368_851 => ?_)
                                      · exact law_dt K (by omega) hS hh6 hn16 hR8 hD9 (by omega) (by omega) (by omega) (by omega) (by omega) hva hvb  k1630
                                      · refine V_iload C dL_law_1371 rfl ?_
                                        refine V_if_leN (a := R) (tgt := 1472) C dL_law_1373 (by decide) (by omega) (fun h1373_852 => ?_) (fun h1373_852 => ?_)
                                        · exact law_dt K (by omega) hS hh6 hn16 hR8 hD9 (by omega) (by omega) (by omega) (by omega) (by omega) hva hvb  k1630
                                        · refine V_iload C dL_law_1376 rfl ?_
                                          refine V_iconst (v := (3 : Int32)) C dL_law_1378 (by decide) ?_
                                          refine V_iand C dL_law_1379 ?_
                                          refine V_eqi (y := nI (a1 % 4)) (pk_andN (by omega) 2 (by decide)) ?_
                                          refine V_if_neN (a := a1 % 4) (tgt := 1472) C dL_law_1380 (by decide) (by omega) (fun h1380_853 => ?_) (fun h1380_853 => ?_)
                                          · exact law_dt K (by omega) hS hh6 hn16 hR8 hD9 (by omega) (by omega) (by omega) (by omega) (by omega) hva hvb  k1630
                                          · exact law_d13 K (by omega) hS hh6 hn16 hR8 hD9 (by omega) (by omega) (by omega) (by omega) (by omega) hva hvb (by omega) k1630
                                    · exact law_d11 K (by omega) hS hh6 hn16 hR8 hD9 (by omega) (by omega) (by omega) (by omega) (by omega) hva hvb (by omega) k1630
                                · exact law_d10 K (by omega) hS hh6 hn16 hR8 hD9 (by omega) (by omega) (by omega) (by omega) (by omega) hva hvb  k1630
                            · exact law_d9 K (by omega) hS hh6 hn16 hR8 hD9 (by omega) (by omega) (by omega) (by omega) (by omega) hva hvb  k1630
                          · refine V_iload C dL_law_931 rfl ?_
                            refine V_iconst (v := (3 : Int32)) C dL_law_933 (by decide) ?_
                            refine V_iand C dL_law_934 ?_
                            refine V_eqi (y := nI (a1 % 4)) (pk_andN (by omega) 2 (by decide)) ?_
                            refine V_if_neN (a := a1 % 4) (tgt := 995) C dL_law_935 (by decide) (by omega) (fun h935_854 => ?_) (fun h935_854 => ?_)
                            · refine V_iload C dL_law_995 rfl ?_
                              refine V_bipush (v := (10 : Int32)) C dL_law_997 (by decide) ?_
                              refine V_icmp_geN (a := d) (b := 10) (tgt := 1057) C dL_law_999 (by decide) (by omega) (by omega) (fun h999_855 => ?_) (fun h999_855 => ?_)
                              · refine V_iload C dL_law_1057 rfl ?_
                                refine V_bipush (v := (10 : Int32)) C dL_law_1059 (by decide) ?_
                                refine V_icmp_neN (a := d) (b := 10) (tgt := 1149) C dL_law_1061 (by decide) (by omega) (by omega) (fun h1061_856 => ?_) (fun h1061_856 => ?_)
                                · refine V_iload C dL_law_1149 rfl ?_
                                  refine V_bipush (v := (13 : Int32)) C dL_law_1151 (by decide) ?_
                                  refine V_icmp_geN (a := d) (b := 13) (tgt := 1364) C dL_law_1153 (by decide) (by omega) (by omega) (fun h1153_857 => ?_) (fun h1153_857 => ?_)
                                  · refine V_iload C dL_law_1364 rfl ?_
                                    refine V_bipush (v := (13 : Int32)) C dL_law_1366 (by decide) ?_
                                    refine V_icmp_neN (a := d) (b := 13) (tgt := 1472) C dL_law_1368 (by decide) (by omega) (by omega) (fun h1368_858 => ?_) (fun h1368_858 => ?_)
                                    · exact law_dt K (by omega) hS hh6 hn16 hR8 hD9 (by omega) (by omega) (by omega) (by omega) (by omega) hva hvb  k1630
                                    · refine V_iload C dL_law_1371 rfl ?_
                                      refine V_if_leN (a := R) (tgt := 1472) C dL_law_1373 (by decide) (by omega) (fun h1373_859 => ?_) (fun h1373_859 => ?_)
                                      · exact law_dt K (by omega) hS hh6 hn16 hR8 hD9 (by omega) (by omega) (by omega) (by omega) (by omega) hva hvb  k1630
                                      · refine V_iload C dL_law_1376 rfl ?_
                                        refine V_iconst (v := (3 : Int32)) C dL_law_1378 (by decide) ?_
                                        refine V_iand C dL_law_1379 ?_
                                        refine V_eqi (y := nI (a1 % 4)) (pk_andN (by omega) 2 (by decide)) ?_
                                        refine V_if_neN (a := a1 % 4) (tgt := 1472) C dL_law_1380 (by decide) (by omega) (fun h1380_860 => ?_) (fun h1380_860 => ?_)
                                        · exact law_dt K (by omega) hS hh6 hn16 hR8 hD9 (by omega) (by omega) (by omega) (by omega) (by omega) hva hvb  k1630
                                        · exact law_d13 K (by omega) hS hh6 hn16 hR8 hD9 (by omega) (by omega) (by omega) (by omega) (by omega) hva hvb (by omega) k1630
                                  · refine V_iload C dL_law_1156 rfl ?_
                                    refine V_bipush (v := (8 : Int32)) C dL_law_1158 (by decide) ?_
                                    refine V_icmp_geN (a := R) (b := 8) (tgt := 1364) C dL_law_1160 (by decide) (by omega) (by omega) (fun h1160_861 => ?_) (fun h1160_861 => ?_)
                                    · refine V_iload C dL_law_1364 rfl ?_
                                      refine V_bipush (v := (13 : Int32)) C dL_law_1366 (by decide) ?_
                                      refine V_icmp_neN (a := d) (b := 13) (tgt := 1472) C dL_law_1368 (by decide) (by omega) (by omega) (fun h1368_862 => ?_) (fun h1368_862 => ?_)
                                      · exact law_dt K (by omega) hS hh6 hn16 hR8 hD9 (by omega) (by omega) (by omega) (by omega) (by omega) hva hvb  k1630
                                      · refine V_iload C dL_law_1371 rfl ?_
                                        refine V_if_leN (a := R) (tgt := 1472) C dL_law_1373 (by decide) (by omega) (fun h1373_863 => ?_) (fun h1373_863 => ?_)
                                        · exact law_dt K (by omega) hS hh6 hn16 hR8 hD9 (by omega) (by omega) (by omega) (by omega) (by omega) hva hvb  k1630
                                        · refine V_iload C dL_law_1376 rfl ?_
                                          refine V_iconst (v := (3 : Int32)) C dL_law_1378 (by decide) ?_
                                          refine V_iand C dL_law_1379 ?_
                                          refine V_eqi (y := nI (a1 % 4)) (pk_andN (by omega) 2 (by decide)) ?_
                                          refine V_if_neN (a := a1 % 4) (tgt := 1472) C dL_law_1380 (by decide) (by omega) (fun h1380_864 => ?_) (fun h1380_864 => ?_)
                                          · exact law_dt K (by omega) hS hh6 hn16 hR8 hD9 (by omega) (by omega) (by omega) (by omega) (by omega) hva hvb  k1630
                                          · exact law_d13 K (by omega) hS hh6 hn16 hR8 hD9 (by omega) (by omega) (by omega) (by omega) (by omega) hva hvb (by omega) k1630
                                    · exact law_d11 K (by omega) hS hh6 hn16 hR8 hD9 (by omega) (by omega) (by omega) (by omega) (by omega) hva hvb (by omega) k1630
                                · refine V_iload C dL_law_1064 rfl ?_
                                  refine V_iconst (v := (1 : Int32)) C dL_law_1066 (by decide) ?_
                                  refine V_iand C dL_law_1067 ?_
                                  refine V_eqi (y := nI (a1 % 2)) (pk_andN (by omega) 1 (by decide)) ?_
                                  refine V_if_neN (a := a1 % 2) (tgt := 1149) C dL_law_1068 (by decide) (by omega) (fun h1068_865 => ?_) (fun h1068_865 => ?_)
                                  · refine V_iload C dL_law_1149 rfl ?_
                                    refine V_bipush (v := (13 : Int32)) C dL_law_1151 (by decide) ?_
                                    refine V_icmp_geN (a := d) (b := 13) (tgt := 1364) C dL_law_1153 (by decide) (by omega) (by omega) (fun h1153_866 => ?_) (fun h1153_866 => ?_)
                                    · refine V_iload C dL_law_1364 rfl ?_
                                      refine V_bipush (v := (13 : Int32)) C dL_law_1366 (by decide) ?_
                                      refine V_icmp_neN (a := d) (b := 13) (tgt := 1472) C dL_law_1368 (by decide) (by omega) (by omega) (fun h1368_867 => ?_) (fun h1368_867 => ?_)
                                      · exact law_dt K (by omega) hS hh6 hn16 hR8 hD9 (by omega) (by omega) (by omega) (by omega) (by omega) hva hvb  k1630
                                      · refine V_iload C dL_law_1371 rfl ?_
                                        refine V_if_leN (a := R) (tgt := 1472) C dL_law_1373 (by decide) (by omega) (fun h1373_868 => ?_) (fun h1373_868 => ?_)
                                        · exact law_dt K (by omega) hS hh6 hn16 hR8 hD9 (by omega) (by omega) (by omega) (by omega) (by omega) hva hvb  k1630
                                        · refine V_iload C dL_law_1376 rfl ?_
                                          refine V_iconst (v := (3 : Int32)) C dL_law_1378 (by decide) ?_
                                          refine V_iand C dL_law_1379 ?_
                                          refine V_eqi (y := nI (a1 % 4)) (pk_andN (by omega) 2 (by decide)) ?_
                                          refine V_if_neN (a := a1 % 4) (tgt := 1472) C dL_law_1380 (by decide) (by omega) (fun h1380_869 => ?_) (fun h1380_869 => ?_)
                                          · exact law_dt K (by omega) hS hh6 hn16 hR8 hD9 (by omega) (by omega) (by omega) (by omega) (by omega) hva hvb  k1630
                                          · exact law_d13 K (by omega) hS hh6 hn16 hR8 hD9 (by omega) (by omega) (by omega) (by omega) (by omega) hva hvb (by omega) k1630
                                    · refine V_iload C dL_law_1156 rfl ?_
                                      refine V_bipush (v := (8 : Int32)) C dL_law_1158 (by decide) ?_
                                      refine V_icmp_geN (a := R) (b := 8) (tgt := 1364) C dL_law_1160 (by decide) (by omega) (by omega) (fun h1160_870 => ?_) (fun h1160_870 => ?_)
                                      · refine V_iload C dL_law_1364 rfl ?_
                                        refine V_bipush (v := (13 : Int32)) C dL_law_1366 (by decide) ?_
                                        refine V_icmp_neN (a := d) (b := 13) (tgt := 1472) C dL_law_1368 (by decide) (by omega) (by omega) (fun h1368_871 => ?_) (fun h1368_871 => ?_)
                                        · exact law_dt K (by omega) hS hh6 hn16 hR8 hD9 (by omega) (by omega) (by omega) (by omega) (by omega) hva hvb  k1630
                                        · refine V_iload C dL_law_1371 rfl ?_
                                          refine V_if_leN (a := R) (tgt := 1472) C dL_law_1373 (by decide) (by omega) (fun h1373_872 => ?_) (fun h1373_872 => ?_)
                                          · exact law_dt K (by omega) hS hh6 hn16 hR8 hD9 (by omega) (by omega) (by omega) (by omega) (by omega) hva hvb  k1630
                                          · refine V_iload C dL_law_1376 rfl ?_
                                            refine V_iconst (v := (3 : Int32)) C dL_law_1378 (by decide) ?_
                                            refine V_iand C dL_law_1379 ?_
                                            refine V_eqi (y := nI (a1 % 4)) (pk_andN (by omega) 2 (by decide)) ?_
                                            refine V_if_neN (a := a1 % 4) (tgt := 1472) C dL_law_1380 (by decide) (by omega) (fun h1380_873 => ?_) (fun h1380_873 => ?_)
                                            · exact law_dt K (by omega) hS hh6 hn16 hR8 hD9 (by omega) (by omega) (by omega) (by omega) (by omega) hva hvb  k1630
                                            · exact law_d13 K (by omega) hS hh6 hn16 hR8 hD9 (by omega) (by omega) (by omega) (by omega) (by omega) hva hvb (by omega) k1630
                                      · exact law_d11 K (by omega) hS hh6 hn16 hR8 hD9 (by omega) (by omega) (by omega) (by omega) (by omega) hva hvb (by omega) k1630
                                  · exact law_d10 K (by omega) hS hh6 hn16 hR8 hD9 (by omega) (by omega) (by omega) (by omega) (by omega) hva hvb  k1630
                              · exact law_d9 K (by omega) hS hh6 hn16 hR8 hD9 (by omega) (by omega) (by omega) (by omega) (by omega) hva hvb  k1630
                            · exact law_d8 K (by omega) hS hh6 hn16 hR8 hD9 (by omega) (by omega) (by omega) (by omega) (by omega) hva hvb (by omega) k1630
                      · exact law_d7 K (by omega) hS hh6 hn16 hR8 hD9 (by omega) (by omega) (by omega) (by omega) (by omega) hva hvb (by omega) k1630
                  · refine V_iload C dL_law_712 rfl ?_
                    refine V_if_leN (a := n) (tgt := 856) C dL_law_714 (by decide) (by omega) (fun h714_874 => ?_) (fun h714_874 => ?_)
                    · refine V_iload C dL_law_856 rfl ?_
                      refine V_bipush (v := (7 : Int32)) C dL_law_858 (by decide) ?_
                      refine V_icmp_neN (a := d) (b := 7) (tgt := 919) C dL_law_860 (by decide) (by omega) (by omega) (fun h860_875 => ?_) (fun h860_875 => ?_)
                      · refine V_iload C dL_law_919 rfl ?_
                        refine V_bipush (v := (8 : Int32)) C dL_law_921 (by decide) ?_
                        refine V_icmp_neN (a := d) (b := 8) (tgt := 995) C dL_law_923 (by decide) (by omega) (by omega) (fun h923_876 => ?_) (fun h923_876 => ?_)
                        · refine V_iload C dL_law_995 rfl ?_
                          refine V_bipush (v := (10 : Int32)) C dL_law_997 (by decide) ?_
                          refine V_icmp_geN (a := d) (b := 10) (tgt := 1057) C dL_law_999 (by decide) (by omega) (by omega) (fun h999_877 => ?_) (fun h999_877 => ?_)
                          · refine V_iload C dL_law_1057 rfl ?_
                            refine V_bipush (v := (10 : Int32)) C dL_law_1059 (by decide) ?_
                            refine V_icmp_neN (a := d) (b := 10) (tgt := 1149) C dL_law_1061 (by decide) (by omega) (by omega) (fun h1061_878 => ?_) (fun h1061_878 => ?_)
                            · refine V_iload C dL_law_1149 rfl ?_
                              refine V_bipush (v := (13 : Int32)) C dL_law_1151 (by decide) ?_
                              refine V_icmp_geN (a := d) (b := 13) (tgt := 1364) C dL_law_1153 (by decide) (by omega) (by omega) (fun h1153_879 => ?_) (fun h1153_879 => ?_)
                              · refine V_iload C dL_law_1364 rfl ?_
                                refine V_bipush (v := (13 : Int32)) C dL_law_1366 (by decide) ?_
                                refine V_icmp_neN (a := d) (b := 13) (tgt := 1472) C dL_law_1368 (by decide) (by omega) (by omega) (fun h1368_880 => ?_) (fun h1368_880 => ?_)
                                · exact law_dt K (by omega) hS hh6 hn16 hR8 hD9 (by omega) (by omega) (by omega) (by omega) (by omega) hva hvb  k1630
                                · refine V_iload C dL_law_1371 rfl ?_
                                  refine V_if_leN (a := R) (tgt := 1472) C dL_law_1373 (by decide) (by omega) (fun h1373_881 => ?_) (fun h1373_881 => ?_)
                                  · exact law_dt K (by omega) hS hh6 hn16 hR8 hD9 (by omega) (by omega) (by omega) (by omega) (by omega) hva hvb  k1630
                                  · refine V_iload C dL_law_1376 rfl ?_
                                    refine V_iconst (v := (3 : Int32)) C dL_law_1378 (by decide) ?_
                                    refine V_iand C dL_law_1379 ?_
                                    refine V_eqi (y := nI (a1 % 4)) (pk_andN (by omega) 2 (by decide)) ?_
                                    refine V_if_neN (a := a1 % 4) (tgt := 1472) C dL_law_1380 (by decide) (by omega) (fun h1380_882 => ?_) (fun h1380_882 => ?_)
                                    · exact law_dt K (by omega) hS hh6 hn16 hR8 hD9 (by omega) (by omega) (by omega) (by omega) (by omega) hva hvb  k1630
                                    · exact law_d13 K (by omega) hS hh6 hn16 hR8 hD9 (by omega) (by omega) (by omega) (by omega) (by omega) hva hvb (by omega) k1630
                              · refine V_iload C dL_law_1156 rfl ?_
                                refine V_bipush (v := (8 : Int32)) C dL_law_1158 (by decide) ?_
                                refine V_icmp_geN (a := R) (b := 8) (tgt := 1364) C dL_law_1160 (by decide) (by omega) (by omega) (fun h1160_883 => ?_) (fun h1160_883 => ?_)
                                · refine V_iload C dL_law_1364 rfl ?_
                                  refine V_bipush (v := (13 : Int32)) C dL_law_1366 (by decide) ?_
                                  refine V_icmp_neN (a := d) (b := 13) (tgt := 1472) C dL_law_1368 (by decide) (by omega) (by omega) (fun h1368_884 => ?_) (fun h1368_884 => ?_)
                                  · exact law_dt K (by omega) hS hh6 hn16 hR8 hD9 (by omega) (by omega) (by omega) (by omega) (by omega) hva hvb  k1630
                                  · refine V_iload C dL_law_1371 rfl ?_
                                    refine V_if_leN (a := R) (tgt := 1472) C dL_law_1373 (by decide) (by omega) (fun h1373_885 => ?_) (fun h1373_885 => ?_)
                                    · exact law_dt K (by omega) hS hh6 hn16 hR8 hD9 (by omega) (by omega) (by omega) (by omega) (by omega) hva hvb  k1630
                                    · refine V_iload C dL_law_1376 rfl ?_
                                      refine V_iconst (v := (3 : Int32)) C dL_law_1378 (by decide) ?_
                                      refine V_iand C dL_law_1379 ?_
                                      refine V_eqi (y := nI (a1 % 4)) (pk_andN (by omega) 2 (by decide)) ?_
                                      refine V_if_neN (a := a1 % 4) (tgt := 1472) C dL_law_1380 (by decide) (by omega) (fun h1380_886 => ?_) (fun h1380_886 => ?_)
                                      · exact law_dt K (by omega) hS hh6 hn16 hR8 hD9 (by omega) (by omega) (by omega) (by omega) (by omega) hva hvb  k1630
                                      · exact law_d13 K (by omega) hS hh6 hn16 hR8 hD9 (by omega) (by omega) (by omega) (by omega) (by omega) hva hvb (by omega) k1630
                                · exact law_d11 K (by omega) hS hh6 hn16 hR8 hD9 (by omega) (by omega) (by omega) (by omega) (by omega) hva hvb (by omega) k1630
                            · refine V_iload C dL_law_1064 rfl ?_
                              refine V_iconst (v := (1 : Int32)) C dL_law_1066 (by decide) ?_
                              refine V_iand C dL_law_1067 ?_
                              refine V_eqi (y := nI (a1 % 2)) (pk_andN (by omega) 1 (by decide)) ?_
                              refine V_if_neN (a := a1 % 2) (tgt := 1149) C dL_law_1068 (by decide) (by omega) (fun h1068_887 => ?_) (fun h1068_887 => ?_)
                              · refine V_iload C dL_law_1149 rfl ?_
                                refine V_bipush (v := (13 : Int32)) C dL_law_1151 (by decide) ?_
                                refine V_icmp_geN (a := d) (b := 13) (tgt := 1364) C dL_law_1153 (by decide) (by omega) (by omega) (fun h1153_888 => ?_) (fun h1153_888 => ?_)
                                · refine V_iload C dL_law_1364 rfl ?_
                                  refine V_bipush (v := (13 : Int32)) C dL_law_1366 (by decide) ?_
                                  refine V_icmp_neN (a := d) (b := 13) (tgt := 1472) C dL_law_1368 (by decide) (by omega) (by omega) (fun h1368_889 => ?_) (fun h1368_889 => ?_)
                                  · exact law_dt K (by omega) hS hh6 hn16 hR8 hD9 (by omega) (by omega) (by omega) (by omega) (by omega) hva hvb  k1630
                                  · refine V_iload C dL_law_1371 rfl ?_
                                    refine V_if_leN (a := R) (tgt := 1472) C dL_law_1373 (by decide) (by omega) (fun h1373_890 => ?_) (fun h1373_890 => ?_)
                                    · exact law_dt K (by omega) hS hh6 hn16 hR8 hD9 (by omega) (by omega) (by omega) (by omega) (by omega) hva hvb  k1630
                                    · refine V_iload C dL_law_1376 rfl ?_
                                      refine V_iconst (v := (3 : Int32)) C dL_law_1378 (by decide) ?_
                                      refine V_iand C dL_law_1379 ?_
                                      refine V_eqi (y := nI (a1 % 4)) (pk_andN (by omega) 2 (by decide)) ?_
                                      refine V_if_neN (a := a1 % 4) (tgt := 1472) C dL_law_1380 (by decide) (by omega) (fun h1380_891 => ?_) (fun h1380_891 => ?_)
                                      · exact law_dt K (by omega) hS hh6 hn16 hR8 hD9 (by omega) (by omega) (by omega) (by omega) (by omega) hva hvb  k1630
                                      · exact law_d13 K (by omega) hS hh6 hn16 hR8 hD9 (by omega) (by omega) (by omega) (by omega) (by omega) hva hvb (by omega) k1630
                                · refine V_iload C dL_law_1156 rfl ?_
                                  refine V_bipush (v := (8 : Int32)) C dL_law_1158 (by decide) ?_
                                  refine V_icmp_geN (a := R) (b := 8) (tgt := 1364) C dL_law_1160 (by decide) (by omega) (by omega) (fun h1160_892 => ?_) (fun h1160_892 => ?_)
                                  · refine V_iload C dL_law_1364 rfl ?_
                                    refine V_bipush (v := (13 : Int32)) C dL_law_1366 (by decide) ?_
                                    refine V_icmp_neN (a := d) (b := 13) (tgt := 1472) C dL_law_1368 (by decide) (by omega) (by omega) (fun h1368_893 => ?_) (fun h1368_893 => ?_)
                                    · exact law_dt K (by omega) hS hh6 hn16 hR8 hD9 (by omega) (by omega) (by omega) (by omega) (by omega) hva hvb  k1630
                                    · refine V_iload C dL_law_1371 rfl ?_
                                      refine V_if_leN (a := R) (tgt := 1472) C dL_law_1373 (by decide) (by omega) (fun h1373_894 => ?_) (fun h1373_894 => ?_)
                                      · exact law_dt K (by omega) hS hh6 hn16 hR8 hD9 (by omega) (by omega) (by omega) (by omega) (by omega) hva hvb  k1630
                                      · refine V_iload C dL_law_1376 rfl ?_
                                        refine V_iconst (v := (3 : Int32)) C dL_law_1378 (by decide) ?_
                                        refine V_iand C dL_law_1379 ?_
                                        refine V_eqi (y := nI (a1 % 4)) (pk_andN (by omega) 2 (by decide)) ?_
                                        refine V_if_neN (a := a1 % 4) (tgt := 1472) C dL_law_1380 (by decide) (by omega) (fun h1380_895 => ?_) (fun h1380_895 => ?_)
                                        · exact law_dt K (by omega) hS hh6 hn16 hR8 hD9 (by omega) (by omega) (by omega) (by omega) (by omega) hva hvb  k1630
                                        · exact law_d13 K (by omega) hS hh6 hn16 hR8 hD9 (by omega) (by omega) (by omega) (by omega) (by omega) hva hvb (by omega) k1630
                                  · exact law_d11 K (by omega) hS hh6 hn16 hR8 hD9 (by omega) (by omega) (by omega) (by omega) (by omega) hva hvb (by omega) k1630
                              · exact law_d10 K (by omega) hS hh6 hn16 hR8 hD9 (by omega) (by omega) (by omega) (by omega) (by omega) hva hvb  k1630
                          · exact law_d9 K (by omega) hS hh6 hn16 hR8 hD9 (by omega) (by omega) (by omega) (by omega) (by omega) hva hvb  k1630
                        · refine V_iload C dL_law_926 rfl ?_
                          refine V_if_leN (a := n) (tgt := 995) C dL_law_928 (by decide) (by omega) (fun h928_896 => ?_) (fun h928_896 => ?_)
                          · refine V_iload C dL_law_995 rfl ?_
                            refine V_bipush (v := (10 : Int32)) C dL_law_997 (by decide) ?_
                            refine V_icmp_geN (a := d) (b := 10) (tgt := 1057) C dL_law_999 (by decide) (by omega) (by omega) (fun h999_897 => ?_) (fun h999_897 => ?_)
                            · refine V_iload C dL_law_1057 rfl ?_
                              refine V_bipush (v := (10 : Int32)) C dL_law_1059 (by decide) ?_
                              refine V_icmp_neN (a := d) (b := 10) (tgt := 1149) C dL_law_1061 (by decide) (by omega) (by omega) (fun h1061_898 => ?_) (fun h1061_898 => ?_)
                              · refine V_iload C dL_law_1149 rfl ?_
                                refine V_bipush (v := (13 : Int32)) C dL_law_1151 (by decide) ?_
                                refine V_icmp_geN (a := d) (b := 13) (tgt := 1364) C dL_law_1153 (by decide) (by omega) (by omega) (fun h1153_899 => ?_) (fun h1153_899 => ?_)
                                · refine V_iload C dL_law_1364 rfl ?_
                                  refine V_bipush (v := (13 : Int32)) C dL_law_1366 (by decide) ?_
                                  refine V_icmp_neN (a := d) (b := 13) (tgt := 1472) C dL_law_1368 (by decide) (by omega) (by omega) (fun h1368_900 => ?_) (fun h1368_900 => ?_)
                                  · exact law_dt K (by omega) hS hh6 hn16 hR8 hD9 (by omega) (by omega) (by omega) (by omega) (by omega) hva hvb  k1630
                                  · refine V_iload C dL_law_1371 rfl ?_
                                    refine V_if_leN (a := R) (tgt := 1472) C dL_law_1373 (by decide) (by omega) (fun h1373_901 => ?_) (fun h1373_901 => ?_)
                                    · exact law_dt K (by omega) hS hh6 hn16 hR8 hD9 (by omega) (by omega) (by omega) (by omega) (by omega) hva hvb  k1630
                                    · refine V_iload C dL_law_1376 rfl ?_
                                      refine V_iconst (v := (3 : Int32)) C dL_law_1378 (by decide) ?_
                                      refine V_iand C dL_law_1379 ?_
                                      refine V_eqi (y := nI (a1 % 4)) (pk_andN (by omega) 2 (by decide)) ?_
                                      refine V_if_neN (a := a1 % 4) (tgt := 1472) C dL_law_1380 (by decide) (by omega) (fun h1380_902 => ?_) (fun h1380_902 => ?_)
                                      · exact law_dt K (by omega) hS hh6 hn16 hR8 hD9 (by omega) (by omega) (by omega) (by omega) (by omega) hva hvb  k1630
                                      · exact law_d13 K (by omega) hS hh6 hn16 hR8 hD9 (by omega) (by omega) (by omega) (by omega) (by omega) hva hvb (by omega) k1630
                                · refine V_iload C dL_law_1156 rfl ?_
                                  refine V_bipush (v := (8 : Int32)) C dL_law_1158 (by decide) ?_
                                  refine V_icmp_geN (a := R) (b := 8) (tgt := 1364) C dL_law_1160 (by decide) (by omega) (by omega) (fun h1160_903 => ?_) (fun h1160_903 => ?_)
                                  · refine V_iload C dL_law_1364 rfl ?_
                                    refine V_bipush (v := (13 : Int32)) C dL_law_1366 (by decide) ?_
                                    refine V_icmp_neN (a := d) (b := 13) (tgt := 1472) C dL_law_1368 (by decide) (by omega) (by omega) (fun h1368_904 => ?_) (fun h1368_904 => ?_)
                                    · exact law_dt K (by omega) hS hh6 hn16 hR8 hD9 (by omega) (by omega) (by omega) (by omega) (by omega) hva hvb  k1630
                                    · refine V_iload C dL_law_1371 rfl ?_
                                      refine V_if_leN (a := R) (tgt := 1472) C dL_law_1373 (by decide) (by omega) (fun h1373_905 => ?_) (fun h1373_905 => ?_)
                                      · exact law_dt K (by omega) hS hh6 hn16 hR8 hD9 (by omega) (by omega) (by omega) (by omega) (by omega) hva hvb  k1630
                                      · refine V_iload C dL_law_1376 rfl ?_
                                        refine V_iconst (v := (3 : Int32)) C dL_law_1378 (by decide) ?_
                                        refine V_iand C dL_law_1379 ?_
                                        refine V_eqi (y := nI (a1 % 4)) (pk_andN (by omega) 2 (by decide)) ?_
                                        refine V_if_neN (a := a1 % 4) (tgt := 1472) C dL_law_1380 (by decide) (by omega) (fun h1380_906 => ?_) (fun h1380_906 => ?_)
                                        · exact law_dt K (by omega) hS hh6 hn16 hR8 hD9 (by omega) (by omega) (by omega) (by omega) (by omega) hva hvb  k1630
                                        · exact law_d13 K (by omega) hS hh6 hn16 hR8 hD9 (by omega) (by omega) (by omega) (by omega) (by omega) hva hvb (by omega) k1630
                                  · exact law_d11 K (by omega) hS hh6 hn16 hR8 hD9 (by omega) (by omega) (by omega) (by omega) (by omega) hva hvb (by omega) k1630
                              · refine V_iload C dL_law_1064 rfl ?_
                                refine V_iconst (v := (1 : Int32)) C dL_law_1066 (by decide) ?_
                                refine V_iand C dL_law_1067 ?_
                                refine V_eqi (y := nI (a1 % 2)) (pk_andN (by omega) 1 (by decide)) ?_
                                refine V_if_neN (a := a1 % 2) (tgt := 1149) C dL_law_1068 (by decide) (by omega) (fun h1068_907 => ?_) (fun h1068_907 => ?_)
                                · refine V_iload C dL_law_1149 rfl ?_
                                  refine V_bipush (v := (13 : Int32)) C dL_law_1151 (by decide) ?_
                                  refine V_icmp_geN (a := d) (b := 13) (tgt := 1364) C dL_law_1153 (by decide) (by omega) (by omega) (fun h1153_908 => ?_) (fun h1153_908 => ?_)
                                  · refine V_iload C dL_law_1364 rfl ?_
                                    refine V_bipush (v := (13 : Int32)) C dL_law_1366 (by decide) ?_
                                    refine V_icmp_neN (a := d) (b := 13) (tgt := 1472) C dL_law_1368 (by decide) (by omega) (by omega) (fun h1368_909 => ?_) (fun h1368_909 => ?_)
                                    · exact law_dt K (by omega) hS hh6 hn16 hR8 hD9 (by omega) (by omega) (by omega) (by omega) (by omega) hva hvb  k1630
                                    · refine V_iload C dL_law_1371 rfl ?_
                                      refine V_if_leN (a := R) (tgt := 1472) C dL_law_1373 (by decide) (by omega) (fun h1373_910 => ?_) (fun h1373_910 => ?_)
                                      · exact law_dt K (by omega) hS hh6 hn16 hR8 hD9 (by omega) (by omega) (by omega) (by omega) (by omega) hva hvb  k1630
                                      · refine V_iload C dL_law_1376 rfl ?_
                                        refine V_iconst (v := (3 : Int32)) C dL_law_1378 (by decide) ?_
                                        refine V_iand C dL_law_1379 ?_
                                        refine V_eqi (y := nI (a1 % 4)) (pk_andN (by omega) 2 (by decide)) ?_
                                        refine V_if_neN (a := a1 % 4) (tgt := 1472) C dL_law_1380 (by decide) (by omega) (fun h1380_911 => ?_) (fun h1380_911 => ?_)
                                        · exact law_dt K (by omega) hS hh6 hn16 hR8 hD9 (by omega) (by omega) (by omega) (by omega) (by omega) hva hvb  k1630
                                        · exact law_d13 K (by omega) hS hh6 hn16 hR8 hD9 (by omega) (by omega) (by omega) (by omega) (by omega) hva hvb (by omega) k1630
                                  · refine V_iload C dL_law_1156 rfl ?_
                                    refine V_bipush (v := (8 : Int32)) C dL_law_1158 (by decide) ?_
                                    refine V_icmp_geN (a := R) (b := 8) (tgt := 1364) C dL_law_1160 (by decide) (by omega) (by omega) (fun h1160_912 => ?_) (fun h1160_912 => ?_)
                                    · refine V_iload C dL_law_1364 rfl ?_
                                      refine V_bipush (v := (13 : Int32)) C dL_law_1366 (by decide) ?_
                                      refine V_icmp_neN (a := d) (b := 13) (tgt := 1472) C dL_law_1368 (by decide) (by omega) (by omega) (fun h1368_913 => ?_) (fun h1368_913 => ?_)
                                      · exact law_dt K (by omega) hS hh6 hn16 hR8 hD9 (by omega) (by omega) (by omega) (by omega) (by omega) hva hvb  k1630
                                      · refine V_iload C dL_law_1371 rfl ?_
                                        refine V_if_leN (a := R) (tgt := 1472) C dL_law_1373 (by decide) (by omega) (fun h1373_914 => ?_) (fun h1373_914 => ?_)
                                        · exact law_dt K (by omega) hS hh6 hn16 hR8 hD9 (by omega) (by omega) (by omega) (by omega) (by omega) hva hvb  k1630
                                        · refine V_iload C dL_law_1376 rfl ?_
                                          refine V_iconst (v := (3 : Int32)) C dL_law_1378 (by decide) ?_
                                          refine V_iand C dL_law_1379 ?_
                                          refine V_eqi (y := nI (a1 % 4)) (pk_andN (by omega) 2 (by decide)) ?_
                                          refine V_if_neN (a := a1 % 4) (tgt := 1472) C dL_law_1380 (by decide) (by omega) (fun h1380_915 => ?_) (fun h1380_915 => ?_)
                                          · exact law_dt K (by omega) hS hh6 hn16 hR8 hD9 (by omega) (by omega) (by omega) (by omega) (by omega) hva hvb  k1630
                                          · exact law_d13 K (by omega) hS hh6 hn16 hR8 hD9 (by omega) (by omega) (by omega) (by omega) (by omega) hva hvb (by omega) k1630
                                    · exact law_d11 K (by omega) hS hh6 hn16 hR8 hD9 (by omega) (by omega) (by omega) (by omega) (by omega) hva hvb (by omega) k1630
                                · exact law_d10 K (by omega) hS hh6 hn16 hR8 hD9 (by omega) (by omega) (by omega) (by omega) (by omega) hva hvb  k1630
                            · exact law_d9 K (by omega) hS hh6 hn16 hR8 hD9 (by omega) (by omega) (by omega) (by omega) (by omega) hva hvb  k1630
                          · refine V_iload C dL_law_931 rfl ?_
                            refine V_iconst (v := (3 : Int32)) C dL_law_933 (by decide) ?_
                            refine V_iand C dL_law_934 ?_
                            refine V_eqi (y := nI (a1 % 4)) (pk_andN (by omega) 2 (by decide)) ?_
                            refine V_if_neN (a := a1 % 4) (tgt := 995) C dL_law_935 (by decide) (by omega) (fun h935_916 => ?_) (fun h935_916 => ?_)
                            · refine V_iload C dL_law_995 rfl ?_
                              refine V_bipush (v := (10 : Int32)) C dL_law_997 (by decide) ?_
                              refine V_icmp_geN (a := d) (b := 10) (tgt := 1057) C dL_law_999 (by decide) (by omega) (by omega) (fun h999_917 => ?_) (fun h999_917 => ?_)
                              · refine V_iload C dL_law_1057 rfl ?_
                                refine V_bipush (v := (10 : Int32)) C dL_law_1059 (by decide) ?_
                                refine V_icmp_neN (a := d) (b := 10) (tgt := 1149) C dL_law_1061 (by decide) (by omega) (by omega) (fun h1061_918 => ?_) (fun h1061_918 => ?_)
                                · refine V_iload C dL_law_1149 rfl ?_
                                  refine V_bipush (v := (13 : Int32)) C dL_law_1151 (by decide) ?_
                                  refine V_icmp_geN (a := d) (b := 13) (tgt := 1364) C dL_law_1153 (by decide) (by omega) (by omega) (fun h1153_919 => ?_) (fun h1153_919 => ?_)
                                  · refine V_iload C dL_law_1364 rfl ?_
                                    refine V_bipush (v := (13 : Int32)) C dL_law_1366 (by decide) ?_
                                    refine V_icmp_neN (a := d) (b := 13) (tgt := 1472) C dL_law_1368 (by decide) (by omega) (by omega) (fun h1368_920 => ?_) (fun h1368_920 => ?_)
                                    · exact law_dt K (by omega) hS hh6 hn16 hR8 hD9 (by omega) (by omega) (by omega) (by omega) (by omega) hva hvb  k1630
                                    · refine V_iload C dL_law_1371 rfl ?_
                                      refine V_if_leN (a := R) (tgt := 1472) C dL_law_1373 (by decide) (by omega) (fun h1373_921 => ?_) (fun h1373_921 => ?_)
                                      · exact law_dt K (by omega) hS hh6 hn16 hR8 hD9 (by omega) (by omega) (by omega) (by omega) (by omega) hva hvb  k1630
                                      · refine V_iload C dL_law_1376 rfl ?_
                                        refine V_iconst (v := (3 : Int32)) C dL_law_1378 (by decide) ?_
                                        refine V_iand C dL_law_1379 ?_
                                        refine V_eqi (y := nI (a1 % 4)) (pk_andN (by omega) 2 (by decide)) ?_
                                        refine V_if_neN (a := a1 % 4) (tgt := 1472) C dL_law_1380 (by decide) (by omega) (fun h1380_922 => ?_) (fun h1380_922 => ?_)
                                        · exact law_dt K (by omega) hS hh6 hn16 hR8 hD9 (by omega) (by omega) (by omega) (by omega) (by omega) hva hvb  k1630
                                        · exact law_d13 K (by omega) hS hh6 hn16 hR8 hD9 (by omega) (by omega) (by omega) (by omega) (by omega) hva hvb (by omega) k1630
                                  · refine V_iload C dL_law_1156 rfl ?_
                                    refine V_bipush (v := (8 : Int32)) C dL_law_1158 (by decide) ?_
                                    refine V_icmp_geN (a := R) (b := 8) (tgt := 1364) C dL_law_1160 (by decide) (by omega) (by omega) (fun h1160_923 => ?_) (fun h1160_923 => ?_)
                                    · refine V_iload C dL_law_1364 rfl ?_
                                      refine V_bipush (v := (13 : Int32)) C dL_law_1366 (by decide) ?_
                                      refine V_icmp_neN (a := d) (b := 13) (tgt := 1472) C dL_law_1368 (by decide) (by omega) (by omega) (fun h1368_924 => ?_) (fun h1368_924 => ?_)
                                      · exact law_dt K (by omega) hS hh6 hn16 hR8 hD9 (by omega) (by omega) (by omega) (by omega) (by omega) hva hvb  k1630
                                      · refine V_iload C dL_law_1371 rfl ?_
                                        refine V_if_leN (a := R) (tgt := 1472) C dL_law_1373 (by decide) (by omega) (fun h1373_925 => ?_) (fun h1373_925 => ?_)
                                        · exact law_dt K (by omega) hS hh6 hn16 hR8 hD9 (by omega) (by omega) (by omega) (by omega) (by omega) hva hvb  k1630
                                        · refine V_iload C dL_law_1376 rfl ?_
                                          refine V_iconst (v := (3 : Int32)) C dL_law_1378 (by decide) ?_
                                          refine V_iand C dL_law_1379 ?_
                                          refine V_eqi (y := nI (a1 % 4)) (pk_andN (by omega) 2 (by decide)) ?_
                                          refine V_if_neN (a := a1 % 4) (tgt := 1472) C dL_law_1380 (by decide) (by omega) (fun h1380_926 => ?_) (fun h1380_926 => ?_)
                                          · exact law_dt K (by omega) hS hh6 hn16 hR8 hD9 (by omega) (by omega) (by omega) (by omega) (by omega) hva hvb  k1630
                                          · exact law_d13 K (by omega) hS hh6 hn16 hR8 hD9 (by omega) (by omega) (by omega) (by omega) (by omega) hva hvb (by omega) k1630
                                    · exact law_d11 K (by omega) hS hh6 hn16 hR8 hD9 (by omega) (by omega) (by omega) (by omega) (by omega) hva hvb (by omega) k1630
                                · refine V_iload C dL_law_1064 rfl ?_
                                  refine V_iconst (v := (1 : Int32)) C dL_law_1066 (by decide) ?_
                                  refine V_iand C dL_law_1067 ?_
                                  refine V_eqi (y := nI (a1 % 2)) (pk_andN (by omega) 1 (by decide)) ?_
                                  refine V_if_neN (a := a1 % 2) (tgt := 1149) C dL_law_1068 (by decide) (by omega) (fun h1068_927 => ?_) (fun h1068_927 => ?_)
                                  · refine V_iload C dL_law_1149 rfl ?_
                                    refine V_bipush (v := (13 : Int32)) C dL_law_1151 (by decide) ?_
                                    refine V_icmp_geN (a := d) (b := 13) (tgt := 1364) C dL_law_1153 (by decide) (by omega) (by omega) (fun h1153_928 => ?_) (fun h1153_928 => ?_)
                                    · refine V_iload C dL_law_1364 rfl ?_
                                      refine V_bipush (v := (13 : Int32)) C dL_law_1366 (by decide) ?_
                                      refine V_icmp_neN (a := d) (b := 13) (tgt := 1472) C dL_law_1368 (by decide) (by omega) (by omega) (fun h1368_929 => ?_) (fun h1368_929 => ?_)
                                      · exact law_dt K (by omega) hS hh6 hn16 hR8 hD9 (by omega) (by omega) (by omega) (by omega) (by omega) hva hvb  k1630
                                      · refine V_iload C dL_law_1371 rfl ?_
                                        refine V_if_leN (a := R) (tgt := 1472) C dL_law_1373 (by decide) (by omega) (fun h1373_930 => ?_) (fun h1373_930 => ?_)
                                        · exact law_dt K (by omega) hS hh6 hn16 hR8 hD9 (by omega) (by omega) (by omega) (by omega) (by omega) hva hvb  k1630
                                        · refine V_iload C dL_law_1376 rfl ?_
                                          refine V_iconst (v := (3 : Int32)) C dL_law_1378 (by decide) ?_
                                          refine V_iand C dL_law_1379 ?_
                                          refine V_eqi (y := nI (a1 % 4)) (pk_andN (by omega) 2 (by decide)) ?_
                                          refine V_if_neN (a := a1 % 4) (tgt := 1472) C dL_law_1380 (by decide) (by omega) (fun h1380_931 => ?_) (fun h1380_931 => ?_)
                                          · exact law_dt K (by omega) hS hh6 hn16 hR8 hD9 (by omega) (by omega) (by omega) (by omega) (by omega) hva hvb  k1630
                                          · exact law_d13 K (by omega) hS hh6 hn16 hR8 hD9 (by omega) (by omega) (by omega) (by omega) (by omega) hva hvb (by omega) k1630
                                    · refine V_iload C dL_law_1156 rfl ?_
                                      refine V_bipush (v := (8 : Int32)) C dL_law_1158 (by decide) ?_
                                      refine V_icmp_geN (a := R) (b := 8) (tgt := 1364) C dL_law_1160 (by decide) (by omega) (by omega) (fun h1160_932 => ?_) (fun h1160_932 => ?_)
                                      · refine V_iload C dL_law_1364 rfl ?_
                                        refine V_bipush (v := (13 : Int32)) C dL_law_1366 (by decide) ?_
                                        refine V_icmp_neN (a := d) (b := 13) (tgt := 1472) C dL_law_1368 (by decide) (by omega) (by omega) (fun h1368_933 => ?_) (fun h1368_933 => ?_)
                                        · exact law_dt K (by omega) hS hh6 hn16 hR8 hD9 (by omega) (by omega) (by omega) (by omega) (by omega) hva hvb  k1630
                                        · refine V_iload C dL_law_1371 rfl ?_
                                          refine V_if_leN (a := R) (tgt := 1472) C dL_law_1373 (by decide) (by omega) (fun h1373_934 => ?_) (fun h1373_934 => ?_)
                                          · exact law_dt K (by omega) hS hh6 hn16 hR8 hD9 (by omega) (by omega) (by omega) (by omega) (by omega) hva hvb  k1630
                                          · refine V_iload C dL_law_1376 rfl ?_
                                            refine V_iconst (v := (3 : Int32)) C dL_law_1378 (by decide) ?_
                                            refine V_iand C dL_law_1379 ?_
                                            refine V_eqi (y := nI (a1 % 4)) (pk_andN (by omega) 2 (by decide)) ?_
                                            refine V_if_neN (a := a1 % 4) (tgt := 1472) C dL_law_1380 (by decide) (by omega) (fun h1380_935 => ?_) (fun h1380_935 => ?_)
                                            · exact law_dt K (by omega) hS hh6 hn16 hR8 hD9 (by omega) (by omega) (by omega) (by omega) (by omega) hva hvb  k1630
                                            · exact law_d13 K (by omega) hS hh6 hn16 hR8 hD9 (by omega) (by omega) (by omega) (by omega) (by omega) hva hvb (by omega) k1630
                                      · exact law_d11 K (by omega) hS hh6 hn16 hR8 hD9 (by omega) (by omega) (by omega) (by omega) (by omega) hva hvb (by omega) k1630
                                  · exact law_d10 K (by omega) hS hh6 hn16 hR8 hD9 (by omega) (by omega) (by omega) (by omega) (by omega) hva hvb  k1630
                              · exact law_d9 K (by omega) hS hh6 hn16 hR8 hD9 (by omega) (by omega) (by omega) (by omega) (by omega) hva hvb  k1630
                            · exact law_d8 K (by omega) hS hh6 hn16 hR8 hD9 (by omega) (by omega) (by omega) (by omega) (by omega) hva hvb (by omega) k1630
                      · refine V_iload C dL_law_863 rfl ?_
                        refine V_if_leN (a := n) (tgt := 919) C dL_law_865 (by decide) (by omega) (fun h865_936 => ?_) (fun h865_936 => ?_)
                        · refine V_iload C dL_law_919 rfl ?_
                          refine V_bipush (v := (8 : Int32)) C dL_law_921 (by decide) ?_
                          refine V_icmp_neN (a := d) (b := 8) (tgt := 995) C dL_law_923 (by decide) (by omega) (by omega) (fun h923_937 => ?_) (fun h923_937 => ?_)
                          · refine V_iload C dL_law_995 rfl ?_
                            refine V_bipush (v := (10 : Int32)) C dL_law_997 (by decide) ?_
                            refine V_icmp_geN (a := d) (b := 10) (tgt := 1057) C dL_law_999 (by decide) (by omega) (by omega) (fun h999_938 => ?_) (fun h999_938 => ?_)
                            · refine V_iload C dL_law_1057 rfl ?_
                              refine V_bipush (v := (10 : Int32)) C dL_law_1059 (by decide) ?_
                              refine V_icmp_neN (a := d) (b := 10) (tgt := 1149) C dL_law_1061 (by decide) (by omega) (by omega) (fun h1061_939 => ?_) (fun h1061_939 => ?_)
                              · refine V_iload C dL_law_1149 rfl ?_
                                refine V_bipush (v := (13 : Int32)) C dL_law_1151 (by decide) ?_
                                refine V_icmp_geN (a := d) (b := 13) (tgt := 1364) C dL_law_1153 (by decide) (by omega) (by omega) (fun h1153_940 => ?_) (fun h1153_940 => ?_)
                                · refine V_iload C dL_law_1364 rfl ?_
                                  refine V_bipush (v := (13 : Int32)) C dL_law_1366 (by decide) ?_
                                  refine V_icmp_neN (a := d) (b := 13) (tgt := 1472) C dL_law_1368 (by decide) (by omega) (by omega) (fun h1368_941 => ?_) (fun h1368_941 => ?_)
                                  · exact law_dt K (by omega) hS hh6 hn16 hR8 hD9 (by omega) (by omega) (by omega) (by omega) (by omega) hva hvb  k1630
                                  · refine V_iload C dL_law_1371 rfl ?_
                                    refine V_if_leN (a := R) (tgt := 1472) C dL_law_1373 (by decide) (by omega) (fun h1373_942 => ?_) (fun h1373_942 => ?_)
                                    · exact law_dt K (by omega) hS hh6 hn16 hR8 hD9 (by omega) (by omega) (by omega) (by omega) (by omega) hva hvb  k1630
                                    · refine V_iload C dL_law_1376 rfl ?_
                                      refine V_iconst (v := (3 : Int32)) C dL_law_1378 (by decide) ?_
                                      refine V_iand C dL_law_1379 ?_
                                      refine V_eqi (y := nI (a1 % 4)) (pk_andN (by omega) 2 (by decide)) ?_
                                      refine V_if_neN (a := a1 % 4) (tgt := 1472) C dL_law_1380 (by decide) (by omega) (fun h1380_943 => ?_) (fun h1380_943 => ?_)
                                      · exact law_dt K (by omega) hS hh6 hn16 hR8 hD9 (by omega) (by omega) (by omega) (by omega) (by omega) hva hvb  k1630
                                      · exact law_d13 K (by omega) hS hh6 hn16 hR8 hD9 (by omega) (by omega) (by omega) (by omega) (by omega) hva hvb (by omega) k1630
                                · refine V_iload C dL_law_1156 rfl ?_
                                  refine V_bipush (v := (8 : Int32)) C dL_law_1158 (by decide) ?_
                                  refine V_icmp_geN (a := R) (b := 8) (tgt := 1364) C dL_law_1160 (by decide) (by omega) (by omega) (fun h1160_944 => ?_) (fun h1160_944 => ?_)
                                  · refine V_iload C dL_law_1364 rfl ?_
                                    refine V_bipush (v := (13 : Int32)) C dL_law_1366 (by decide) ?_
                                    refine V_icmp_neN (a := d) (b := 13) (tgt := 1472) C dL_law_1368 (by decide) (by omega) (by omega) (fun h1368_945 => ?_) (fun h1368_945 => ?_)
                                    · exact law_dt K (by omega) hS hh6 hn16 hR8 hD9 (by omega) (by omega) (by omega) (by omega) (by omega) hva hvb  k1630
                                    · refine V_iload C dL_law_1371 rfl ?_
                                      refine V_if_leN (a := R) (tgt := 1472) C dL_law_1373 (by decide) (by omega) (fun h1373_946 => ?_) (fun h1373_946 => ?_)
                                      · exact law_dt K (by omega) hS hh6 hn16 hR8 hD9 (by omega) (by omega) (by omega) (by omega) (by omega) hva hvb  k1630
                                      · refine V_iload C dL_law_1376 rfl ?_
                                        refine V_iconst (v := (3 : Int32)) C dL_law_1378 (by decide) ?_
                                        refine V_iand C dL_law_1379 ?_
                                        refine V_eqi (y := nI (a1 % 4)) (pk_andN (by omega) 2 (by decide)) ?_
                                        refine V_if_neN (a := a1 % 4) (tgt := 1472) C dL_law_1380 (by decide) (by omega) (fun h1380_947 => ?_) (fun h1380_947 => ?_)
                                        · exact law_dt K (by omega) hS hh6 hn16 hR8 hD9 (by omega) (by omega) (by omega) (by omega) (by omega) hva hvb  k1630
                                        · exact law_d13 K (by omega) hS hh6 hn16 hR8 hD9 (by omega) (by omega) (by omega) (by omega) (by omega) hva hvb (by omega) k1630
                                  · exact law_d11 K (by omega) hS hh6 hn16 hR8 hD9 (by omega) (by omega) (by omega) (by omega) (by omega) hva hvb (by omega) k1630
                              · refine V_iload C dL_law_1064 rfl ?_
                                refine V_iconst (v := (1 : Int32)) C dL_law_1066 (by decide) ?_
                                refine V_iand C dL_law_1067 ?_
                                refine V_eqi (y := nI (a1 % 2)) (pk_andN (by omega) 1 (by decide)) ?_
                                refine V_if_neN (a := a1 % 2) (tgt := 1149) C dL_law_1068 (by decide) (by omega) (fun h1068_948 => ?_) (fun h1068_948 => ?_)
                                · refine V_iload C dL_law_1149 rfl ?_
                                  refine V_bipush (v := (13 : Int32)) C dL_law_1151 (by decide) ?_
                                  refine V_icmp_geN (a := d) (b := 13) (tgt := 1364) C dL_law_1153 (by decide) (by omega) (by omega) (fun h1153_949 => ?_) (fun h1153_949 => ?_)
                                  · refine V_iload C dL_law_1364 rfl ?_
                                    refine V_bipush (v := (13 : Int32)) C dL_law_1366 (by decide) ?_
                                    refine V_icmp_neN (a := d) (b := 13) (tgt := 1472) C dL_law_1368 (by decide) (by omega) (by omega) (fun h1368_950 => ?_) (fun h1368_950 => ?_)
                                    · exact law_dt K (by omega) hS hh6 hn16 hR8 hD9 (by omega) (by omega) (by omega) (by omega) (by omega) hva hvb  k1630
                                    · refine V_iload C dL_law_1371 rfl ?_
                                      refine V_if_leN (a := R) (tgt := 1472) C dL_law_1373 (by decide) (by omega) (fun h1373_951 => ?_) (fun h1373_951 => ?_)
                                      · exact law_dt K (by omega) hS hh6 hn16 hR8 hD9 (by omega) (by omega) (by omega) (by omega) (by omega) hva hvb  k1630
                                      · refine V_iload C dL_law_1376 rfl ?_
                                        refine V_iconst (v := (3 : Int32)) C dL_law_1378 (by decide) ?_
                                        refine V_iand C dL_law_1379 ?_
                                        refine V_eqi (y := nI (a1 % 4)) (pk_andN (by omega) 2 (by decide)) ?_
                                        refine V_if_neN (a := a1 % 4) (tgt := 1472) C dL_law_1380 (by decide) (by omega) (fun h1380_952 => ?_) (fun h1380_952 => ?_)
                                        · exact law_dt K (by omega) hS hh6 hn16 hR8 hD9 (by omega) (by omega) (by omega) (by omega) (by omega) hva hvb  k1630
                                        · exact law_d13 K (by omega) hS hh6 hn16 hR8 hD9 (by omega) (by omega) (by omega) (by omega) (by omega) hva hvb (by omega) k1630
                                  · refine V_iload C dL_law_1156 rfl ?_
                                    refine V_bipush (v := (8 : Int32)) C dL_law_1158 (by decide) ?_
                                    refine V_icmp_geN (a := R) (b := 8) (tgt := 1364) C dL_law_1160 (by decide) (by omega) (by omega) (fun h1160_953 => ?_) (fun h1160_953 => ?_)
                                    · refine V_iload C dL_law_1364 rfl ?_
                                      refine V_bipush (v := (13 : Int32)) C dL_law_1366 (by decide) ?_
                                      refine V_icmp_neN (a := d) (b := 13) (tgt := 1472) C dL_law_1368 (by decide) (by omega) (by omega) (fun h1368_954 => ?_) (fun h1368_954 => ?_)
                                      · exact law_dt K (by omega) hS hh6 hn16 hR8 hD9 (by omega) (by omega) (by omega) (by omega) (by omega) hva hvb  k1630
                                      · refine V_iload C dL_law_1371 rfl ?_
                                        refine V_if_leN (a := R) (tgt := 1472) C dL_law_1373 (by decide) (by omega) (fun h1373_955 => ?_) (fun h1373_955 => ?_)
                                        · exact law_dt K (by omega) hS hh6 hn16 hR8 hD9 (by omega) (by omega) (by omega) (by omega) (by omega) hva hvb  k1630
                                        · refine V_iload C dL_law_1376 rfl ?_
                                          refine V_iconst (v := (3 : Int32)) C dL_law_1378 (by decide) ?_
                                          refine V_iand C dL_law_1379 ?_
                                          refine V_eqi (y := nI (a1 % 4)) (pk_andN (by omega) 2 (by decide)) ?_
                                          refine V_if_neN (a := a1 % 4) (tgt := 1472) C dL_law_1380 (by decide) (by omega) (fun h1380_956 => ?_) (fun h1380_956 => ?_)
                                          · exact law_dt K (by omega) hS hh6 hn16 hR8 hD9 (by omega) (by omega) (by omega) (by omega) (by omega) hva hvb  k1630
                                          · exact law_d13 K (by omega) hS hh6 hn16 hR8 hD9 (by omega) (by omega) (by omega) (by omega) (by omega) hva hvb (by omega) k1630
                                    · exact law_d11 K (by omega) hS hh6 hn16 hR8 hD9 (by omega) (by omega) (by omega) (by omega) (by omega) hva hvb (by omega) k1630
                                · exact law_d10 K (by omega) hS hh6 hn16 hR8 hD9 (by omega) (by omega) (by omega) (by omega) (by omega) hva hvb  k1630
                            · exact law_d9 K (by omega) hS hh6 hn16 hR8 hD9 (by omega) (by omega) (by omega) (by omega) (by omega) hva hvb  k1630
                          · refine V_iload C dL_law_926 rfl ?_
                            refine V_if_leN (a := n) (tgt := 995) C dL_law_928 (by decide) (by omega) (fun h928_957 => ?_) (fun h928_957 => ?_)
                            · refine V_iload C dL_law_995 rfl ?_
                              refine V_bipush (v := (10 : Int32)) C dL_law_997 (by decide) ?_
                              refine V_icmp_geN (a := d) (b := 10) (tgt := 1057) C dL_law_999 (by decide) (by omega) (by omega) (fun h999_958 => ?_) (fun h999_958 => ?_)
                              · refine V_iload C dL_law_1057 rfl ?_
                                refine V_bipush (v := (10 : Int32)) C dL_law_1059 (by decide) ?_
                                refine V_icmp_neN (a := d) (b := 10) (tgt := 1149) C dL_law_1061 (by decide) (by omega) (by omega) (fun h1061_959 => ?_) (fun h1061_959 => ?_)
                                · refine V_iload C dL_law_1149 rfl ?_
                                  refine V_bipush (v := (13 : Int32)) C dL_law_1151 (by decide) ?_
                                  refine V_icmp_geN (a := d) (b := 13) (tgt := 1364) C dL_law_1153 (by decide) (by omega) (by omega) (fun h1153_960 => ?_) (fun h1153_960 => ?_)
                                  · refine V_iload C dL_law_1364 rfl ?_
                                    refine V_bipush (v := (13 : Int32)) C dL_law_1366 (by decide) ?_
                                    refine V_icmp_neN (a := d) (b := 13) (tgt := 1472) C dL_law_1368 (by decide) (by omega) (by omega) (fun h1368_961 => ?_) (fun h1368_961 => ?_)
                                    · exact law_dt K (by omega) hS hh6 hn16 hR8 hD9 (by omega) (by omega) (by omega) (by omega) (by omega) hva hvb  k1630
                                    · refine V_iload C dL_law_1371 rfl ?_
                                      refine V_if_leN (a := R) (tgt := 1472) C dL_law_1373 (by decide) (by omega) (fun h1373_962 => ?_) (fun h1373_962 => ?_)
                                      · exact law_dt K (by omega) hS hh6 hn16 hR8 hD9 (by omega) (by omega) (by omega) (by omega) (by omega) hva hvb  k1630
                                      · refine V_iload C dL_law_1376 rfl ?_
                                        refine V_iconst (v := (3 : Int32)) C dL_law_1378 (by decide) ?_
                                        refine V_iand C dL_law_1379 ?_
                                        refine V_eqi (y := nI (a1 % 4)) (pk_andN (by omega) 2 (by decide)) ?_
                                        refine V_if_neN (a := a1 % 4) (tgt := 1472) C dL_law_1380 (by decide) (by omega) (fun h1380_963 => ?_) (fun h1380_963 => ?_)
                                        · exact law_dt K (by omega) hS hh6 hn16 hR8 hD9 (by omega) (by omega) (by omega) (by omega) (by omega) hva hvb  k1630
                                        · exact law_d13 K (by omega) hS hh6 hn16 hR8 hD9 (by omega) (by omega) (by omega) (by omega) (by omega) hva hvb (by omega) k1630
                                  · refine V_iload C dL_law_1156 rfl ?_
                                    refine V_bipush (v := (8 : Int32)) C dL_law_1158 (by decide) ?_
                                    refine V_icmp_geN (a := R) (b := 8) (tgt := 1364) C dL_law_1160 (by decide) (by omega) (by omega) (fun h1160_964 => ?_) (fun h1160_964 => ?_)
                                    · refine V_iload C dL_law_1364 rfl ?_
                                      refine V_bipush (v := (13 : Int32)) C dL_law_1366 (by decide) ?_
                                      refine V_icmp_neN (a := d) (b := 13) (tgt := 1472) C dL_law_1368 (by decide) (by omega) (by omega) (fun h1368_965 => ?_) (fun h1368_965 => ?_)
                                      · exact law_dt K (by omega) hS hh6 hn16 hR8 hD9 (by omega) (by omega) (by omega) (by omega) (by omega) hva hvb  k1630
                                      · refine V_iload C dL_law_1371 rfl ?_
                                        refine V_if_leN (a := R) (tgt := 1472) C dL_law_1373 (by decide) (by omega) (fun h1373_966 => ?_) (fun h1373_966 => ?_)
                                        · exact law_dt K (by omega) hS hh6 hn16 hR8 hD9 (by omega) (by omega) (by omega) (by omega) (by omega) hva hvb  k1630
                                        · refine V_iload C dL_law_1376 rfl ?_
                                          refine V_iconst (v := (3 : Int32)) C dL_law_1378 (by decide) ?_
                                          refine V_iand C dL_law_1379 ?_
                                          refine V_eqi (y := nI (a1 % 4)) (pk_andN (by omega) 2 (by decide)) ?_
                                          refine V_if_neN (a := a1 % 4) (tgt := 1472) C dL_law_1380 (by decide) (by omega) (fun h1380_967 => ?_) (fun h1380_967 => ?_)
                                          · exact law_dt K (by omega) hS hh6 hn16 hR8 hD9 (by omega) (by omega) (by omega) (by omega) (by omega) hva hvb  k1630
                                          · exact law_d13 K (by omega) hS hh6 hn16 hR8 hD9 (by omega) (by omega) (by omega) (by omega) (by omega) hva hvb (by omega) k1630
                                    · exact law_d11 K (by omega) hS hh6 hn16 hR8 hD9 (by omega) (by omega) (by omega) (by omega) (by omega) hva hvb (by omega) k1630
                                · refine V_iload C dL_law_1064 rfl ?_
                                  refine V_iconst (v := (1 : Int32)) C dL_law_1066 (by decide) ?_
                                  refine V_iand C dL_law_1067 ?_
                                  refine V_eqi (y := nI (a1 % 2)) (pk_andN (by omega) 1 (by decide)) ?_
                                  refine V_if_neN (a := a1 % 2) (tgt := 1149) C dL_law_1068 (by decide) (by omega) (fun h1068_968 => ?_) (fun h1068_968 => ?_)
                                  · refine V_iload C dL_law_1149 rfl ?_
                                    refine V_bipush (v := (13 : Int32)) C dL_law_1151 (by decide) ?_
                                    refine V_icmp_geN (a := d) (b := 13) (tgt := 1364) C dL_law_1153 (by decide) (by omega) (by omega) (fun h1153_969 => ?_) (fun h1153_969 => ?_)
                                    · refine V_iload C dL_law_1364 rfl ?_
                                      refine V_bipush (v := (13 : Int32)) C dL_law_1366 (by decide) ?_
                                      refine V_icmp_neN (a := d) (b := 13) (tgt := 1472) C dL_law_1368 (by decide) (by omega) (by omega) (fun h1368_970 => ?_) (fun h1368_970 => ?_)
                                      · exact law_dt K (by omega) hS hh6 hn16 hR8 hD9 (by omega) (by omega) (by omega) (by omega) (by omega) hva hvb  k1630
                                      · refine V_iload C dL_law_1371 rfl ?_
                                        refine V_if_leN (a := R) (tgt := 1472) C dL_law_1373 (by decide) (by omega) (fun h1373_971 => ?_) (fun h1373_971 => ?_)
                                        · exact law_dt K (by omega) hS hh6 hn16 hR8 hD9 (by omega) (by omega) (by omega) (by omega) (by omega) hva hvb  k1630
                                        · refine V_iload C dL_law_1376 rfl ?_
                                          refine V_iconst (v := (3 : Int32)) C dL_law_1378 (by decide) ?_
                                          refine V_iand C dL_law_1379 ?_
                                          refine V_eqi (y := nI (a1 % 4)) (pk_andN (by omega) 2 (by decide)) ?_
                                          refine V_if_neN (a := a1 % 4) (tgt := 1472) C dL_law_1380 (by decide) (by omega) (fun h1380_972 => ?_) (fun h1380_972 => ?_)
                                          · exact law_dt K (by omega) hS hh6 hn16 hR8 hD9 (by omega) (by omega) (by omega) (by omega) (by omega) hva hvb  k1630
                                          · exact law_d13 K (by omega) hS hh6 hn16 hR8 hD9 (by omega) (by omega) (by omega) (by omega) (by omega) hva hvb (by omega) k1630
                                    · refine V_iload C dL_law_1156 rfl ?_
                                      refine V_bipush (v := (8 : Int32)) C dL_law_1158 (by decide) ?_
                                      refine V_icmp_geN (a := R) (b := 8) (tgt := 1364) C dL_law_1160 (by decide) (by omega) (by omega) (fun h1160_973 => ?_) (fun h1160_973 => ?_)
                                      · refine V_iload C dL_law_1364 rfl ?_
                                        refine V_bipush (v := (13 : Int32)) C dL_law_1366 (by decide) ?_
                                        refine V_icmp_neN (a := d) (b := 13) (tgt := 1472) C dL_law_1368 (by decide) (by omega) (by omega) (fun h1368_974 => ?_) (fun h1368_974 => ?_)
                                        · exact law_dt K (by omega) hS hh6 hn16 hR8 hD9 (by omega) (by omega) (by omega) (by omega) (by omega) hva hvb  k1630
                                        · refine V_iload C dL_law_1371 rfl ?_
                                          refine V_if_leN (a := R) (tgt := 1472) C dL_law_1373 (by decide) (by omega) (fun h1373_975 => ?_) (fun h1373_975 => ?_)
                                          · exact law_dt K (by omega) hS hh6 hn16 hR8 hD9 (by omega) (by omega) (by omega) (by omega) (by omega) hva hvb  k1630
                                          · refine V_iload C dL_law_1376 rfl ?_
                                            refine V_iconst (v := (3 : Int32)) C dL_law_1378 (by decide) ?_
                                            refine V_iand C dL_law_1379 ?_
                                            refine V_eqi (y := nI (a1 % 4)) (pk_andN (by omega) 2 (by decide)) ?_
                                            refine V_if_neN (a := a1 % 4) (tgt := 1472) C dL_law_1380 (by decide) (by omega) (fun h1380_976 => ?_) (fun h1380_976 => ?_)
                                            · exact law_dt K (by omega) hS hh6 hn16 hR8 hD9 (by omega) (by omega) (by omega) (by omega) (by omega) hva hvb  k1630
                                            · exact law_d13 K (by omega) hS hh6 hn16 hR8 hD9 (by omega) (by omega) (by omega) (by omega) (by omega) hva hvb (by omega) k1630
                                      · exact law_d11 K (by omega) hS hh6 hn16 hR8 hD9 (by omega) (by omega) (by omega) (by omega) (by omega) hva hvb (by omega) k1630
                                  · exact law_d10 K (by omega) hS hh6 hn16 hR8 hD9 (by omega) (by omega) (by omega) (by omega) (by omega) hva hvb  k1630
                              · exact law_d9 K (by omega) hS hh6 hn16 hR8 hD9 (by omega) (by omega) (by omega) (by omega) (by omega) hva hvb  k1630
                            · refine V_iload C dL_law_931 rfl ?_
                              refine V_iconst (v := (3 : Int32)) C dL_law_933 (by decide) ?_
                              refine V_iand C dL_law_934 ?_
                              refine V_eqi (y := nI (a1 % 4)) (pk_andN (by omega) 2 (by decide)) ?_
                              refine V_if_neN (a := a1 % 4) (tgt := 995) C dL_law_935 (by decide) (by omega) (fun h935_977 => ?_) (fun h935_977 => ?_)
                              · refine V_iload C dL_law_995 rfl ?_
                                refine V_bipush (v := (10 : Int32)) C dL_law_997 (by decide) ?_
                                refine V_icmp_geN (a := d) (b := 10) (tgt := 1057) C dL_law_999 (by decide) (by omega) (by omega) (fun h999_978 => ?_) (fun h999_978 => ?_)
                                · refine V_iload C dL_law_1057 rfl ?_
                                  refine V_bipush (v := (10 : Int32)) C dL_law_1059 (by decide) ?_
                                  refine V_icmp_neN (a := d) (b := 10) (tgt := 1149) C dL_law_1061 (by decide) (by omega) (by omega) (fun h1061_979 => ?_) (fun h1061_979 => ?_)
                                  · refine V_iload C dL_law_1149 rfl ?_
                                    refine V_bipush (v := (13 : Int32)) C dL_law_1151 (by decide) ?_
                                    refine V_icmp_geN (a := d) (b := 13) (tgt := 1364) C dL_law_1153 (by decide) (by omega) (by omega) (fun h1153_980 => ?_) (fun h1153_980 => ?_)
                                    · refine V_iload C dL_law_1364 rfl ?_
                                      refine V_bipush (v := (13 : Int32)) C dL_law_1366 (by decide) ?_
                                      refine V_icmp_neN (a := d) (b := 13) (tgt := 1472) C dL_law_1368 (by decide) (by omega) (by omega) (fun h1368_981 => ?_) (fun h1368_981 => ?_)
                                      · exact law_dt K (by omega) hS hh6 hn16 hR8 hD9 (by omega) (by omega) (by omega) (by omega) (by omega) hva hvb  k1630
                                      · refine V_iload C dL_law_1371 rfl ?_
                                        refine V_if_leN (a := R) (tgt := 1472) C dL_law_1373 (by decide) (by omega) (fun h1373_982 => ?_) (fun h1373_982 => ?_)
                                        · exact law_dt K (by omega) hS hh6 hn16 hR8 hD9 (by omega) (by omega) (by omega) (by omega) (by omega) hva hvb  k1630
                                        · refine V_iload C dL_law_1376 rfl ?_
                                          refine V_iconst (v := (3 : Int32)) C dL_law_1378 (by decide) ?_
                                          refine V_iand C dL_law_1379 ?_
                                          refine V_eqi (y := nI (a1 % 4)) (pk_andN (by omega) 2 (by decide)) ?_
                                          refine V_if_neN (a := a1 % 4) (tgt := 1472) C dL_law_1380 (by decide) (by omega) (fun h1380_983 => ?_) (fun h1380_983 => ?_)
                                          · exact law_dt K (by omega) hS hh6 hn16 hR8 hD9 (by omega) (by omega) (by omega) (by omega) (by omega) hva hvb  k1630
                                          · exact law_d13 K (by omega) hS hh6 hn16 hR8 hD9 (by omega) (by omega) (by omega) (by omega) (by omega) hva hvb (by omega) k1630
                                    · refine V_iload C dL_law_1156 rfl ?_
                                      refine V_bipush (v := (8 : Int32)) C dL_law_1158 (by decide) ?_
                                      refine V_icmp_geN (a := R) (b := 8) (tgt := 1364) C dL_law_1160 (by decide) (by omega) (by omega) (fun h1160_984 => ?_) (fun h1160_984 => ?_)
                                      · refine V_iload C dL_law_1364 rfl ?_
                                        refine V_bipush (v := (13 : Int32)) C dL_law_1366 (by decide) ?_
                                        refine V_icmp_neN (a := d) (b := 13) (tgt := 1472) C dL_law_1368 (by decide) (by omega) (by omega) (fun h1368_985 => ?_) (fun h1368_985 => ?_)
                                        · exact law_dt K (by omega) hS hh6 hn16 hR8 hD9 (by omega) (by omega) (by omega) (by omega) (by omega) hva hvb  k1630
                                        · refine V_iload C dL_law_1371 rfl ?_
                                          refine V_if_leN (a := R) (tgt := 1472) C dL_law_1373 (by decide) (by omega) (fun h1373_986 => ?_) (fun h1373_986 => ?_)
                                          · exact law_dt K (by omega) hS hh6 hn16 hR8 hD9 (by omega) (by omega) (by omega) (by omega) (by omega) hva hvb  k1630
                                          · refine V_iload C dL_law_1376 rfl ?_
                                            refine V_iconst (v := (3 : Int32)) C dL_law_1378 (by decide) ?_
                                            refine V_iand C dL_law_1379 ?_
                                            refine V_eqi (y := nI (a1 % 4)) (pk_andN (by omega) 2 (by decide)) ?_
                                            refine V_if_neN (a := a1 % 4) (tgt := 1472) C dL_law_1380 (by decide) (by omega) (fun h1380_987 => ?_) (fun h1380_987 => ?_)
                                            · exact law_dt K (by omega) hS hh6 hn16 hR8 hD9 (by omega) (by omega) (by omega) (by omega) (by omega) hva hvb  k1630
                                            · exact law_d13 K (by omega) hS hh6 hn16 hR8 hD9 (by omega) (by omega) (by omega) (by omega) (by omega) hva hvb (by omega) k1630
                                      · exact law_d11 K (by omega) hS hh6 hn16 hR8 hD9 (by omega) (by omega) (by omega) (by omega) (by omega) hva hvb (by omega) k1630
                                  · refine V_iload C dL_law_1064 rfl ?_
                                    refine V_iconst (v := (1 : Int32)) C dL_law_1066 (by decide) ?_
                                    refine V_iand C dL_law_1067 ?_
                                    refine V_eqi (y := nI (a1 % 2)) (pk_andN (by omega) 1 (by decide)) ?_
                                    refine V_if_neN (a := a1 % 2) (tgt := 1149) C dL_law_1068 (by decide) (by omega) (fun h1068_988 => ?_) (fun h1068_988 => ?_)
                                    · refine V_iload C dL_law_1149 rfl ?_
                                      refine V_bipush (v := (13 : Int32)) C dL_law_1151 (by decide) ?_
                                      refine V_icmp_geN (a := d) (b := 13) (tgt := 1364) C dL_law_1153 (by decide) (by omega) (by omega) (fun h1153_989 => ?_) (fun h1153_989 => ?_)
                                      · refine V_iload C dL_law_1364 rfl ?_
                                        refine V_bipush (v := (13 : Int32)) C dL_law_1366 (by decide) ?_
                                        refine V_icmp_neN (a := d) (b := 13) (tgt := 1472) C dL_law_1368 (by decide) (by omega) (by omega) (fun h1368_990 => ?_) (fun h1368_990 => ?_)
                                        · exact law_dt K (by omega) hS hh6 hn16 hR8 hD9 (by omega) (by omega) (by omega) (by omega) (by omega) hva hvb  k1630
                                        · refine V_iload C dL_law_1371 rfl ?_
                                          refine V_if_leN (a := R) (tgt := 1472) C dL_law_1373 (by decide) (by omega) (fun h1373_991 => ?_) (fun h1373_991 => ?_)
                                          · exact law_dt K (by omega) hS hh6 hn16 hR8 hD9 (by omega) (by omega) (by omega) (by omega) (by omega) hva hvb  k1630
                                          · refine V_iload C dL_law_1376 rfl ?_
                                            refine V_iconst (v := (3 : Int32)) C dL_law_1378 (by decide) ?_
                                            refine V_iand C dL_law_1379 ?_
                                            refine V_eqi (y := nI (a1 % 4)) (pk_andN (by omega) 2 (by decide)) ?_
                                            refine V_if_neN (a := a1 % 4) (tgt := 1472) C dL_law_1380 (by decide) (by omega) (fun h1380_992 => ?_) (fun h1380_992 => ?_)
                                            · exact law_dt K (by omega) hS hh6 hn16 hR8 hD9 (by omega) (by omega) (by omega) (by omega) (by omega) hva hvb  k1630
                                            · exact law_d13 K (by omega) hS hh6 hn16 hR8 hD9 (by omega) (by omega) (by omega) (by omega) (by omega) hva hvb (by omega) k1630
                                      · refine V_iload C dL_law_1156 rfl ?_
                                        refine V_bipush (v := (8 : Int32)) C dL_law_1158 (by decide) ?_
                                        refine V_icmp_geN (a := R) (b := 8) (tgt := 1364) C dL_law_1160 (by decide) (by omega) (by omega) (fun h1160_993 => ?_) (fun h1160_993 => ?_)
                                        · refine V_iload C dL_law_1364 rfl ?_
                                          refine V_bipush (v := (13 : Int32)) C dL_law_1366 (by decide) ?_
                                          refine V_icmp_neN (a := d) (b := 13) (tgt := 1472) C dL_law_1368 (by decide) (by omega) (by omega) (fun h1368_994 => ?_) (fun h1368_994 => ?_)
                                          · exact law_dt K (by omega) hS hh6 hn16 hR8 hD9 (by omega) (by omega) (by omega) (by omega) (by omega) hva hvb  k1630
                                          · refine V_iload C dL_law_1371 rfl ?_
                                            refine V_if_leN (a := R) (tgt := 1472) C dL_law_1373 (by decide) (by omega) (fun h1373_995 => ?_) (fun h1373_995 => ?_)
                                            · exact law_dt K (by omega) hS hh6 hn16 hR8 hD9 (by omega) (by omega) (by omega) (by omega) (by omega) hva hvb  k1630
                                            · refine V_iload C dL_law_1376 rfl ?_
                                              refine V_iconst (v := (3 : Int32)) C dL_law_1378 (by decide) ?_
                                              refine V_iand C dL_law_1379 ?_
                                              refine V_eqi (y := nI (a1 % 4)) (pk_andN (by omega) 2 (by decide)) ?_
                                              refine V_if_neN (a := a1 % 4) (tgt := 1472) C dL_law_1380 (by decide) (by omega) (fun h1380_996 => ?_) (fun h1380_996 => ?_)
                                              · exact law_dt K (by omega) hS hh6 hn16 hR8 hD9 (by omega) (by omega) (by omega) (by omega) (by omega) hva hvb  k1630
                                              · exact law_d13 K (by omega) hS hh6 hn16 hR8 hD9 (by omega) (by omega) (by omega) (by omega) (by omega) hva hvb (by omega) k1630
                                        · exact law_d11 K (by omega) hS hh6 hn16 hR8 hD9 (by omega) (by omega) (by omega) (by omega) (by omega) hva hvb (by omega) k1630
                                    · exact law_d10 K (by omega) hS hh6 hn16 hR8 hD9 (by omega) (by omega) (by omega) (by omega) (by omega) hva hvb  k1630
                                · exact law_d9 K (by omega) hS hh6 hn16 hR8 hD9 (by omega) (by omega) (by omega) (by omega) (by omega) hva hvb  k1630
                              · exact law_d8 K (by omega) hS hh6 hn16 hR8 hD9 (by omega) (by omega) (by omega) (by omega) (by omega) hva hvb (by omega) k1630
                        · exact law_d7 K (by omega) hS hh6 hn16 hR8 hD9 (by omega) (by omega) (by omega) (by omega) (by omega) hva hvb (by omega) k1630
                    · have hko2 : ko < n := by omega
                      obtain ⟨kq, hkq3, ekq⟩ := (hJ.2.1.2.1.2 ko hko2).2.1
                      obtain ⟨e0, he2, he12⟩ := (hL.1 ko hko2).2.2.2.2.2.2.1
                      have he1 : kq = 1 → e0 ≤ 8 := fun q => by obtain ⟨c9, hc9, ec9⟩ := (hJ.2.1.2.1.2 ko hko2).2.2.2.2.2.2.2.2.2.1 (by rw [ekq, q]; rfl); have := nIu (m := 1024) (by decide) he2 (by omega) (he12.symm.trans ec9); omega
                      by_cases hq0 : kq = 0
                      · exact law_d6g (kq := 0) K (by omega) hS hh6 hn16 hR8 hD9 (by omega) (by omega) (by omega) (by omega) (by omega) hva hvb (by omega) (by rw [show X 7 ko = nI kq from ekq, hq0]; rfl) he12 he2 k1630
                      · exact law_d6n K (by omega) hS hh6 hn16 hR8 hD9 (by omega) (by omega) (by omega) (by omega) (by omega) hva hvb (by omega) ekq (by omega) he12 he2 he1 k1630
                · exact law_d2 K (by omega) hS hh6 hn16 hR8 hD9 (by omega) (by omega) (by omega) (by omega) (by omega) hva hvb (by omega) (by omega) (by omega) k1630
            · exact law_d1 K (by omega) hS hh6 hn16 hR8 hD9 (by omega) (by omega) (by omega) (by omega) (by omega) hva hvb  k1630
          · exact law_d0 K (by omega) hS hh6 hn16 hR8 hD9 (by omega) (by omega) (by omega) (by omega) (by omega) hva hvb (by omega) k1630
      refine V_iload C dL_law_195 rfl ?_
      refine V_if_neN (a := n) (tgt := 204) C dL_law_197 (by decide) (by omega) (fun h197_997 => ?_) (fun h197_997 => ?_)
      · refine V_iload C dL_law_204 rfl ?_
        refine V_iload C dL_law_206 rfl ?_
        have hmo998 := Nat.mod_lt a1 (show 0 < n from by omega)
        refine V_irem C dL_law_208 (nI_ne0 (by omega) (by omega)) ?_
        refine V_eqi (y := nI (a1 % n)) (pk_rem (d := n) (by omega) (by omega) (by omega)) ?_
        exact L209 (a1 % n) (by omega)
      · refine V_iconst (v := (0 : Int32)) C dL_law_200 (by decide) ?_
        refine V_goto (tgt := 209) C dL_law_201 (by decide) ?_
        exact L209 0 (by omega)
    refine V_iload C dL_law_171 rfl ?_
    refine V_iconst (v := (3 : Int32)) C dL_law_173 (by decide) ?_
    refine V_icmp_geN (a := t) (b := 3) (tgt := 181) C dL_law_174 (by decide) (by omega) (by omega) (fun h174_999 => ?_) (fun h174_999 => ?_)
    · refine V_iload C dL_law_181 rfl ?_
      refine V_bipush (v := (15 : Int32)) C dL_law_183 (by decide) ?_
      refine V_iand C dL_law_185 ?_
      obtain ⟨a1000, ha1000, ea1000⟩ := pk_andE x (m := (15 : Int32)) 4 (by decide)
      refine V_eqi ea1000 ?_
      exact L186 a1000 (by omega)
    · refine V_iconst (v := (0 : Int32)) C dL_law_177 (by decide) ?_
      refine V_goto (tgt := 186) C dL_law_178 (by decide) ?_
      exact L186 0 (by omega)
  refine V_iload C dL_law_128 rfl ?_
  refine V_aload_n C dL_law_130 rfl ?_
  refine V_slen C hX hbl hfar dL_law_131 ?_
  refine V_icmp_geN (a := t) (b := L0) (tgt := 142) C dL_law_132 (by decide) (by omega) (by omega) (fun h132_1001 => ?_) (fun h132_1001 => ?_)
  · refine V_ldc C kc_L_74 dL_law_142 ?_
    refine V_iload C dL_law_144 rfl ?_
    refine V_imulN (a := 2970017) (b := t) C dL_law_146 ?_
    refine V_iload C dL_law_147 rfl ?_
    refine V_imulN (a := 2970017 * t) (b := t) C dL_law_149 ?_
    refine V_ldc C kc_L_75 dL_law_150 ?_
    refine V_iload C dL_law_152 rfl ?_
    refine V_imulN (a := 99017) (b := t) C dL_law_154 ?_
    refine V_iaddN (a := (2970017 * t) * t) (b := 99017 * t) C dL_law_155 ?_
    refine V_sipush (v := (167 : Int32)) C dL_law_156 (by decide) ?_
    refine V_iaddN (a := (2970017 * t) * t + (99017 * t)) (b := 167) C dL_law_159 ?_
    exact L160 (nI ((2970017 * t) * t + (99017 * t) + 167)) trivial
  · refine V_aload_n C dL_law_135 rfl ?_
    refine V_iload C dL_law_136 rfl ?_
    refine V_sld C hX hbl hfar (vin_9 (by omega) hL0) dL_law_138 ?_
    refine V_goto (tgt := 160) C dL_law_139 (by decide) ?_
    exact L160 (xs (nI t).toNatClampNeg) trivial
