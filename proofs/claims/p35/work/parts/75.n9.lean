set_option maxHeartbeats 4000000 in
set_option maxRecDepth 100000 in
theorem law_d11 {p : Program} {l : Launch} {e : Env} {s : State} {m : MethodId} {args : Array Value} {below : List Frame} {meth : Method} {c : Code} {w : Wt} {cn ck b L0 : Nat} {xs : Nat → Int32} {Q : State → Prop} {X : Mem} (K : LawC p l s m args meth c w b L0 xs) (hnk : cn + 60 ≤ 668764 ∧ ck + 360 ≤ 7095478) {h D n R tu t y d who ko net mz va : Nat} (hS : LSt X h D n R) (hh6 : h ≤ 6) (hn16 : n ≤ 16) (hR8 : R ≤ 8) (hD9 : D ≤ 9000) (hyb : y < 268435456) (hwho : who < h) (hko : n = 0 ∨ ko < n) (hnet : net < 7) (hma : mz ≤ 8) (hva : va < 256) (hvb : va % 2 ^ (8 - mz) = 0) (hR : R < 8) (kk : ∀ (X' : Mem) (h' D' n' R' mz' va' : Nat), LSt X' h' D' n' R' → h ≤ h' → h' ≤ 6 → n' ≤ 16 → R' ≤ 8 → D' ≤ D + 12 → mz' ≤ 8 → va' < 256 → va' % 2 ^ (8 - mz') = 0 → V p l e room_1 s m args below meth c w 29 (cn + 60) (ck + 360) Q 1630 [some (.ref b), some (.ref (w.2.1 0)), some (.ref (w.2.1 85)), some (.ref (w.2.1 86)), some (.ref (w.2.1 87)), some (.ref (w.2.1 88)), some (.ref (w.2.1 89)), some (.ref (w.2.1 90)), some (.ref (w.2.1 91)), some (.int (nI h')), some (.int (nI n')), some (.int (nI R')), some (.int (1 : Int32)), some (.int (nI tu)), some (.int (nI t)), none, some (.int (nI y)), none, some (.int (nI who)), none, some (.int (nI net)), some (.int (nI mz')), some (.int (nI va')), none, none, none, none, none, none] [] X') : V p l e room_1 s m args below meth c w 29 cn ck Q 1163 [some (.ref b), some (.ref (w.2.1 0)), some (.ref (w.2.1 85)), some (.ref (w.2.1 86)), some (.ref (w.2.1 87)), some (.ref (w.2.1 88)), some (.ref (w.2.1 89)), some (.ref (w.2.1 90)), some (.ref (w.2.1 91)), some (.int (nI h)), some (.int (nI n)), some (.int (nI R)), some (.int (1 : Int32)), some (.int (nI tu)), some (.int (nI t)), none, some (.int (nI y)), some (.int (nI d)), some (.int (nI who)), some (.int (nI ko)), some (.int (nI net)), some (.int (nI mz)), some (.int (nI va)), none, none, none, none, none, none] [] X := by
  obtain ⟨C, hD, hN, hX, hbl, hfar, hL0⟩ := K
  obtain ⟨dr, PP, Z, Th, hJ, hL⟩ := hS
  have hK0 : Kp X X := Kp.rf
  have h1 := hJ.1.2.2.2.1
  have hR24 : R ≤ 24 := by omega
  refine V_iconst (v := (1 : Int32)) C dL_law_1163 (by decide) ?_
  refine V_iload C dL_law_1164 rfl ?_
  refine V_iconst (v := (3 : Int32)) C dL_law_1166 (by decide) ?_
  refine V_ishr C dL_law_1167 ?_
  refine V_eqi (y := nI (y / 8)) (pk_shrN (by omega) _ 3 (s_l31 3 (by decide))) ?_
  refine V_bipush (v := (6 : Int32)) C dL_law_1168 (by decide) ?_
  refine V_irem C dL_law_1170 (by decide) ?_
  refine V_eqi (y := nI ((y / 8) % 6)) (pk_rem (d := 6) (by omega) (by decide) (by decide)) ?_
  refine V_iaddN (a := 1) (b := (y / 8) % 6) C dL_law_1171 ?_
  refine V_istore (ls1 := [some (.ref b), some (.ref (w.2.1 0)), some (.ref (w.2.1 85)), some (.ref (w.2.1 86)), some (.ref (w.2.1 87)), some (.ref (w.2.1 88)), some (.ref (w.2.1 89)), some (.ref (w.2.1 90)), some (.ref (w.2.1 91)), some (.int (nI h)), some (.int (nI n)), some (.int (nI R)), some (.int (1 : Int32)), some (.int (nI tu)), some (.int (nI t)), none, some (.int (nI y)), some (.int (nI d)), some (.int (nI who)), some (.int (nI ko)), some (.int (nI net)), some (.int (nI mz)), some (.int (nI va)), some (.int (nI (1 + ((y / 8) % 6)))), none, none, none, none, none]) C dL_law_1172 (by decide) rfl ?_
  refine V_bipush (v := (7 : Int32)) C dL_law_1174 (by decide) ?_
  refine V_iload C dL_law_1176 rfl ?_
  refine V_imulN (a := 7) (b := R) C dL_law_1178 ?_
  refine V_istore (ls1 := [some (.ref b), some (.ref (w.2.1 0)), some (.ref (w.2.1 85)), some (.ref (w.2.1 86)), some (.ref (w.2.1 87)), some (.ref (w.2.1 88)), some (.ref (w.2.1 89)), some (.ref (w.2.1 90)), some (.ref (w.2.1 91)), some (.int (nI h)), some (.int (nI n)), some (.int (nI R)), some (.int (1 : Int32)), some (.int (nI tu)), some (.int (nI t)), none, some (.int (nI y)), some (.int (nI d)), some (.int (nI who)), some (.int (nI ko)), some (.int (nI net)), some (.int (nI mz)), some (.int (nI va)), some (.int (nI (1 + ((y / 8) % 6)))), some (.int (nI (7 * R))), none, none, none, none]) C dL_law_1179 (by decide) rfl ?_
  refine V_iconst (v := (0 : Int32)) C dL_law_1181 (by decide) ?_
  refine V_istore (ls1 := [some (.ref b), some (.ref (w.2.1 0)), some (.ref (w.2.1 85)), some (.ref (w.2.1 86)), some (.ref (w.2.1 87)), some (.ref (w.2.1 88)), some (.ref (w.2.1 89)), some (.ref (w.2.1 90)), some (.ref (w.2.1 91)), some (.int (nI h)), some (.int (nI n)), some (.int (nI R)), some (.int (1 : Int32)), some (.int (nI tu)), some (.int (nI t)), none, some (.int (nI y)), some (.int (nI d)), some (.int (nI who)), some (.int (nI ko)), some (.int (nI net)), some (.int (nI mz)), some (.int (nI va)), some (.int (nI (1 + ((y / 8) % 6)))), some (.int (nI (7 * R))), some (.int (0 : Int32)), none, none, none]) C dL_law_1182 (by decide) rfl ?_
  have L1184 : ∀ (fu : Nat) (ee : Nat) (drv : Nat → Nat) (Y : Mem), 7 - ee < fu → (ee ≤ 1 + y / 8 % 6) → (JP Y h D n ee R drv PP Z Th) → (LAh Y h n R PP Z Th) → (HopR (Y 91) (7 * R) drv ee) → V p l e room_1 s m args below meth c w 29 (cn + 2 * ee + 0) (ck + 12 * ee + 0) Q 1184 [some (.ref b), some (.ref (w.2.1 0)), some (.ref (w.2.1 85)), some (.ref (w.2.1 86)), some (.ref (w.2.1 87)), some (.ref (w.2.1 88)), some (.ref (w.2.1 89)), some (.ref (w.2.1 90)), some (.ref (w.2.1 91)), some (.int (nI h)), some (.int (nI n)), some (.int (nI R)), some (.int (1 : Int32)), some (.int (nI tu)), some (.int (nI t)), none, some (.int (nI y)), some (.int (nI d)), some (.int (nI who)), some (.int (nI ko)), some (.int (nI net)), some (.int (nI mz)), some (.int (nI va)), some (.int (nI (1 + ((y / 8) % 6)))), some (.int (nI (7 * R))), some (.int (nI ee)), none, none, none] [] Y := by
    intro fu
    induction fu with
    | zero => intro ee drv Y hm; exact absurd hm (Nat.not_lt_zero _)
    | succ fu ih1184 =>
      intro ee drv Y hm1184 hee hJY hLY hHY
      refine V_iload C dL_law_1184 rfl ?_
      refine V_iload C dL_law_1186 rfl ?_
      refine V_icmp_geN (a := ee) (b := 1 + ((y / 8) % 6)) (tgt := 1301) C dL_law_1188 (by decide) (by omega) (by omega) (fun h1188_1 => ?_) (fun h1188_1 => ?_)
      · refine V_iload C dL_law_1301 rfl ?_
        refine V_if_eq (x := (1 : Int32)) (tgt := 1355) C dL_law_1303 (by decide) (fun h => absurd h (by decide)) (fun _ => ?_)
        refine V_aload_n C dL_law_1306 rfl ?_
        refine V_iload C dL_law_1307 rfl ?_
        refine V_iload C dL_law_1309 rfl ?_
        refine V_hcallV C hD [.int (nI va), .int (nI mz)] mi_L_115 pl_L_115 (k_X9_hear w l (nI va) (nI mz) Y R (cntT Th R) ee drv hJY.2.2.2.1.1.2.1 hJY.2.2.2.1.1.1 hJY.2.2.2.1.2.1 hJY.2.2.1.1 hJY.2.2.1.2.1 hJY.2.2.1.2.2) dL_law_1311 sh_0 (by decide) rfl rfl rfl (Nat.le_of_ble_eq_true rfl) (Nat.le_of_ble_eq_true rfl) (Nat.le_of_ble_eq_true rfl) ⟨by show _ ≤ 668764; omega, by show _ ≤ 7095478; omega⟩ (fun E X1 hx => False.elim (hx.2.elim (fun g => g.2 (blk_n (v := va) (l := mz) (by omega) (by omega) hvb)) (fun g => g.2.2 ⟨by omega, by omega⟩))) (fun v3 X3 q3 => ?_)
        obtain ⟨er3, hJ3, kr3, e48, e49, hd1⟩ := U_hear (v := va) (l := mz) hJY q3
        have hL3 := LA_heard (by omega) hLY hHY kr3
        refine V_eqi er3 ?_
        have hKX3 : Kp X3 X3 := Kp.rf
        have k91 : X3 91 = Y 91 := kr3 91 (by decide)
        have hpos := sqn_pos (dr := drv) ee (by omega)
        have h2p : 2 ^ (8 - mz) ≤ 256 := by have := blk_le va (by omega) mz (by omega) hvb; omega
        refine V_iload C dL_law_1314 rfl ?_
        refine V_icmp_neN (a := R) (b := R) (tgt := 1355) C dL_law_1316 (by decide) (by omega) (by omega) (fun h1316_4 => False.elim (h1316_4 rfl)) (fun h1316_4 => ?_)
        refine V_aload_n C dL_law_1319 rfl ?_
        refine V_callVI C [] mi_L_118 (k_X9_routes w l X3  ) dL_law_1320 sh_0 (by decide) rfl rfl rfl (Nat.le_of_ble_eq_true rfl) (Nat.le_of_ble_eq_true rfl) (Nat.le_of_ble_eq_true rfl) ⟨by show _ ≤ 668764; omega, by show _ ≤ 7095478; omega⟩ (fun v5 X5 q5 => ?_)
        obtain ⟨ev5, eX5⟩ := q5; subst X5
        refine V_eqi (ev5.trans hJ3.2.2.2.1.1.2.1) ?_
        refine V_iload C dL_law_1323 rfl ?_
        refine V_iconst (v := (1 : Int32)) C dL_law_1325 (by decide) ?_
        refine V_iaddN (a := R) (b := 1) C dL_law_1326 ?_
        refine V_icmp_neN (a := (R + 1)) (b := R + 1) (tgt := 1355) C dL_law_1327 (by decide) (by omega) (by omega) (fun h1327_6 => False.elim (h1327_6 rfl)) (fun h1327_6 => ?_)
        refine V_aload_n C dL_law_1330 rfl ?_
        refine V_aload C dL_law_1331 rfl ?_
        refine V_iload C dL_law_1333 rfl ?_
        refine V_iconst (v := (1 : Int32)) C dL_law_1335 (by decide) ?_
        refine V_iaddN (a := 7 * R) (b := 1) C dL_law_1336 ?_
        refine V_ialdN (p0 := 91) (o := 7 * R + 1) (v := X3 91 (7 * R + 1)) C dL_law_1337 sh_91 (by decide) (by omega) (by decide) rfl ?_
        have hq7 : sqp drv ee 0 < 10 := sqp_lt ee 0 (fun k hk => (hJY.2.2.1.2.2 k hk).2) (by omega)
        refine V_eqi (y := nI (sqp drv ee 0)) ((congrFun k91 _).trans (hHY.2 0 (by omega))) ?_
        refine V_hcallV C hD [.int (nI (sqp drv ee 0))] mi_L_70 pl_L_70 (k_X9_addresses w l (nI (sqp drv ee 0)) X3 (R + 1) (exR PP R (sqp drv ee)) (exR Z R (sqn drv ee)) (exR Th R True) hJ3.2.2.2.1.1) dL_law_1338 sh_0 (by decide) rfl rfl rfl (Nat.le_of_ble_eq_true rfl) (Nat.le_of_ble_eq_true rfl) (Nat.le_of_ble_eq_true rfl) ⟨by show _ ≤ 668764; omega, by show _ ≤ 7095478; omega⟩ (fun E X1 hx => False.elim (hx.2.2 (btw_n (a := sqp drv ee 0) (m := 9) (by omega) (by omega)))) (fun v8 X8 q8 => ?_)
        obtain ⟨-, a8, S8, ⟨ha8, ea8⟩, ⟨hS8, hb8⟩, oI8, eA8⟩ := q8
        rw [← nIu (m := 10) (by decide) (by omega) (by omega) ea8] at hb8
        try rw [hKX3 48 (by omega), hKX3 49 (by omega)] at eA8
        have hK8 : Kp X3 X8 := hKX3.outI oI8
        have hJ8 := JP_k hK8 hJ3
        obtain ⟨n8, en8⟩ : ∃ m, m = sumN (fun ad => oneIf (ReA (X3 48) (X3 49) (exR PP R (sqp drv ee)) (exR Th R True) S8 ad (R + 1))) 256 := ⟨_, rfl⟩
        rw [← en8] at eA8
        have hn8 : n8 ≤ 256 := by rw [en8]; exact sum256 _
        refine V_eqi eA8 ?_
        refine V_iconst (v := (1 : Int32)) C dL_law_1341 (by decide) ?_
        refine V_bipush (v := (8 : Int32)) C dL_law_1342 (by decide) ?_
        refine V_iload C dL_law_1344 rfl ?_
        refine V_isubN (a := 8) (b := mz) C dL_law_1346 (by omega) ?_
        refine V_ishl C dL_law_1347 ?_
        refine V_eqi (y := nI (2 ^ (8 - mz))) (shl1 (by omega)) ?_
        refine V_icmp_ltN (a := n8) (b := 2 ^ (8 - mz)) (tgt := 1355) C dL_law_1348 (by decide) (by omega) (by omega) (fun h1348_9 => False.elim (absurd h1348_9 (Nat.not_lt.mpr (by rw [en8]; exact adr_ge e48 e49 (by omega) (by omega) hvb ((hb8 _).mpr (by rw [exR_eq]; exact Rch_rf)) (by rw [exR_eq]; trivial))))) (fun h1348_9 => ?_)
        refine V_iconst (v := (1 : Int32)) C dL_law_1351 (by decide) ?_
        refine V_goto (tgt := 1356) C dL_law_1352 (by decide) ?_
        refine V_istore (ls1 := [some (.ref b), some (.ref (w.2.1 0)), some (.ref (w.2.1 85)), some (.ref (w.2.1 86)), some (.ref (w.2.1 87)), some (.ref (w.2.1 88)), some (.ref (w.2.1 89)), some (.ref (w.2.1 90)), some (.ref (w.2.1 91)), some (.int (nI h)), some (.int (nI n)), some (.int (nI R)), some (.int (1 : Int32)), some (.int (nI tu)), some (.int (nI t)), none, some (.int (nI y)), some (.int (nI d)), some (.int (nI who)), some (.int (nI ko)), some (.int (nI net)), some (.int (nI mz)), some (.int (nI va)), some (.int (nI (1 + ((y / 8) % 6)))), some (.int (nI (7 * R))), some (.int (nI ee)), none, none, none]) C dL_law_1356 (by decide) rfl ?_
        refine V_iincN (a := R) (ls1 := [some (.ref b), some (.ref (w.2.1 0)), some (.ref (w.2.1 85)), some (.ref (w.2.1 86)), some (.ref (w.2.1 87)), some (.ref (w.2.1 88)), some (.ref (w.2.1 89)), some (.ref (w.2.1 90)), some (.ref (w.2.1 91)), some (.int (nI h)), some (.int (nI n)), some (.int (nI (R + 1))), some (.int (1 : Int32)), some (.int (nI tu)), some (.int (nI t)), none, some (.int (nI y)), some (.int (nI d)), some (.int (nI who)), some (.int (nI ko)), some (.int (nI net)), some (.int (nI mz)), some (.int (nI va)), some (.int (nI (1 + ((y / 8) % 6)))), some (.int (nI (7 * R))), some (.int (nI ee)), none, none, none]) C dL_law_1358 rfl (by decide) rfl ?_
        refine V_goto (tgt := 1630) C dL_law_1361 (by decide) ?_
        refine V_kill (i := 17) (ls1 := [some (.ref b), some (.ref (w.2.1 0)), some (.ref (w.2.1 85)), some (.ref (w.2.1 86)), some (.ref (w.2.1 87)), some (.ref (w.2.1 88)), some (.ref (w.2.1 89)), some (.ref (w.2.1 90)), some (.ref (w.2.1 91)), some (.int (nI h)), some (.int (nI n)), some (.int (nI (R + 1))), some (.int (1 : Int32)), some (.int (nI tu)), some (.int (nI t)), none, some (.int (nI y)), none, some (.int (nI who)), some (.int (nI ko)), some (.int (nI net)), some (.int (nI mz)), some (.int (nI va)), some (.int (nI (1 + ((y / 8) % 6)))), some (.int (nI (7 * R))), some (.int (nI ee)), none, none, none]) rfl ?_
        refine V_kill (i := 19) (ls1 := [some (.ref b), some (.ref (w.2.1 0)), some (.ref (w.2.1 85)), some (.ref (w.2.1 86)), some (.ref (w.2.1 87)), some (.ref (w.2.1 88)), some (.ref (w.2.1 89)), some (.ref (w.2.1 90)), some (.ref (w.2.1 91)), some (.int (nI h)), some (.int (nI n)), some (.int (nI (R + 1))), some (.int (1 : Int32)), some (.int (nI tu)), some (.int (nI t)), none, some (.int (nI y)), none, some (.int (nI who)), none, some (.int (nI net)), some (.int (nI mz)), some (.int (nI va)), some (.int (nI (1 + ((y / 8) % 6)))), some (.int (nI (7 * R))), some (.int (nI ee)), none, none, none]) rfl ?_
        refine V_kill (i := 23) (ls1 := [some (.ref b), some (.ref (w.2.1 0)), some (.ref (w.2.1 85)), some (.ref (w.2.1 86)), some (.ref (w.2.1 87)), some (.ref (w.2.1 88)), some (.ref (w.2.1 89)), some (.ref (w.2.1 90)), some (.ref (w.2.1 91)), some (.int (nI h)), some (.int (nI n)), some (.int (nI (R + 1))), some (.int (1 : Int32)), some (.int (nI tu)), some (.int (nI t)), none, some (.int (nI y)), none, some (.int (nI who)), none, some (.int (nI net)), some (.int (nI mz)), some (.int (nI va)), none, some (.int (nI (7 * R))), some (.int (nI ee)), none, none, none]) rfl ?_
        refine V_kill (i := 24) (ls1 := [some (.ref b), some (.ref (w.2.1 0)), some (.ref (w.2.1 85)), some (.ref (w.2.1 86)), some (.ref (w.2.1 87)), some (.ref (w.2.1 88)), some (.ref (w.2.1 89)), some (.ref (w.2.1 90)), some (.ref (w.2.1 91)), some (.int (nI h)), some (.int (nI n)), some (.int (nI (R + 1))), some (.int (1 : Int32)), some (.int (nI tu)), some (.int (nI t)), none, some (.int (nI y)), none, some (.int (nI who)), none, some (.int (nI net)), some (.int (nI mz)), some (.int (nI va)), none, none, some (.int (nI ee)), none, none, none]) rfl ?_
        refine V_kill (i := 25) (ls1 := [some (.ref b), some (.ref (w.2.1 0)), some (.ref (w.2.1 85)), some (.ref (w.2.1 86)), some (.ref (w.2.1 87)), some (.ref (w.2.1 88)), some (.ref (w.2.1 89)), some (.ref (w.2.1 90)), some (.ref (w.2.1 91)), some (.int (nI h)), some (.int (nI n)), some (.int (nI (R + 1))), some (.int (1 : Int32)), some (.int (nI tu)), some (.int (nI t)), none, some (.int (nI y)), none, some (.int (nI who)), none, some (.int (nI net)), some (.int (nI mz)), some (.int (nI va)), none, none, none, none, none, none]) rfl ?_
        have hLe := LA_k hK8 hL3
        exact V_widen (by omega) (by omega) (kk X8 h D n (R + 1) mz va (LSt.mk hJ8 hLe) (by omega) (by omega) (by omega) (by omega) (by omega) (by omega) (by omega) (by omega))
      · refine V_iload C dL_law_1191 rfl ?_
        refine V_if_eq (x := (1 : Int32)) (tgt := 1301) C dL_law_1193 (by decide) (fun h => absurd h (by decide)) (fun _ => ?_)
        have hdv := Nat.div_le_self y (2 ^ (4 + (3 * ee)))
        refine V_iload C dL_law_1196 rfl ?_
        refine V_iconst (v := (4 : Int32)) C dL_law_1198 (by decide) ?_
        refine V_iconst (v := (3 : Int32)) C dL_law_1199 (by decide) ?_
        refine V_iload C dL_law_1200 rfl ?_
        refine V_imulN (a := 3) (b := ee) C dL_law_1202 ?_
        refine V_iaddN (a := 4) (b := 3 * ee) C dL_law_1203 ?_
        refine V_ishr C dL_law_1204 ?_
        refine V_eqi (y := nI (y / 2 ^ (4 + (3 * ee)))) (pk_shrN (by omega) _ (4 + (3 * ee)) (s_l31 _ (by omega))) ?_
        refine V_bipush (v := (7 : Int32)) C dL_law_1205 (by decide) ?_
        refine V_iand C dL_law_1207 ?_
        refine V_eqi (y := nI ((y / 2 ^ (4 + (3 * ee))) % 8)) (pk_andN (by omega) 3 (by decide)) ?_
        refine V_bipush (v := (7 : Int32)) C dL_law_1208 (by decide) ?_
        refine V_irem C dL_law_1210 (by decide) ?_
        obtain ⟨a11, ha11, ea11⟩ := (⟨_, Nat.mod_lt _ (by decide), pk_rem (d := 7) (by omega) (by decide) (by decide)⟩ : ∃ a, a < 7 ∧ (nI ((y / 2 ^ (4 + (3 * ee))) % 8)) - (nI ((y / 2 ^ (4 + (3 * ee))) % 8)) / (7 : Int32) * (7 : Int32) = nI a)
        refine V_eqi ea11 ?_
        refine V_istore (ls1 := [some (.ref b), some (.ref (w.2.1 0)), some (.ref (w.2.1 85)), some (.ref (w.2.1 86)), some (.ref (w.2.1 87)), some (.ref (w.2.1 88)), some (.ref (w.2.1 89)), some (.ref (w.2.1 90)), some (.ref (w.2.1 91)), some (.int (nI h)), some (.int (nI n)), some (.int (nI R)), some (.int (1 : Int32)), some (.int (nI tu)), some (.int (nI t)), none, some (.int (nI y)), some (.int (nI d)), some (.int (nI who)), some (.int (nI ko)), some (.int (nI net)), some (.int (nI mz)), some (.int (nI va)), some (.int (nI (1 + ((y / 8) % 6)))), some (.int (nI (7 * R))), some (.int (nI ee)), some (.int (nI a11)), none, none]) C dL_law_1211 (by decide) rfl ?_
        have hsp : ee ≠ 0 → 1 ≤ sqn drv ee := fun z => sqn_pos ee (Nat.pos_of_ne_zero z)
        refine V_aload_n C dL_law_1213 rfl ?_
        refine V_iload C dL_law_1214 rfl ?_
        refine V_hcallV C hD [.int (nI a11)] mi_L_112 pl_L_112 (k_X9_hop w l (nI a11) Y ee hJY.2.2.1.1 hJY.2.2.1.2.1) dL_law_1216 sh_0 (by decide) rfl rfl rfl (Nat.le_of_ble_eq_true rfl) (Nat.le_of_ble_eq_true rfl) (Nat.le_of_ble_eq_true rfl) ⟨by show _ ≤ 668764; omega, by show _ ≤ 7095478; omega⟩ (fun E X1 hx => False.elim (hx.2.elim (fun g => g.2 (btw_n (a := a11) (m := 9) (by omega) (by omega))) (fun g => g.2.2 (by omega)))) (fun v12 X12 q12 => ?_)
        obtain ⟨er12, hJ12, kh12⟩ := U_hop (a := a11) hJY (by omega) q12
        have hLh12 := LAh_k kh12 hLY
        have k91 : X12 91 = Y 91 := kh12 91 (by decide) (by decide)
        refine V_eqi er12 ?_
        refine V_iload C dL_law_1219 rfl ?_
        refine V_iconst (v := (1 : Int32)) C dL_law_1221 (by decide) ?_
        refine V_iaddN (a := ee) (b := 1) C dL_law_1222 ?_
        refine V_icmp_neN (a := ee + 1) (b := ee + 1) (tgt := 1230) C dL_law_1223 (by decide) (by omega) (by omega) (fun h1223_13 => False.elim (h1223_13 rfl)) (fun h1223_13 => ?_)
        refine V_iconst (v := (1 : Int32)) C dL_law_1226 (by decide) ?_
        refine V_goto (tgt := 1231) C dL_law_1227 (by decide) ?_
        refine V_istore (ls1 := [some (.ref b), some (.ref (w.2.1 0)), some (.ref (w.2.1 85)), some (.ref (w.2.1 86)), some (.ref (w.2.1 87)), some (.ref (w.2.1 88)), some (.ref (w.2.1 89)), some (.ref (w.2.1 90)), some (.ref (w.2.1 91)), some (.int (nI h)), some (.int (nI n)), some (.int (nI R)), some (.int (1 : Int32)), some (.int (nI tu)), some (.int (nI t)), none, some (.int (nI y)), some (.int (nI d)), some (.int (nI who)), some (.int (nI ko)), some (.int (nI net)), some (.int (nI mz)), some (.int (nI va)), some (.int (nI (1 + ((y / 8) % 6)))), some (.int (nI (7 * R))), some (.int (nI ee)), some (.int (nI a11)), none, none]) C dL_law_1231 (by decide) rfl ?_
        refine V_aload C dL_law_1233 rfl ?_
        refine V_iload C dL_law_1235 rfl ?_
        have L1262 : ∀ (ag : Int32), (bI (ee ≠ 0 ∧ a11 = drv (ee - 1)) ag) → V p l e room_1 s m args below meth c w 29 (cn + 2 * ee + 2) (ck + 12 * ee + 12) Q 1262 [some (.ref b), some (.ref (w.2.1 0)), some (.ref (w.2.1 85)), some (.ref (w.2.1 86)), some (.ref (w.2.1 87)), some (.ref (w.2.1 88)), some (.ref (w.2.1 89)), some (.ref (w.2.1 90)), some (.ref (w.2.1 91)), some (.int (nI h)), some (.int (nI n)), some (.int (nI R)), some (.int (1 : Int32)), some (.int (nI tu)), some (.int (nI t)), none, some (.int (nI y)), some (.int (nI d)), some (.int (nI who)), some (.int (nI ko)), some (.int (nI net)), some (.int (nI mz)), some (.int (nI va)), some (.int (nI (1 + ((y / 8) % 6)))), some (.int (nI (7 * R))), some (.int (nI ee)), some (.int (nI a11)), none, none] [.int ag] X12 := by
          intro ag hag
          refine V_istore (ls1 := [some (.ref b), some (.ref (w.2.1 0)), some (.ref (w.2.1 85)), some (.ref (w.2.1 86)), some (.ref (w.2.1 87)), some (.ref (w.2.1 88)), some (.ref (w.2.1 89)), some (.ref (w.2.1 90)), some (.ref (w.2.1 91)), some (.int (nI h)), some (.int (nI n)), some (.int (nI R)), some (.int (1 : Int32)), some (.int (nI tu)), some (.int (nI t)), none, some (.int (nI y)), some (.int (nI d)), some (.int (nI who)), some (.int (nI ko)), some (.int (nI net)), some (.int (nI mz)), some (.int (nI va)), some (.int (nI (1 + ((y / 8) % 6)))), some (.int (nI (7 * R))), some (.int (nI ee)), some (.int (nI a11)), some (.int ag), none]) C dL_law_1262 (by decide) rfl ?_
          refine V_aload C dL_law_1264 rfl ?_
          refine V_iload C dL_law_1266 rfl ?_
          refine V_dup2 C dL_law_1268 rfl rfl ?_
          refine V_ialdN (p0 := 91) (o := 7 * R) (v := X12 91 (7 * R)) C dL_law_1269 sh_91 (by decide) (by omega) (by decide) rfl ?_
          have hq14 : sqn drv ee ≤ ee := sqn_le ee
          refine V_eqi (y := nI (sqn drv ee)) ((congrFun k91 _).trans hHY.1) ?_
          refine V_iload C dL_law_1270 rfl ?_
          refine V_if_eqB (tgt := 1279) C hag dL_law_1272 (by decide) (fun h1272_15 => ?_) (fun h1272_15 => ?_)
          · refine V_iconst (v := (1 : Int32)) C dL_law_1279 (by decide) ?_
            refine V_iaddN (a := sqn drv ee) (b := 1) C dL_law_1280 ?_
            refine V_iastN (p0 := 91) (o := 7 * R) (X1 := (ma X12 91 (upd (X12 91) (7 * R) (nI (sqn drv ee + 1))))) C dL_law_1281 sh_91 (by decide) (by omega) (by decide) rfl ?_
            refine V_aload C dL_law_1282 rfl ?_
            refine V_iload C dL_law_1284 rfl ?_
            refine V_aload C dL_law_1286 rfl ?_
            refine V_iload C dL_law_1288 rfl ?_
            refine V_ialdN (p0 := 91) (o := 7 * R) (v := (upd (X12 91) (7 * R) (nI (sqn drv ee + 1))) (7 * R)) C dL_law_1290 sh_91 (by decide) (by omega) (by decide) rfl ?_
            refine V_eqi (y := nI (sqn drv ee + 1)) (upd_eq _ _ _) ?_
            refine V_iaddN (a := 7 * R) (b := sqn drv ee + 1) C dL_law_1291 ?_
            refine V_iload C dL_law_1292 rfl ?_
            refine V_iastN (p0 := 91) (o := 7 * R + (sqn drv ee + 1)) (X1 := (ma X12 91 (upd (upd (X12 91) (7 * R) (nI (sqn drv ee + 1))) (7 * R + (sqn drv ee + 1)) (nI a11)))) C dL_law_1294 sh_91 (by decide) (by omega) (by decide) (ma_ma _ _ _ _) ?_
            obtain ⟨Y2, eY2⟩ : ∃ Y : Mem, Y = (ma X12 91 (upd (upd (X12 91) (7 * R) (nI (sqn drv ee + 1))) (7 * R + (sqn drv ee + 1)) (nI a11))) := ⟨_, rfl⟩
            rw [← eY2]
            have hJY2 : JP Y2 h D n (ee + 1) R (ext1 drv ee a11) PP Z Th := by rw [eY2]; exact JP_l (by decide) hJ12
            have hLY2 : LAh Y2 h n R PP Z Th := by rw [eY2]; exact LAh_p (by omega) (fun j hj => by rw [upd_ne (by omega), upd_ne (by omega)]) (fun r hr => (hJY.2.2.2.1.1.2.2 r hr).2.1) hLh12
            have hHY2 : HopR (Y2 91) (7 * R) (ext1 drv ee a11) (ee + 1) := by rw [eY2, ma_eq, k91]; exact HopR_new (Classical.byContradiction fun q => (by assumption : ¬ (ee ≠ 0 ∧ a11 = drv (ee - 1))) (SqK_x.mp q)) hHY
            refine V_iincN (a := ee) (ls1 := [some (.ref b), some (.ref (w.2.1 0)), some (.ref (w.2.1 85)), some (.ref (w.2.1 86)), some (.ref (w.2.1 87)), some (.ref (w.2.1 88)), some (.ref (w.2.1 89)), some (.ref (w.2.1 90)), some (.ref (w.2.1 91)), some (.int (nI h)), some (.int (nI n)), some (.int (nI R)), some (.int (1 : Int32)), some (.int (nI tu)), some (.int (nI t)), none, some (.int (nI y)), some (.int (nI d)), some (.int (nI who)), some (.int (nI ko)), some (.int (nI net)), some (.int (nI mz)), some (.int (nI va)), some (.int (nI (1 + ((y / 8) % 6)))), some (.int (nI (7 * R))), some (.int (nI (ee + 1))), some (.int (nI a11)), some (.int ag), none]) C dL_law_1295 rfl (by decide) rfl ?_
            refine V_goto (tgt := 1184) C dL_law_1298 (by decide) ?_
            refine V_kill (i := 26) (ls1 := [some (.ref b), some (.ref (w.2.1 0)), some (.ref (w.2.1 85)), some (.ref (w.2.1 86)), some (.ref (w.2.1 87)), some (.ref (w.2.1 88)), some (.ref (w.2.1 89)), some (.ref (w.2.1 90)), some (.ref (w.2.1 91)), some (.int (nI h)), some (.int (nI n)), some (.int (nI R)), some (.int (1 : Int32)), some (.int (nI tu)), some (.int (nI t)), none, some (.int (nI y)), some (.int (nI d)), some (.int (nI who)), some (.int (nI ko)), some (.int (nI net)), some (.int (nI mz)), some (.int (nI va)), some (.int (nI (1 + ((y / 8) % 6)))), some (.int (nI (7 * R))), some (.int (nI (ee + 1))), none, some (.int ag), none]) rfl ?_
            refine V_kill (i := 27) (ls1 := [some (.ref b), some (.ref (w.2.1 0)), some (.ref (w.2.1 85)), some (.ref (w.2.1 86)), some (.ref (w.2.1 87)), some (.ref (w.2.1 88)), some (.ref (w.2.1 89)), some (.ref (w.2.1 90)), some (.ref (w.2.1 91)), some (.int (nI h)), some (.int (nI n)), some (.int (nI R)), some (.int (1 : Int32)), some (.int (nI tu)), some (.int (nI t)), none, some (.int (nI y)), some (.int (nI d)), some (.int (nI who)), some (.int (nI ko)), some (.int (nI net)), some (.int (nI mz)), some (.int (nI va)), some (.int (nI (1 + ((y / 8) % 6)))), some (.int (nI (7 * R))), some (.int (nI (ee + 1))), none, none, none]) rfl ?_
            refine V_widen (n' := (cn + 2 * (ee + 1) + 0)) (k' := (ck + 12 * (ee + 1) + 0)) (by omega) (by omega) ?_
            exact ih1184 (ee + 1) (ext1 drv ee a11) Y2 (by omega) (by omega) hJY2 hLY2 hHY2
          · refine V_iconst (v := (0 : Int32)) C dL_law_1275 (by decide) ?_
            refine V_goto (tgt := 1280) C dL_law_1276 (by decide) ?_
            refine V_iaddN (a := sqn drv ee) (b := 0) C dL_law_1280 ?_
            refine V_iastN (p0 := 91) (o := 7 * R) (X1 := (ma X12 91 (upd (X12 91) (7 * R) (nI (sqn drv ee))))) C dL_law_1281 sh_91 (by decide) (by omega) (by decide) rfl ?_
            refine V_aload C dL_law_1282 rfl ?_
            refine V_iload C dL_law_1284 rfl ?_
            refine V_aload C dL_law_1286 rfl ?_
            refine V_iload C dL_law_1288 rfl ?_
            refine V_ialdN (p0 := 91) (o := 7 * R) (v := (upd (X12 91) (7 * R) (nI (sqn drv ee))) (7 * R)) C dL_law_1290 sh_91 (by decide) (by omega) (by decide) rfl ?_
            refine V_eqi (y := nI (sqn drv ee)) (upd_eq _ _ _) ?_
            refine V_iaddN (a := 7 * R) (b := sqn drv ee) C dL_law_1291 ?_
            refine V_iload C dL_law_1292 rfl ?_
            refine V_iastN (p0 := 91) (o := 7 * R + (sqn drv ee)) (X1 := (ma X12 91 (upd (upd (X12 91) (7 * R) (nI (sqn drv ee))) (7 * R + (sqn drv ee)) (nI a11)))) C dL_law_1294 sh_91 (by decide) (by omega) (by decide) (ma_ma _ _ _ _) ?_
            obtain ⟨Y2, eY2⟩ : ∃ Y : Mem, Y = (ma X12 91 (upd (upd (X12 91) (7 * R) (nI (sqn drv ee))) (7 * R + (sqn drv ee)) (nI a11))) := ⟨_, rfl⟩
            rw [← eY2]
            have hJY2 : JP Y2 h D n (ee + 1) R (ext1 drv ee a11) PP Z Th := by rw [eY2]; exact JP_l (by decide) hJ12
            have hLY2 : LAh Y2 h n R PP Z Th := by rw [eY2]; exact LAh_p (by omega) (fun j hj => by rw [upd_ne (by omega), upd_ne (by omega)]) (fun r hr => (hJY.2.2.2.1.1.2.2 r hr).2.1) hLh12
            have hHY2 : HopR (Y2 91) (7 * R) (ext1 drv ee a11) (ee + 1) := by rw [eY2, ma_eq, k91]; exact HopR_old (by have g9 : ee ≠ 0 ∧ a11 = drv (ee - 1) := (by assumption); exact g9.1) (by have g9 : ee ≠ 0 ∧ a11 = drv (ee - 1) := (by assumption); exact g9.2) (SqK_x.mpr (by assumption)) hHY
            refine V_iincN (a := ee) (ls1 := [some (.ref b), some (.ref (w.2.1 0)), some (.ref (w.2.1 85)), some (.ref (w.2.1 86)), some (.ref (w.2.1 87)), some (.ref (w.2.1 88)), some (.ref (w.2.1 89)), some (.ref (w.2.1 90)), some (.ref (w.2.1 91)), some (.int (nI h)), some (.int (nI n)), some (.int (nI R)), some (.int (1 : Int32)), some (.int (nI tu)), some (.int (nI t)), none, some (.int (nI y)), some (.int (nI d)), some (.int (nI who)), some (.int (nI ko)), some (.int (nI net)), some (.int (nI mz)), some (.int (nI va)), some (.int (nI (1 + ((y / 8) % 6)))), some (.int (nI (7 * R))), some (.int (nI (ee + 1))), some (.int (nI a11)), some (.int ag), none]) C dL_law_1295 rfl (by decide) rfl ?_
            refine V_goto (tgt := 1184) C dL_law_1298 (by decide) ?_
            refine V_kill (i := 26) (ls1 := [some (.ref b), some (.ref (w.2.1 0)), some (.ref (w.2.1 85)), some (.ref (w.2.1 86)), some (.ref (w.2.1 87)), some (.ref (w.2.1 88)), some (.ref (w.2.1 89)), some (.ref (w.2.1 90)), some (.ref (w.2.1 91)), some (.int (nI h)), some (.int (nI n)), some (.int (nI R)), some (.int (1 : Int32)), some (.int (nI tu)), some (.int (nI t)), none, some (.int (nI y)), some (.int (nI d)), some (.int (nI who)), some (.int (nI ko)), some (.int (nI net)), some (.int (nI mz)), some (.int (nI va)), some (.int (nI (1 + ((y / 8) % 6)))), some (.int (nI (7 * R))), some (.int (nI (ee + 1))), none, some (.int ag), none]) rfl ?_
            refine V_kill (i := 27) (ls1 := [some (.ref b), some (.ref (w.2.1 0)), some (.ref (w.2.1 85)), some (.ref (w.2.1 86)), some (.ref (w.2.1 87)), some (.ref (w.2.1 88)), some (.ref (w.2.1 89)), some (.ref (w.2.1 90)), some (.ref (w.2.1 91)), some (.int (nI h)), some (.int (nI n)), some (.int (nI R)), some (.int (1 : Int32)), some (.int (nI tu)), some (.int (nI t)), none, some (.int (nI y)), some (.int (nI d)), some (.int (nI who)), some (.int (nI ko)), some (.int (nI net)), some (.int (nI mz)), some (.int (nI va)), some (.int (nI (1 + ((y / 8) % 6)))), some (.int (nI (7 * R))), some (.int (nI (ee + 1))), none, none, none]) rfl ?_
            refine V_widen (n' := (cn + 2 * (ee + 1) + 0)) (k' := (ck + 12 * (ee + 1) + 0)) (by omega) (by omega) ?_
            exact ih1184 (ee + 1) (ext1 drv ee a11) Y2 (by omega) (by omega) hJY2 hLY2 hHY2
        refine V_ialdN (p0 := 91) (o := 7 * R) (v := X12 91 (7 * R)) C dL_law_1237 sh_91 (by decide) (by omega) (by decide) rfl ?_
        have hq16 : sqn drv ee ≤ ee := sqn_le ee
        refine V_eqi (y := nI (sqn drv ee)) ((congrFun k91 _).trans hHY.1) ?_
        refine V_if_leN (a := sqn drv ee) (tgt := 1261) C dL_law_1238 (by decide) (by omega) (fun h1238_17 => ?_) (fun h1238_17 => ?_)
        · refine V_iconst (v := (0 : Int32)) C dL_law_1261 (by decide) ?_
          exact L1262 (0 : Int32) (bI.f (fun q => by have g1 := q.1; have g2 := q.2; have g3 := hsp g1; omega))
        · refine V_aload C dL_law_1241 rfl ?_
          refine V_iload C dL_law_1243 rfl ?_
          refine V_aload C dL_law_1245 rfl ?_
          refine V_iload C dL_law_1247 rfl ?_
          refine V_ialdN (p0 := 91) (o := 7 * R) (v := X12 91 (7 * R)) C dL_law_1249 sh_91 (by decide) (by omega) (by decide) rfl ?_
          have hq18 : sqn drv ee ≤ ee := sqn_le ee
          refine V_eqi (y := nI (sqn drv ee)) ((congrFun k91 _).trans hHY.1) ?_
          refine V_iaddN (a := 7 * R) (b := sqn drv ee) C dL_law_1250 ?_
          refine V_ialdN (p0 := 91) (o := 7 * R + (sqn drv ee)) (v := X12 91 (7 * R + (sqn drv ee))) C dL_law_1251 sh_91 (by decide) (by omega) (by decide) rfl ?_
          have hq19 : drv (ee - 1) < 10 := (hJY.2.2.1.2.2 (ee - 1) (by omega)).2
          refine V_eqi (y := nI (drv (ee - 1))) ((congrFun k91 _).trans (HopR_last (by omega) hHY)) ?_
          refine V_iload C dL_law_1252 rfl ?_
          refine V_icmp_neN (a := drv (ee - 1)) (b := a11) (tgt := 1261) C dL_law_1254 (by decide) (by omega) (by omega) (fun h1254_20 => ?_) (fun h1254_20 => ?_)
          · refine V_iconst (v := (0 : Int32)) C dL_law_1261 (by decide) ?_
            exact L1262 (0 : Int32) (bI.f (fun q => by have g1 := q.1; have g2 := q.2; have g3 := hsp g1; omega))
          · refine V_iconst (v := (1 : Int32)) C dL_law_1257 (by decide) ?_
            refine V_goto (tgt := 1262) C dL_law_1258 (by decide) ?_
            exact L1262 (1 : Int32) (bI.t ⟨by omega, by omega⟩)
  refine V_widen (n' := (cn + 2 * 0 + 0)) (k' := (ck + 12 * 0 + 0)) (by omega) (by omega) ?_
  exact L1184 _ 0 dr X (Nat.lt_succ_self _) (by omega) hJ (LAh_of hL) ⟨hL.2.2.2 R (Nat.le_refl _) (by omega), fun j hj => absurd hj (Nat.not_lt_zero _)⟩
