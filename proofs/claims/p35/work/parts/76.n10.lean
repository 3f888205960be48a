set_option maxHeartbeats 4000000 in
set_option maxRecDepth 100000 in
theorem law_d13 {p : Program} {l : Launch} {e : Env} {s : State} {m : MethodId} {args : Array Value} {below : List Frame} {meth : Method} {c : Code} {w : Wt} {cn ck b L0 : Nat} {xs : Nat → Int32} {Q : State → Prop} {X : Mem} (K : LawC p l s m args meth c w b L0 xs) (hnk : cn + 60 ≤ 668764 ∧ ck + 360 ≤ 7095478) {h D n R tu t y d who ko net mz va : Nat} (hS : LSt X h D n R) (hh6 : h ≤ 6) (hn16 : n ≤ 16) (hR8 : R ≤ 8) (hD9 : D ≤ 9000) (hyb : y < 268435456) (hwho : who < h) (hko : n = 0 ∨ ko < n) (hnet : net < 7) (hma : mz ≤ 8) (hva : va < 256) (hvb : va % 2 ^ (8 - mz) = 0) (hR0 : 0 < R) (kk : ∀ (X' : Mem) (h' D' n' R' mz' va' : Nat), LSt X' h' D' n' R' → h ≤ h' → h' ≤ 6 → n' ≤ 16 → R' ≤ 8 → D' ≤ D + 12 → mz' ≤ 8 → va' < 256 → va' % 2 ^ (8 - mz') = 0 → V p l e room_1 s m args below meth c w 29 (cn + 60) (ck + 360) Q 1630 [some (.ref b), some (.ref (w.2.1 0)), some (.ref (w.2.1 85)), some (.ref (w.2.1 86)), some (.ref (w.2.1 87)), some (.ref (w.2.1 88)), some (.ref (w.2.1 89)), some (.ref (w.2.1 90)), some (.ref (w.2.1 91)), some (.int (nI h')), some (.int (nI n')), some (.int (nI R')), some (.int (1 : Int32)), some (.int (nI tu)), some (.int (nI t)), none, some (.int (nI y)), none, some (.int (nI who)), none, some (.int (nI net)), some (.int (nI mz')), some (.int (nI va')), none, none, none, none, none, none] [] X') : V p l e room_1 s m args below meth c w 29 cn ck Q 1383 [some (.ref b), some (.ref (w.2.1 0)), some (.ref (w.2.1 85)), some (.ref (w.2.1 86)), some (.ref (w.2.1 87)), some (.ref (w.2.1 88)), some (.ref (w.2.1 89)), some (.ref (w.2.1 90)), some (.ref (w.2.1 91)), some (.int (nI h)), some (.int (nI n)), some (.int (nI R)), some (.int (1 : Int32)), some (.int (nI tu)), some (.int (nI t)), none, some (.int (nI y)), some (.int (nI d)), some (.int (nI who)), some (.int (nI ko)), some (.int (nI net)), some (.int (nI mz)), some (.int (nI va)), none, none, none, none, none, none] [] X := by
  obtain ⟨C, hD, hN, hX, hbl, hfar, hL0⟩ := K
  obtain ⟨dr, PP, Z, Th, hJ, hL⟩ := hS
  have hK0 : Kp X X := Kp.rf
  have h1 := hJ.1.2.2.2.1
  have hR24 : R ≤ 24 := by omega
  refine V_iload C dL_law_1383 rfl ?_
  refine V_iconst (v := (2 : Int32)) C dL_law_1385 (by decide) ?_
  refine V_ishr C dL_law_1386 ?_
  refine V_eqi (y := nI (y / 4)) (pk_shrN (by omega) _ 2 (s_l31 2 (by decide))) ?_
  refine V_iload C dL_law_1387 rfl ?_
  have hmo1 := Nat.mod_lt (y / 4) (show 0 < R from by omega)
  refine V_irem C dL_law_1389 (nI_ne0 (by omega) (by omega)) ?_
  refine V_eqi (y := nI ((y / 4) % R)) (pk_rem (d := R) (by omega) (by omega) (by omega)) ?_
  refine V_istore (ls1 := [some (.ref b), some (.ref (w.2.1 0)), some (.ref (w.2.1 85)), some (.ref (w.2.1 86)), some (.ref (w.2.1 87)), some (.ref (w.2.1 88)), some (.ref (w.2.1 89)), some (.ref (w.2.1 90)), some (.ref (w.2.1 91)), some (.int (nI h)), some (.int (nI n)), some (.int (nI R)), some (.int (1 : Int32)), some (.int (nI tu)), some (.int (nI t)), none, some (.int (nI y)), some (.int (nI d)), some (.int (nI who)), some (.int (nI ko)), some (.int (nI net)), some (.int (nI mz)), some (.int (nI va)), some (.int (nI ((y / 4) % R))), none, none, none, none, none]) C dL_law_1390 (by decide) rfl ?_
  refine V_aload_n C dL_law_1392 rfl ?_
  refine V_iconst (v := (1 : Int32)) C dL_law_1393 (by decide) ?_
  refine V_iload C dL_law_1394 rfl ?_
  refine V_iconst (v := (0 : Int32)) C dL_law_1396 (by decide) ?_
  have hr0 : ((y / 4) % R) < R := by omega
  have hZ6 : ∀ r, r < R → Z r ≤ 6 := fun r hr => (hJ.2.2.2.1.1.2.2 r hr).2.1
  by_cases hT : Th ((y / 4) % R)
  · refine V_lcallS (na := 4) C hD hN [.ref (w.2.1 0), .int (1 : Int32), .int (nI ((y / 4) % R)), .int (0 : Int32)] pl_L_54 (tb_i 738 (by decide +kernel) (by decide +kernel)) (tb_i 31 (by decide +kernel) (by decide +kernel)) (by decide +kernel) (tb_i 737 (by decide +kernel) (by decide +kernel)) (k_L_on_1 w l (nI ((y / 4) % R)) X R (cntT Th R) hJ.2.2.2.1.1.2.1 hJ.2.2.2.1.1.1 hJ.2.2.2.1.2.1 (fun E X1 h => h.2.elim (fun g => Or.inl g.1) (fun g => Or.inr g.1))) dL_law_1397 rfl rfl (Nat.le_of_ble_eq_true rfl) (Nat.le_of_ble_eq_true rfl) (Nat.le_of_ble_eq_true rfl) ⟨by show _ ≤ 668764; omega, by show _ ≤ 7095478; omega⟩ (fun v2 X2 q2 => ?_)
    obtain ⟨-, ⟨cw, hcw, ew⟩, hJ2, kw⟩ := (U_withdraw (a := ((y / 4) % R)) hJ (by omega) q2).resolve_right (fun g => g.1 hT)
    refine V_eqi ew ?_
    refine V_istore (ls1 := [some (.ref b), some (.ref (w.2.1 0)), some (.ref (w.2.1 85)), some (.ref (w.2.1 86)), some (.ref (w.2.1 87)), some (.ref (w.2.1 88)), some (.ref (w.2.1 89)), some (.ref (w.2.1 90)), some (.ref (w.2.1 91)), some (.int (nI h)), some (.int (nI n)), some (.int (nI R)), some (.int (1 : Int32)), some (.int (nI tu)), some (.int (nI t)), none, some (.int (nI y)), some (.int (nI d)), some (.int (nI who)), some (.int (nI ko)), some (.int (nI net)), some (.int (nI mz)), some (.int (nI va)), some (.int (nI ((y / 4) % R))), some (.int (nI cw)), none, none, none, none]) C dL_law_1400 (by decide) rfl ?_
    refine V_aload C dL_law_1402 rfl ?_
    refine V_bipush (v := (7 : Int32)) C dL_law_1404 (by decide) ?_
    refine V_iload C dL_law_1406 rfl ?_
    refine V_imulN (a := 7) (b := (y / 4) % R) C dL_law_1408 ?_
    refine V_ialdN (p0 := 91) (o := 7 * ((y / 4) % R)) (v := X2 91 (7 * ((y / 4) % R))) C dL_law_1409 sh_91 (by decide) (by omega) (by decide) rfl ?_
    have hq3 : 1 ≤ Z ((y / 4) % R) ∧ Z ((y / 4) % R) ≤ 6 := ⟨(hJ.2.2.2.1.1.2.2 _ hr0).1, hZ6 _ hr0⟩
    refine V_eqi (y := nI (Z ((y / 4) % R))) ((congrFun (kw 91 (by decide) (by decide)) _).trans ((hL.2.2.1 _ hr0).1 hT).1) ?_
    refine V_if_neN (a := Z ((y / 4) % R)) (tgt := 1428) C dL_law_1410 (by decide) (by omega) (fun h1410_4 => ?_) (fun h1410_4 => False.elim (absurd h1410_4 (by omega)))
    refine V_iload C dL_law_1428 rfl ?_
    refine V_if_ltN (a := cw) (tgt := 1457) C dL_law_1430 (by decide) (by omega) ?_
    refine V_iload C dL_law_1433 rfl ?_
    refine V_iload C dL_law_1435 rfl ?_
    refine V_icmp_geN (a := cw) (b := R) (tgt := 1457) C dL_law_1437 (by decide) (by omega) (by omega) (fun h1437_6 => False.elim (absurd h1437_6 (by omega))) (fun h1437_6 => ?_)
    refine V_aload_n C dL_law_1440 rfl ?_
    refine V_iconst (v := (1 : Int32)) C dL_law_1441 (by decide) ?_
    refine V_iload C dL_law_1442 rfl ?_
    refine V_iconst (v := (0 : Int32)) C dL_law_1444 (by decide) ?_
    refine V_lcallS (na := 4) C hD hN [.ref (w.2.1 0), .int (1 : Int32), .int (nI ((y / 4) % R)), .int (0 : Int32)] pl_L_54 (tb_i 738 (by decide +kernel) (by decide +kernel)) (tb_i 31 (by decide +kernel) (by decide +kernel)) (by decide +kernel) (tb_i 737 (by decide +kernel) (by decide +kernel)) (k_L_on_1 w l (nI ((y / 4) % R)) X2 R (cntT (exR Th ((y / 4) % R) False) R) hJ2.2.2.2.1.1.2.1 hJ2.2.2.2.1.1.1 hJ2.2.2.2.1.2.1 (fun E X1 h => h.2.elim (fun g => Or.inl g.1) (fun g => Or.inr g.1))) dL_law_1445 rfl rfl (Nat.le_of_ble_eq_true rfl) (Nat.le_of_ble_eq_true rfl) (Nat.le_of_ble_eq_true rfl) ⟨by show _ ≤ 668764; omega, by show _ ≤ 7095478; omega⟩ (fun v7 X7 q7 => ?_)
    obtain ⟨-, ew7, eX7⟩ := (U_withdraw (a := ((y / 4) % R)) hJ2 (by omega) q7).resolve_left (fun g => (by have g9 := g.1; rw [exR_eq] at g9; exact g9)); subst X7
    refine V_eqi ew7 ?_
    refine V_bipush (v := (-13 : Int32)) C dL_law_1448 (by decide) ?_
    refine V_icmp_ne (x := (-13 : Int32)) (y := (-13 : Int32)) (tgt := 1457) C dL_law_1450 (by decide) (fun h1450_8 => False.elim (absurd rfl h1450_8)) (fun h1450_8 => ?_)
    refine V_iconst (v := (1 : Int32)) C dL_law_1453 (by decide) ?_
    refine V_goto (tgt := 1458) C dL_law_1454 (by decide) ?_
    refine V_istore (ls1 := [some (.ref b), some (.ref (w.2.1 0)), some (.ref (w.2.1 85)), some (.ref (w.2.1 86)), some (.ref (w.2.1 87)), some (.ref (w.2.1 88)), some (.ref (w.2.1 89)), some (.ref (w.2.1 90)), some (.ref (w.2.1 91)), some (.int (nI h)), some (.int (nI n)), some (.int (nI R)), some (.int (1 : Int32)), some (.int (nI tu)), some (.int (nI t)), none, some (.int (nI y)), some (.int (nI d)), some (.int (nI who)), some (.int (nI ko)), some (.int (nI net)), some (.int (nI mz)), some (.int (nI va)), some (.int (nI ((y / 4) % R))), some (.int (nI cw)), none, none, none, none]) C dL_law_1458 (by decide) rfl ?_
    refine V_aload C dL_law_1460 rfl ?_
    refine V_bipush (v := (7 : Int32)) C dL_law_1462 (by decide) ?_
    refine V_iload C dL_law_1464 rfl ?_
    refine V_imulN (a := 7) (b := (y / 4) % R) C dL_law_1466 ?_
    refine V_iconst (v := (0 : Int32)) C dL_law_1467 (by decide) ?_
    refine V_iastN (p0 := 91) (o := 7 * ((y / 4) % R)) (X1 := (ma X2 91 (upd (X2 91) (7 * ((y / 4) % R)) (0 : Int32)))) C dL_law_1468 sh_91 (by decide) (by omega) (by decide) rfl ?_
    obtain ⟨Y1, eY1⟩ : ∃ Y : Mem, Y = (ma X2 91 (upd (X2 91) (7 * ((y / 4) % R)) (0 : Int32))) := ⟨_, rfl⟩
    rw [← eY1]
    have hJY1 : JP Y1 h D n 0 R dr PP Z (exR Th ((y / 4) % R) False) := by rw [eY1]; exact JP_l (by decide) hJ2
    have hLY1 : LA Y1 h n R PP Z (exR Th ((y / 4) % R) False) := by rw [eY1]; exact LA_gone hL hr0 hZ6 kw
    have hKY1 : Kp Y1 Y1 := Kp.rf
    refine V_goto (tgt := 1630) C dL_law_1469 (by decide) ?_
    refine V_kill (i := 17) (ls1 := [some (.ref b), some (.ref (w.2.1 0)), some (.ref (w.2.1 85)), some (.ref (w.2.1 86)), some (.ref (w.2.1 87)), some (.ref (w.2.1 88)), some (.ref (w.2.1 89)), some (.ref (w.2.1 90)), some (.ref (w.2.1 91)), some (.int (nI h)), some (.int (nI n)), some (.int (nI R)), some (.int (1 : Int32)), some (.int (nI tu)), some (.int (nI t)), none, some (.int (nI y)), none, some (.int (nI who)), some (.int (nI ko)), some (.int (nI net)), some (.int (nI mz)), some (.int (nI va)), some (.int (nI ((y / 4) % R))), some (.int (nI cw)), none, none, none, none]) rfl ?_
    refine V_kill (i := 19) (ls1 := [some (.ref b), some (.ref (w.2.1 0)), some (.ref (w.2.1 85)), some (.ref (w.2.1 86)), some (.ref (w.2.1 87)), some (.ref (w.2.1 88)), some (.ref (w.2.1 89)), some (.ref (w.2.1 90)), some (.ref (w.2.1 91)), some (.int (nI h)), some (.int (nI n)), some (.int (nI R)), some (.int (1 : Int32)), some (.int (nI tu)), some (.int (nI t)), none, some (.int (nI y)), none, some (.int (nI who)), none, some (.int (nI net)), some (.int (nI mz)), some (.int (nI va)), some (.int (nI ((y / 4) % R))), some (.int (nI cw)), none, none, none, none]) rfl ?_
    refine V_kill (i := 23) (ls1 := [some (.ref b), some (.ref (w.2.1 0)), some (.ref (w.2.1 85)), some (.ref (w.2.1 86)), some (.ref (w.2.1 87)), some (.ref (w.2.1 88)), some (.ref (w.2.1 89)), some (.ref (w.2.1 90)), some (.ref (w.2.1 91)), some (.int (nI h)), some (.int (nI n)), some (.int (nI R)), some (.int (1 : Int32)), some (.int (nI tu)), some (.int (nI t)), none, some (.int (nI y)), none, some (.int (nI who)), none, some (.int (nI net)), some (.int (nI mz)), some (.int (nI va)), none, some (.int (nI cw)), none, none, none, none]) rfl ?_
    refine V_kill (i := 24) (ls1 := [some (.ref b), some (.ref (w.2.1 0)), some (.ref (w.2.1 85)), some (.ref (w.2.1 86)), some (.ref (w.2.1 87)), some (.ref (w.2.1 88)), some (.ref (w.2.1 89)), some (.ref (w.2.1 90)), some (.ref (w.2.1 91)), some (.int (nI h)), some (.int (nI n)), some (.int (nI R)), some (.int (1 : Int32)), some (.int (nI tu)), some (.int (nI t)), none, some (.int (nI y)), none, some (.int (nI who)), none, some (.int (nI net)), some (.int (nI mz)), some (.int (nI va)), none, none, none, none, none, none]) rfl ?_
    exact V_widen (by omega) (by omega) (kk Y1 h D n R mz va (LSt.mk hJY1 hLY1) (by omega) (by omega) (by omega) (by omega) (by omega) (by omega) (by omega) (by omega))
  · refine V_lcallS (na := 4) C hD hN [.ref (w.2.1 0), .int (1 : Int32), .int (nI ((y / 4) % R)), .int (0 : Int32)] pl_L_54 (tb_i 738 (by decide +kernel) (by decide +kernel)) (tb_i 31 (by decide +kernel) (by decide +kernel)) (by decide +kernel) (tb_i 737 (by decide +kernel) (by decide +kernel)) (k_L_on_1 w l (nI ((y / 4) % R)) X R (cntT Th R) hJ.2.2.2.1.1.2.1 hJ.2.2.2.1.1.1 hJ.2.2.2.1.2.1 (fun E X1 h => h.2.elim (fun g => Or.inl g.1) (fun g => Or.inr g.1))) dL_law_1397 rfl rfl (Nat.le_of_ble_eq_true rfl) (Nat.le_of_ble_eq_true rfl) (Nat.le_of_ble_eq_true rfl) ⟨by show _ ≤ 668764; omega, by show _ ≤ 7095478; omega⟩ (fun v9 X9 q9 => ?_)
    obtain ⟨-, ew9, eX9⟩ := (U_withdraw (a := ((y / 4) % R)) hJ (by omega) q9).resolve_left (fun g => hT g.1); subst X9
    refine V_eqi ew9 ?_
    refine V_istore (ls1 := [some (.ref b), some (.ref (w.2.1 0)), some (.ref (w.2.1 85)), some (.ref (w.2.1 86)), some (.ref (w.2.1 87)), some (.ref (w.2.1 88)), some (.ref (w.2.1 89)), some (.ref (w.2.1 90)), some (.ref (w.2.1 91)), some (.int (nI h)), some (.int (nI n)), some (.int (nI R)), some (.int (1 : Int32)), some (.int (nI tu)), some (.int (nI t)), none, some (.int (nI y)), some (.int (nI d)), some (.int (nI who)), some (.int (nI ko)), some (.int (nI net)), some (.int (nI mz)), some (.int (nI va)), some (.int (nI ((y / 4) % R))), some (.int (-13 : Int32)), none, none, none, none]) C dL_law_1400 (by decide) rfl ?_
    refine V_aload C dL_law_1402 rfl ?_
    refine V_bipush (v := (7 : Int32)) C dL_law_1404 (by decide) ?_
    refine V_iload C dL_law_1406 rfl ?_
    refine V_imulN (a := 7) (b := (y / 4) % R) C dL_law_1408 ?_
    refine V_ialdN (p0 := 91) (o := 7 * ((y / 4) % R)) (v := X 91 (7 * ((y / 4) % R))) C dL_law_1409 sh_91 (by decide) (by omega) (by decide) rfl ?_
    refine V_eqi (y := nI 0) ((hL.2.2.1 _ hr0).2 hT) ?_
    refine V_if_ne (x := nI 0) (tgt := 1428) C dL_law_1410 (by decide) (fun h => absurd h (by decide)) (fun _ => ?_)
    refine V_iload C dL_law_1413 rfl ?_
    refine V_bipush (v := (-13 : Int32)) C dL_law_1415 (by decide) ?_
    refine V_icmp_ne (x := (-13 : Int32)) (y := (-13 : Int32)) (tgt := 1424) C dL_law_1417 (by decide) (fun h1417_11 => False.elim (absurd rfl h1417_11)) (fun h1417_11 => ?_)
    refine V_iconst (v := (1 : Int32)) C dL_law_1420 (by decide) ?_
    refine V_goto (tgt := 1458) C dL_law_1421 (by decide) ?_
    refine V_istore (ls1 := [some (.ref b), some (.ref (w.2.1 0)), some (.ref (w.2.1 85)), some (.ref (w.2.1 86)), some (.ref (w.2.1 87)), some (.ref (w.2.1 88)), some (.ref (w.2.1 89)), some (.ref (w.2.1 90)), some (.ref (w.2.1 91)), some (.int (nI h)), some (.int (nI n)), some (.int (nI R)), some (.int (1 : Int32)), some (.int (nI tu)), some (.int (nI t)), none, some (.int (nI y)), some (.int (nI d)), some (.int (nI who)), some (.int (nI ko)), some (.int (nI net)), some (.int (nI mz)), some (.int (nI va)), some (.int (nI ((y / 4) % R))), some (.int (-13 : Int32)), none, none, none, none]) C dL_law_1458 (by decide) rfl ?_
    refine V_aload C dL_law_1460 rfl ?_
    refine V_bipush (v := (7 : Int32)) C dL_law_1462 (by decide) ?_
    refine V_iload C dL_law_1464 rfl ?_
    refine V_imulN (a := 7) (b := (y / 4) % R) C dL_law_1466 ?_
    refine V_iconst (v := (0 : Int32)) C dL_law_1467 (by decide) ?_
    refine V_iastN (p0 := 91) (o := 7 * ((y / 4) % R)) (X1 := (ma X 91 (upd (X 91) (7 * ((y / 4) % R)) (0 : Int32)))) C dL_law_1468 sh_91 (by decide) (by omega) (by decide) rfl ?_
    obtain ⟨Y1, eY1⟩ : ∃ Y : Mem, Y = (ma X 91 (upd (X 91) (7 * ((y / 4) % R)) (0 : Int32))) := ⟨_, rfl⟩
    rw [← eY1]
    have hJY1 : JP Y1 h D n 0 R dr PP Z Th := by rw [eY1]; exact JP_l (by decide) hJ
    have hLY1 : LA Y1 h n R PP Z Th := by rw [eY1]; exact by rw [show (0 : Int32) = X 91 (7 * ((y / 4) % R)) from ((hL.2.2.1 _ hr0).2 hT).symm, upd_self, ma_self]; exact hL
    have hKY1 : Kp Y1 Y1 := Kp.rf
    refine V_goto (tgt := 1630) C dL_law_1469 (by decide) ?_
    refine V_kill (i := 17) (ls1 := [some (.ref b), some (.ref (w.2.1 0)), some (.ref (w.2.1 85)), some (.ref (w.2.1 86)), some (.ref (w.2.1 87)), some (.ref (w.2.1 88)), some (.ref (w.2.1 89)), some (.ref (w.2.1 90)), some (.ref (w.2.1 91)), some (.int (nI h)), some (.int (nI n)), some (.int (nI R)), some (.int (1 : Int32)), some (.int (nI tu)), some (.int (nI t)), none, some (.int (nI y)), none, some (.int (nI who)), some (.int (nI ko)), some (.int (nI net)), some (.int (nI mz)), some (.int (nI va)), some (.int (nI ((y / 4) % R))), some (.int (-13 : Int32)), none, none, none, none]) rfl ?_
    refine V_kill (i := 19) (ls1 := [some (.ref b), some (.ref (w.2.1 0)), some (.ref (w.2.1 85)), some (.ref (w.2.1 86)), some (.ref (w.2.1 87)), some (.ref (w.2.1 88)), some (.ref (w.2.1 89)), some (.ref (w.2.1 90)), some (.ref (w.2.1 91)), some (.int (nI h)), some (.int (nI n)), some (.int (nI R)), some (.int (1 : Int32)), some (.int (nI tu)), some (.int (nI t)), none, some (.int (nI y)), none, some (.int (nI who)), none, some (.int (nI net)), some (.int (nI mz)), some (.int (nI va)), some (.int (nI ((y / 4) % R))), some (.int (-13 : Int32)), none, none, none, none]) rfl ?_
    refine V_kill (i := 23) (ls1 := [some (.ref b), some (.ref (w.2.1 0)), some (.ref (w.2.1 85)), some (.ref (w.2.1 86)), some (.ref (w.2.1 87)), some (.ref (w.2.1 88)), some (.ref (w.2.1 89)), some (.ref (w.2.1 90)), some (.ref (w.2.1 91)), some (.int (nI h)), some (.int (nI n)), some (.int (nI R)), some (.int (1 : Int32)), some (.int (nI tu)), some (.int (nI t)), none, some (.int (nI y)), none, some (.int (nI who)), none, some (.int (nI net)), some (.int (nI mz)), some (.int (nI va)), none, some (.int (-13 : Int32)), none, none, none, none]) rfl ?_
    refine V_kill (i := 24) (ls1 := [some (.ref b), some (.ref (w.2.1 0)), some (.ref (w.2.1 85)), some (.ref (w.2.1 86)), some (.ref (w.2.1 87)), some (.ref (w.2.1 88)), some (.ref (w.2.1 89)), some (.ref (w.2.1 90)), some (.ref (w.2.1 91)), some (.int (nI h)), some (.int (nI n)), some (.int (nI R)), some (.int (1 : Int32)), some (.int (nI tu)), some (.int (nI t)), none, some (.int (nI y)), none, some (.int (nI who)), none, some (.int (nI net)), some (.int (nI mz)), some (.int (nI va)), none, none, none, none, none, none]) rfl ?_
    exact V_widen (by omega) (by omega) (kk Y1 h D n R mz va (LSt.mk hJY1 hLY1) (by omega) (by omega) (by omega) (by omega) (by omega) (by omega) (by omega) (by omega))
set_option maxHeartbeats 4000000 in
set_option maxRecDepth 100000 in
theorem law_dt {p : Program} {l : Launch} {e : Env} {s : State} {m : MethodId} {args : Array Value} {below : List Frame} {meth : Method} {c : Code} {w : Wt} {cn ck b L0 : Nat} {xs : Nat → Int32} {Q : State → Prop} {X : Mem} (K : LawC p l s m args meth c w b L0 xs) (hnk : cn + 60 ≤ 668764 ∧ ck + 360 ≤ 7095478) {h D n R tu t y d who ko net mz va : Nat} (hS : LSt X h D n R) (hh6 : h ≤ 6) (hn16 : n ≤ 16) (hR8 : R ≤ 8) (hD9 : D ≤ 9000) (hyb : y < 268435456) (hwho : who < h) (hko : n = 0 ∨ ko < n) (hnet : net < 7) (hma : mz ≤ 8) (hva : va < 256) (hvb : va % 2 ^ (8 - mz) = 0) (kk : ∀ (X' : Mem) (h' D' n' R' mz' va' : Nat), LSt X' h' D' n' R' → h ≤ h' → h' ≤ 6 → n' ≤ 16 → R' ≤ 8 → D' ≤ D + 12 → mz' ≤ 8 → va' < 256 → va' % 2 ^ (8 - mz') = 0 → V p l e room_1 s m args below meth c w 29 (cn + 60) (ck + 360) Q 1630 [some (.ref b), some (.ref (w.2.1 0)), some (.ref (w.2.1 85)), some (.ref (w.2.1 86)), some (.ref (w.2.1 87)), some (.ref (w.2.1 88)), some (.ref (w.2.1 89)), some (.ref (w.2.1 90)), some (.ref (w.2.1 91)), some (.int (nI h')), some (.int (nI n')), some (.int (nI R')), some (.int (1 : Int32)), some (.int (nI tu)), some (.int (nI t)), none, some (.int (nI y)), none, some (.int (nI who)), none, some (.int (nI net)), some (.int (nI mz')), some (.int (nI va')), none, none, none, none, none, none] [] X') : V p l e room_1 s m args below meth c w 29 cn ck Q 1472 [some (.ref b), some (.ref (w.2.1 0)), some (.ref (w.2.1 85)), some (.ref (w.2.1 86)), some (.ref (w.2.1 87)), some (.ref (w.2.1 88)), some (.ref (w.2.1 89)), some (.ref (w.2.1 90)), some (.ref (w.2.1 91)), some (.int (nI h)), some (.int (nI n)), some (.int (nI R)), some (.int (1 : Int32)), some (.int (nI tu)), some (.int (nI t)), none, some (.int (nI y)), some (.int (nI d)), some (.int (nI who)), some (.int (nI ko)), some (.int (nI net)), some (.int (nI mz)), some (.int (nI va)), none, none, none, none, none, none] [] X := by
  obtain ⟨C, hD, hN, hX, hbl, hfar, hL0⟩ := K
  obtain ⟨dr, PP, Z, Th, hJ, hL⟩ := hS
  have hK0 : Kp X X := Kp.rf
  have h1 := hJ.1.2.2.2.1
  have hR24 : R ≤ 24 := by omega
  refine V_iload C dL_law_1472 rfl ?_
  refine V_iconst (v := (1 : Int32)) C dL_law_1474 (by decide) ?_
  refine V_iaddN (a := net) (b := 1) C dL_law_1475 ?_
  refine V_iload C dL_law_1476 rfl ?_
  refine V_iconst (v := (5 : Int32)) C dL_law_1478 (by decide) ?_
  refine V_ishr C dL_law_1479 ?_
  refine V_eqi (y := nI (y / 32)) (pk_shrN (by omega) _ 5 (s_l31 5 (by decide))) ?_
  refine V_bipush (v := (6 : Int32)) C dL_law_1480 (by decide) ?_
  refine V_irem C dL_law_1482 (by decide) ?_
  refine V_eqi (y := nI ((y / 32) % 6)) (pk_rem (d := 6) (by omega) (by decide) (by decide)) ?_
  refine V_iaddN (a := net + 1) (b := (y / 32) % 6) C dL_law_1483 ?_
  refine V_bipush (v := (7 : Int32)) C dL_law_1484 (by decide) ?_
  refine V_irem C dL_law_1486 (by decide) ?_
  refine V_eqi (y := nI ((net + 1 + ((y / 32) % 6)) % 7)) (pk_rem (d := 7) (by omega) (by decide) (by decide)) ?_
  refine V_istore (ls1 := [some (.ref b), some (.ref (w.2.1 0)), some (.ref (w.2.1 85)), some (.ref (w.2.1 86)), some (.ref (w.2.1 87)), some (.ref (w.2.1 88)), some (.ref (w.2.1 89)), some (.ref (w.2.1 90)), some (.ref (w.2.1 91)), some (.int (nI h)), some (.int (nI n)), some (.int (nI R)), some (.int (1 : Int32)), some (.int (nI tu)), some (.int (nI t)), none, some (.int (nI y)), some (.int (nI d)), some (.int (nI who)), some (.int (nI ko)), some (.int (nI net)), some (.int (nI mz)), some (.int (nI va)), some (.int (nI ((net + 1 + ((y / 32) % 6)) % 7))), none, none, none, none, none]) C dL_law_1487 (by decide) rfl ?_
  have L1537 : ∀ (w0 : Nat), (w0 < 4) → V p l e room_1 s m args below meth c w 29 (cn + 0) (ck + 0) Q 1537 [some (.ref b), some (.ref (w.2.1 0)), some (.ref (w.2.1 85)), some (.ref (w.2.1 86)), some (.ref (w.2.1 87)), some (.ref (w.2.1 88)), some (.ref (w.2.1 89)), some (.ref (w.2.1 90)), some (.ref (w.2.1 91)), some (.int (nI h)), some (.int (nI n)), some (.int (nI R)), some (.int (1 : Int32)), some (.int (nI tu)), some (.int (nI t)), none, some (.int (nI y)), some (.int (nI d)), some (.int (nI who)), some (.int (nI ko)), some (.int (nI net)), some (.int (nI mz)), some (.int (nI va)), some (.int (nI ((net + 1 + ((y / 32) % 6)) % 7))), none, none, none, none, none] [.int (nI w0)] X := by
    intro w0 hw0
    refine V_istore (ls1 := [some (.ref b), some (.ref (w.2.1 0)), some (.ref (w.2.1 85)), some (.ref (w.2.1 86)), some (.ref (w.2.1 87)), some (.ref (w.2.1 88)), some (.ref (w.2.1 89)), some (.ref (w.2.1 90)), some (.ref (w.2.1 91)), some (.int (nI h)), some (.int (nI n)), some (.int (nI R)), some (.int (1 : Int32)), some (.int (nI tu)), some (.int (nI t)), none, some (.int (nI y)), some (.int (nI d)), some (.int (nI who)), some (.int (nI ko)), some (.int (nI net)), some (.int (nI mz)), some (.int (nI va)), some (.int (nI ((net + 1 + ((y / 32) % 6)) % 7))), some (.int (nI w0)), none, none, none, none]) C dL_law_1537 (by decide) rfl ?_
    refine V_aload_n C dL_law_1539 rfl ?_
    refine V_iload C dL_law_1540 rfl ?_
    refine V_iload C dL_law_1542 rfl ?_
    refine V_iload C dL_law_1544 rfl ?_
    refine V_hcallV C hD [.int (nI net), .int (nI ((net + 1 + ((y / 32) % 6)) % 7)), .int (nI w0)] mi_L_121 pl_L_121 (k_X9_tie w l (nI net) (nI ((net + 1 + ((y / 32) % 6)) % 7)) (nI w0) X  ) dL_law_1546 sh_0 (by decide) rfl rfl rfl (Nat.le_of_ble_eq_true rfl) (Nat.le_of_ble_eq_true rfl) (Nat.le_of_ble_eq_true rfl) ⟨by show _ ≤ 668764; omega, by show _ ≤ 7095478; omega⟩ (fun E X1 hx => False.elim (hx.2.elim (fun g => g.2 ⟨(btw_n (a := net) (m := 9) (by omega) (by omega)), (btw_n (a := (net + 1 + ((y / 32) % 6)) % 7) (m := 9) (by omega) (by omega))⟩) (fun g => g.2.2 ⟨fun q => absurd (nIu (m := 10) (by decide) (by omega) (by omega) q) (by omega), (btw_n (a := w0) (m := 3) (by omega) (by omega))⟩))) (fun v1 X1 q1 => ?_)
    obtain ⟨⟨c1, hc1, ec1, et1⟩, hJ1, kt1, ta1, tb1⟩ := U_tie (a := net) (b := ((net + 1 + ((y / 32) % 6)) % 7)) (w := w0) hJ (by omega) (by omega) (by omega) q1
    have hL1 := LA_kl (fun p hp => kt1 p (by omega)) (Nat.le_refl _) hL
    have hKX1 : Kp X1 X1 := Kp.rf
    refine V_eqi ec1 ?_
    refine V_if_ltN (a := c1) (tgt := 1627) C dL_law_1549 (by decide) (by omega) ?_
    have L1579 : ∀ (mir : Nat), ((w0 = 1 → mir = 2) ∧ (w0 = 2 → mir = 1) ∧ (w0 ≠ 1 → w0 ≠ 2 → mir = w0)) → V p l e room_1 s m args below meth c w 29 (cn + 3) (ck + 18) Q 1579 [some (.ref b), some (.ref (w.2.1 0)), some (.ref (w.2.1 85)), some (.ref (w.2.1 86)), some (.ref (w.2.1 87)), some (.ref (w.2.1 88)), some (.ref (w.2.1 89)), some (.ref (w.2.1 90)), some (.ref (w.2.1 91)), some (.int (nI h)), some (.int (nI n)), some (.int (nI R)), some (.int (1 : Int32)), some (.int (nI tu)), some (.int (nI t)), none, some (.int (nI y)), some (.int (nI d)), some (.int (nI who)), some (.int (nI ko)), some (.int (nI net)), some (.int (nI mz)), some (.int (nI va)), some (.int (nI ((net + 1 + ((y / 32) % 6)) % 7))), some (.int (nI w0)), none, none, none, none] [.int (nI mir), .int (nI net), .int (nI ((net + 1 + ((y / 32) % 6)) % 7)), .ref (w.2.1 0)] X1 := by
      intro mir hmir
      refine V_hcallV C hD [.int (nI ((net + 1 + ((y / 32) % 6)) % 7)), .int (nI net), .int (nI mir)] mi_L_121 pl_L_121 (k_X9_tie w l (nI ((net + 1 + ((y / 32) % 6)) % 7)) (nI net) (nI mir) X1  ) dL_law_1579 sh_0 (by decide) rfl rfl rfl (Nat.le_of_ble_eq_true rfl) (Nat.le_of_ble_eq_true rfl) (Nat.le_of_ble_eq_true rfl) ⟨by show _ ≤ 668764; omega, by show _ ≤ 7095478; omega⟩ (fun E X1 hx => False.elim (hx.2.elim (fun g => g.2 ⟨(btw_n (a := (net + 1 + ((y / 32) % 6)) % 7) (m := 9) (by omega) (by omega)), (btw_n (a := net) (m := 9) (by omega) (by omega))⟩) (fun g => g.2.2 ⟨fun q => absurd (nIu (m := 10) (by decide) (by omega) (by omega) q) (by omega), (btw_n (a := mir) (m := 3) (by omega) (by omega))⟩))) (fun v3 X3 q3 => ?_)
      obtain ⟨⟨c3, hc3, ec3, et3⟩, hJ3, kt3, ta3, tb3⟩ := U_tie (a := ((net + 1 + ((y / 32) % 6)) % 7)) (b := net) (w := mir) hJ1 (by omega) (by omega) (by omega) q3
      have hL3 := LA_kl (fun p hp => kt3 p (by omega)) (Nat.le_refl _) hL1
      have hKX3 : Kp X3 X3 := Kp.rf
      refine V_eqi ec3 ?_
      have hcm : c3 = mir := nIu (m := 4) (by decide) hc3 (by omega) (by rw [← et3, tb1, turn_n w0 (by omega)]; exact congrArg nI (by split; omega; split; omega; omega))
      refine V_iload C dL_law_1582 rfl ?_
      refine V_iconst (v := (1 : Int32)) C dL_law_1584 (by decide) ?_
      refine V_icmp_neN (a := w0) (b := 1) (tgt := 1592) C dL_law_1585 (by decide) (by omega) (by omega) (fun h1585_4 => ?_) (fun h1585_4 => ?_)
      · refine V_iload C dL_law_1592 rfl ?_
        refine V_iconst (v := (2 : Int32)) C dL_law_1594 (by decide) ?_
        refine V_icmp_neN (a := w0) (b := 2) (tgt := 1602) C dL_law_1595 (by decide) (by omega) (by omega) (fun h1595_5 => ?_) (fun h1595_5 => ?_)
        · refine V_iload C dL_law_1602 rfl ?_
          refine V_icmp_neN (a := c3) (b := w0) (tgt := 1627) C dL_law_1604 (by decide) (by omega) (by omega) (fun h1604_6 => False.elim (h1604_6 (by omega))) (fun h1604_6 => ?_)
          refine V_iload C dL_law_1607 rfl ?_
          refine V_if_eqN (a := w0) (tgt := 1623) C dL_law_1609 (by decide) (by omega) (fun h1609_7 => ?_) (fun h1609_7 => ?_)
          · refine V_iconst (v := (1 : Int32)) C dL_law_1623 (by decide) ?_
            refine V_goto (tgt := 1628) C dL_law_1624 (by decide) ?_
            refine V_istore (ls1 := [some (.ref b), some (.ref (w.2.1 0)), some (.ref (w.2.1 85)), some (.ref (w.2.1 86)), some (.ref (w.2.1 87)), some (.ref (w.2.1 88)), some (.ref (w.2.1 89)), some (.ref (w.2.1 90)), some (.ref (w.2.1 91)), some (.int (nI h)), some (.int (nI n)), some (.int (nI R)), some (.int (1 : Int32)), some (.int (nI tu)), some (.int (nI t)), none, some (.int (nI y)), some (.int (nI d)), some (.int (nI who)), some (.int (nI ko)), some (.int (nI net)), some (.int (nI mz)), some (.int (nI va)), some (.int (nI ((net + 1 + ((y / 32) % 6)) % 7))), some (.int (nI w0)), none, none, none, none]) C dL_law_1628 (by decide) rfl ?_
            refine V_kill (i := 17) (ls1 := [some (.ref b), some (.ref (w.2.1 0)), some (.ref (w.2.1 85)), some (.ref (w.2.1 86)), some (.ref (w.2.1 87)), some (.ref (w.2.1 88)), some (.ref (w.2.1 89)), some (.ref (w.2.1 90)), some (.ref (w.2.1 91)), some (.int (nI h)), some (.int (nI n)), some (.int (nI R)), some (.int (1 : Int32)), some (.int (nI tu)), some (.int (nI t)), none, some (.int (nI y)), none, some (.int (nI who)), some (.int (nI ko)), some (.int (nI net)), some (.int (nI mz)), some (.int (nI va)), some (.int (nI ((net + 1 + ((y / 32) % 6)) % 7))), some (.int (nI w0)), none, none, none, none]) rfl ?_
            refine V_kill (i := 19) (ls1 := [some (.ref b), some (.ref (w.2.1 0)), some (.ref (w.2.1 85)), some (.ref (w.2.1 86)), some (.ref (w.2.1 87)), some (.ref (w.2.1 88)), some (.ref (w.2.1 89)), some (.ref (w.2.1 90)), some (.ref (w.2.1 91)), some (.int (nI h)), some (.int (nI n)), some (.int (nI R)), some (.int (1 : Int32)), some (.int (nI tu)), some (.int (nI t)), none, some (.int (nI y)), none, some (.int (nI who)), none, some (.int (nI net)), some (.int (nI mz)), some (.int (nI va)), some (.int (nI ((net + 1 + ((y / 32) % 6)) % 7))), some (.int (nI w0)), none, none, none, none]) rfl ?_
            refine V_kill (i := 23) (ls1 := [some (.ref b), some (.ref (w.2.1 0)), some (.ref (w.2.1 85)), some (.ref (w.2.1 86)), some (.ref (w.2.1 87)), some (.ref (w.2.1 88)), some (.ref (w.2.1 89)), some (.ref (w.2.1 90)), some (.ref (w.2.1 91)), some (.int (nI h)), some (.int (nI n)), some (.int (nI R)), some (.int (1 : Int32)), some (.int (nI tu)), some (.int (nI t)), none, some (.int (nI y)), none, some (.int (nI who)), none, some (.int (nI net)), some (.int (nI mz)), some (.int (nI va)), none, some (.int (nI w0)), none, none, none, none]) rfl ?_
            refine V_kill (i := 24) (ls1 := [some (.ref b), some (.ref (w.2.1 0)), some (.ref (w.2.1 85)), some (.ref (w.2.1 86)), some (.ref (w.2.1 87)), some (.ref (w.2.1 88)), some (.ref (w.2.1 89)), some (.ref (w.2.1 90)), some (.ref (w.2.1 91)), some (.int (nI h)), some (.int (nI n)), some (.int (nI R)), some (.int (1 : Int32)), some (.int (nI tu)), some (.int (nI t)), none, some (.int (nI y)), none, some (.int (nI who)), none, some (.int (nI net)), some (.int (nI mz)), some (.int (nI va)), none, none, none, none, none, none]) rfl ?_
            exact V_widen (by omega) (by omega) (kk X3 h D n R mz va (LSt.mk hJ3 hL3) (by omega) (by omega) (by omega) (by omega) (by omega) (by omega) (by omega) (by omega))
          · refine V_aload_n C dL_law_1612 rfl ?_
            refine V_iload C dL_law_1613 rfl ?_
            refine V_iload C dL_law_1615 rfl ?_
            refine V_hcallV C hD [.int (nI net), .int (nI ((net + 1 + ((y / 32) % 6)) % 7))] mi_L_124 pl_L_124 (k_X9_allowed w l (nI net) (nI ((net + 1 + ((y / 32) % 6)) % 7)) X3  ) dL_law_1617 sh_0 (by decide) rfl rfl rfl (Nat.le_of_ble_eq_true rfl) (Nat.le_of_ble_eq_true rfl) (Nat.le_of_ble_eq_true rfl) ⟨by show _ ≤ 668764; omega, by show _ ≤ 7095478; omega⟩ (fun E X1 hx => False.elim (hx.2.2 ⟨(btw_n (a := net) (m := 9) (by omega) (by omega)), (btw_n (a := (net + 1 + ((y / 32) % 6)) % 7) (m := 9) (by omega) (by omega))⟩)) (fun v8 X8 q8 => ?_)
            obtain ⟨⟨c8, hc8, ec8, ha8⟩, T8, eX8⟩ := q_allowed (a := net) (b := ((net + 1 + ((y / 32) % 6)) % 7)) (by omega) (by omega) q8
            rw [hKX3.t] at ha8
            have hK8 : Kp X3 X8 := by rw [eX8]; exact hKX3.put (by omega)
            have hJ8 := JP_k hK8 hJ3
            refine V_eqi ec8 ?_
            refine V_if_leN (a := c8) (tgt := 1627) C dL_law_1620 (by decide) (by omega) (fun h1620_9 => False.elim (absurd (AlX_pos (by omega) (by omega) (by rw [tb3, turn_n mir (by omega)]; exact nI_ne0 (by split; omega; split; omega; omega) (by split; omega; split; omega; omega)) ha8) (by omega))) (fun h1620_9 => ?_)
            refine V_iconst (v := (1 : Int32)) C dL_law_1623 (by decide) ?_
            refine V_goto (tgt := 1628) C dL_law_1624 (by decide) ?_
            refine V_istore (ls1 := [some (.ref b), some (.ref (w.2.1 0)), some (.ref (w.2.1 85)), some (.ref (w.2.1 86)), some (.ref (w.2.1 87)), some (.ref (w.2.1 88)), some (.ref (w.2.1 89)), some (.ref (w.2.1 90)), some (.ref (w.2.1 91)), some (.int (nI h)), some (.int (nI n)), some (.int (nI R)), some (.int (1 : Int32)), some (.int (nI tu)), some (.int (nI t)), none, some (.int (nI y)), some (.int (nI d)), some (.int (nI who)), some (.int (nI ko)), some (.int (nI net)), some (.int (nI mz)), some (.int (nI va)), some (.int (nI ((net + 1 + ((y / 32) % 6)) % 7))), some (.int (nI w0)), none, none, none, none]) C dL_law_1628 (by decide) rfl ?_
            refine V_kill (i := 17) (ls1 := [some (.ref b), some (.ref (w.2.1 0)), some (.ref (w.2.1 85)), some (.ref (w.2.1 86)), some (.ref (w.2.1 87)), some (.ref (w.2.1 88)), some (.ref (w.2.1 89)), some (.ref (w.2.1 90)), some (.ref (w.2.1 91)), some (.int (nI h)), some (.int (nI n)), some (.int (nI R)), some (.int (1 : Int32)), some (.int (nI tu)), some (.int (nI t)), none, some (.int (nI y)), none, some (.int (nI who)), some (.int (nI ko)), some (.int (nI net)), some (.int (nI mz)), some (.int (nI va)), some (.int (nI ((net + 1 + ((y / 32) % 6)) % 7))), some (.int (nI w0)), none, none, none, none]) rfl ?_
            refine V_kill (i := 19) (ls1 := [some (.ref b), some (.ref (w.2.1 0)), some (.ref (w.2.1 85)), some (.ref (w.2.1 86)), some (.ref (w.2.1 87)), some (.ref (w.2.1 88)), some (.ref (w.2.1 89)), some (.ref (w.2.1 90)), some (.ref (w.2.1 91)), some (.int (nI h)), some (.int (nI n)), some (.int (nI R)), some (.int (1 : Int32)), some (.int (nI tu)), some (.int (nI t)), none, some (.int (nI y)), none, some (.int (nI who)), none, some (.int (nI net)), some (.int (nI mz)), some (.int (nI va)), some (.int (nI ((net + 1 + ((y / 32) % 6)) % 7))), some (.int (nI w0)), none, none, none, none]) rfl ?_
            refine V_kill (i := 23) (ls1 := [some (.ref b), some (.ref (w.2.1 0)), some (.ref (w.2.1 85)), some (.ref (w.2.1 86)), some (.ref (w.2.1 87)), some (.ref (w.2.1 88)), some (.ref (w.2.1 89)), some (.ref (w.2.1 90)), some (.ref (w.2.1 91)), some (.int (nI h)), some (.int (nI n)), some (.int (nI R)), some (.int (1 : Int32)), some (.int (nI tu)), some (.int (nI t)), none, some (.int (nI y)), none, some (.int (nI who)), none, some (.int (nI net)), some (.int (nI mz)), some (.int (nI va)), none, some (.int (nI w0)), none, none, none, none]) rfl ?_
            refine V_kill (i := 24) (ls1 := [some (.ref b), some (.ref (w.2.1 0)), some (.ref (w.2.1 85)), some (.ref (w.2.1 86)), some (.ref (w.2.1 87)), some (.ref (w.2.1 88)), some (.ref (w.2.1 89)), some (.ref (w.2.1 90)), some (.ref (w.2.1 91)), some (.int (nI h)), some (.int (nI n)), some (.int (nI R)), some (.int (1 : Int32)), some (.int (nI tu)), some (.int (nI t)), none, some (.int (nI y)), none, some (.int (nI who)), none, some (.int (nI net)), some (.int (nI mz)), some (.int (nI va)), none, none, none, none, none, none]) rfl ?_
            have hLe := LA_k hK8 hL3
            exact V_widen (by omega) (by omega) (kk X8 h D n R mz va (LSt.mk hJ8 hLe) (by omega) (by omega) (by omega) (by omega) (by omega) (by omega) (by omega) (by omega))
        · refine V_iconst (v := (1 : Int32)) C dL_law_1598 (by decide) ?_
          refine V_goto (tgt := 1604) C dL_law_1599 (by decide) ?_
          refine V_icmp_neN (a := c3) (b := 1) (tgt := 1627) C dL_law_1604 (by decide) (by omega) (by omega) (fun h1604_10 => False.elim (h1604_10 (by omega))) (fun h1604_10 => ?_)
          refine V_iload C dL_law_1607 rfl ?_
          refine V_if_eqN (a := w0) (tgt := 1623) C dL_law_1609 (by decide) (by omega) (fun h1609_11 => ?_) (fun h1609_11 => ?_)
          · refine V_iconst (v := (1 : Int32)) C dL_law_1623 (by decide) ?_
            refine V_goto (tgt := 1628) C dL_law_1624 (by decide) ?_
            refine V_istore (ls1 := [some (.ref b), some (.ref (w.2.1 0)), some (.ref (w.2.1 85)), some (.ref (w.2.1 86)), some (.ref (w.2.1 87)), some (.ref (w.2.1 88)), some (.ref (w.2.1 89)), some (.ref (w.2.1 90)), some (.ref (w.2.1 91)), some (.int (nI h)), some (.int (nI n)), some (.int (nI R)), some (.int (1 : Int32)), some (.int (nI tu)), some (.int (nI t)), none, some (.int (nI y)), some (.int (nI d)), some (.int (nI who)), some (.int (nI ko)), some (.int (nI net)), some (.int (nI mz)), some (.int (nI va)), some (.int (nI ((net + 1 + ((y / 32) % 6)) % 7))), some (.int (nI w0)), none, none, none, none]) C dL_law_1628 (by decide) rfl ?_
            refine V_kill (i := 17) (ls1 := [some (.ref b), some (.ref (w.2.1 0)), some (.ref (w.2.1 85)), some (.ref (w.2.1 86)), some (.ref (w.2.1 87)), some (.ref (w.2.1 88)), some (.ref (w.2.1 89)), some (.ref (w.2.1 90)), some (.ref (w.2.1 91)), some (.int (nI h)), some (.int (nI n)), some (.int (nI R)), some (.int (1 : Int32)), some (.int (nI tu)), some (.int (nI t)), none, some (.int (nI y)), none, some (.int (nI who)), some (.int (nI ko)), some (.int (nI net)), some (.int (nI mz)), some (.int (nI va)), some (.int (nI ((net + 1 + ((y / 32) % 6)) % 7))), some (.int (nI w0)), none, none, none, none]) rfl ?_
            refine V_kill (i := 19) (ls1 := [some (.ref b), some (.ref (w.2.1 0)), some (.ref (w.2.1 85)), some (.ref (w.2.1 86)), some (.ref (w.2.1 87)), some (.ref (w.2.1 88)), some (.ref (w.2.1 89)), some (.ref (w.2.1 90)), some (.ref (w.2.1 91)), some (.int (nI h)), some (.int (nI n)), some (.int (nI R)), some (.int (1 : Int32)), some (.int (nI tu)), some (.int (nI t)), none, some (.int (nI y)), none, some (.int (nI who)), none, some (.int (nI net)), some (.int (nI mz)), some (.int (nI va)), some (.int (nI ((net + 1 + ((y / 32) % 6)) % 7))), some (.int (nI w0)), none, none, none, none]) rfl ?_
            refine V_kill (i := 23) (ls1 := [some (.ref b), some (.ref (w.2.1 0)), some (.ref (w.2.1 85)), some (.ref (w.2.1 86)), some (.ref (w.2.1 87)), some (.ref (w.2.1 88)), some (.ref (w.2.1 89)), some (.ref (w.2.1 90)), some (.ref (w.2.1 91)), some (.int (nI h)), some (.int (nI n)), some (.int (nI R)), some (.int (1 : Int32)), some (.int (nI tu)), some (.int (nI t)), none, some (.int (nI y)), none, some (.int (nI who)), none, some (.int (nI net)), some (.int (nI mz)), some (.int (nI va)), none, some (.int (nI w0)), none, none, none, none]) rfl ?_
            refine V_kill (i := 24) (ls1 := [some (.ref b), some (.ref (w.2.1 0)), some (.ref (w.2.1 85)), some (.ref (w.2.1 86)), some (.ref (w.2.1 87)), some (.ref (w.2.1 88)), some (.ref (w.2.1 89)), some (.ref (w.2.1 90)), some (.ref (w.2.1 91)), some (.int (nI h)), some (.int (nI n)), some (.int (nI R)), some (.int (1 : Int32)), some (.int (nI tu)), some (.int (nI t)), none, some (.int (nI y)), none, some (.int (nI who)), none, some (.int (nI net)), some (.int (nI mz)), some (.int (nI va)), none, none, none, none, none, none]) rfl ?_
            exact V_widen (by omega) (by omega) (kk X3 h D n R mz va (LSt.mk hJ3 hL3) (by omega) (by omega) (by omega) (by omega) (by omega) (by omega) (by omega) (by omega))
          · refine V_aload_n C dL_law_1612 rfl ?_
            refine V_iload C dL_law_1613 rfl ?_
            refine V_iload C dL_law_1615 rfl ?_
            refine V_hcallV C hD [.int (nI net), .int (nI ((net + 1 + ((y / 32) % 6)) % 7))] mi_L_124 pl_L_124 (k_X9_allowed w l (nI net) (nI ((net + 1 + ((y / 32) % 6)) % 7)) X3  ) dL_law_1617 sh_0 (by decide) rfl rfl rfl (Nat.le_of_ble_eq_true rfl) (Nat.le_of_ble_eq_true rfl) (Nat.le_of_ble_eq_true rfl) ⟨by show _ ≤ 668764; omega, by show _ ≤ 7095478; omega⟩ (fun E X1 hx => False.elim (hx.2.2 ⟨(btw_n (a := net) (m := 9) (by omega) (by omega)), (btw_n (a := (net + 1 + ((y / 32) % 6)) % 7) (m := 9) (by omega) (by omega))⟩)) (fun v12 X12 q12 => ?_)
            obtain ⟨⟨c12, hc12, ec12, ha12⟩, T12, eX12⟩ := q_allowed (a := net) (b := ((net + 1 + ((y / 32) % 6)) % 7)) (by omega) (by omega) q12
            rw [hKX3.t] at ha12
            have hK12 : Kp X3 X12 := by rw [eX12]; exact hKX3.put (by omega)
            have hJ12 := JP_k hK12 hJ3
            refine V_eqi ec12 ?_
            refine V_if_leN (a := c12) (tgt := 1627) C dL_law_1620 (by decide) (by omega) (fun h1620_13 => False.elim (absurd (AlX_pos (by omega) (by omega) (by rw [tb3, turn_n mir (by omega)]; exact nI_ne0 (by split; omega; split; omega; omega) (by split; omega; split; omega; omega)) ha12) (by omega))) (fun h1620_13 => ?_)
            refine V_iconst (v := (1 : Int32)) C dL_law_1623 (by decide) ?_
            refine V_goto (tgt := 1628) C dL_law_1624 (by decide) ?_
            refine V_istore (ls1 := [some (.ref b), some (.ref (w.2.1 0)), some (.ref (w.2.1 85)), some (.ref (w.2.1 86)), some (.ref (w.2.1 87)), some (.ref (w.2.1 88)), some (.ref (w.2.1 89)), some (.ref (w.2.1 90)), some (.ref (w.2.1 91)), some (.int (nI h)), some (.int (nI n)), some (.int (nI R)), some (.int (1 : Int32)), some (.int (nI tu)), some (.int (nI t)), none, some (.int (nI y)), some (.int (nI d)), some (.int (nI who)), some (.int (nI ko)), some (.int (nI net)), some (.int (nI mz)), some (.int (nI va)), some (.int (nI ((net + 1 + ((y / 32) % 6)) % 7))), some (.int (nI w0)), none, none, none, none]) C dL_law_1628 (by decide) rfl ?_
            refine V_kill (i := 17) (ls1 := [some (.ref b), some (.ref (w.2.1 0)), some (.ref (w.2.1 85)), some (.ref (w.2.1 86)), some (.ref (w.2.1 87)), some (.ref (w.2.1 88)), some (.ref (w.2.1 89)), some (.ref (w.2.1 90)), some (.ref (w.2.1 91)), some (.int (nI h)), some (.int (nI n)), some (.int (nI R)), some (.int (1 : Int32)), some (.int (nI tu)), some (.int (nI t)), none, some (.int (nI y)), none, some (.int (nI who)), some (.int (nI ko)), some (.int (nI net)), some (.int (nI mz)), some (.int (nI va)), some (.int (nI ((net + 1 + ((y / 32) % 6)) % 7))), some (.int (nI w0)), none, none, none, none]) rfl ?_
            refine V_kill (i := 19) (ls1 := [some (.ref b), some (.ref (w.2.1 0)), some (.ref (w.2.1 85)), some (.ref (w.2.1 86)), some (.ref (w.2.1 87)), some (.ref (w.2.1 88)), some (.ref (w.2.1 89)), some (.ref (w.2.1 90)), some (.ref (w.2.1 91)), some (.int (nI h)), some (.int (nI n)), some (.int (nI R)), some (.int (1 : Int32)), some (.int (nI tu)), some (.int (nI t)), none, some (.int (nI y)), none, some (.int (nI who)), none, some (.int (nI net)), some (.int (nI mz)), some (.int (nI va)), some (.int (nI ((net + 1 + ((y / 32) % 6)) % 7))), some (.int (nI w0)), none, none, none, none]) rfl ?_
            refine V_kill (i := 23) (ls1 := [some (.ref b), some (.ref (w.2.1 0)), some (.ref (w.2.1 85)), some (.ref (w.2.1 86)), some (.ref (w.2.1 87)), some (.ref (w.2.1 88)), some (.ref (w.2.1 89)), some (.ref (w.2.1 90)), some (.ref (w.2.1 91)), some (.int (nI h)), some (.int (nI n)), some (.int (nI R)), some (.int (1 : Int32)), some (.int (nI tu)), some (.int (nI t)), none, some (.int (nI y)), none, some (.int (nI who)), none, some (.int (nI net)), some (.int (nI mz)), some (.int (nI va)), none, some (.int (nI w0)), none, none, none, none]) rfl ?_
            refine V_kill (i := 24) (ls1 := [some (.ref b), some (.ref (w.2.1 0)), some (.ref (w.2.1 85)), some (.ref (w.2.1 86)), some (.ref (w.2.1 87)), some (.ref (w.2.1 88)), some (.ref (w.2.1 89)), some (.ref (w.2.1 90)), some (.ref (w.2.1 91)), some (.int (nI h)), some (.int (nI n)), some (.int (nI R)), some (.int (1 : Int32)), some (.int (nI tu)), some (.int (nI t)), none, some (.int (nI y)), none, some (.int (nI who)), none, some (.int (nI net)), some (.int (nI mz)), some (.int (nI va)), none, none, none, none, none, none]) rfl ?_
            have hLe := LA_k hK12 hL3
            exact V_widen (by omega) (by omega) (kk X12 h D n R mz va (LSt.mk hJ12 hLe) (by omega) (by omega) (by omega) (by omega) (by omega) (by omega) (by omega) (by omega))
      · refine V_iconst (v := (2 : Int32)) C dL_law_1588 (by decide) ?_
        refine V_goto (tgt := 1604) C dL_law_1589 (by decide) ?_
        refine V_icmp_neN (a := c3) (b := 2) (tgt := 1627) C dL_law_1604 (by decide) (by omega) (by omega) (fun h1604_14 => False.elim (h1604_14 (by omega))) (fun h1604_14 => ?_)
        refine V_iload C dL_law_1607 rfl ?_
        refine V_if_eqN (a := w0) (tgt := 1623) C dL_law_1609 (by decide) (by omega) (fun h1609_15 => ?_) (fun h1609_15 => ?_)
        · refine V_iconst (v := (1 : Int32)) C dL_law_1623 (by decide) ?_
          refine V_goto (tgt := 1628) C dL_law_1624 (by decide) ?_
          refine V_istore (ls1 := [some (.ref b), some (.ref (w.2.1 0)), some (.ref (w.2.1 85)), some (.ref (w.2.1 86)), some (.ref (w.2.1 87)), some (.ref (w.2.1 88)), some (.ref (w.2.1 89)), some (.ref (w.2.1 90)), some (.ref (w.2.1 91)), some (.int (nI h)), some (.int (nI n)), some (.int (nI R)), some (.int (1 : Int32)), some (.int (nI tu)), some (.int (nI t)), none, some (.int (nI y)), some (.int (nI d)), some (.int (nI who)), some (.int (nI ko)), some (.int (nI net)), some (.int (nI mz)), some (.int (nI va)), some (.int (nI ((net + 1 + ((y / 32) % 6)) % 7))), some (.int (nI w0)), none, none, none, none]) C dL_law_1628 (by decide) rfl ?_
          refine V_kill (i := 17) (ls1 := [some (.ref b), some (.ref (w.2.1 0)), some (.ref (w.2.1 85)), some (.ref (w.2.1 86)), some (.ref (w.2.1 87)), some (.ref (w.2.1 88)), some (.ref (w.2.1 89)), some (.ref (w.2.1 90)), some (.ref (w.2.1 91)), some (.int (nI h)), some (.int (nI n)), some (.int (nI R)), some (.int (1 : Int32)), some (.int (nI tu)), some (.int (nI t)), none, some (.int (nI y)), none, some (.int (nI who)), some (.int (nI ko)), some (.int (nI net)), some (.int (nI mz)), some (.int (nI va)), some (.int (nI ((net + 1 + ((y / 32) % 6)) % 7))), some (.int (nI w0)), none, none, none, none]) rfl ?_
          refine V_kill (i := 19) (ls1 := [some (.ref b), some (.ref (w.2.1 0)), some (.ref (w.2.1 85)), some (.ref (w.2.1 86)), some (.ref (w.2.1 87)), some (.ref (w.2.1 88)), some (.ref (w.2.1 89)), some (.ref (w.2.1 90)), some (.ref (w.2.1 91)), some (.int (nI h)), some (.int (nI n)), some (.int (nI R)), some (.int (1 : Int32)), some (.int (nI tu)), some (.int (nI t)), none, some (.int (nI y)), none, some (.int (nI who)), none, some (.int (nI net)), some (.int (nI mz)), some (.int (nI va)), some (.int (nI ((net + 1 + ((y / 32) % 6)) % 7))), some (.int (nI w0)), none, none, none, none]) rfl ?_
          refine V_kill (i := 23) (ls1 := [some (.ref b), some (.ref (w.2.1 0)), some (.ref (w.2.1 85)), some (.ref (w.2.1 86)), some (.ref (w.2.1 87)), some (.ref (w.2.1 88)), some (.ref (w.2.1 89)), some (.ref (w.2.1 90)), some (.ref (w.2.1 91)), some (.int (nI h)), some (.int (nI n)), some (.int (nI R)), some (.int (1 : Int32)), some (.int (nI tu)), some (.int (nI t)), none, some (.int (nI y)), none, some (.int (nI who)), none, some (.int (nI net)), some (.int (nI mz)), some (.int (nI va)), none, some (.int (nI w0)), none, none, none, none]) rfl ?_
          refine V_kill (i := 24) (ls1 := [some (.ref b), some (.ref (w.2.1 0)), some (.ref (w.2.1 85)), some (.ref (w.2.1 86)), some (.ref (w.2.1 87)), some (.ref (w.2.1 88)), some (.ref (w.2.1 89)), some (.ref (w.2.1 90)), some (.ref (w.2.1 91)), some (.int (nI h)), some (.int (nI n)), some (.int (nI R)), some (.int (1 : Int32)), some (.int (nI tu)), some (.int (nI t)), none, some (.int (nI y)), none, some (.int (nI who)), none, some (.int (nI net)), some (.int (nI mz)), some (.int (nI va)), none, none, none, none, none, none]) rfl ?_
          exact V_widen (by omega) (by omega) (kk X3 h D n R mz va (LSt.mk hJ3 hL3) (by omega) (by omega) (by omega) (by omega) (by omega) (by omega) (by omega) (by omega))
        · refine V_aload_n C dL_law_1612 rfl ?_
          refine V_iload C dL_law_1613 rfl ?_
          refine V_iload C dL_law_1615 rfl ?_
          refine V_hcallV C hD [.int (nI net), .int (nI ((net + 1 + ((y / 32) % 6)) % 7))] mi_L_124 pl_L_124 (k_X9_allowed w l (nI net) (nI ((net + 1 + ((y / 32) % 6)) % 7)) X3  ) dL_law_1617 sh_0 (by decide) rfl rfl rfl (Nat.le_of_ble_eq_true rfl) (Nat.le_of_ble_eq_true rfl) (Nat.le_of_ble_eq_true rfl) ⟨by show _ ≤ 668764; omega, by show _ ≤ 7095478; omega⟩ (fun E X1 hx => False.elim (hx.2.2 ⟨(btw_n (a := net) (m := 9) (by omega) (by omega)), (btw_n (a := (net + 1 + ((y / 32) % 6)) % 7) (m := 9) (by omega) (by omega))⟩)) (fun v16 X16 q16 => ?_)
          obtain ⟨⟨c16, hc16, ec16, ha16⟩, T16, eX16⟩ := q_allowed (a := net) (b := ((net + 1 + ((y / 32) % 6)) % 7)) (by omega) (by omega) q16
          rw [hKX3.t] at ha16
          have hK16 : Kp X3 X16 := by rw [eX16]; exact hKX3.put (by omega)
          have hJ16 := JP_k hK16 hJ3
          refine V_eqi ec16 ?_
          refine V_if_leN (a := c16) (tgt := 1627) C dL_law_1620 (by decide) (by omega) (fun h1620_17 => False.elim (absurd (AlX_pos (by omega) (by omega) (by rw [tb3, turn_n mir (by omega)]; exact nI_ne0 (by split; omega; split; omega; omega) (by split; omega; split; omega; omega)) ha16) (by omega))) (fun h1620_17 => ?_)
          refine V_iconst (v := (1 : Int32)) C dL_law_1623 (by decide) ?_
          refine V_goto (tgt := 1628) C dL_law_1624 (by decide) ?_
          refine V_istore (ls1 := [some (.ref b), some (.ref (w.2.1 0)), some (.ref (w.2.1 85)), some (.ref (w.2.1 86)), some (.ref (w.2.1 87)), some (.ref (w.2.1 88)), some (.ref (w.2.1 89)), some (.ref (w.2.1 90)), some (.ref (w.2.1 91)), some (.int (nI h)), some (.int (nI n)), some (.int (nI R)), some (.int (1 : Int32)), some (.int (nI tu)), some (.int (nI t)), none, some (.int (nI y)), some (.int (nI d)), some (.int (nI who)), some (.int (nI ko)), some (.int (nI net)), some (.int (nI mz)), some (.int (nI va)), some (.int (nI ((net + 1 + ((y / 32) % 6)) % 7))), some (.int (nI w0)), none, none, none, none]) C dL_law_1628 (by decide) rfl ?_
          refine V_kill (i := 17) (ls1 := [some (.ref b), some (.ref (w.2.1 0)), some (.ref (w.2.1 85)), some (.ref (w.2.1 86)), some (.ref (w.2.1 87)), some (.ref (w.2.1 88)), some (.ref (w.2.1 89)), some (.ref (w.2.1 90)), some (.ref (w.2.1 91)), some (.int (nI h)), some (.int (nI n)), some (.int (nI R)), some (.int (1 : Int32)), some (.int (nI tu)), some (.int (nI t)), none, some (.int (nI y)), none, some (.int (nI who)), some (.int (nI ko)), some (.int (nI net)), some (.int (nI mz)), some (.int (nI va)), some (.int (nI ((net + 1 + ((y / 32) % 6)) % 7))), some (.int (nI w0)), none, none, none, none]) rfl ?_
          refine V_kill (i := 19) (ls1 := [some (.ref b), some (.ref (w.2.1 0)), some (.ref (w.2.1 85)), some (.ref (w.2.1 86)), some (.ref (w.2.1 87)), some (.ref (w.2.1 88)), some (.ref (w.2.1 89)), some (.ref (w.2.1 90)), some (.ref (w.2.1 91)), some (.int (nI h)), some (.int (nI n)), some (.int (nI R)), some (.int (1 : Int32)), some (.int (nI tu)), some (.int (nI t)), none, some (.int (nI y)), none, some (.int (nI who)), none, some (.int (nI net)), some (.int (nI mz)), some (.int (nI va)), some (.int (nI ((net + 1 + ((y / 32) % 6)) % 7))), some (.int (nI w0)), none, none, none, none]) rfl ?_
          refine V_kill (i := 23) (ls1 := [some (.ref b), some (.ref (w.2.1 0)), some (.ref (w.2.1 85)), some (.ref (w.2.1 86)), some (.ref (w.2.1 87)), some (.ref (w.2.1 88)), some (.ref (w.2.1 89)), some (.ref (w.2.1 90)), some (.ref (w.2.1 91)), some (.int (nI h)), some (.int (nI n)), some (.int (nI R)), some (.int (1 : Int32)), some (.int (nI tu)), some (.int (nI t)), none, some (.int (nI y)), none, some (.int (nI who)), none, some (.int (nI net)), some (.int (nI mz)), some (.int (nI va)), none, some (.int (nI w0)), none, none, none, none]) rfl ?_
          refine V_kill (i := 24) (ls1 := [some (.ref b), some (.ref (w.2.1 0)), some (.ref (w.2.1 85)), some (.ref (w.2.1 86)), some (.ref (w.2.1 87)), some (.ref (w.2.1 88)), some (.ref (w.2.1 89)), some (.ref (w.2.1 90)), some (.ref (w.2.1 91)), some (.int (nI h)), some (.int (nI n)), some (.int (nI R)), some (.int (1 : Int32)), some (.int (nI tu)), some (.int (nI t)), none, some (.int (nI y)), none, some (.int (nI who)), none, some (.int (nI net)), some (.int (nI mz)), some (.int (nI va)), none, none, none, none, none, none]) rfl ?_
          have hLe := LA_k hK16 hL3
          exact V_widen (by omega) (by omega) (kk X16 h D n R mz va (LSt.mk hJ16 hLe) (by omega) (by omega) (by omega) (by omega) (by omega) (by omega) (by omega) (by omega))
    refine V_aload_n C dL_law_1552 rfl ?_
    refine V_iload C dL_law_1553 rfl ?_
    refine V_iload C dL_law_1555 rfl ?_
    refine V_iload C dL_law_1557 rfl ?_
    refine V_iconst (v := (1 : Int32)) C dL_law_1559 (by decide) ?_
    refine V_icmp_neN (a := w0) (b := 1) (tgt := 1567) C dL_law_1560 (by decide) (by omega) (by omega) (fun h1560_18 => ?_) (fun h1560_18 => ?_)
    · refine V_iload C dL_law_1567 rfl ?_
      refine V_iconst (v := (2 : Int32)) C dL_law_1569 (by decide) ?_
      refine V_icmp_neN (a := w0) (b := 2) (tgt := 1577) C dL_law_1570 (by decide) (by omega) (by omega) (fun h1570_19 => ?_) (fun h1570_19 => ?_)
      · refine V_iload C dL_law_1577 rfl ?_
        exact L1579 w0 (by omega)
      · refine V_iconst (v := (1 : Int32)) C dL_law_1573 (by decide) ?_
        refine V_goto (tgt := 1579) C dL_law_1574 (by decide) ?_
        exact L1579 1 (by omega)
    · refine V_iconst (v := (2 : Int32)) C dL_law_1563 (by decide) ?_
      refine V_goto (tgt := 1579) C dL_law_1564 (by decide) ?_
      exact L1579 2 (by omega)
  refine V_iload C dL_law_1489 rfl ?_
  refine V_bipush (v := (8 : Int32)) C dL_law_1491 (by decide) ?_
  refine V_ishr C dL_law_1493 ?_
  refine V_eqi (y := nI (y / 256)) (pk_shrN (by omega) _ 8 (s_l31 8 (by decide))) ?_
  refine V_bipush (v := (7 : Int32)) C dL_law_1494 (by decide) ?_
  refine V_iand C dL_law_1496 ?_
  refine V_eqi (y := nI ((y / 256) % 8)) (pk_andN (by omega) 3 (by decide)) ?_
  refine V_iconst (v := (4 : Int32)) C dL_law_1497 (by decide) ?_
  refine V_icmp_leN (a := (y / 256) % 8) (b := 4) (tgt := 1505) C dL_law_1498 (by decide) (by omega) (by omega) (fun h1498_20 => ?_) (fun h1498_20 => ?_)
  · refine V_iload C dL_law_1505 rfl ?_
    refine V_bipush (v := (8 : Int32)) C dL_law_1507 (by decide) ?_
    refine V_ishr C dL_law_1509 ?_
    refine V_eqi (y := nI (y / 256)) (pk_shrN (by omega) _ 8 (s_l31 8 (by decide))) ?_
    refine V_bipush (v := (7 : Int32)) C dL_law_1510 (by decide) ?_
    refine V_iand C dL_law_1512 ?_
    refine V_eqi (y := nI ((y / 256) % 8)) (pk_andN (by omega) 3 (by decide)) ?_
    refine V_iconst (v := (2 : Int32)) C dL_law_1513 (by decide) ?_
    refine V_icmp_leN (a := (y / 256) % 8) (b := 2) (tgt := 1521) C dL_law_1514 (by decide) (by omega) (by omega) (fun h1514_21 => ?_) (fun h1514_21 => ?_)
    · refine V_iload C dL_law_1521 rfl ?_
      refine V_bipush (v := (8 : Int32)) C dL_law_1523 (by decide) ?_
      refine V_ishr C dL_law_1525 ?_
      refine V_eqi (y := nI (y / 256)) (pk_shrN (by omega) _ 8 (s_l31 8 (by decide))) ?_
      refine V_bipush (v := (7 : Int32)) C dL_law_1526 (by decide) ?_
      refine V_iand C dL_law_1528 ?_
      refine V_eqi (y := nI ((y / 256) % 8)) (pk_andN (by omega) 3 (by decide)) ?_
      refine V_if_leN (a := (y / 256) % 8) (tgt := 1536) C dL_law_1529 (by decide) (by omega) (fun h1529_22 => ?_) (fun h1529_22 => ?_)
      · refine V_iconst (v := (0 : Int32)) C dL_law_1536 (by decide) ?_
        exact L1537 0 (by omega)
      · refine V_iconst (v := (1 : Int32)) C dL_law_1532 (by decide) ?_
        refine V_goto (tgt := 1537) C dL_law_1533 (by decide) ?_
        exact L1537 1 (by omega)
    · refine V_iconst (v := (2 : Int32)) C dL_law_1517 (by decide) ?_
      refine V_goto (tgt := 1537) C dL_law_1518 (by decide) ?_
      exact L1537 2 (by omega)
  · refine V_iconst (v := (3 : Int32)) C dL_law_1501 (by decide) ?_
    refine V_goto (tgt := 1537) C dL_law_1502 (by decide) ?_
    exact L1537 3 (by omega)
