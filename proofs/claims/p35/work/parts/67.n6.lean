set_option maxHeartbeats 4000000 in
set_option maxRecDepth 100000 in
theorem law_d9 {p : Program} {l : Launch} {e : Env} {s : State} {m : MethodId} {args : Array Value} {below : List Frame} {meth : Method} {c : Code} {w : Wt} {cn ck b L0 : Nat} {xs : Nat → Int32} {Q : State → Prop} {X : Mem} (K : LawC p l s m args meth c w b L0 xs) (hnk : cn + 60 ≤ 668764 ∧ ck + 360 ≤ 7095478) {h D n R tu t y d who ko net mz va : Nat} (hS : LSt X h D n R) (hh6 : h ≤ 6) (hn16 : n ≤ 16) (hR8 : R ≤ 8) (hD9 : D ≤ 9000) (hyb : y < 268435456) (hwho : who < h) (hko : n = 0 ∨ ko < n) (hnet : net < 7) (hma : mz ≤ 8) (hva : va < 256) (hvb : va % 2 ^ (8 - mz) = 0) (kk : ∀ (X' : Mem) (h' D' n' R' mz' va' : Nat), LSt X' h' D' n' R' → h ≤ h' → h' ≤ 6 → n' ≤ 16 → R' ≤ 8 → D' ≤ D + 12 → mz' ≤ 8 → va' < 256 → va' % 2 ^ (8 - mz') = 0 → V p l e room_1 s m args below meth c w 29 (cn + 60) (ck + 360) Q 1630 [some (.ref b), some (.ref (w.2.1 0)), some (.ref (w.2.1 85)), some (.ref (w.2.1 86)), some (.ref (w.2.1 87)), some (.ref (w.2.1 88)), some (.ref (w.2.1 89)), some (.ref (w.2.1 90)), some (.ref (w.2.1 91)), some (.int (nI h')), some (.int (nI n')), some (.int (nI R')), some (.int (1 : Int32)), some (.int (nI tu)), some (.int (nI t)), none, some (.int (nI y)), none, some (.int (nI who)), none, some (.int (nI net)), some (.int (nI mz')), some (.int (nI va')), none, none, none, none, none, none] [] X') : V p l e room_1 s m args below meth c w 29 cn ck Q 1002 [some (.ref b), some (.ref (w.2.1 0)), some (.ref (w.2.1 85)), some (.ref (w.2.1 86)), some (.ref (w.2.1 87)), some (.ref (w.2.1 88)), some (.ref (w.2.1 89)), some (.ref (w.2.1 90)), some (.ref (w.2.1 91)), some (.int (nI h)), some (.int (nI n)), some (.int (nI R)), some (.int (1 : Int32)), some (.int (nI tu)), some (.int (nI t)), none, some (.int (nI y)), some (.int (nI d)), some (.int (nI who)), some (.int (nI ko)), some (.int (nI net)), some (.int (nI mz)), some (.int (nI va)), none, none, none, none, none, none] [] X := by
  obtain ⟨C, hD, hN, hX, hbl, hfar, hL0⟩ := K
  obtain ⟨dr, PP, Z, Th, hJ, hL⟩ := hS
  have hK0 : Kp X X := Kp.rf
  have h1 := hJ.1.2.2.2.1
  have hR24 : R ≤ 24 := by omega
  refine V_aload_n C dL_law_1002 rfl ?_
  refine V_iload C dL_law_1003 rfl ?_
  refine V_iload C dL_law_1005 rfl ?_
  refine V_iconst (v := (3 : Int32)) C dL_law_1007 (by decide) ?_
  refine V_ishr C dL_law_1008 ?_
  refine V_eqi (y := nI (y / 8)) (pk_shrN (by omega) _ 3 (s_l31 3 (by decide))) ?_
  refine V_bipush (v := (101 : Int32)) C dL_law_1009 (by decide) ?_
  refine V_irem C dL_law_1011 (by decide) ?_
  refine V_eqi (y := nI ((y / 8) % 101)) (pk_rem (d := 101) (by omega) (by decide) (by decide)) ?_
  refine V_hcallV C hD [.int (nI who), .int (nI ((y / 8) % 101))] mi_L_103 pl_L_103 (k_X9_publish w l (nI who) (nI ((y / 8) % 101)) X h n hJ.1.2.2.1 hJ.1.2.2.2.1 hJ.1.2.2.2.2.1 hJ.2.1.1 hJ.2.1.2.1.1) dL_law_1012 sh_0 (by decide) rfl rfl rfl (Nat.le_of_ble_eq_true rfl) (Nat.le_of_ble_eq_true rfl) (Nat.le_of_ble_eq_true rfl) ⟨by show _ ≤ 668764; omega, by show _ ≤ 7095478; omega⟩ (fun E X1 hx => False.elim (hx.2.elim (fun g => g.2 (btw_n (a := who) (m := h - 1) (by omega) (by omega))) (fun g => g.2.2 (btw_n (a := (y / 8) % 101) (m := 100) (by omega) (by omega))))) (fun v1 X1 q1 => ?_)
  obtain ⟨ef1, hJ1, hkl1, e81, e151⟩ := U_publish hJ (w := who) (y := (y / 8) % 101) (by omega) q1
  have hL1 := LA_kl (h' := h) hkl1 (Nat.le_refl _) hL
  have hKX1 : Kp X1 X1 := Kp.rf
  obtain ⟨c1, es1, hc1, er1⟩ := ef1
  refine V_eqi er1 ?_
  refine V_istore (ls1 := [some (.ref b), some (.ref (w.2.1 0)), some (.ref (w.2.1 85)), some (.ref (w.2.1 86)), some (.ref (w.2.1 87)), some (.ref (w.2.1 88)), some (.ref (w.2.1 89)), some (.ref (w.2.1 90)), some (.ref (w.2.1 91)), some (.int (nI h)), some (.int (nI n)), some (.int (nI R)), some (.int (1 : Int32)), some (.int (nI tu)), some (.int (nI t)), none, some (.int (nI y)), some (.int (nI d)), some (.int (nI who)), some (.int (nI ko)), some (.int (nI net)), some (.int (nI mz)), some (.int (nI va)), some (.int (nI c1)), none, none, none, none, none]) C dL_law_1015 (by decide) rfl ?_
  refine V_iload C dL_law_1017 rfl ?_
  refine V_if_ltN (a := c1) (tgt := 1051) C dL_law_1019 (by decide) (by omega) ?_
  refine V_iload C dL_law_1022 rfl ?_
  refine V_iload C dL_law_1024 rfl ?_
  refine V_icmp_gtN (a := c1) (b := n) (tgt := 1051) C dL_law_1026 (by decide) (by omega) (by omega) (fun h1026_3 => False.elim (absurd h1026_3 (by omega))) (fun h1026_3 => ?_)
  refine V_aload_n C dL_law_1029 rfl ?_
  refine V_iload C dL_law_1030 rfl ?_
  refine V_iload C dL_law_1032 rfl ?_
  refine V_iconst (v := (3 : Int32)) C dL_law_1034 (by decide) ?_
  refine V_ishr C dL_law_1035 ?_
  refine V_eqi (y := nI (y / 8)) (pk_shrN (by omega) _ 3 (s_l31 3 (by decide))) ?_
  refine V_bipush (v := (101 : Int32)) C dL_law_1036 (by decide) ?_
  refine V_irem C dL_law_1038 (by decide) ?_
  refine V_eqi (y := nI ((y / 8) % 101)) (pk_rem (d := 101) (by omega) (by decide) (by decide)) ?_
  refine V_hcallV C hD [.int (nI who), .int (nI ((y / 8) % 101))] mi_L_103 pl_L_103 (k_X9_publish w l (nI who) (nI ((y / 8) % 101)) X1 h n hJ1.1.2.2.1 hJ1.1.2.2.2.1 hJ1.1.2.2.2.2.1 hJ1.2.1.1 hJ1.2.1.2.1.1) dL_law_1039 sh_0 (by decide) rfl rfl rfl (Nat.le_of_ble_eq_true rfl) (Nat.le_of_ble_eq_true rfl) (Nat.le_of_ble_eq_true rfl) ⟨by show _ ≤ 668764; omega, by show _ ≤ 7095478; omega⟩ (fun E X1 hx => False.elim (hx.2.elim (fun g => g.2 (btw_n (a := who) (m := h - 1) (by omega) (by omega))) (fun g => g.2.2 (btw_n (a := (y / 8) % 101) (m := 100) (by omega) (by omega))))) (fun v4 X4 q4 => ?_)
  obtain ⟨ef4, hJ4, hkl4, e84, e154⟩ := U_publish hJ1 (w := who) (y := (y / 8) % 101) (by omega) q4
  have hL4 := LA_kl (h' := h) hkl4 (Nat.le_refl _) hL1
  have hKX4 : Kp X4 X4 := Kp.rf
  obtain ⟨c4, es4, hc4, er4⟩ := ef4
  refine V_eqi er4 ?_
  refine V_iload C dL_law_1042 rfl ?_
  refine V_icmp_neN (a := c4) (b := c1) (tgt := 1051) C dL_law_1044 (by decide) (by omega) (by omega) (fun h1044_5 => False.elim (h1044_5 (es4.trans (by rw [e81, e151]; exact es1.symm)))) (fun h1044_5 => ?_)
  refine V_iconst (v := (1 : Int32)) C dL_law_1047 (by decide) ?_
  refine V_goto (tgt := 1052) C dL_law_1048 (by decide) ?_
  refine V_istore (ls1 := [some (.ref b), some (.ref (w.2.1 0)), some (.ref (w.2.1 85)), some (.ref (w.2.1 86)), some (.ref (w.2.1 87)), some (.ref (w.2.1 88)), some (.ref (w.2.1 89)), some (.ref (w.2.1 90)), some (.ref (w.2.1 91)), some (.int (nI h)), some (.int (nI n)), some (.int (nI R)), some (.int (1 : Int32)), some (.int (nI tu)), some (.int (nI t)), none, some (.int (nI y)), some (.int (nI d)), some (.int (nI who)), some (.int (nI ko)), some (.int (nI net)), some (.int (nI mz)), some (.int (nI va)), some (.int (nI c1)), none, none, none, none, none]) C dL_law_1052 (by decide) rfl ?_
  refine V_goto (tgt := 1630) C dL_law_1054 (by decide) ?_
  refine V_kill (i := 17) (ls1 := [some (.ref b), some (.ref (w.2.1 0)), some (.ref (w.2.1 85)), some (.ref (w.2.1 86)), some (.ref (w.2.1 87)), some (.ref (w.2.1 88)), some (.ref (w.2.1 89)), some (.ref (w.2.1 90)), some (.ref (w.2.1 91)), some (.int (nI h)), some (.int (nI n)), some (.int (nI R)), some (.int (1 : Int32)), some (.int (nI tu)), some (.int (nI t)), none, some (.int (nI y)), none, some (.int (nI who)), some (.int (nI ko)), some (.int (nI net)), some (.int (nI mz)), some (.int (nI va)), some (.int (nI c1)), none, none, none, none, none]) rfl ?_
  refine V_kill (i := 19) (ls1 := [some (.ref b), some (.ref (w.2.1 0)), some (.ref (w.2.1 85)), some (.ref (w.2.1 86)), some (.ref (w.2.1 87)), some (.ref (w.2.1 88)), some (.ref (w.2.1 89)), some (.ref (w.2.1 90)), some (.ref (w.2.1 91)), some (.int (nI h)), some (.int (nI n)), some (.int (nI R)), some (.int (1 : Int32)), some (.int (nI tu)), some (.int (nI t)), none, some (.int (nI y)), none, some (.int (nI who)), none, some (.int (nI net)), some (.int (nI mz)), some (.int (nI va)), some (.int (nI c1)), none, none, none, none, none]) rfl ?_
  refine V_kill (i := 23) (ls1 := [some (.ref b), some (.ref (w.2.1 0)), some (.ref (w.2.1 85)), some (.ref (w.2.1 86)), some (.ref (w.2.1 87)), some (.ref (w.2.1 88)), some (.ref (w.2.1 89)), some (.ref (w.2.1 90)), some (.ref (w.2.1 91)), some (.int (nI h)), some (.int (nI n)), some (.int (nI R)), some (.int (1 : Int32)), some (.int (nI tu)), some (.int (nI t)), none, some (.int (nI y)), none, some (.int (nI who)), none, some (.int (nI net)), some (.int (nI mz)), some (.int (nI va)), none, none, none, none, none, none]) rfl ?_
  exact V_widen (by omega) (by omega) (kk X4 h D n R mz va (LSt.mk hJ4 hL4) (by omega) (by omega) (by omega) (by omega) (by omega) (by omega) (by omega) (by omega))
set_option maxHeartbeats 4000000 in
set_option maxRecDepth 100000 in
theorem law_d10 {p : Program} {l : Launch} {e : Env} {s : State} {m : MethodId} {args : Array Value} {below : List Frame} {meth : Method} {c : Code} {w : Wt} {cn ck b L0 : Nat} {xs : Nat → Int32} {Q : State → Prop} {X : Mem} (K : LawC p l s m args meth c w b L0 xs) (hnk : cn + 60 ≤ 668764 ∧ ck + 360 ≤ 7095478) {h D n R tu t y d who ko net mz va : Nat} (hS : LSt X h D n R) (hh6 : h ≤ 6) (hn16 : n ≤ 16) (hR8 : R ≤ 8) (hD9 : D ≤ 9000) (hyb : y < 268435456) (hwho : who < h) (hko : n = 0 ∨ ko < n) (hnet : net < 7) (hma : mz ≤ 8) (hva : va < 256) (hvb : va % 2 ^ (8 - mz) = 0) (kk : ∀ (X' : Mem) (h' D' n' R' mz' va' : Nat), LSt X' h' D' n' R' → h ≤ h' → h' ≤ 6 → n' ≤ 16 → R' ≤ 8 → D' ≤ D + 12 → mz' ≤ 8 → va' < 256 → va' % 2 ^ (8 - mz') = 0 → V p l e room_1 s m args below meth c w 29 (cn + 60) (ck + 360) Q 1630 [some (.ref b), some (.ref (w.2.1 0)), some (.ref (w.2.1 85)), some (.ref (w.2.1 86)), some (.ref (w.2.1 87)), some (.ref (w.2.1 88)), some (.ref (w.2.1 89)), some (.ref (w.2.1 90)), some (.ref (w.2.1 91)), some (.int (nI h')), some (.int (nI n')), some (.int (nI R')), some (.int (1 : Int32)), some (.int (nI tu)), some (.int (nI t)), none, some (.int (nI y)), none, some (.int (nI who)), none, some (.int (nI net)), some (.int (nI mz')), some (.int (nI va')), none, none, none, none, none, none] [] X') : V p l e room_1 s m args below meth c w 29 cn ck Q 1071 [some (.ref b), some (.ref (w.2.1 0)), some (.ref (w.2.1 85)), some (.ref (w.2.1 86)), some (.ref (w.2.1 87)), some (.ref (w.2.1 88)), some (.ref (w.2.1 89)), some (.ref (w.2.1 90)), some (.ref (w.2.1 91)), some (.int (nI h)), some (.int (nI n)), some (.int (nI R)), some (.int (1 : Int32)), some (.int (nI tu)), some (.int (nI t)), none, some (.int (nI y)), some (.int (nI d)), some (.int (nI who)), some (.int (nI ko)), some (.int (nI net)), some (.int (nI mz)), some (.int (nI va)), none, none, none, none, none, none] [] X := by
  obtain ⟨C, hD, hN, hX, hbl, hfar, hL0⟩ := K
  obtain ⟨dr, PP, Z, Th, hJ, hL⟩ := hS
  have hK0 : Kp X X := Kp.rf
  have h1 := hJ.1.2.2.2.1
  have hR24 : R ≤ 24 := by omega
  refine V_aload_n C dL_law_1071 rfl ?_
  refine V_callVI C [] mi_L_106 (k_X9_today w l X  ) dL_law_1072 sh_0 (by decide) rfl rfl rfl (Nat.le_of_ble_eq_true rfl) (Nat.le_of_ble_eq_true rfl) (Nat.le_of_ble_eq_true rfl) ⟨by show _ ≤ 668764; omega, by show _ ≤ 7095478; omega⟩ (fun v1 X1 q1 => ?_)
  obtain ⟨ev1, eX1⟩ := q1; subst X1
  refine V_eqi (ev1.trans hJ.1.1) ?_
  refine V_istore (ls1 := [some (.ref b), some (.ref (w.2.1 0)), some (.ref (w.2.1 85)), some (.ref (w.2.1 86)), some (.ref (w.2.1 87)), some (.ref (w.2.1 88)), some (.ref (w.2.1 89)), some (.ref (w.2.1 90)), some (.ref (w.2.1 91)), some (.int (nI h)), some (.int (nI n)), some (.int (nI R)), some (.int (1 : Int32)), some (.int (nI tu)), some (.int (nI t)), none, some (.int (nI y)), some (.int (nI d)), some (.int (nI who)), some (.int (nI ko)), some (.int (nI net)), some (.int (nI mz)), some (.int (nI va)), some (.int (nI D)), none, none, none, none, none]) C dL_law_1075 (by decide) rfl ?_
  refine V_iconst (v := (1 : Int32)) C dL_law_1077 (by decide) ?_
  refine V_iload C dL_law_1078 rfl ?_
  refine V_iconst (v := (3 : Int32)) C dL_law_1080 (by decide) ?_
  refine V_ishr C dL_law_1081 ?_
  refine V_eqi (y := nI (y / 8)) (pk_shrN (by omega) _ 3 (s_l31 3 (by decide))) ?_
  refine V_bipush (v := (12 : Int32)) C dL_law_1082 (by decide) ?_
  refine V_irem C dL_law_1084 (by decide) ?_
  refine V_eqi (y := nI ((y / 8) % 12)) (pk_rem (d := 12) (by omega) (by decide) (by decide)) ?_
  refine V_iaddN (a := 1) (b := (y / 8) % 12) C dL_law_1085 ?_
  refine V_istore (ls1 := [some (.ref b), some (.ref (w.2.1 0)), some (.ref (w.2.1 85)), some (.ref (w.2.1 86)), some (.ref (w.2.1 87)), some (.ref (w.2.1 88)), some (.ref (w.2.1 89)), some (.ref (w.2.1 90)), some (.ref (w.2.1 91)), some (.int (nI h)), some (.int (nI n)), some (.int (nI R)), some (.int (1 : Int32)), some (.int (nI tu)), some (.int (nI t)), none, some (.int (nI y)), some (.int (nI d)), some (.int (nI who)), some (.int (nI ko)), some (.int (nI net)), some (.int (nI mz)), some (.int (nI va)), some (.int (nI D)), some (.int (nI (1 + ((y / 8) % 12)))), none, none, none, none]) C dL_law_1086 (by decide) rfl ?_
  refine V_iload C dL_law_1088 rfl ?_
  refine V_iconst (v := (1 : Int32)) C dL_law_1090 (by decide) ?_
  refine V_ishr C dL_law_1091 ?_
  refine V_eqi (y := nI (y / 2)) (pk_shrN (by omega) _ 1 (s_l31 1 (by decide))) ?_
  refine V_iconst (v := (3 : Int32)) C dL_law_1092 (by decide) ?_
  refine V_iand C dL_law_1093 ?_
  refine V_eqi (y := nI ((y / 2) % 4)) (pk_andN (by omega) 2 (by decide)) ?_
  refine V_if_neN (a := (y / 2) % 4) (tgt := 1125) C dL_law_1094 (by decide) (by omega) (fun h1094_2 => ?_) (fun h1094_2 => ?_)
  · refine V_aload_n C dL_law_1125 rfl ?_
    refine V_iload C dL_law_1126 rfl ?_
    refine V_hcallV C hD [.int (nI (1 + ((y / 8) % 12)))] mi_L_109 pl_L_109 (k_X9_pass w l (nI (1 + ((y / 8) % 12))) X D hJ.1.1 hJ.1.2.1) dL_law_1128 sh_0 (by decide) rfl rfl rfl (Nat.le_of_ble_eq_true rfl) (Nat.le_of_ble_eq_true rfl) (Nat.le_of_ble_eq_true rfl) ⟨by show _ ≤ 668764; omega, by show _ ≤ 7095478; omega⟩ (fun E X1 hx => False.elim (hx.2.elim (fun g => g.2 (btw_1n (a := 1 + ((y / 8) % 12)) (m := 100) (by omega) (by omega) (by decide))) (fun g => g.2.2 (fun d9 hd9 ed9 => by have := nIu (m := 101) (by decide) (by omega) hd9 ed9; omega)))) (fun v3 X3 q3 => ?_)
    obtain ⟨er3, hJ3, hkl3⟩ := U_pass hJ (d := 1 + ((y / 8) % 12)) (by omega) q3
    have hL3 := LA_kl (h' := h) hkl3 (Nat.le_refl _) hL
    have hKX3 : Kp X3 X3 := Kp.rf
    refine V_eqi er3 ?_
    refine V_iload C dL_law_1131 rfl ?_
    refine V_iload C dL_law_1133 rfl ?_
    refine V_iaddN (a := D) (b := 1 + ((y / 8) % 12)) C dL_law_1135 ?_
    refine V_icmp_neN (a := D + (1 + ((y / 8) % 12))) (b := D + (1 + ((y / 8) % 12))) (tgt := 1143) C dL_law_1136 (by decide) (by omega) (by omega) (fun h1136_4 => False.elim (h1136_4 rfl)) (fun h1136_4 => ?_)
    refine V_iconst (v := (1 : Int32)) C dL_law_1139 (by decide) ?_
    refine V_goto (tgt := 1144) C dL_law_1140 (by decide) ?_
    refine V_istore (ls1 := [some (.ref b), some (.ref (w.2.1 0)), some (.ref (w.2.1 85)), some (.ref (w.2.1 86)), some (.ref (w.2.1 87)), some (.ref (w.2.1 88)), some (.ref (w.2.1 89)), some (.ref (w.2.1 90)), some (.ref (w.2.1 91)), some (.int (nI h)), some (.int (nI n)), some (.int (nI R)), some (.int (1 : Int32)), some (.int (nI tu)), some (.int (nI t)), none, some (.int (nI y)), some (.int (nI d)), some (.int (nI who)), some (.int (nI ko)), some (.int (nI net)), some (.int (nI mz)), some (.int (nI va)), some (.int (nI D)), some (.int (nI (1 + ((y / 8) % 12)))), none, none, none, none]) C dL_law_1144 (by decide) rfl ?_
    refine V_goto (tgt := 1630) C dL_law_1146 (by decide) ?_
    refine V_kill (i := 17) (ls1 := [some (.ref b), some (.ref (w.2.1 0)), some (.ref (w.2.1 85)), some (.ref (w.2.1 86)), some (.ref (w.2.1 87)), some (.ref (w.2.1 88)), some (.ref (w.2.1 89)), some (.ref (w.2.1 90)), some (.ref (w.2.1 91)), some (.int (nI h)), some (.int (nI n)), some (.int (nI R)), some (.int (1 : Int32)), some (.int (nI tu)), some (.int (nI t)), none, some (.int (nI y)), none, some (.int (nI who)), some (.int (nI ko)), some (.int (nI net)), some (.int (nI mz)), some (.int (nI va)), some (.int (nI D)), some (.int (nI (1 + ((y / 8) % 12)))), none, none, none, none]) rfl ?_
    refine V_kill (i := 19) (ls1 := [some (.ref b), some (.ref (w.2.1 0)), some (.ref (w.2.1 85)), some (.ref (w.2.1 86)), some (.ref (w.2.1 87)), some (.ref (w.2.1 88)), some (.ref (w.2.1 89)), some (.ref (w.2.1 90)), some (.ref (w.2.1 91)), some (.int (nI h)), some (.int (nI n)), some (.int (nI R)), some (.int (1 : Int32)), some (.int (nI tu)), some (.int (nI t)), none, some (.int (nI y)), none, some (.int (nI who)), none, some (.int (nI net)), some (.int (nI mz)), some (.int (nI va)), some (.int (nI D)), some (.int (nI (1 + ((y / 8) % 12)))), none, none, none, none]) rfl ?_
    refine V_kill (i := 23) (ls1 := [some (.ref b), some (.ref (w.2.1 0)), some (.ref (w.2.1 85)), some (.ref (w.2.1 86)), some (.ref (w.2.1 87)), some (.ref (w.2.1 88)), some (.ref (w.2.1 89)), some (.ref (w.2.1 90)), some (.ref (w.2.1 91)), some (.int (nI h)), some (.int (nI n)), some (.int (nI R)), some (.int (1 : Int32)), some (.int (nI tu)), some (.int (nI t)), none, some (.int (nI y)), none, some (.int (nI who)), none, some (.int (nI net)), some (.int (nI mz)), some (.int (nI va)), none, some (.int (nI (1 + ((y / 8) % 12)))), none, none, none, none]) rfl ?_
    refine V_kill (i := 24) (ls1 := [some (.ref b), some (.ref (w.2.1 0)), some (.ref (w.2.1 85)), some (.ref (w.2.1 86)), some (.ref (w.2.1 87)), some (.ref (w.2.1 88)), some (.ref (w.2.1 89)), some (.ref (w.2.1 90)), some (.ref (w.2.1 91)), some (.int (nI h)), some (.int (nI n)), some (.int (nI R)), some (.int (1 : Int32)), some (.int (nI tu)), some (.int (nI t)), none, some (.int (nI y)), none, some (.int (nI who)), none, some (.int (nI net)), some (.int (nI mz)), some (.int (nI va)), none, none, none, none, none, none]) rfl ?_
    exact V_widen (by omega) (by omega) (kk X3 h (D + (1 + ((y / 8) % 12))) n R mz va (LSt.mk hJ3 hL3) (by omega) (by omega) (by omega) (by omega) (by omega) (by omega) (by omega) (by omega))
  · refine V_aload_n C dL_law_1097 rfl ?_
    refine V_iconst (v := (5 : Int32)) C dL_law_1098 (by decide) ?_
    refine V_iload C dL_law_1099 rfl ?_
    refine V_iconst (v := (0 : Int32)) C dL_law_1101 (by decide) ?_
    refine V_lcallS (na := 4) C hD hN [.ref (w.2.1 0), .int (5 : Int32), .int (nI who), .int (0 : Int32)] pl_L_54 (tb_i 738 (by decide +kernel) (by decide +kernel)) (tb_i 31 (by decide +kernel) (by decide +kernel)) (by decide +kernel) (tb_i 737 (by decide +kernel) (by decide +kernel)) (k_L_on_5 w l (nI who) X h hJ.1.2.2.1 hJ.1.2.2.2.1 hJ.1.2.2.2.2.1 hJ.1.2.2.2.2.2.2.2.1 (fun E X1 h => h.2.elim (fun g => Or.inl g.1) (fun g => Or.inr g.1))) dL_law_1102 rfl rfl (Nat.le_of_ble_eq_true rfl) (Nat.le_of_ble_eq_true rfl) (Nat.le_of_ble_eq_true rfl) ⟨by show _ ≤ 668764; omega, by show _ ≤ 7095478; omega⟩ (fun v5 X5 q5 => ?_)
    obtain ⟨enz5, hJ5, hkl5, e15⟩ := U_roll hJ (w := who) (by omega) q5
    have hL5 := LA_kl (h' := h) hkl5 (Nat.le_refl _) hL
    have hKX5 : Kp X5 X5 := Kp.rf
    refine V_if_eq (x := v5) (tgt := 1121) C dL_law_1105 (by decide) (fun h1105_6 => False.elim (enz5 h1105_6)) (fun h1105_6 => ?_)
    refine V_aload_n C dL_law_1108 rfl ?_
    refine V_callVI C [] mi_L_106 (k_X9_today w l X5  ) dL_law_1109 sh_0 (by decide) rfl rfl rfl (Nat.le_of_ble_eq_true rfl) (Nat.le_of_ble_eq_true rfl) (Nat.le_of_ble_eq_true rfl) ⟨by show _ ≤ 668764; omega, by show _ ≤ 7095478; omega⟩ (fun v7 X7 q7 => ?_)
    obtain ⟨ev7, eX7⟩ := q7; subst X7
    refine V_eqi (ev7.trans hJ5.1.1) ?_
    refine V_iload C dL_law_1112 rfl ?_
    refine V_icmp_neN (a := D) (b := D) (tgt := 1121) C dL_law_1114 (by decide) (by omega) (by omega) (fun h1114_8 => False.elim (h1114_8 rfl)) (fun h1114_8 => ?_)
    refine V_iconst (v := (1 : Int32)) C dL_law_1117 (by decide) ?_
    refine V_goto (tgt := 1144) C dL_law_1118 (by decide) ?_
    refine V_istore (ls1 := [some (.ref b), some (.ref (w.2.1 0)), some (.ref (w.2.1 85)), some (.ref (w.2.1 86)), some (.ref (w.2.1 87)), some (.ref (w.2.1 88)), some (.ref (w.2.1 89)), some (.ref (w.2.1 90)), some (.ref (w.2.1 91)), some (.int (nI h)), some (.int (nI n)), some (.int (nI R)), some (.int (1 : Int32)), some (.int (nI tu)), some (.int (nI t)), none, some (.int (nI y)), some (.int (nI d)), some (.int (nI who)), some (.int (nI ko)), some (.int (nI net)), some (.int (nI mz)), some (.int (nI va)), some (.int (nI D)), some (.int (nI (1 + ((y / 8) % 12)))), none, none, none, none]) C dL_law_1144 (by decide) rfl ?_
    refine V_goto (tgt := 1630) C dL_law_1146 (by decide) ?_
    refine V_kill (i := 17) (ls1 := [some (.ref b), some (.ref (w.2.1 0)), some (.ref (w.2.1 85)), some (.ref (w.2.1 86)), some (.ref (w.2.1 87)), some (.ref (w.2.1 88)), some (.ref (w.2.1 89)), some (.ref (w.2.1 90)), some (.ref (w.2.1 91)), some (.int (nI h)), some (.int (nI n)), some (.int (nI R)), some (.int (1 : Int32)), some (.int (nI tu)), some (.int (nI t)), none, some (.int (nI y)), none, some (.int (nI who)), some (.int (nI ko)), some (.int (nI net)), some (.int (nI mz)), some (.int (nI va)), some (.int (nI D)), some (.int (nI (1 + ((y / 8) % 12)))), none, none, none, none]) rfl ?_
    refine V_kill (i := 19) (ls1 := [some (.ref b), some (.ref (w.2.1 0)), some (.ref (w.2.1 85)), some (.ref (w.2.1 86)), some (.ref (w.2.1 87)), some (.ref (w.2.1 88)), some (.ref (w.2.1 89)), some (.ref (w.2.1 90)), some (.ref (w.2.1 91)), some (.int (nI h)), some (.int (nI n)), some (.int (nI R)), some (.int (1 : Int32)), some (.int (nI tu)), some (.int (nI t)), none, some (.int (nI y)), none, some (.int (nI who)), none, some (.int (nI net)), some (.int (nI mz)), some (.int (nI va)), some (.int (nI D)), some (.int (nI (1 + ((y / 8) % 12)))), none, none, none, none]) rfl ?_
    refine V_kill (i := 23) (ls1 := [some (.ref b), some (.ref (w.2.1 0)), some (.ref (w.2.1 85)), some (.ref (w.2.1 86)), some (.ref (w.2.1 87)), some (.ref (w.2.1 88)), some (.ref (w.2.1 89)), some (.ref (w.2.1 90)), some (.ref (w.2.1 91)), some (.int (nI h)), some (.int (nI n)), some (.int (nI R)), some (.int (1 : Int32)), some (.int (nI tu)), some (.int (nI t)), none, some (.int (nI y)), none, some (.int (nI who)), none, some (.int (nI net)), some (.int (nI mz)), some (.int (nI va)), none, some (.int (nI (1 + ((y / 8) % 12)))), none, none, none, none]) rfl ?_
    refine V_kill (i := 24) (ls1 := [some (.ref b), some (.ref (w.2.1 0)), some (.ref (w.2.1 85)), some (.ref (w.2.1 86)), some (.ref (w.2.1 87)), some (.ref (w.2.1 88)), some (.ref (w.2.1 89)), some (.ref (w.2.1 90)), some (.ref (w.2.1 91)), some (.int (nI h)), some (.int (nI n)), some (.int (nI R)), some (.int (1 : Int32)), some (.int (nI tu)), some (.int (nI t)), none, some (.int (nI y)), none, some (.int (nI who)), none, some (.int (nI net)), some (.int (nI mz)), some (.int (nI va)), none, none, none, none, none, none]) rfl ?_
    exact V_widen (by omega) (by omega) (kk X5 h D n R mz va (LSt.mk hJ5 hL5) (by omega) (by omega) (by omega) (by omega) (by omega) (by omega) (by omega) (by omega))
set_option maxHeartbeats 4000000 in
set_option maxRecDepth 100000 in
theorem law_d7 {p : Program} {l : Launch} {e : Env} {s : State} {m : MethodId} {args : Array Value} {below : List Frame} {meth : Method} {c : Code} {w : Wt} {cn ck b L0 : Nat} {xs : Nat → Int32} {Q : State → Prop} {X : Mem} (K : LawC p l s m args meth c w b L0 xs) (hnk : cn + 60 ≤ 668764 ∧ ck + 360 ≤ 7095478) {h D n R tu t y d who ko net mz va : Nat} (hS : LSt X h D n R) (hh6 : h ≤ 6) (hn16 : n ≤ 16) (hR8 : R ≤ 8) (hD9 : D ≤ 9000) (hyb : y < 268435456) (hwho : who < h) (hko : n = 0 ∨ ko < n) (hnet : net < 7) (hma : mz ≤ 8) (hva : va < 256) (hvb : va % 2 ^ (8 - mz) = 0) (hn0 : 0 < n) (kk : ∀ (X' : Mem) (h' D' n' R' mz' va' : Nat), LSt X' h' D' n' R' → h ≤ h' → h' ≤ 6 → n' ≤ 16 → R' ≤ 8 → D' ≤ D + 12 → mz' ≤ 8 → va' < 256 → va' % 2 ^ (8 - mz') = 0 → V p l e room_1 s m args below meth c w 29 (cn + 60) (ck + 360) Q 1630 [some (.ref b), some (.ref (w.2.1 0)), some (.ref (w.2.1 85)), some (.ref (w.2.1 86)), some (.ref (w.2.1 87)), some (.ref (w.2.1 88)), some (.ref (w.2.1 89)), some (.ref (w.2.1 90)), some (.ref (w.2.1 91)), some (.int (nI h')), some (.int (nI n')), some (.int (nI R')), some (.int (1 : Int32)), some (.int (nI tu)), some (.int (nI t)), none, some (.int (nI y)), none, some (.int (nI who)), none, some (.int (nI net)), some (.int (nI mz')), some (.int (nI va')), none, none, none, none, none, none] [] X') : V p l e room_1 s m args below meth c w 29 cn ck Q 868 [some (.ref b), some (.ref (w.2.1 0)), some (.ref (w.2.1 85)), some (.ref (w.2.1 86)), some (.ref (w.2.1 87)), some (.ref (w.2.1 88)), some (.ref (w.2.1 89)), some (.ref (w.2.1 90)), some (.ref (w.2.1 91)), some (.int (nI h)), some (.int (nI n)), some (.int (nI R)), some (.int (1 : Int32)), some (.int (nI tu)), some (.int (nI t)), none, some (.int (nI y)), some (.int (nI d)), some (.int (nI who)), some (.int (nI ko)), some (.int (nI net)), some (.int (nI mz)), some (.int (nI va)), none, none, none, none, none, none] [] X := by
  obtain ⟨C, hD, hN, hX, hbl, hfar, hL0⟩ := K
  obtain ⟨dr, PP, Z, Th, hJ, hL⟩ := hS
  have hK0 : Kp X X := Kp.rf
  have h1 := hJ.1.2.2.2.1
  have hR24 : R ≤ 24 := by omega
  refine V_aload_n C dL_law_868 rfl ?_
  refine V_iload C dL_law_869 rfl ?_
  refine V_hcallV C hD [.int (nI ko)] mi_L_95 pl_L_95 (k_X9_sign w l (nI ko) X h n hJ.2.1.2.1 hJ.1.2.2.2.2.1 hJ.2.1.1 hJ.2.1.2.1.1) dL_law_871 sh_0 (by decide) rfl rfl rfl (Nat.le_of_ble_eq_true rfl) (Nat.le_of_ble_eq_true rfl) (Nat.le_of_ble_eq_true rfl) ⟨by show _ ≤ 668764; omega, by show _ ≤ 7095478; omega⟩ (fun E X1 hx => False.elim (hx.2.2 (obj_b (by omega) hJ.2.1.2.1.1))) (fun v1 X1 q1 => ?_)
  obtain ⟨ef1, hJ1, hkl1⟩ := U_sign2 hJ hL (o := ko) (by omega) q1
  have hL1 := LA_kl (h' := h) hkl1 (Nat.le_refl _) hL
  have hKX1 : Kp X1 X1 := Kp.rf
  obtain ⟨m1, hm1, er1, sg1, sh1, s141⟩ := ef1
  refine V_eqi er1 ?_
  refine V_istore (ls1 := [some (.ref b), some (.ref (w.2.1 0)), some (.ref (w.2.1 85)), some (.ref (w.2.1 86)), some (.ref (w.2.1 87)), some (.ref (w.2.1 88)), some (.ref (w.2.1 89)), some (.ref (w.2.1 90)), some (.ref (w.2.1 91)), some (.int (nI h)), some (.int (nI n)), some (.int (nI R)), some (.int (1 : Int32)), some (.int (nI tu)), some (.int (nI t)), none, some (.int (nI y)), some (.int (nI d)), some (.int (nI who)), some (.int (nI ko)), some (.int (nI net)), some (.int (nI mz)), some (.int (nI va)), some (.int (nI m1)), none, none, none, none, none]) C dL_law_874 (by decide) rfl ?_
  refine V_iload C dL_law_876 rfl ?_
  refine V_if_ltN (a := m1) (tgt := 913) C dL_law_878 (by decide) (by omega) ?_
  refine V_iload C dL_law_881 rfl ?_
  refine V_ldc C kc_L_98 dL_law_883 ?_
  refine V_icmp_geN (a := m1) (b := 65521) (tgt := 913) C dL_law_885 (by decide) (by omega) (by omega) (fun h885_3 => False.elim (absurd h885_3 (by omega))) (fun h885_3 => ?_)
  refine V_aload_n C dL_law_888 rfl ?_
  refine V_iload C dL_law_889 rfl ?_
  refine V_hcallV C hD [.int (nI ko)] mi_L_95 pl_L_95 (k_X9_sign w l (nI ko) X1 h n hJ1.2.1.2.1 hJ1.1.2.2.2.2.1 hJ1.2.1.1 hJ1.2.1.2.1.1) dL_law_891 sh_0 (by decide) rfl rfl rfl (Nat.le_of_ble_eq_true rfl) (Nat.le_of_ble_eq_true rfl) (Nat.le_of_ble_eq_true rfl) ⟨by show _ ≤ 668764; omega, by show _ ≤ 7095478; omega⟩ (fun E X1 hx => False.elim (hx.2.2 (obj_b (by omega) hJ1.2.1.2.1.1))) (fun v4 X4 q4 => ?_)
  obtain ⟨ef4, hJ4, hkl4⟩ := U_sign2 hJ1 hL1 (o := ko) (by omega) q4
  have hL4 := LA_kl (h' := h) hkl4 (Nat.le_refl _) hL1
  have hKX4 : Kp X4 X4 := Kp.rf
  obtain ⟨m4, hm4, er4, sg4, sh4, s144⟩ := ef4
  refine V_eqi er4 ?_
  refine V_iload C dL_law_894 rfl ?_
  refine V_icmp_neN (a := m4) (b := m1) (tgt := 913) C dL_law_896 (by decide) (by omega) (by omega) (fun h896_5 => False.elim (h896_5 (SgV_one (by omega) (by omega) sg4 sh1))) (fun h896_5 => ?_)
  refine V_aload_n C dL_law_899 rfl ?_
  refine V_iload C dL_law_900 rfl ?_
  refine V_hcallV C hD [.int (nI ko)] mi_L_47 pl_L_47 (k_X9_judged w l (nI ko) X4 h n hJ4.2.1.2.1 hJ4.1.2.2.2 hJ4.2.1.1 hJ4.1.2.2.1) dL_law_902 sh_0 (by decide) rfl rfl rfl (Nat.le_of_ble_eq_true rfl) (Nat.le_of_ble_eq_true rfl) (Nat.le_of_ble_eq_true rfl) ⟨by show _ ≤ 668764; omega, by show _ ≤ 7095478; omega⟩ (fun E X1 hx => False.elim (hx.2.2 (obj_b (by omega) hJ4.2.1.2.1.1))) (fun v6 X6 q6 => ?_)
  obtain ⟨-, o6, ho6, eo6, V6, eX6, hV6, er6⟩ := q6
  have hj6 : JgX X4 n ko v6 := (JgX_k hKX4).mp ⟨V6, hV6, by rw [(nI_eq (by omega) (by omega)).mp eo6]; exact er6⟩
  have hK6 : Kp X4 X6 := by rw [eX6]; exact hKX4.put (Or.inl rfl)
  have hJ6 := JP_k hK6 hJ4
  obtain ⟨c6, hc6, ec6⟩ := JgX_lt (by omega) hj6
  rw [ec6] at hj6
  refine V_eqi ec6 ?_
  refine V_iconst (v := (4 : Int32)) C dL_law_905 (by decide) ?_
  refine V_icmp_eqN (a := c6) (b := 4) (tgt := 913) C dL_law_906 (by decide) (by omega) (by omega) (fun h906_7 => False.elim (by have g9 := hj6; rw [h906_7] at g9; exact not_4 (by omega) sh4 s144 g9)) (fun h906_7 => ?_)
  refine V_iconst (v := (1 : Int32)) C dL_law_909 (by decide) ?_
  refine V_goto (tgt := 914) C dL_law_910 (by decide) ?_
  refine V_istore (ls1 := [some (.ref b), some (.ref (w.2.1 0)), some (.ref (w.2.1 85)), some (.ref (w.2.1 86)), some (.ref (w.2.1 87)), some (.ref (w.2.1 88)), some (.ref (w.2.1 89)), some (.ref (w.2.1 90)), some (.ref (w.2.1 91)), some (.int (nI h)), some (.int (nI n)), some (.int (nI R)), some (.int (1 : Int32)), some (.int (nI tu)), some (.int (nI t)), none, some (.int (nI y)), some (.int (nI d)), some (.int (nI who)), some (.int (nI ko)), some (.int (nI net)), some (.int (nI mz)), some (.int (nI va)), some (.int (nI m1)), none, none, none, none, none]) C dL_law_914 (by decide) rfl ?_
  refine V_goto (tgt := 1630) C dL_law_916 (by decide) ?_
  refine V_kill (i := 17) (ls1 := [some (.ref b), some (.ref (w.2.1 0)), some (.ref (w.2.1 85)), some (.ref (w.2.1 86)), some (.ref (w.2.1 87)), some (.ref (w.2.1 88)), some (.ref (w.2.1 89)), some (.ref (w.2.1 90)), some (.ref (w.2.1 91)), some (.int (nI h)), some (.int (nI n)), some (.int (nI R)), some (.int (1 : Int32)), some (.int (nI tu)), some (.int (nI t)), none, some (.int (nI y)), none, some (.int (nI who)), some (.int (nI ko)), some (.int (nI net)), some (.int (nI mz)), some (.int (nI va)), some (.int (nI m1)), none, none, none, none, none]) rfl ?_
  refine V_kill (i := 19) (ls1 := [some (.ref b), some (.ref (w.2.1 0)), some (.ref (w.2.1 85)), some (.ref (w.2.1 86)), some (.ref (w.2.1 87)), some (.ref (w.2.1 88)), some (.ref (w.2.1 89)), some (.ref (w.2.1 90)), some (.ref (w.2.1 91)), some (.int (nI h)), some (.int (nI n)), some (.int (nI R)), some (.int (1 : Int32)), some (.int (nI tu)), some (.int (nI t)), none, some (.int (nI y)), none, some (.int (nI who)), none, some (.int (nI net)), some (.int (nI mz)), some (.int (nI va)), some (.int (nI m1)), none, none, none, none, none]) rfl ?_
  refine V_kill (i := 23) (ls1 := [some (.ref b), some (.ref (w.2.1 0)), some (.ref (w.2.1 85)), some (.ref (w.2.1 86)), some (.ref (w.2.1 87)), some (.ref (w.2.1 88)), some (.ref (w.2.1 89)), some (.ref (w.2.1 90)), some (.ref (w.2.1 91)), some (.int (nI h)), some (.int (nI n)), some (.int (nI R)), some (.int (1 : Int32)), some (.int (nI tu)), some (.int (nI t)), none, some (.int (nI y)), none, some (.int (nI who)), none, some (.int (nI net)), some (.int (nI mz)), some (.int (nI va)), none, none, none, none, none, none]) rfl ?_
  have hLe := LA_k hK6 hL4
  exact V_widen (by omega) (by omega) (kk X6 h D n R mz va (LSt.mk hJ6 hLe) (by omega) (by omega) (by omega) (by omega) (by omega) (by omega) (by omega) (by omega))
set_option maxHeartbeats 4000000 in
set_option maxRecDepth 100000 in
theorem law_d8 {p : Program} {l : Launch} {e : Env} {s : State} {m : MethodId} {args : Array Value} {below : List Frame} {meth : Method} {c : Code} {w : Wt} {cn ck b L0 : Nat} {xs : Nat → Int32} {Q : State → Prop} {X : Mem} (K : LawC p l s m args meth c w b L0 xs) (hnk : cn + 60 ≤ 668764 ∧ ck + 360 ≤ 7095478) {h D n R tu t y d who ko net mz va : Nat} (hS : LSt X h D n R) (hh6 : h ≤ 6) (hn16 : n ≤ 16) (hR8 : R ≤ 8) (hD9 : D ≤ 9000) (hyb : y < 268435456) (hwho : who < h) (hko : n = 0 ∨ ko < n) (hnet : net < 7) (hma : mz ≤ 8) (hva : va < 256) (hvb : va % 2 ^ (8 - mz) = 0) (hn0 : 0 < n) (kk : ∀ (X' : Mem) (h' D' n' R' mz' va' : Nat), LSt X' h' D' n' R' → h ≤ h' → h' ≤ 6 → n' ≤ 16 → R' ≤ 8 → D' ≤ D + 12 → mz' ≤ 8 → va' < 256 → va' % 2 ^ (8 - mz') = 0 → V p l e room_1 s m args below meth c w 29 (cn + 60) (ck + 360) Q 1630 [some (.ref b), some (.ref (w.2.1 0)), some (.ref (w.2.1 85)), some (.ref (w.2.1 86)), some (.ref (w.2.1 87)), some (.ref (w.2.1 88)), some (.ref (w.2.1 89)), some (.ref (w.2.1 90)), some (.ref (w.2.1 91)), some (.int (nI h')), some (.int (nI n')), some (.int (nI R')), some (.int (1 : Int32)), some (.int (nI tu)), some (.int (nI t)), none, some (.int (nI y)), none, some (.int (nI who)), none, some (.int (nI net)), some (.int (nI mz')), some (.int (nI va')), none, none, none, none, none, none] [] X') : V p l e room_1 s m args below meth c w 29 cn ck Q 938 [some (.ref b), some (.ref (w.2.1 0)), some (.ref (w.2.1 85)), some (.ref (w.2.1 86)), some (.ref (w.2.1 87)), some (.ref (w.2.1 88)), some (.ref (w.2.1 89)), some (.ref (w.2.1 90)), some (.ref (w.2.1 91)), some (.int (nI h)), some (.int (nI n)), some (.int (nI R)), some (.int (1 : Int32)), some (.int (nI tu)), some (.int (nI t)), none, some (.int (nI y)), some (.int (nI d)), some (.int (nI who)), some (.int (nI ko)), some (.int (nI net)), some (.int (nI mz)), some (.int (nI va)), none, none, none, none, none, none] [] X := by
  obtain ⟨C, hD, hN, hX, hbl, hfar, hL0⟩ := K
  obtain ⟨dr, PP, Z, Th, hJ, hL⟩ := hS
  have hK0 : Kp X X := Kp.rf
  have h1 := hJ.1.2.2.2.1
  have hR24 : R ≤ 24 := by omega
  refine V_aload_n C dL_law_938 rfl ?_
  refine V_iload C dL_law_939 rfl ?_
  refine V_hcallV C hD [.int (nI ko)] mi_L_47 pl_L_47 (k_X9_judged w l (nI ko) X h n hJ.2.1.2.1 hJ.1.2.2.2 hJ.2.1.1 hJ.1.2.2.1) dL_law_941 sh_0 (by decide) rfl rfl rfl (Nat.le_of_ble_eq_true rfl) (Nat.le_of_ble_eq_true rfl) (Nat.le_of_ble_eq_true rfl) ⟨by show _ ≤ 668764; omega, by show _ ≤ 7095478; omega⟩ (fun E X1 hx => False.elim (hx.2.2 (obj_b (by omega) hJ.2.1.2.1.1))) (fun v1 X1 q1 => ?_)
  obtain ⟨-, o1, ho1, eo1, V1, eX1, hV1, er1⟩ := q1
  have hj1 : JgX X n ko v1 := (JgX_k hK0).mp ⟨V1, hV1, by rw [(nI_eq (by omega) (by omega)).mp eo1]; exact er1⟩
  have hK1 : Kp X X1 := by rw [eX1]; exact hK0.put (Or.inl rfl)
  have hJ1 := JP_k hK1 hJ
  obtain ⟨c1, hc1, ec1⟩ := JgX_lt (by omega) hj1
  rw [ec1] at hj1
  refine V_eqi ec1 ?_
  refine V_istore (ls1 := [some (.ref b), some (.ref (w.2.1 0)), some (.ref (w.2.1 85)), some (.ref (w.2.1 86)), some (.ref (w.2.1 87)), some (.ref (w.2.1 88)), some (.ref (w.2.1 89)), some (.ref (w.2.1 90)), some (.ref (w.2.1 91)), some (.int (nI h)), some (.int (nI n)), some (.int (nI R)), some (.int (1 : Int32)), some (.int (nI tu)), some (.int (nI t)), none, some (.int (nI y)), some (.int (nI d)), some (.int (nI who)), some (.int (nI ko)), some (.int (nI net)), some (.int (nI mz)), some (.int (nI va)), some (.int (nI c1)), none, none, none, none, none]) C dL_law_944 (by decide) rfl ?_
  refine V_aload_n C dL_law_946 rfl ?_
  refine V_iload C dL_law_947 rfl ?_
  refine V_hcallV C hD [.int (nI ko)] mi_L_99 pl_L_99 (k_X9_revoke w l (nI ko) X1 n hJ1.2.1.1 hJ1.2.1.2.1.1) dL_law_949 sh_0 (by decide) rfl rfl rfl (Nat.le_of_ble_eq_true rfl) (Nat.le_of_ble_eq_true rfl) (Nat.le_of_ble_eq_true rfl) ⟨by show _ ≤ 668764; omega, by show _ ≤ 7095478; omega⟩ (fun E X1 hx => False.elim (hx.2.2 (obj_b (by omega) hJ1.2.1.2.1.1))) (fun v2 X2 q2 => ?_)
  have hjb2 := (JgX_k hK1).mpr hj1
  have hLp2 := LA_k hK1 hL
  obtain ⟨hb2, hJ2, hkl2, e152, kr2⟩ := U_revoke hJ1 (o := ko) (by omega) q2
  have hL2 := LA_kl (h' := h) hkl2 (Nat.le_refl _) hLp2
  have hKX2 : Kp X2 X2 := Kp.rf
  refine V_istore (ls1 := [some (.ref b), some (.ref (w.2.1 0)), some (.ref (w.2.1 85)), some (.ref (w.2.1 86)), some (.ref (w.2.1 87)), some (.ref (w.2.1 88)), some (.ref (w.2.1 89)), some (.ref (w.2.1 90)), some (.ref (w.2.1 91)), some (.int (nI h)), some (.int (nI n)), some (.int (nI R)), some (.int (1 : Int32)), some (.int (nI tu)), some (.int (nI t)), none, some (.int (nI y)), some (.int (nI d)), some (.int (nI who)), some (.int (nI ko)), some (.int (nI net)), some (.int (nI mz)), some (.int (nI va)), some (.int (nI c1)), some (.int v2), none, none, none, none]) C dL_law_952 (by decide) rfl ?_
  refine V_aload_n C dL_law_954 rfl ?_
  refine V_iload C dL_law_955 rfl ?_
  refine V_hcallV C hD [.int (nI ko)] mi_L_47 pl_L_47 (k_X9_judged w l (nI ko) X2 h n hJ2.2.1.2.1 hJ2.1.2.2.2 hJ2.2.1.1 hJ2.1.2.2.1) dL_law_957 sh_0 (by decide) rfl rfl rfl (Nat.le_of_ble_eq_true rfl) (Nat.le_of_ble_eq_true rfl) (Nat.le_of_ble_eq_true rfl) ⟨by show _ ≤ 668764; omega, by show _ ≤ 7095478; omega⟩ (fun E X1 hx => False.elim (hx.2.2 (obj_b (by omega) hJ2.2.1.2.1.1))) (fun v3 X3 q3 => ?_)
  obtain ⟨-, o3, ho3, eo3, V3, eX3, hV3, er3⟩ := q3
  have hj3 : JgX X2 n ko v3 := (JgX_k hKX2).mp ⟨V3, hV3, by rw [(nI_eq (by omega) (by omega)).mp eo3]; exact er3⟩
  have hK3 : Kp X2 X3 := by rw [eX3]; exact hKX2.put (Or.inl rfl)
  have hJ3 := JP_k hK3 hJ2
  obtain ⟨c3, hc3, ec3⟩ := JgX_lt (by omega) hj3
  rw [ec3] at hj3
  refine V_eqi ec3 ?_
  refine V_iload C dL_law_960 rfl ?_
  refine V_icmp_neN (a := c3) (b := c1) (tgt := 989) C dL_law_962 (by decide) (by omega) (by omega) (fun h962_4 => False.elim (h962_4 (nIu (m := 6) (by decide) (by omega) (by omega) (JgX_one hJ1.1.2.2.2 hJ1.2.1.2.1 (by omega) (JgX_rvk kr2 hj3) hjb2)))) (fun h962_4 => ?_)
  refine V_aload_n C dL_law_965 rfl ?_
  refine V_iload C dL_law_966 rfl ?_
  refine V_hcallV C hD [.int (nI ko)] mi_L_99 pl_L_99 (k_X9_revoke w l (nI ko) X3 n hJ3.2.1.1 hJ3.2.1.2.1.1) dL_law_968 sh_0 (by decide) rfl rfl rfl (Nat.le_of_ble_eq_true rfl) (Nat.le_of_ble_eq_true rfl) (Nat.le_of_ble_eq_true rfl) ⟨by show _ ≤ 668764; omega, by show _ ≤ 7095478; omega⟩ (fun E X1 hx => False.elim (hx.2.2 (obj_b (by omega) hJ3.2.1.2.1.1))) (fun v5 X5 q5 => ?_)
  have hLp5 := LA_k hK3 hL2
  obtain ⟨hb5, hJ5, hkl5, e155, kr5⟩ := U_revoke hJ3 (o := ko) (by omega) q5
  have hL5 := LA_kl (h' := h) hkl5 (Nat.le_refl _) hLp5
  have hKX5 : Kp X5 X5 := Kp.rf
  refine V_if_neB (tgt := 989) C hb5 dL_law_971 (by decide) (fun h971_6 => False.elim (absurd h971_6 (by rw [hK3 15 (by omega), e152]; decide))) (fun h971_6 => ?_)
  refine V_iload C dL_law_974 rfl ?_
  refine V_iconst (v := (2 : Int32)) C dL_law_976 (by decide) ?_
  refine V_icmp_neN (a := c1) (b := 2) (tgt := 985) C dL_law_977 (by decide) (by omega) (by omega) (fun h977_7 => ?_) (fun h977_7 => ?_)
  · refine V_iconst (v := (1 : Int32)) C dL_law_985 (by decide) ?_
    refine V_goto (tgt := 990) C dL_law_986 (by decide) ?_
    refine V_istore (ls1 := [some (.ref b), some (.ref (w.2.1 0)), some (.ref (w.2.1 85)), some (.ref (w.2.1 86)), some (.ref (w.2.1 87)), some (.ref (w.2.1 88)), some (.ref (w.2.1 89)), some (.ref (w.2.1 90)), some (.ref (w.2.1 91)), some (.int (nI h)), some (.int (nI n)), some (.int (nI R)), some (.int (1 : Int32)), some (.int (nI tu)), some (.int (nI t)), none, some (.int (nI y)), some (.int (nI d)), some (.int (nI who)), some (.int (nI ko)), some (.int (nI net)), some (.int (nI mz)), some (.int (nI va)), some (.int (nI c1)), some (.int v2), none, none, none, none]) C dL_law_990 (by decide) rfl ?_
    refine V_goto (tgt := 1630) C dL_law_992 (by decide) ?_
    refine V_kill (i := 17) (ls1 := [some (.ref b), some (.ref (w.2.1 0)), some (.ref (w.2.1 85)), some (.ref (w.2.1 86)), some (.ref (w.2.1 87)), some (.ref (w.2.1 88)), some (.ref (w.2.1 89)), some (.ref (w.2.1 90)), some (.ref (w.2.1 91)), some (.int (nI h)), some (.int (nI n)), some (.int (nI R)), some (.int (1 : Int32)), some (.int (nI tu)), some (.int (nI t)), none, some (.int (nI y)), none, some (.int (nI who)), some (.int (nI ko)), some (.int (nI net)), some (.int (nI mz)), some (.int (nI va)), some (.int (nI c1)), some (.int v2), none, none, none, none]) rfl ?_
    refine V_kill (i := 19) (ls1 := [some (.ref b), some (.ref (w.2.1 0)), some (.ref (w.2.1 85)), some (.ref (w.2.1 86)), some (.ref (w.2.1 87)), some (.ref (w.2.1 88)), some (.ref (w.2.1 89)), some (.ref (w.2.1 90)), some (.ref (w.2.1 91)), some (.int (nI h)), some (.int (nI n)), some (.int (nI R)), some (.int (1 : Int32)), some (.int (nI tu)), some (.int (nI t)), none, some (.int (nI y)), none, some (.int (nI who)), none, some (.int (nI net)), some (.int (nI mz)), some (.int (nI va)), some (.int (nI c1)), some (.int v2), none, none, none, none]) rfl ?_
    refine V_kill (i := 23) (ls1 := [some (.ref b), some (.ref (w.2.1 0)), some (.ref (w.2.1 85)), some (.ref (w.2.1 86)), some (.ref (w.2.1 87)), some (.ref (w.2.1 88)), some (.ref (w.2.1 89)), some (.ref (w.2.1 90)), some (.ref (w.2.1 91)), some (.int (nI h)), some (.int (nI n)), some (.int (nI R)), some (.int (1 : Int32)), some (.int (nI tu)), some (.int (nI t)), none, some (.int (nI y)), none, some (.int (nI who)), none, some (.int (nI net)), some (.int (nI mz)), some (.int (nI va)), none, some (.int v2), none, none, none, none]) rfl ?_
    refine V_kill (i := 24) (ls1 := [some (.ref b), some (.ref (w.2.1 0)), some (.ref (w.2.1 85)), some (.ref (w.2.1 86)), some (.ref (w.2.1 87)), some (.ref (w.2.1 88)), some (.ref (w.2.1 89)), some (.ref (w.2.1 90)), some (.ref (w.2.1 91)), some (.int (nI h)), some (.int (nI n)), some (.int (nI R)), some (.int (1 : Int32)), some (.int (nI tu)), some (.int (nI t)), none, some (.int (nI y)), none, some (.int (nI who)), none, some (.int (nI net)), some (.int (nI mz)), some (.int (nI va)), none, none, none, none, none, none]) rfl ?_
    exact V_widen (by omega) (by omega) (kk X5 h D n R mz va (LSt.mk hJ5 hL5) (by omega) (by omega) (by omega) (by omega) (by omega) (by omega) (by omega) (by omega))
  · refine V_iload C dL_law_980 rfl ?_
    refine V_if_neB (tgt := 989) C hb2 dL_law_982 (by decide) (fun h982_8 => False.elim (absurd h982_8 (by rw [jg_2 hJ1 (by omega) (by have g9 := hjb2; rw [(by assumption : c1 = 2)] at g9; exact g9)]; decide))) (fun h982_8 => ?_)
    refine V_iconst (v := (1 : Int32)) C dL_law_985 (by decide) ?_
    refine V_goto (tgt := 990) C dL_law_986 (by decide) ?_
    refine V_istore (ls1 := [some (.ref b), some (.ref (w.2.1 0)), some (.ref (w.2.1 85)), some (.ref (w.2.1 86)), some (.ref (w.2.1 87)), some (.ref (w.2.1 88)), some (.ref (w.2.1 89)), some (.ref (w.2.1 90)), some (.ref (w.2.1 91)), some (.int (nI h)), some (.int (nI n)), some (.int (nI R)), some (.int (1 : Int32)), some (.int (nI tu)), some (.int (nI t)), none, some (.int (nI y)), some (.int (nI d)), some (.int (nI who)), some (.int (nI ko)), some (.int (nI net)), some (.int (nI mz)), some (.int (nI va)), some (.int (nI c1)), some (.int v2), none, none, none, none]) C dL_law_990 (by decide) rfl ?_
    refine V_goto (tgt := 1630) C dL_law_992 (by decide) ?_
    refine V_kill (i := 17) (ls1 := [some (.ref b), some (.ref (w.2.1 0)), some (.ref (w.2.1 85)), some (.ref (w.2.1 86)), some (.ref (w.2.1 87)), some (.ref (w.2.1 88)), some (.ref (w.2.1 89)), some (.ref (w.2.1 90)), some (.ref (w.2.1 91)), some (.int (nI h)), some (.int (nI n)), some (.int (nI R)), some (.int (1 : Int32)), some (.int (nI tu)), some (.int (nI t)), none, some (.int (nI y)), none, some (.int (nI who)), some (.int (nI ko)), some (.int (nI net)), some (.int (nI mz)), some (.int (nI va)), some (.int (nI c1)), some (.int v2), none, none, none, none]) rfl ?_
    refine V_kill (i := 19) (ls1 := [some (.ref b), some (.ref (w.2.1 0)), some (.ref (w.2.1 85)), some (.ref (w.2.1 86)), some (.ref (w.2.1 87)), some (.ref (w.2.1 88)), some (.ref (w.2.1 89)), some (.ref (w.2.1 90)), some (.ref (w.2.1 91)), some (.int (nI h)), some (.int (nI n)), some (.int (nI R)), some (.int (1 : Int32)), some (.int (nI tu)), some (.int (nI t)), none, some (.int (nI y)), none, some (.int (nI who)), none, some (.int (nI net)), some (.int (nI mz)), some (.int (nI va)), some (.int (nI c1)), some (.int v2), none, none, none, none]) rfl ?_
    refine V_kill (i := 23) (ls1 := [some (.ref b), some (.ref (w.2.1 0)), some (.ref (w.2.1 85)), some (.ref (w.2.1 86)), some (.ref (w.2.1 87)), some (.ref (w.2.1 88)), some (.ref (w.2.1 89)), some (.ref (w.2.1 90)), some (.ref (w.2.1 91)), some (.int (nI h)), some (.int (nI n)), some (.int (nI R)), some (.int (1 : Int32)), some (.int (nI tu)), some (.int (nI t)), none, some (.int (nI y)), none, some (.int (nI who)), none, some (.int (nI net)), some (.int (nI mz)), some (.int (nI va)), none, some (.int v2), none, none, none, none]) rfl ?_
    refine V_kill (i := 24) (ls1 := [some (.ref b), some (.ref (w.2.1 0)), some (.ref (w.2.1 85)), some (.ref (w.2.1 86)), some (.ref (w.2.1 87)), some (.ref (w.2.1 88)), some (.ref (w.2.1 89)), some (.ref (w.2.1 90)), some (.ref (w.2.1 91)), some (.int (nI h)), some (.int (nI n)), some (.int (nI R)), some (.int (1 : Int32)), some (.int (nI tu)), some (.int (nI t)), none, some (.int (nI y)), none, some (.int (nI who)), none, some (.int (nI net)), some (.int (nI mz)), some (.int (nI va)), none, none, none, none, none, none]) rfl ?_
    exact V_widen (by omega) (by omega) (kk X5 h D n R mz va (LSt.mk hJ5 hL5) (by omega) (by omega) (by omega) (by omega) (by omega) (by omega) (by omega) (by omega))
