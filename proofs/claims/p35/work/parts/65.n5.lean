set_option maxHeartbeats 4000000 in
set_option maxRecDepth 100000 in
theorem law_d0 {p : Program} {l : Launch} {e : Env} {s : State} {m : MethodId} {args : Array Value} {below : List Frame} {meth : Method} {c : Code} {w : Wt} {cn ck b L0 : Nat} {xs : Nat → Int32} {Q : State → Prop} {X : Mem} (K : LawC p l s m args meth c w b L0 xs) (hnk : cn + 60 ≤ 668764 ∧ ck + 360 ≤ 7095478) {h D n R tu t y d who ko net mz va : Nat} (hS : LSt X h D n R) (hh6 : h ≤ 6) (hn16 : n ≤ 16) (hR8 : R ≤ 8) (hD9 : D ≤ 9000) (hyb : y < 268435456) (hwho : who < h) (hko : n = 0 ∨ ko < n) (hnet : net < 7) (hma : mz ≤ 8) (hva : va < 256) (hvb : va % 2 ^ (8 - mz) = 0) (hd : h < 6) (kk : ∀ (X' : Mem) (h' D' n' R' mz' va' : Nat), LSt X' h' D' n' R' → h ≤ h' → h' ≤ 6 → n' ≤ 16 → R' ≤ 8 → D' ≤ D + 12 → mz' ≤ 8 → va' < 256 → va' % 2 ^ (8 - mz') = 0 → V p l e room_1 s m args below meth c w 29 (cn + 60) (ck + 360) Q 1630 [some (.ref b), some (.ref (w.2.1 0)), some (.ref (w.2.1 85)), some (.ref (w.2.1 86)), some (.ref (w.2.1 87)), some (.ref (w.2.1 88)), some (.ref (w.2.1 89)), some (.ref (w.2.1 90)), some (.ref (w.2.1 91)), some (.int (nI h')), some (.int (nI n')), some (.int (nI R')), some (.int (1 : Int32)), some (.int (nI tu)), some (.int (nI t)), none, some (.int (nI y)), none, some (.int (nI who)), none, some (.int (nI net)), some (.int (nI mz')), some (.int (nI va')), none, none, none, none, none, none] [] X') : V p l e room_1 s m args below meth c w 29 cn ck Q 264 [some (.ref b), some (.ref (w.2.1 0)), some (.ref (w.2.1 85)), some (.ref (w.2.1 86)), some (.ref (w.2.1 87)), some (.ref (w.2.1 88)), some (.ref (w.2.1 89)), some (.ref (w.2.1 90)), some (.ref (w.2.1 91)), some (.int (nI h)), some (.int (nI n)), some (.int (nI R)), some (.int (1 : Int32)), some (.int (nI tu)), some (.int (nI t)), none, some (.int (nI y)), some (.int (nI d)), some (.int (nI who)), some (.int (nI ko)), some (.int (nI net)), some (.int (nI mz)), some (.int (nI va)), none, none, none, none, none, none] [] X := by
  obtain ⟨C, hD, hN, hX, hbl, hfar, hL0⟩ := K
  obtain ⟨dr, PP, Z, Th, hJ, hL⟩ := hS
  have hK0 : Kp X X := Kp.rf
  have h1 := hJ.1.2.2.2.1
  have hR24 : R ≤ 24 := by omega
  refine V_aload C dL_law_264 rfl ?_
  refine V_iload C dL_law_266 rfl ?_
  refine V_iload C dL_law_268 rfl ?_
  refine V_iastN (p0 := 90) (o := h) (X1 := (ma X 90 (upd (X 90) h (nI who)))) C dL_law_270 sh_90 (by decide) (by omega) (by decide) rfl ?_
  obtain ⟨Y1, eY1⟩ : ∃ Y : Mem, Y = (ma X 90 (upd (X 90) h (nI who))) := ⟨_, rfl⟩
  rw [← eY1]
  have hJY1 : JP Y1 h D n 0 R dr PP Z Th := by rw [eY1]; exact JP_l (by decide) hJ
  have hLY1 : LA Y1 h n R PP Z Th := by rw [eY1]; exact LA_par (by omega) hL
  have hKY1 : Kp Y1 Y1 := Kp.rf
  refine V_aload_n C dL_law_271 rfl ?_
  refine V_iload C dL_law_272 rfl ?_
  refine V_hcallV C hD [.int (nI who)] mi_L_77 pl_L_77 (k_X9_holder w l (nI who) Y1 h hJY1.1.2.2.1 hJY1.1.2.2.2.1 hJY1.1.2.2.2.2.1) dL_law_274 sh_0 (by decide) rfl rfl rfl (Nat.le_of_ble_eq_true rfl) (Nat.le_of_ble_eq_true rfl) (Nat.le_of_ble_eq_true rfl) ⟨by show _ ≤ 668764; omega, by show _ ≤ 7095478; omega⟩ (fun E X1 hx => False.elim (hx.2.elim (fun g => g.2 (btw_n (a := who) (m := h - 1) (by omega) (by omega))) (fun g => g.2.2 (by omega)))) (fun v1 X1 q1 => ?_)
  obtain ⟨er1, hJ1, hkl1, eo1⟩ := U_holder hJY1 (w := who) (by omega) q1
  have hL1 := LA_kl (h' := (h + 1)) hkl1 (by omega) hLY1
  have hKX1 : Kp X1 X1 := Kp.rf
  refine V_eqi er1 ?_
  refine V_iload C dL_law_277 rfl ?_
  refine V_icmp_neN (a := h) (b := h) (tgt := 298) C dL_law_279 (by decide) (by omega) (by omega) (fun h279_2 => False.elim (h279_2 rfl)) (fun h279_2 => ?_)
  refine V_aload_n C dL_law_282 rfl ?_
  refine V_iload C dL_law_283 rfl ?_
  refine V_iconst (v := (0 : Int32)) C dL_law_285 (by decide) ?_
  refine V_bipush (v := (8 : Int32)) C dL_law_286 (by decide) ?_
  refine V_hcallV C hD [.int (nI h), .int (0 : Int32), .int (8 : Int32)] mi_L_40 pl_L_40 (k_X9_has w l (nI h) (0 : Int32) (8 : Int32) X1 (h + 1) n hJ1.2.1.2.1 hJ1.1.2.2.2 hJ1.2.1.1 hJ1.1.2.2.1) dL_law_288 sh_0 (by decide) rfl rfl rfl (Nat.le_of_ble_eq_true rfl) (Nat.le_of_ble_eq_true rfl) (Nat.le_of_ble_eq_true rfl) ⟨by show _ ≤ 668764; omega, by show _ ≤ 7095478; omega⟩ (fun E X1 hx => False.elim (hx.2.elim (fun g => g.2 (btw_n (a := h) (m := h + 1 - 1) (by omega) (by omega))) (fun g => g.2.2 (blk_n (v := 0) (l := 8) (by decide) (by decide) (by decide))))) (fun v3 X3 q3 => ?_)
  obtain ⟨-, V3, eX3, hV3, hb3⟩ := q3
  have hb3 := (HasX_of hJ1.1.2.2.2 hJ1.2.1.2.1 hV3 hb3).congr (HasX_k hKX1)
  have hK3 : Kp X1 X3 := by rw [eX3]; exact hKX1.put (Or.inl rfl)
  have hJ3 := JP_k hK3 hJ1
  have hV3 : ∃ V, IsV (oC X1) (gC X1) n (X1 1 0) V := ⟨V3, by rw [← hKX1.o, ← hKX1.g, ← hKX1 1 (by omega)]; exact hV3⟩
  refine V_if_neB (tgt := 298) C hb3 dL_law_291 (by decide) (fun h291_4 => False.elim (new_has hJY1 eo1 h291_4)) (fun h291_4 => ?_)
  refine V_iconst (v := (1 : Int32)) C dL_law_294 (by decide) ?_
  refine V_goto (tgt := 299) C dL_law_295 (by decide) ?_
  refine V_istore (ls1 := [some (.ref b), some (.ref (w.2.1 0)), some (.ref (w.2.1 85)), some (.ref (w.2.1 86)), some (.ref (w.2.1 87)), some (.ref (w.2.1 88)), some (.ref (w.2.1 89)), some (.ref (w.2.1 90)), some (.ref (w.2.1 91)), some (.int (nI h)), some (.int (nI n)), some (.int (nI R)), some (.int (1 : Int32)), some (.int (nI tu)), some (.int (nI t)), none, some (.int (nI y)), some (.int (nI d)), some (.int (nI who)), some (.int (nI ko)), some (.int (nI net)), some (.int (nI mz)), some (.int (nI va)), none, none, none, none, none, none]) C dL_law_299 (by decide) rfl ?_
  refine V_iincN (a := h) (ls1 := [some (.ref b), some (.ref (w.2.1 0)), some (.ref (w.2.1 85)), some (.ref (w.2.1 86)), some (.ref (w.2.1 87)), some (.ref (w.2.1 88)), some (.ref (w.2.1 89)), some (.ref (w.2.1 90)), some (.ref (w.2.1 91)), some (.int (nI (h + 1))), some (.int (nI n)), some (.int (nI R)), some (.int (1 : Int32)), some (.int (nI tu)), some (.int (nI t)), none, some (.int (nI y)), some (.int (nI d)), some (.int (nI who)), some (.int (nI ko)), some (.int (nI net)), some (.int (nI mz)), some (.int (nI va)), none, none, none, none, none, none]) C dL_law_301 rfl (by decide) rfl ?_
  refine V_goto (tgt := 1630) C dL_law_304 (by decide) ?_
  refine V_kill (i := 17) (ls1 := [some (.ref b), some (.ref (w.2.1 0)), some (.ref (w.2.1 85)), some (.ref (w.2.1 86)), some (.ref (w.2.1 87)), some (.ref (w.2.1 88)), some (.ref (w.2.1 89)), some (.ref (w.2.1 90)), some (.ref (w.2.1 91)), some (.int (nI (h + 1))), some (.int (nI n)), some (.int (nI R)), some (.int (1 : Int32)), some (.int (nI tu)), some (.int (nI t)), none, some (.int (nI y)), none, some (.int (nI who)), some (.int (nI ko)), some (.int (nI net)), some (.int (nI mz)), some (.int (nI va)), none, none, none, none, none, none]) rfl ?_
  refine V_kill (i := 19) (ls1 := [some (.ref b), some (.ref (w.2.1 0)), some (.ref (w.2.1 85)), some (.ref (w.2.1 86)), some (.ref (w.2.1 87)), some (.ref (w.2.1 88)), some (.ref (w.2.1 89)), some (.ref (w.2.1 90)), some (.ref (w.2.1 91)), some (.int (nI (h + 1))), some (.int (nI n)), some (.int (nI R)), some (.int (1 : Int32)), some (.int (nI tu)), some (.int (nI t)), none, some (.int (nI y)), none, some (.int (nI who)), none, some (.int (nI net)), some (.int (nI mz)), some (.int (nI va)), none, none, none, none, none, none]) rfl ?_
  have hLe := LA_k hK3 hL1
  exact V_widen (by omega) (by omega) (kk X3 (h + 1) D n R mz va (LSt.mk hJ3 hLe) (by omega) (by omega) (by omega) (by omega) (by omega) (by omega) (by omega) (by omega))
set_option maxHeartbeats 4000000 in
set_option maxRecDepth 100000 in
theorem law_d1 {p : Program} {l : Launch} {e : Env} {s : State} {m : MethodId} {args : Array Value} {below : List Frame} {meth : Method} {c : Code} {w : Wt} {cn ck b L0 : Nat} {xs : Nat → Int32} {Q : State → Prop} {X : Mem} (K : LawC p l s m args meth c w b L0 xs) (hnk : cn + 60 ≤ 668764 ∧ ck + 360 ≤ 7095478) {h D n R tu t y d who ko net mz va : Nat} (hS : LSt X h D n R) (hh6 : h ≤ 6) (hn16 : n ≤ 16) (hR8 : R ≤ 8) (hD9 : D ≤ 9000) (hyb : y < 268435456) (hwho : who < h) (hko : n = 0 ∨ ko < n) (hnet : net < 7) (hma : mz ≤ 8) (hva : va < 256) (hvb : va % 2 ^ (8 - mz) = 0) (kk : ∀ (X' : Mem) (h' D' n' R' mz' va' : Nat), LSt X' h' D' n' R' → h ≤ h' → h' ≤ 6 → n' ≤ 16 → R' ≤ 8 → D' ≤ D + 12 → mz' ≤ 8 → va' < 256 → va' % 2 ^ (8 - mz') = 0 → V p l e room_1 s m args below meth c w 29 (cn + 60) (ck + 360) Q 1630 [some (.ref b), some (.ref (w.2.1 0)), some (.ref (w.2.1 85)), some (.ref (w.2.1 86)), some (.ref (w.2.1 87)), some (.ref (w.2.1 88)), some (.ref (w.2.1 89)), some (.ref (w.2.1 90)), some (.ref (w.2.1 91)), some (.int (nI h')), some (.int (nI n')), some (.int (nI R')), some (.int (1 : Int32)), some (.int (nI tu)), some (.int (nI t)), none, some (.int (nI y)), none, some (.int (nI who)), none, some (.int (nI net)), some (.int (nI mz')), some (.int (nI va')), none, none, none, none, none, none] [] X') : V p l e room_1 s m args below meth c w 29 cn ck Q 313 [some (.ref b), some (.ref (w.2.1 0)), some (.ref (w.2.1 85)), some (.ref (w.2.1 86)), some (.ref (w.2.1 87)), some (.ref (w.2.1 88)), some (.ref (w.2.1 89)), some (.ref (w.2.1 90)), some (.ref (w.2.1 91)), some (.int (nI h)), some (.int (nI n)), some (.int (nI R)), some (.int (1 : Int32)), some (.int (nI tu)), some (.int (nI t)), none, some (.int (nI y)), some (.int (nI d)), some (.int (nI who)), some (.int (nI ko)), some (.int (nI net)), some (.int (nI mz)), some (.int (nI va)), none, none, none, none, none, none] [] X := by
  obtain ⟨C, hD, hN, hX, hbl, hfar, hL0⟩ := K
  obtain ⟨dr, PP, Z, Th, hJ, hL⟩ := hS
  have hK0 : Kp X X := Kp.rf
  have h1 := hJ.1.2.2.2.1
  have hR24 : R ≤ 24 := by omega
  refine V_aload_n C dL_law_313 rfl ?_
  refine V_iload C dL_law_314 rfl ?_
  refine V_iload C dL_law_316 rfl ?_
  refine V_hcallV C hD [.int (nI net), .int (nI who)] mi_L_80 pl_L_80 (k_X9_belong w l (nI net) (nI who) X h hJ.1.2.2.1 hJ.1.2.2.2.1 hJ.1.2.2.2.2.1) dL_law_318 sh_0 (by decide) rfl rfl rfl (Nat.le_of_ble_eq_true rfl) (Nat.le_of_ble_eq_true rfl) (Nat.le_of_ble_eq_true rfl) ⟨by show _ ≤ 668764; omega, by show _ ≤ 7095478; omega⟩ (fun E X1 hx => False.elim (hx.2.2 ⟨(btw_n (a := net) (m := 9) (by omega) (by omega)), (btw_n (a := who) (m := h - 1) (by omega) (by omega))⟩)) (fun v1 X1 q1 => ?_)
  obtain ⟨ef1, hJ1, hkl1, e51⟩ := U_belong hJ (a := net) (w := who) (by omega) (by omega) q1
  have hL1 := LA_kl (h' := h) hkl1 (Nat.le_refl _) hL
  have hKX1 : Kp X1 X1 := Kp.rf
  obtain ⟨c1, hc1, ex1, er1⟩ := ef1
  refine V_eqi er1 ?_
  refine V_if_ltN (a := c1) (tgt := 341) C dL_law_321 (by decide) (by omega) ?_
  refine V_aload_n C dL_law_324 rfl ?_
  refine V_iload C dL_law_325 rfl ?_
  refine V_iload C dL_law_327 rfl ?_
  refine V_hcallV C hD [.int (nI net), .int (nI who)] mi_L_80 pl_L_80 (k_X9_belong w l (nI net) (nI who) X1 h hJ1.1.2.2.1 hJ1.1.2.2.2.1 hJ1.1.2.2.2.2.1) dL_law_329 sh_0 (by decide) rfl rfl rfl (Nat.le_of_ble_eq_true rfl) (Nat.le_of_ble_eq_true rfl) (Nat.le_of_ble_eq_true rfl) ⟨by show _ ≤ 668764; omega, by show _ ≤ 7095478; omega⟩ (fun E X1 hx => False.elim (hx.2.2 ⟨(btw_n (a := net) (m := 9) (by omega) (by omega)), (btw_n (a := who) (m := h - 1) (by omega) (by omega))⟩)) (fun v3 X3 q3 => ?_)
  obtain ⟨ef3, hJ3, hkl3, e53⟩ := U_belong hJ1 (a := net) (w := who) (by omega) (by omega) q3
  have hL3 := LA_kl (h' := h) hkl3 (Nat.le_refl _) hL1
  have hKX3 : Kp X3 X3 := Kp.rf
  obtain ⟨c3, hc3, ex3, er3⟩ := ef3
  refine V_eqi er3 ?_
  refine V_iload C dL_law_332 rfl ?_
  refine V_icmp_neN (a := c3) (b := who) (tgt := 341) C dL_law_334 (by decide) (by omega) (by omega) (fun h334_4 => False.elim (h334_4 (nIu (m := 10) (by decide) (by omega) (by omega) (ex3.symm.trans e51)))) (fun h334_4 => ?_)
  refine V_iconst (v := (1 : Int32)) C dL_law_337 (by decide) ?_
  refine V_goto (tgt := 342) C dL_law_338 (by decide) ?_
  refine V_istore (ls1 := [some (.ref b), some (.ref (w.2.1 0)), some (.ref (w.2.1 85)), some (.ref (w.2.1 86)), some (.ref (w.2.1 87)), some (.ref (w.2.1 88)), some (.ref (w.2.1 89)), some (.ref (w.2.1 90)), some (.ref (w.2.1 91)), some (.int (nI h)), some (.int (nI n)), some (.int (nI R)), some (.int (1 : Int32)), some (.int (nI tu)), some (.int (nI t)), none, some (.int (nI y)), some (.int (nI d)), some (.int (nI who)), some (.int (nI ko)), some (.int (nI net)), some (.int (nI mz)), some (.int (nI va)), none, none, none, none, none, none]) C dL_law_342 (by decide) rfl ?_
  refine V_goto (tgt := 1630) C dL_law_344 (by decide) ?_
  refine V_kill (i := 17) (ls1 := [some (.ref b), some (.ref (w.2.1 0)), some (.ref (w.2.1 85)), some (.ref (w.2.1 86)), some (.ref (w.2.1 87)), some (.ref (w.2.1 88)), some (.ref (w.2.1 89)), some (.ref (w.2.1 90)), some (.ref (w.2.1 91)), some (.int (nI h)), some (.int (nI n)), some (.int (nI R)), some (.int (1 : Int32)), some (.int (nI tu)), some (.int (nI t)), none, some (.int (nI y)), none, some (.int (nI who)), some (.int (nI ko)), some (.int (nI net)), some (.int (nI mz)), some (.int (nI va)), none, none, none, none, none, none]) rfl ?_
  refine V_kill (i := 19) (ls1 := [some (.ref b), some (.ref (w.2.1 0)), some (.ref (w.2.1 85)), some (.ref (w.2.1 86)), some (.ref (w.2.1 87)), some (.ref (w.2.1 88)), some (.ref (w.2.1 89)), some (.ref (w.2.1 90)), some (.ref (w.2.1 91)), some (.int (nI h)), some (.int (nI n)), some (.int (nI R)), some (.int (1 : Int32)), some (.int (nI tu)), some (.int (nI t)), none, some (.int (nI y)), none, some (.int (nI who)), none, some (.int (nI net)), some (.int (nI mz)), some (.int (nI va)), none, none, none, none, none, none]) rfl ?_
  exact V_widen (by omega) (by omega) (kk X3 h D n R mz va (LSt.mk hJ3 hL3) (by omega) (by omega) (by omega) (by omega) (by omega) (by omega) (by omega) (by omega))
