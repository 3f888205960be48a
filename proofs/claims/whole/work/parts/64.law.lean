/-! the law's cases -/
def LawC (p : Program) (l : Launch) (s : State) (m : MethodId) (args : Array Value) (meth : Method) (c : Code) (w : Wt) (b L0 : Nat) (xs : Nat → Int32) : Prop := CX p s m args meth c w cL_law 7 RL ret ∧ DX l w s.heap.size s s.heap ∧ NCX s ∧ va_X b L0 xs s s.heap ∧ b < s.heap.size ∧ (∀ j, j < 117 → s.heap.size ≤ w.2.1 j) ∧ L0 ≤ 3584
section LW
variable {p : Program} {l : Launch} {e : Env} {s : State} {m : MethodId} {args : Array Value} {below : List Frame} {meth : Method} {c : Code} {w : Wt} {n k b L0 i : Nat} {xs : Nat → Int32} {Q : State → Prop} {pc : Nat} {ls : List (Option Value)} {st : List Value} {X : Mem} {R : Room}
theorem vin_n {a L0 : Nat} (h : a < L0) (hL : L0 ≤ 3584) : vp_in (nI a) L0 := fun q => q.elim (fun h => absurd h (nz_lt (by omega))) (fun g => by rw [nI_clamp (by omega)] at g; omega)
theorem V_arg (C : CX p s m args meth c w cL_law 7 RL ret) (hX : va_X b L0 xs s s.heap) (hbl : b < s.heap.size) (hfar : ∀ j, j < 117 → s.heap.size ≤ w.2.1 j) (hL : L0 ≤ 3584) {j : Nat} (l0 : ls[0]? = some (some (.ref b))) (l4 : ls[4]? = some (some (.int (nI i)))) (hij : i + j < L0) (d1 : decode cL_law pc = .ok (.aload_n 0, 1)) (d2 : decode cL_law (pc + 1) = .ok (.iload 4, 2))
    (d3 : ∀ {ls : List (Option Value)} {st : List Value}, V p l e R s m args below meth c w 7 n k Q (pc + 1 + 2 + 1) ls (.int (nI j) :: st) X → V p l e R s m args below meth c w 7 n k Q (pc + 1 + 2) ls st X) (d4 : decode cL_law (pc + 1 + 2 + 1) = .ok (.iadd, 1)) (d5 : decode cL_law (pc + 1 + 2 + 1 + 1) = .ok (.iaload, 1)) (kk : V p l e R s m args below meth c w 7 n k Q (pc + 1 + 2 + 1 + 1 + 1) ls (.int (xs (i + j)) :: st) X) : V p l e R s m args below meth c w 7 n k Q pc ls st X := by
  refine V_aload_n (i := 0) C d1 l0 ?_
  refine V_iload C d2 l4 ?_
  refine d3 ?_
  refine V_iaddN (a := i) (b := j) C d4 ?_
  refine V_sld C hX hbl hfar (vin_n hij hL) d5 ?_
  rw [nI_clamp (by omega)]
  exact kk
theorem V_arg6 (C : CX p s m args meth c w cL_law 7 RL ret) (hX : va_X b L0 xs s s.heap) (hbl : b < s.heap.size) (hfar : ∀ j, j < 117 → s.heap.size ≤ w.2.1 j) (hL : L0 ≤ 3584) (l0 : ls[0]? = some (some (.ref b))) (l4 : ls[4]? = some (some (.int (nI i)))) (hij : i + 6 < L0) (d1 : decode cL_law pc = .ok (.aload_n 0, 1)) (d2 : decode cL_law (pc + 1) = .ok (.iload 4, 2))
    (d3 : decode cL_law (pc + 1 + 2) = .ok (.bipush 6, 2)) (d4 : decode cL_law (pc + 1 + 2 + 2) = .ok (.iadd, 1)) (d5 : decode cL_law (pc + 1 + 2 + 2 + 1) = .ok (.iaload, 1)) (kk : V p l e R s m args below meth c w 7 n k Q (pc + 1 + 2 + 2 + 1 + 1) ls (.int (xs (i + 6)) :: st) X) : V p l e R s m args below meth c w 7 n k Q pc ls st X := by
  refine V_aload_n (i := 0) C d1 l0 ?_
  refine V_iload C d2 l4 ?_
  refine V_bipush (v := nI 6) C d3 (by decide) ?_
  refine V_iaddN (a := i) (b := 6) C d4 ?_
  refine V_sld C hX hbl hfar (vin_n hij hL) d5 ?_
  rw [nI_clamp (by omega)]
  exact kk
theorem kd_today {X1 : Mem} {a : Int32} (q : q_X9_today X a X1) : KM X X1 := by rw [q.2]; exact KM.rf
theorem kd_objects {X1 : Mem} {a : Int32} (q : q_X9_objects X a X1) : KM X X1 := by rw [q.2]; exact KM.rf
theorem kd_routes {X1 : Mem} {a : Int32} (q : q_X9_routes X a X1) : KM X X1 := by rw [q.2]; exact KM.rf
theorem kd_falseAlarms {X1 : Mem} {a : Int32} {h no : Nat} (q : q_X9_falseAlarms X h no a X1) : KM X X1 := by
  obtain ⟨V, hv, pv, nd, T, e1, -⟩ := q
  rw [e1]
  exact (((KM.rf.put (Or.inl (by decide))).put (Or.inl (by decide))).put (Or.inl (by decide))).put (Or.inl (by decide))
theorem kd_clique {X1 : Mem} {a : Int32} {Ro : Nat} {PP : Nat → Nat → Nat} {Z : Nat → Nat} {Th : Nat → Prop} (q : q_X9_clique X Ro PP Z Th a X1) : KM X X1 := KM.outI q.1
set_option maxHeartbeats 4000000 in
set_option maxRecDepth 100000 in
theorem law_holder (K : LawC p l s m args meth c w b L0 xs) (hi : i + 7 ≤ L0) (hnk : n + 8 ≤ 601024 ∧ k + 48 ≤ 7293034) (hJ : JJ X) (kk : ∀ X2, JJ X2 → V p l e room_1 s m args below meth c w 7 (n + 8) (k + 48) Q 2148 [some (.ref b), some (.ref (w.2.1 0)), some (.ref (w.2.1 85)), some (.ref (w.2.1 116)), some (.int (nI i)), none, none] [] X2) : V p l e room_1 s m args below meth c w 7 n k Q 184 [some (.ref b), some (.ref (w.2.1 0)), some (.ref (w.2.1 85)), some (.ref (w.2.1 116)), some (.int (nI i)), none, none] [] X := by
  obtain ⟨C, hD, hN, hX, hbl, hfar, hL⟩ := K
  obtain ⟨h, D, no, Dd, Ro, dr, PP, Z, Th, hJ⟩ := hJ
  refine V_aload_n C dL_law_184 rfl ?_
  refine V_arg (i := i) (j := 1) C hX hbl hfar hL rfl rfl (by omega) dL_law_185 dL_law_186 (fun kk => V_iconst (v := nI 1) C dL_law_188 (by decide) kk) dL_law_189 dL_law_190 ?_
  refine V_aload_n C dL_law_191 rfl ?_
  refine V_lcallS (na := 3) C hD hN [.ref (w.2.1 0), .int (xs (i + 1)), .ref (w.2.1 116)] (tb_i 522 (by decide +kernel) (by decide +kernel)) (tb_i 524 (by decide +kernel) (by decide +kernel)) (tb_i 59 (by decide +kernel) (by decide +kernel)) (by decide +kernel) (tb_i 523 (by decide +kernel) (by decide +kernel)) (k_L_holder w l (xs (i + 1)) X h hJ.1.2.2.1 hJ.1.2.2.2.1.1 hJ.1.2.2.2.1.2.1) dL_law_192 rfl rfl (Nat.le_of_ble_eq_true rfl) (Nat.le_of_ble_eq_true rfl) (Nat.le_of_ble_eq_true rfl) ⟨by show _ ≤ 601024; omega, by show _ ≤ 7293034; omega⟩ (fun r X1 q1 => ?_)
  have kM := km_holder q1
  have hM := JM_k kM hJ.jm
  refine V_istore (ls1 := [some (.ref b), some (.ref (w.2.1 0)), some (.ref (w.2.1 85)), some (.ref (w.2.1 116)), some (.int (nI i)), some (.int r), none]) C dL_law_195 (by decide) rfl ?_
  refine V_aload_n C dL_law_197 rfl ?_
  refine V_arg (i := i) (j := 1) C hX hbl hfar hL rfl rfl (by omega) dL_law_198 dL_law_199 (fun kk => V_iconst (v := nI 1) C dL_law_201 (by decide) kk) dL_law_202 dL_law_203 ?_
  refine V_callVI C [.int (xs (i + 1))] mi_L_114 (k_X10_holder w l (xs (i + 1)) X1 h hM.1.2.2 hJ.1.2.2.2.1.1 hJ.1.2.2.2.1.2.1) dL_law_204 sh_85 (by decide) rfl rfl rfl (Nat.le_of_ble_eq_true rfl) (Nat.le_of_ble_eq_true rfl) (Nat.le_of_ble_eq_true rfl) ⟨by show _ ≤ 601024; omega, by show _ ≤ 7293034; omega⟩ (fun b2 X2 q2 => ?_)
  obtain ⟨g1, g2, hj3⟩ := pr_holder hJ q1 q2
  refine V_istore (ls1 := [some (.ref b), some (.ref (w.2.1 0)), some (.ref (w.2.1 85)), some (.ref (w.2.1 116)), some (.int (nI i)), some (.int r), some (.int b2)]) C dL_law_207 (by decide) rfl ?_
  refine V_aload_n C dL_law_209 rfl ?_
  refine V_callVI C [] mi_L_115 (k_X10_thrown w l X2) dL_law_210 sh_85 (by decide) rfl rfl rfl (Nat.le_of_ble_eq_true rfl) (Nat.le_of_ble_eq_true rfl) (Nat.le_of_ble_eq_true rfl) ⟨by show _ ≤ 601024; omega, by show _ ≤ 7293034; omega⟩ (fun t X3 q3 => ?_)
  obtain ⟨et, eX3⟩ := q3
  subst eX3
  subst et
  refine V_iload C dL_law_213 rfl ?_
  refine V_icmp_eq (tgt := 220) C dL_law_215 (by decide) (fun _ => ?_) (fun hne => absurd g1 hne)
  refine V_iload C dL_law_220 rfl ?_
  refine V_if_ne (x := r) (tgt := 237) C dL_law_222 (by decide) (fun hr => ?_) (fun hr => ?_)
  · refine V_goto (tgt := 2148) C dL_law_237 (by decide) ?_
    refine V_kill (i := 5) (ls1 := [some (.ref b), some (.ref (w.2.1 0)), some (.ref (w.2.1 85)), some (.ref (w.2.1 116)), some (.int (nI i)), none, some (.int b2)]) rfl ?_
    refine V_kill (i := 6) (ls1 := [some (.ref b), some (.ref (w.2.1 0)), some (.ref (w.2.1 85)), some (.ref (w.2.1 116)), some (.int (nI i)), none, none]) rfl ?_
    exact V_widen (n' := n + 8) (k' := k + 48) (by omega) (by omega) (kk _ hj3)
  · refine V_aload_n C dL_law_225 rfl ?_
    refine V_iconst (v := (0 : Int32)) C dL_law_226 (by decide) ?_
    refine V_laload0 C dL_law_227 ?_
    refine V_iload C dL_law_228 rfl ?_
    refine V_i2l C dL_law_230 ?_
    refine V_lcmp C dL_law_231 (fun cmp hcmp => ?_)
    refine V_if_eq (x := cmp) (tgt := 237) C dL_law_232 (by decide) (fun _ => ?_) (fun hne => absurd (hcmp.mpr (g2 hr)) hne)
    refine V_goto (tgt := 2148) C dL_law_237 (by decide) ?_
    refine V_kill (i := 5) (ls1 := [some (.ref b), some (.ref (w.2.1 0)), some (.ref (w.2.1 85)), some (.ref (w.2.1 116)), some (.int (nI i)), none, some (.int b2)]) rfl ?_
    refine V_kill (i := 6) (ls1 := [some (.ref b), some (.ref (w.2.1 0)), some (.ref (w.2.1 85)), some (.ref (w.2.1 116)), some (.int (nI i)), none, none]) rfl ?_
    exact V_widen (n' := n + 8) (k' := k + 48) (by omega) (by omega) (kk _ hj3)
set_option maxHeartbeats 4000000 in
set_option maxRecDepth 100000 in
theorem law_belong (K : LawC p l s m args meth c w b L0 xs) (hi : i + 7 ≤ L0) (hnk : n + 8 ≤ 601024 ∧ k + 48 ≤ 7293034) (hJ : JJ X) (kk : ∀ X2, JJ X2 → V p l e room_1 s m args below meth c w 7 (n + 8) (k + 48) Q 2148 [some (.ref b), some (.ref (w.2.1 0)), some (.ref (w.2.1 85)), some (.ref (w.2.1 116)), some (.int (nI i)), none, none] [] X2) : V p l e room_1 s m args below meth c w 7 n k Q 240 [some (.ref b), some (.ref (w.2.1 0)), some (.ref (w.2.1 85)), some (.ref (w.2.1 116)), some (.int (nI i)), none, none] [] X := by
  obtain ⟨C, hD, hN, hX, hbl, hfar, hL⟩ := K
  obtain ⟨h, D, no, Dd, Ro, dr, PP, Z, Th, hJ⟩ := hJ
  refine V_aload_n C dL_law_240 rfl ?_
  refine V_arg (i := i) (j := 1) C hX hbl hfar hL rfl rfl (by omega) dL_law_241 dL_law_242 (fun kk => V_iconst (v := nI 1) C dL_law_244 (by decide) kk) dL_law_245 dL_law_246 ?_
  refine V_arg (i := i) (j := 2) C hX hbl hfar hL rfl rfl (by omega) dL_law_247 dL_law_248 (fun kk => V_iconst (v := nI 2) C dL_law_250 (by decide) kk) dL_law_251 dL_law_252 ?_
  refine V_aload_n C dL_law_253 rfl ?_
  refine V_lcallS (na := 4) C hD hN [.ref (w.2.1 0), .int (xs (i + 1)), .int (xs (i + 2)), .ref (w.2.1 116)] (tb_i 623 (by decide +kernel) (by decide +kernel)) (tb_i 625 (by decide +kernel) (by decide +kernel)) (tb_i 59 (by decide +kernel) (by decide +kernel)) (by decide +kernel) (tb_i 624 (by decide +kernel) (by decide +kernel)) (k_L_belong w l (xs (i + 1)) (xs (i + 2)) X h hJ.1.2.2.1 hJ.1.2.2.2.1.1 hJ.1.2.2.2.1.2.1) dL_law_254 rfl rfl (Nat.le_of_ble_eq_true rfl) (Nat.le_of_ble_eq_true rfl) (Nat.le_of_ble_eq_true rfl) ⟨by show _ ≤ 601024; omega, by show _ ≤ 7293034; omega⟩ (fun r X1 q1 => ?_)
  have kM := km_belong q1
  have hM := JM_k kM hJ.jm
  refine V_istore (ls1 := [some (.ref b), some (.ref (w.2.1 0)), some (.ref (w.2.1 85)), some (.ref (w.2.1 116)), some (.int (nI i)), some (.int r), none]) C dL_law_257 (by decide) rfl ?_
  refine V_aload_n C dL_law_259 rfl ?_
  refine V_arg (i := i) (j := 1) C hX hbl hfar hL rfl rfl (by omega) dL_law_260 dL_law_261 (fun kk => V_iconst (v := nI 1) C dL_law_263 (by decide) kk) dL_law_264 dL_law_265 ?_
  refine V_arg (i := i) (j := 2) C hX hbl hfar hL rfl rfl (by omega) dL_law_266 dL_law_267 (fun kk => V_iconst (v := nI 2) C dL_law_269 (by decide) kk) dL_law_270 dL_law_271 ?_
  refine V_callVI C [.int (xs (i + 1)), .int (xs (i + 2))] mi_L_122 (k_X10_belong w l (xs (i + 1)) (xs (i + 2)) X1 h hM.1.2.2 hJ.1.2.2.2.1.1 hJ.1.2.2.2.1.2.1) dL_law_272 sh_85 (by decide) rfl rfl rfl (Nat.le_of_ble_eq_true rfl) (Nat.le_of_ble_eq_true rfl) (Nat.le_of_ble_eq_true rfl) ⟨by show _ ≤ 601024; omega, by show _ ≤ 7293034; omega⟩ (fun b2 X2 q2 => ?_)
  obtain ⟨g1, g2, hj3⟩ := pr_belong hJ q1 q2
  refine V_istore (ls1 := [some (.ref b), some (.ref (w.2.1 0)), some (.ref (w.2.1 85)), some (.ref (w.2.1 116)), some (.int (nI i)), some (.int r), some (.int b2)]) C dL_law_275 (by decide) rfl ?_
  refine V_aload_n C dL_law_277 rfl ?_
  refine V_callVI C [] mi_L_115 (k_X10_thrown w l X2) dL_law_278 sh_85 (by decide) rfl rfl rfl (Nat.le_of_ble_eq_true rfl) (Nat.le_of_ble_eq_true rfl) (Nat.le_of_ble_eq_true rfl) ⟨by show _ ≤ 601024; omega, by show _ ≤ 7293034; omega⟩ (fun t X3 q3 => ?_)
  obtain ⟨et, eX3⟩ := q3
  subst eX3
  subst et
  refine V_iload C dL_law_281 rfl ?_
  refine V_icmp_eq (tgt := 288) C dL_law_283 (by decide) (fun _ => ?_) (fun hne => absurd g1 hne)
  refine V_iload C dL_law_288 rfl ?_
  refine V_if_ne (x := r) (tgt := 305) C dL_law_290 (by decide) (fun hr => ?_) (fun hr => ?_)
  · refine V_goto (tgt := 2148) C dL_law_305 (by decide) ?_
    refine V_kill (i := 5) (ls1 := [some (.ref b), some (.ref (w.2.1 0)), some (.ref (w.2.1 85)), some (.ref (w.2.1 116)), some (.int (nI i)), none, some (.int b2)]) rfl ?_
    refine V_kill (i := 6) (ls1 := [some (.ref b), some (.ref (w.2.1 0)), some (.ref (w.2.1 85)), some (.ref (w.2.1 116)), some (.int (nI i)), none, none]) rfl ?_
    exact V_widen (n' := n + 8) (k' := k + 48) (by omega) (by omega) (kk _ hj3)
  · refine V_aload_n C dL_law_293 rfl ?_
    refine V_iconst (v := (0 : Int32)) C dL_law_294 (by decide) ?_
    refine V_laload0 C dL_law_295 ?_
    refine V_iload C dL_law_296 rfl ?_
    refine V_i2l C dL_law_298 ?_
    refine V_lcmp C dL_law_299 (fun cmp hcmp => ?_)
    refine V_if_eq (x := cmp) (tgt := 305) C dL_law_300 (by decide) (fun _ => ?_) (fun hne => absurd (hcmp.mpr (g2 hr)) hne)
    refine V_goto (tgt := 2148) C dL_law_305 (by decide) ?_
    refine V_kill (i := 5) (ls1 := [some (.ref b), some (.ref (w.2.1 0)), some (.ref (w.2.1 85)), some (.ref (w.2.1 116)), some (.int (nI i)), none, some (.int b2)]) rfl ?_
    refine V_kill (i := 6) (ls1 := [some (.ref b), some (.ref (w.2.1 0)), some (.ref (w.2.1 85)), some (.ref (w.2.1 116)), some (.int (nI i)), none, none]) rfl ?_
    exact V_widen (n' := n + 8) (k' := k + 48) (by omega) (by omega) (kk _ hj3)
set_option maxHeartbeats 4000000 in
set_option maxRecDepth 100000 in
theorem law_roll (K : LawC p l s m args meth c w b L0 xs) (hi : i + 7 ≤ L0) (hnk : n + 8 ≤ 601024 ∧ k + 48 ≤ 7293034) (hJ : JJ X) (kk : ∀ X2, JJ X2 → V p l e room_1 s m args below meth c w 7 (n + 8) (k + 48) Q 2148 [some (.ref b), some (.ref (w.2.1 0)), some (.ref (w.2.1 85)), some (.ref (w.2.1 116)), some (.int (nI i)), none, none] [] X2) : V p l e room_1 s m args below meth c w 7 n k Q 308 [some (.ref b), some (.ref (w.2.1 0)), some (.ref (w.2.1 85)), some (.ref (w.2.1 116)), some (.int (nI i)), none, none] [] X := by
  obtain ⟨C, hD, hN, hX, hbl, hfar, hL⟩ := K
  obtain ⟨h, D, no, Dd, Ro, dr, PP, Z, Th, hJ⟩ := hJ
  refine V_aload_n C dL_law_308 rfl ?_
  refine V_arg (i := i) (j := 1) C hX hbl hfar hL rfl rfl (by omega) dL_law_309 dL_law_310 (fun kk => V_iconst (v := nI 1) C dL_law_312 (by decide) kk) dL_law_313 dL_law_314 ?_
  refine V_aload_n C dL_law_315 rfl ?_
  refine V_lcallS (na := 3) C hD hN [.ref (w.2.1 0), .int (xs (i + 1)), .ref (w.2.1 116)] (tb_i 634 (by decide +kernel) (by decide +kernel)) (tb_i 636 (by decide +kernel) (by decide +kernel)) (tb_i 59 (by decide +kernel) (by decide +kernel)) (by decide +kernel) (tb_i 635 (by decide +kernel) (by decide +kernel)) (k_L_roll w l (xs (i + 1)) X h hJ.1.2.2.1 hJ.1.2.2.2.1.1 hJ.1.2.2.2.1.2.1 hJ.1.2.2.2.1.2.2.2.2.1) dL_law_316 rfl rfl (Nat.le_of_ble_eq_true rfl) (Nat.le_of_ble_eq_true rfl) (Nat.le_of_ble_eq_true rfl) ⟨by show _ ≤ 601024; omega, by show _ ≤ 7293034; omega⟩ (fun r X1 q1 => ?_)
  have kM := km_roll q1
  have hM := JM_k kM hJ.jm
  refine V_istore (ls1 := [some (.ref b), some (.ref (w.2.1 0)), some (.ref (w.2.1 85)), some (.ref (w.2.1 116)), some (.int (nI i)), some (.int r), none]) C dL_law_319 (by decide) rfl ?_
  refine V_aload_n C dL_law_321 rfl ?_
  refine V_arg (i := i) (j := 1) C hX hbl hfar hL rfl rfl (by omega) dL_law_322 dL_law_323 (fun kk => V_iconst (v := nI 1) C dL_law_325 (by decide) kk) dL_law_326 dL_law_327 ?_
  refine V_callVI C [.int (xs (i + 1))] mi_L_125 (k_X10_roll w l (xs (i + 1)) X1 h hM.1.2.2 hJ.1.2.2.2.1.1 hJ.1.2.2.2.1.2.1 hM.1.1.2.2.2.2.1) dL_law_328 sh_85 (by decide) rfl rfl rfl (Nat.le_of_ble_eq_true rfl) (Nat.le_of_ble_eq_true rfl) (Nat.le_of_ble_eq_true rfl) ⟨by show _ ≤ 601024; omega, by show _ ≤ 7293034; omega⟩ (fun b2 X2 q2 => ?_)
  obtain ⟨g1, g2, hj3⟩ := pr_roll hJ q1 q2 kM
  refine V_istore (ls1 := [some (.ref b), some (.ref (w.2.1 0)), some (.ref (w.2.1 85)), some (.ref (w.2.1 116)), some (.int (nI i)), some (.int r), some (.int b2)]) C dL_law_331 (by decide) rfl ?_
  refine V_aload_n C dL_law_333 rfl ?_
  refine V_callVI C [] mi_L_115 (k_X10_thrown w l X2) dL_law_334 sh_85 (by decide) rfl rfl rfl (Nat.le_of_ble_eq_true rfl) (Nat.le_of_ble_eq_true rfl) (Nat.le_of_ble_eq_true rfl) ⟨by show _ ≤ 601024; omega, by show _ ≤ 7293034; omega⟩ (fun t X3 q3 => ?_)
  obtain ⟨et, eX3⟩ := q3
  subst eX3
  subst et
  refine V_iload C dL_law_337 rfl ?_
  refine V_icmp_eq (tgt := 344) C dL_law_339 (by decide) (fun _ => ?_) (fun hne => absurd g1 hne)
  refine V_iload C dL_law_344 rfl ?_
  refine V_if_ne (x := r) (tgt := 361) C dL_law_346 (by decide) (fun hr => ?_) (fun hr => ?_)
  · refine V_goto (tgt := 2148) C dL_law_361 (by decide) ?_
    refine V_kill (i := 5) (ls1 := [some (.ref b), some (.ref (w.2.1 0)), some (.ref (w.2.1 85)), some (.ref (w.2.1 116)), some (.int (nI i)), none, some (.int b2)]) rfl ?_
    refine V_kill (i := 6) (ls1 := [some (.ref b), some (.ref (w.2.1 0)), some (.ref (w.2.1 85)), some (.ref (w.2.1 116)), some (.int (nI i)), none, none]) rfl ?_
    exact V_widen (n' := n + 8) (k' := k + 48) (by omega) (by omega) (kk _ hj3)
  · refine V_aload_n C dL_law_349 rfl ?_
    refine V_iconst (v := (0 : Int32)) C dL_law_350 (by decide) ?_
    refine V_laload0 C dL_law_351 ?_
    refine V_iload C dL_law_352 rfl ?_
    refine V_i2l C dL_law_354 ?_
    refine V_lcmp C dL_law_355 (fun cmp hcmp => ?_)
    refine V_if_eq (x := cmp) (tgt := 361) C dL_law_356 (by decide) (fun _ => ?_) (fun hne => absurd (hcmp.mpr (g2 hr)) hne)
    refine V_goto (tgt := 2148) C dL_law_361 (by decide) ?_
    refine V_kill (i := 5) (ls1 := [some (.ref b), some (.ref (w.2.1 0)), some (.ref (w.2.1 85)), some (.ref (w.2.1 116)), some (.int (nI i)), none, some (.int b2)]) rfl ?_
    refine V_kill (i := 6) (ls1 := [some (.ref b), some (.ref (w.2.1 0)), some (.ref (w.2.1 85)), some (.ref (w.2.1 116)), some (.int (nI i)), none, none]) rfl ?_
    exact V_widen (n' := n + 8) (k' := k + 48) (by omega) (by omega) (kk _ hj3)
set_option maxHeartbeats 4000000 in
set_option maxRecDepth 100000 in
theorem law_publish (K : LawC p l s m args meth c w b L0 xs) (hi : i + 7 ≤ L0) (hnk : n + 8 ≤ 601024 ∧ k + 48 ≤ 7293034) (hJ : JJ X) (kk : ∀ X2, JJ X2 → V p l e room_1 s m args below meth c w 7 (n + 8) (k + 48) Q 2148 [some (.ref b), some (.ref (w.2.1 0)), some (.ref (w.2.1 85)), some (.ref (w.2.1 116)), some (.int (nI i)), none, none] [] X2) : V p l e room_1 s m args below meth c w 7 n k Q 364 [some (.ref b), some (.ref (w.2.1 0)), some (.ref (w.2.1 85)), some (.ref (w.2.1 116)), some (.int (nI i)), none, none] [] X := by
  obtain ⟨C, hD, hN, hX, hbl, hfar, hL⟩ := K
  obtain ⟨h, D, no, Dd, Ro, dr, PP, Z, Th, hJ⟩ := hJ
  refine V_aload_n C dL_law_364 rfl ?_
  refine V_arg (i := i) (j := 1) C hX hbl hfar hL rfl rfl (by omega) dL_law_365 dL_law_366 (fun kk => V_iconst (v := nI 1) C dL_law_368 (by decide) kk) dL_law_369 dL_law_370 ?_
  refine V_arg (i := i) (j := 2) C hX hbl hfar hL rfl rfl (by omega) dL_law_371 dL_law_372 (fun kk => V_iconst (v := nI 2) C dL_law_374 (by decide) kk) dL_law_375 dL_law_376 ?_
  refine V_aload_n C dL_law_377 rfl ?_
  refine V_lcallS (na := 4) C hD hN [.ref (w.2.1 0), .int (xs (i + 1)), .int (xs (i + 2)), .ref (w.2.1 116)] (tb_i 642 (by decide +kernel) (by decide +kernel)) (tb_i 644 (by decide +kernel) (by decide +kernel)) (tb_i 59 (by decide +kernel) (by decide +kernel)) (by decide +kernel) (tb_i 643 (by decide +kernel) (by decide +kernel)) (k_L_publish w l (xs (i + 1)) (xs (i + 2)) X h no hJ.1.2.2.1 hJ.1.2.2.2.1.1 hJ.1.2.2.2.1.2.1 hJ.2.1.1 hJ.2.1.2.1.1) dL_law_378 rfl rfl (Nat.le_of_ble_eq_true rfl) (Nat.le_of_ble_eq_true rfl) (Nat.le_of_ble_eq_true rfl) ⟨by show _ ≤ 601024; omega, by show _ ≤ 7293034; omega⟩ (fun r X1 q1 => ?_)
  have kM := km_publish q1
  have hM := JM_k kM hJ.jm
  refine V_istore (ls1 := [some (.ref b), some (.ref (w.2.1 0)), some (.ref (w.2.1 85)), some (.ref (w.2.1 116)), some (.int (nI i)), some (.int r), none]) C dL_law_381 (by decide) rfl ?_
  refine V_aload_n C dL_law_383 rfl ?_
  refine V_arg (i := i) (j := 1) C hX hbl hfar hL rfl rfl (by omega) dL_law_384 dL_law_385 (fun kk => V_iconst (v := nI 1) C dL_law_387 (by decide) kk) dL_law_388 dL_law_389 ?_
  refine V_arg (i := i) (j := 2) C hX hbl hfar hL rfl rfl (by omega) dL_law_390 dL_law_391 (fun kk => V_iconst (v := nI 2) C dL_law_393 (by decide) kk) dL_law_394 dL_law_395 ?_
  refine V_callVI C [.int (xs (i + 1)), .int (xs (i + 2))] mi_L_128 (k_X10_publish w l (xs (i + 1)) (xs (i + 2)) X1 h no hM.1.2.2 hJ.1.2.2.2.1.1 hJ.1.2.2.2.1.2.1 hM.2.1.2 hJ.2.1.2.1.1 (fun o ho => ⟨(hM.2.1.1.2 o ho).2.2.2.2.2.2.2.1, (hM.2.1.1.2 o ho).2.2.2.2.2.2.2.2.1⟩)) dL_law_396 sh_85 (by decide) rfl rfl rfl (Nat.le_of_ble_eq_true rfl) (Nat.le_of_ble_eq_true rfl) (Nat.le_of_ble_eq_true rfl) ⟨by show _ ≤ 601024; omega, by show _ ≤ 7293034; omega⟩ (fun b2 X2 q2 => ?_)
  obtain ⟨g1, g2, hj3⟩ := pr_publish hJ q1 q2
  refine V_istore (ls1 := [some (.ref b), some (.ref (w.2.1 0)), some (.ref (w.2.1 85)), some (.ref (w.2.1 116)), some (.int (nI i)), some (.int r), some (.int b2)]) C dL_law_399 (by decide) rfl ?_
  refine V_aload_n C dL_law_401 rfl ?_
  refine V_callVI C [] mi_L_115 (k_X10_thrown w l X2) dL_law_402 sh_85 (by decide) rfl rfl rfl (Nat.le_of_ble_eq_true rfl) (Nat.le_of_ble_eq_true rfl) (Nat.le_of_ble_eq_true rfl) ⟨by show _ ≤ 601024; omega, by show _ ≤ 7293034; omega⟩ (fun t X3 q3 => ?_)
  obtain ⟨et, eX3⟩ := q3
  subst eX3
  subst et
  refine V_iload C dL_law_405 rfl ?_
  refine V_icmp_eq (tgt := 412) C dL_law_407 (by decide) (fun _ => ?_) (fun hne => absurd g1 hne)
  refine V_iload C dL_law_412 rfl ?_
  refine V_if_ne (x := r) (tgt := 429) C dL_law_414 (by decide) (fun hr => ?_) (fun hr => ?_)
  · refine V_goto (tgt := 2148) C dL_law_429 (by decide) ?_
    refine V_kill (i := 5) (ls1 := [some (.ref b), some (.ref (w.2.1 0)), some (.ref (w.2.1 85)), some (.ref (w.2.1 116)), some (.int (nI i)), none, some (.int b2)]) rfl ?_
    refine V_kill (i := 6) (ls1 := [some (.ref b), some (.ref (w.2.1 0)), some (.ref (w.2.1 85)), some (.ref (w.2.1 116)), some (.int (nI i)), none, none]) rfl ?_
    exact V_widen (n' := n + 8) (k' := k + 48) (by omega) (by omega) (kk _ hj3)
  · refine V_aload_n C dL_law_417 rfl ?_
    refine V_iconst (v := (0 : Int32)) C dL_law_418 (by decide) ?_
    refine V_laload0 C dL_law_419 ?_
    refine V_iload C dL_law_420 rfl ?_
    refine V_i2l C dL_law_422 ?_
    refine V_lcmp C dL_law_423 (fun cmp hcmp => ?_)
    refine V_if_eq (x := cmp) (tgt := 429) C dL_law_424 (by decide) (fun _ => ?_) (fun hne => absurd (hcmp.mpr (g2 hr)) hne)
    refine V_goto (tgt := 2148) C dL_law_429 (by decide) ?_
    refine V_kill (i := 5) (ls1 := [some (.ref b), some (.ref (w.2.1 0)), some (.ref (w.2.1 85)), some (.ref (w.2.1 116)), some (.int (nI i)), none, some (.int b2)]) rfl ?_
    refine V_kill (i := 6) (ls1 := [some (.ref b), some (.ref (w.2.1 0)), some (.ref (w.2.1 85)), some (.ref (w.2.1 116)), some (.int (nI i)), none, none]) rfl ?_
    exact V_widen (n' := n + 8) (k' := k + 48) (by omega) (by omega) (kk _ hj3)
set_option maxHeartbeats 4000000 in
set_option maxRecDepth 100000 in
theorem law_pass (K : LawC p l s m args meth c w b L0 xs) (hi : i + 7 ≤ L0) (hnk : n + 8 ≤ 601024 ∧ k + 48 ≤ 7293034) (hJ : JJ X) (kk : ∀ X2, JJ X2 → V p l e room_1 s m args below meth c w 7 (n + 8) (k + 48) Q 2148 [some (.ref b), some (.ref (w.2.1 0)), some (.ref (w.2.1 85)), some (.ref (w.2.1 116)), some (.int (nI i)), none, none] [] X2) : V p l e room_1 s m args below meth c w 7 n k Q 432 [some (.ref b), some (.ref (w.2.1 0)), some (.ref (w.2.1 85)), some (.ref (w.2.1 116)), some (.int (nI i)), none, none] [] X := by
  obtain ⟨C, hD, hN, hX, hbl, hfar, hL⟩ := K
  obtain ⟨h, D, no, Dd, Ro, dr, PP, Z, Th, hJ⟩ := hJ
  refine V_aload_n C dL_law_432 rfl ?_
  refine V_arg (i := i) (j := 1) C hX hbl hfar hL rfl rfl (by omega) dL_law_433 dL_law_434 (fun kk => V_iconst (v := nI 1) C dL_law_436 (by decide) kk) dL_law_437 dL_law_438 ?_
  refine V_aload_n C dL_law_439 rfl ?_
  refine V_lcallS (na := 3) C hD hN [.ref (w.2.1 0), .int (xs (i + 1)), .ref (w.2.1 116)] (tb_i 673 (by decide +kernel) (by decide +kernel)) (tb_i 675 (by decide +kernel) (by decide +kernel)) (tb_i 59 (by decide +kernel) (by decide +kernel)) (by decide +kernel) (tb_i 674 (by decide +kernel) (by decide +kernel)) (k_L_pass w l (xs (i + 1)) X D hJ.1.1 hJ.1.2.1) dL_law_440 rfl rfl (Nat.le_of_ble_eq_true rfl) (Nat.le_of_ble_eq_true rfl) (Nat.le_of_ble_eq_true rfl) ⟨by show _ ≤ 601024; omega, by show _ ≤ 7293034; omega⟩ (fun r X1 q1 => ?_)
  have kM := km_pass q1
  have hM := JM_k kM hJ.jm
  refine V_istore (ls1 := [some (.ref b), some (.ref (w.2.1 0)), some (.ref (w.2.1 85)), some (.ref (w.2.1 116)), some (.int (nI i)), some (.int r), none]) C dL_law_443 (by decide) rfl ?_
  refine V_aload_n C dL_law_445 rfl ?_
  refine V_arg (i := i) (j := 1) C hX hbl hfar hL rfl rfl (by omega) dL_law_446 dL_law_447 (fun kk => V_iconst (v := nI 1) C dL_law_449 (by decide) kk) dL_law_450 dL_law_451 ?_
  refine V_callVI C [.int (xs (i + 1))] mi_L_131 (k_X10_pass w l (xs (i + 1)) X1 D hM.1.2.1 hJ.1.2.1) dL_law_452 sh_85 (by decide) rfl rfl rfl (Nat.le_of_ble_eq_true rfl) (Nat.le_of_ble_eq_true rfl) (Nat.le_of_ble_eq_true rfl) ⟨by show _ ≤ 601024; omega, by show _ ≤ 7293034; omega⟩ (fun b2 X2 q2 => ?_)
  obtain ⟨g1, g2, hj3⟩ := pr_pass hJ q1 q2
  refine V_istore (ls1 := [some (.ref b), some (.ref (w.2.1 0)), some (.ref (w.2.1 85)), some (.ref (w.2.1 116)), some (.int (nI i)), some (.int r), some (.int b2)]) C dL_law_455 (by decide) rfl ?_
  refine V_aload_n C dL_law_457 rfl ?_
  refine V_callVI C [] mi_L_115 (k_X10_thrown w l X2) dL_law_458 sh_85 (by decide) rfl rfl rfl (Nat.le_of_ble_eq_true rfl) (Nat.le_of_ble_eq_true rfl) (Nat.le_of_ble_eq_true rfl) ⟨by show _ ≤ 601024; omega, by show _ ≤ 7293034; omega⟩ (fun t X3 q3 => ?_)
  obtain ⟨et, eX3⟩ := q3
  subst eX3
  subst et
  refine V_iload C dL_law_461 rfl ?_
  refine V_icmp_eq (tgt := 468) C dL_law_463 (by decide) (fun _ => ?_) (fun hne => absurd g1 hne)
  refine V_iload C dL_law_468 rfl ?_
  refine V_if_ne (x := r) (tgt := 485) C dL_law_470 (by decide) (fun hr => ?_) (fun hr => ?_)
  · refine V_goto (tgt := 2148) C dL_law_485 (by decide) ?_
    refine V_kill (i := 5) (ls1 := [some (.ref b), some (.ref (w.2.1 0)), some (.ref (w.2.1 85)), some (.ref (w.2.1 116)), some (.int (nI i)), none, some (.int b2)]) rfl ?_
    refine V_kill (i := 6) (ls1 := [some (.ref b), some (.ref (w.2.1 0)), some (.ref (w.2.1 85)), some (.ref (w.2.1 116)), some (.int (nI i)), none, none]) rfl ?_
    exact V_widen (n' := n + 8) (k' := k + 48) (by omega) (by omega) (kk _ hj3)
  · refine V_aload_n C dL_law_473 rfl ?_
    refine V_iconst (v := (0 : Int32)) C dL_law_474 (by decide) ?_
    refine V_laload0 C dL_law_475 ?_
    refine V_iload C dL_law_476 rfl ?_
    refine V_i2l C dL_law_478 ?_
    refine V_lcmp C dL_law_479 (fun cmp hcmp => ?_)
    refine V_if_eq (x := cmp) (tgt := 485) C dL_law_480 (by decide) (fun _ => ?_) (fun hne => absurd (hcmp.mpr (g2 hr)) hne)
    refine V_goto (tgt := 2148) C dL_law_485 (by decide) ?_
    refine V_kill (i := 5) (ls1 := [some (.ref b), some (.ref (w.2.1 0)), some (.ref (w.2.1 85)), some (.ref (w.2.1 116)), some (.int (nI i)), none, some (.int b2)]) rfl ?_
    refine V_kill (i := 6) (ls1 := [some (.ref b), some (.ref (w.2.1 0)), some (.ref (w.2.1 85)), some (.ref (w.2.1 116)), some (.int (nI i)), none, none]) rfl ?_
    exact V_widen (n' := n + 8) (k' := k + 48) (by omega) (by omega) (kk _ hj3)
set_option maxHeartbeats 4000000 in
set_option maxRecDepth 100000 in
theorem law_grant (K : LawC p l s m args meth c w b L0 xs) (hi : i + 7 ≤ L0) (hnk : n + 8 ≤ 601024 ∧ k + 48 ≤ 7293034) (hJ : JJ X) (kk : ∀ X2, JJ X2 → V p l e room_1 s m args below meth c w 7 (n + 8) (k + 48) Q 2148 [some (.ref b), some (.ref (w.2.1 0)), some (.ref (w.2.1 85)), some (.ref (w.2.1 116)), some (.int (nI i)), none, none] [] X2) : V p l e room_1 s m args below meth c w 7 n k Q 488 [some (.ref b), some (.ref (w.2.1 0)), some (.ref (w.2.1 85)), some (.ref (w.2.1 116)), some (.int (nI i)), none, none] [] X := by
  obtain ⟨C, hD, hN, hX, hbl, hfar, hL⟩ := K
  obtain ⟨h, D, no, Dd, Ro, dr, PP, Z, Th, hJ⟩ := hJ
  refine V_aload_n C dL_law_488 rfl ?_
  refine V_arg (i := i) (j := 1) C hX hbl hfar hL rfl rfl (by omega) dL_law_489 dL_law_490 (fun kk => V_iconst (v := nI 1) C dL_law_492 (by decide) kk) dL_law_493 dL_law_494 ?_
  refine V_arg (i := i) (j := 2) C hX hbl hfar hL rfl rfl (by omega) dL_law_495 dL_law_496 (fun kk => V_iconst (v := nI 2) C dL_law_498 (by decide) kk) dL_law_499 dL_law_500 ?_
  refine V_arg (i := i) (j := 3) C hX hbl hfar hL rfl rfl (by omega) dL_law_501 dL_law_502 (fun kk => V_iconst (v := nI 3) C dL_law_504 (by decide) kk) dL_law_505 dL_law_506 ?_
  refine V_arg (i := i) (j := 4) C hX hbl hfar hL rfl rfl (by omega) dL_law_507 dL_law_508 (fun kk => V_iconst (v := nI 4) C dL_law_510 (by decide) kk) dL_law_511 dL_law_512 ?_
  refine V_arg (i := i) (j := 5) C hX hbl hfar hL rfl rfl (by omega) dL_law_513 dL_law_514 (fun kk => V_iconst (v := nI 5) C dL_law_516 (by decide) kk) dL_law_517 dL_law_518 ?_
  refine V_aload_n C dL_law_519 rfl ?_
  refine V_lcallS (na := 7) C hD hN [.ref (w.2.1 0), .int (xs (i + 1)), .int (xs (i + 2)), .int (xs (i + 3)), .int (xs (i + 4)), .int (xs (i + 5)), .ref (w.2.1 116)] (tb_i 681 (by decide +kernel) (by decide +kernel)) (tb_i 683 (by decide +kernel) (by decide +kernel)) (tb_i 59 (by decide +kernel) (by decide +kernel)) (by decide +kernel) (tb_i 682 (by decide +kernel) (by decide +kernel)) (k_L_grant w l (xs (i + 1)) (xs (i + 2)) (xs (i + 3)) (xs (i + 4)) (xs (i + 5)) X h no hJ.1.2.2.1 hJ.1.2.2.2.1.1 hJ.1.2.2.2.1.2.1 hJ.2.1.1 hJ.2.1.2.1.1) dL_law_520 rfl rfl (Nat.le_of_ble_eq_true rfl) (Nat.le_of_ble_eq_true rfl) (Nat.le_of_ble_eq_true rfl) ⟨by show _ ≤ 601024; omega, by show _ ≤ 7293034; omega⟩ (fun r X1 q1 => ?_)
  have kM := km_grant q1
  have hM := JM_k kM hJ.jm
  refine V_istore (ls1 := [some (.ref b), some (.ref (w.2.1 0)), some (.ref (w.2.1 85)), some (.ref (w.2.1 116)), some (.int (nI i)), some (.int r), none]) C dL_law_523 (by decide) rfl ?_
  refine V_aload_n C dL_law_525 rfl ?_
  refine V_arg (i := i) (j := 1) C hX hbl hfar hL rfl rfl (by omega) dL_law_526 dL_law_527 (fun kk => V_iconst (v := nI 1) C dL_law_529 (by decide) kk) dL_law_530 dL_law_531 ?_
  refine V_arg (i := i) (j := 2) C hX hbl hfar hL rfl rfl (by omega) dL_law_532 dL_law_533 (fun kk => V_iconst (v := nI 2) C dL_law_535 (by decide) kk) dL_law_536 dL_law_537 ?_
  refine V_arg (i := i) (j := 3) C hX hbl hfar hL rfl rfl (by omega) dL_law_538 dL_law_539 (fun kk => V_iconst (v := nI 3) C dL_law_541 (by decide) kk) dL_law_542 dL_law_543 ?_
  refine V_arg (i := i) (j := 4) C hX hbl hfar hL rfl rfl (by omega) dL_law_544 dL_law_545 (fun kk => V_iconst (v := nI 4) C dL_law_547 (by decide) kk) dL_law_548 dL_law_549 ?_
  refine V_arg (i := i) (j := 5) C hX hbl hfar hL rfl rfl (by omega) dL_law_550 dL_law_551 (fun kk => V_iconst (v := nI 5) C dL_law_553 (by decide) kk) dL_law_554 dL_law_555 ?_
  refine V_callVI C [.int (xs (i + 1)), .int (xs (i + 2)), .int (xs (i + 3)), .int (xs (i + 4)), .int (xs (i + 5))] mi_L_135 (k_X10_grant w l (xs (i + 1)) (xs (i + 2)) (xs (i + 3)) (xs (i + 4)) (xs (i + 5)) X1 h no hM.1.2.2 hJ.1.2.2.2.1.1 hJ.1.2.2.2.1.2.1 hM.2.1.2 hJ.2.1.2.1.1) dL_law_556 sh_85 (by decide) rfl rfl rfl (Nat.le_of_ble_eq_true rfl) (Nat.le_of_ble_eq_true rfl) (Nat.le_of_ble_eq_true rfl) ⟨by show _ ≤ 601024; omega, by show _ ≤ 7293034; omega⟩ (fun b2 X2 q2 => ?_)
  obtain ⟨g1, g2, hj3⟩ := pr_grant hJ q1 q2
  refine V_istore (ls1 := [some (.ref b), some (.ref (w.2.1 0)), some (.ref (w.2.1 85)), some (.ref (w.2.1 116)), some (.int (nI i)), some (.int r), some (.int b2)]) C dL_law_559 (by decide) rfl ?_
  refine V_aload_n C dL_law_561 rfl ?_
  refine V_callVI C [] mi_L_115 (k_X10_thrown w l X2) dL_law_562 sh_85 (by decide) rfl rfl rfl (Nat.le_of_ble_eq_true rfl) (Nat.le_of_ble_eq_true rfl) (Nat.le_of_ble_eq_true rfl) ⟨by show _ ≤ 601024; omega, by show _ ≤ 7293034; omega⟩ (fun t X3 q3 => ?_)
  obtain ⟨et, eX3⟩ := q3
  subst eX3
  subst et
  refine V_iload C dL_law_565 rfl ?_
  refine V_icmp_eq (tgt := 572) C dL_law_567 (by decide) (fun _ => ?_) (fun hne => absurd g1 hne)
  refine V_iload C dL_law_572 rfl ?_
  refine V_if_ne (x := r) (tgt := 589) C dL_law_574 (by decide) (fun hr => ?_) (fun hr => ?_)
  · refine V_goto (tgt := 2148) C dL_law_589 (by decide) ?_
    refine V_kill (i := 5) (ls1 := [some (.ref b), some (.ref (w.2.1 0)), some (.ref (w.2.1 85)), some (.ref (w.2.1 116)), some (.int (nI i)), none, some (.int b2)]) rfl ?_
    refine V_kill (i := 6) (ls1 := [some (.ref b), some (.ref (w.2.1 0)), some (.ref (w.2.1 85)), some (.ref (w.2.1 116)), some (.int (nI i)), none, none]) rfl ?_
    exact V_widen (n' := n + 8) (k' := k + 48) (by omega) (by omega) (kk _ hj3)
  · refine V_aload_n C dL_law_577 rfl ?_
    refine V_iconst (v := (0 : Int32)) C dL_law_578 (by decide) ?_
    refine V_laload0 C dL_law_579 ?_
    refine V_iload C dL_law_580 rfl ?_
    refine V_i2l C dL_law_582 ?_
    refine V_lcmp C dL_law_583 (fun cmp hcmp => ?_)
    refine V_if_eq (x := cmp) (tgt := 589) C dL_law_584 (by decide) (fun _ => ?_) (fun hne => absurd (hcmp.mpr (g2 hr)) hne)
    refine V_goto (tgt := 2148) C dL_law_589 (by decide) ?_
    refine V_kill (i := 5) (ls1 := [some (.ref b), some (.ref (w.2.1 0)), some (.ref (w.2.1 85)), some (.ref (w.2.1 116)), some (.int (nI i)), none, some (.int b2)]) rfl ?_
    refine V_kill (i := 6) (ls1 := [some (.ref b), some (.ref (w.2.1 0)), some (.ref (w.2.1 85)), some (.ref (w.2.1 116)), some (.int (nI i)), none, none]) rfl ?_
    exact V_widen (n' := n + 8) (k' := k + 48) (by omega) (by omega) (kk _ hj3)
set_option maxHeartbeats 4000000 in
set_option maxRecDepth 100000 in
theorem law_origin (K : LawC p l s m args meth c w b L0 xs) (hi : i + 7 ≤ L0) (hnk : n + 8 ≤ 601024 ∧ k + 48 ≤ 7293034) (hJ : JJ X) (kk : ∀ X2, JJ X2 → V p l e room_1 s m args below meth c w 7 (n + 8) (k + 48) Q 2148 [some (.ref b), some (.ref (w.2.1 0)), some (.ref (w.2.1 85)), some (.ref (w.2.1 116)), some (.int (nI i)), none, none] [] X2) : V p l e room_1 s m args below meth c w 7 n k Q 592 [some (.ref b), some (.ref (w.2.1 0)), some (.ref (w.2.1 85)), some (.ref (w.2.1 116)), some (.int (nI i)), none, none] [] X := by
  obtain ⟨C, hD, hN, hX, hbl, hfar, hL⟩ := K
  obtain ⟨h, D, no, Dd, Ro, dr, PP, Z, Th, hJ⟩ := hJ
  refine V_aload_n C dL_law_592 rfl ?_
  refine V_arg (i := i) (j := 1) C hX hbl hfar hL rfl rfl (by omega) dL_law_593 dL_law_594 (fun kk => V_iconst (v := nI 1) C dL_law_596 (by decide) kk) dL_law_597 dL_law_598 ?_
  refine V_arg (i := i) (j := 2) C hX hbl hfar hL rfl rfl (by omega) dL_law_599 dL_law_600 (fun kk => V_iconst (v := nI 2) C dL_law_602 (by decide) kk) dL_law_603 dL_law_604 ?_
  refine V_arg (i := i) (j := 3) C hX hbl hfar hL rfl rfl (by omega) dL_law_605 dL_law_606 (fun kk => V_iconst (v := nI 3) C dL_law_608 (by decide) kk) dL_law_609 dL_law_610 ?_
  refine V_arg (i := i) (j := 4) C hX hbl hfar hL rfl rfl (by omega) dL_law_611 dL_law_612 (fun kk => V_iconst (v := nI 4) C dL_law_614 (by decide) kk) dL_law_615 dL_law_616 ?_
  refine V_arg (i := i) (j := 5) C hX hbl hfar hL rfl rfl (by omega) dL_law_617 dL_law_618 (fun kk => V_iconst (v := nI 5) C dL_law_620 (by decide) kk) dL_law_621 dL_law_622 ?_
  refine V_arg6 (i := i) C hX hbl hfar hL rfl rfl (by omega) dL_law_623 dL_law_624 dL_law_626 dL_law_628 dL_law_629 ?_
  refine V_aload_n C dL_law_630 rfl ?_
  refine V_lcallS (na := 8) C hD hN [.ref (w.2.1 0), .int (xs (i + 1)), .int (xs (i + 2)), .int (xs (i + 3)), .int (xs (i + 4)), .int (xs (i + 5)), .int (xs (i + 6)), .ref (w.2.1 116)] (tb_i 713 (by decide +kernel) (by decide +kernel)) (tb_i 715 (by decide +kernel) (by decide +kernel)) (tb_i 59 (by decide +kernel) (by decide +kernel)) (by decide +kernel) (tb_i 714 (by decide +kernel) (by decide +kernel)) (k_L_origin w l (xs (i + 1)) (xs (i + 2)) (xs (i + 3)) (xs (i + 4)) (xs (i + 5)) (xs (i + 6)) X h no hJ.1.2.2.1 hJ.1.2.2.2.1.1 hJ.1.2.2.2.1.2.1 hJ.2.1.1 hJ.2.1.2.1.1) dL_law_631 rfl rfl (Nat.le_of_ble_eq_true rfl) (Nat.le_of_ble_eq_true rfl) (Nat.le_of_ble_eq_true rfl) ⟨by show _ ≤ 601024; omega, by show _ ≤ 7293034; omega⟩ (fun r X1 q1 => ?_)
  have kM := km_origin q1
  have hM := JM_k kM hJ.jm
  refine V_istore (ls1 := [some (.ref b), some (.ref (w.2.1 0)), some (.ref (w.2.1 85)), some (.ref (w.2.1 116)), some (.int (nI i)), some (.int r), none]) C dL_law_634 (by decide) rfl ?_
  refine V_aload_n C dL_law_636 rfl ?_
  refine V_arg (i := i) (j := 1) C hX hbl hfar hL rfl rfl (by omega) dL_law_637 dL_law_638 (fun kk => V_iconst (v := nI 1) C dL_law_640 (by decide) kk) dL_law_641 dL_law_642 ?_
  refine V_arg (i := i) (j := 2) C hX hbl hfar hL rfl rfl (by omega) dL_law_643 dL_law_644 (fun kk => V_iconst (v := nI 2) C dL_law_646 (by decide) kk) dL_law_647 dL_law_648 ?_
  refine V_arg (i := i) (j := 3) C hX hbl hfar hL rfl rfl (by omega) dL_law_649 dL_law_650 (fun kk => V_iconst (v := nI 3) C dL_law_652 (by decide) kk) dL_law_653 dL_law_654 ?_
  refine V_arg (i := i) (j := 4) C hX hbl hfar hL rfl rfl (by omega) dL_law_655 dL_law_656 (fun kk => V_iconst (v := nI 4) C dL_law_658 (by decide) kk) dL_law_659 dL_law_660 ?_
  refine V_arg (i := i) (j := 5) C hX hbl hfar hL rfl rfl (by omega) dL_law_661 dL_law_662 (fun kk => V_iconst (v := nI 5) C dL_law_664 (by decide) kk) dL_law_665 dL_law_666 ?_
  refine V_arg6 (i := i) C hX hbl hfar hL rfl rfl (by omega) dL_law_667 dL_law_668 dL_law_670 dL_law_672 dL_law_673 ?_
  refine V_callVI C [.int (xs (i + 1)), .int (xs (i + 2)), .int (xs (i + 3)), .int (xs (i + 4)), .int (xs (i + 5)), .int (xs (i + 6))] mi_L_139 (k_X10_origin w l (xs (i + 1)) (xs (i + 2)) (xs (i + 3)) (xs (i + 4)) (xs (i + 5)) (xs (i + 6)) X1 h no hM.1.2.2 hJ.1.2.2.2.1.1 hJ.1.2.2.2.1.2.1 hM.2.1.2 hJ.2.1.2.1.1) dL_law_674 sh_85 (by decide) rfl rfl rfl (Nat.le_of_ble_eq_true rfl) (Nat.le_of_ble_eq_true rfl) (Nat.le_of_ble_eq_true rfl) ⟨by show _ ≤ 601024; omega, by show _ ≤ 7293034; omega⟩ (fun b2 X2 q2 => ?_)
  obtain ⟨g1, g2, hj3⟩ := pr_origin hJ q1 q2
  refine V_istore (ls1 := [some (.ref b), some (.ref (w.2.1 0)), some (.ref (w.2.1 85)), some (.ref (w.2.1 116)), some (.int (nI i)), some (.int r), some (.int b2)]) C dL_law_677 (by decide) rfl ?_
  refine V_aload_n C dL_law_679 rfl ?_
  refine V_callVI C [] mi_L_115 (k_X10_thrown w l X2) dL_law_680 sh_85 (by decide) rfl rfl rfl (Nat.le_of_ble_eq_true rfl) (Nat.le_of_ble_eq_true rfl) (Nat.le_of_ble_eq_true rfl) ⟨by show _ ≤ 601024; omega, by show _ ≤ 7293034; omega⟩ (fun t X3 q3 => ?_)
  obtain ⟨et, eX3⟩ := q3
  subst eX3
  subst et
  refine V_iload C dL_law_683 rfl ?_
  refine V_icmp_eq (tgt := 690) C dL_law_685 (by decide) (fun _ => ?_) (fun hne => absurd g1 hne)
  refine V_iload C dL_law_690 rfl ?_
  refine V_if_ne (x := r) (tgt := 707) C dL_law_692 (by decide) (fun hr => ?_) (fun hr => ?_)
  · refine V_goto (tgt := 2148) C dL_law_707 (by decide) ?_
    refine V_kill (i := 5) (ls1 := [some (.ref b), some (.ref (w.2.1 0)), some (.ref (w.2.1 85)), some (.ref (w.2.1 116)), some (.int (nI i)), none, some (.int b2)]) rfl ?_
    refine V_kill (i := 6) (ls1 := [some (.ref b), some (.ref (w.2.1 0)), some (.ref (w.2.1 85)), some (.ref (w.2.1 116)), some (.int (nI i)), none, none]) rfl ?_
    exact V_widen (n' := n + 8) (k' := k + 48) (by omega) (by omega) (kk _ hj3)
  · refine V_aload_n C dL_law_695 rfl ?_
    refine V_iconst (v := (0 : Int32)) C dL_law_696 (by decide) ?_
    refine V_laload0 C dL_law_697 ?_
    refine V_iload C dL_law_698 rfl ?_
    refine V_i2l C dL_law_700 ?_
    refine V_lcmp C dL_law_701 (fun cmp hcmp => ?_)
    refine V_if_eq (x := cmp) (tgt := 707) C dL_law_702 (by decide) (fun _ => ?_) (fun hne => absurd (hcmp.mpr (g2 hr)) hne)
    refine V_goto (tgt := 2148) C dL_law_707 (by decide) ?_
    refine V_kill (i := 5) (ls1 := [some (.ref b), some (.ref (w.2.1 0)), some (.ref (w.2.1 85)), some (.ref (w.2.1 116)), some (.int (nI i)), none, some (.int b2)]) rfl ?_
    refine V_kill (i := 6) (ls1 := [some (.ref b), some (.ref (w.2.1 0)), some (.ref (w.2.1 85)), some (.ref (w.2.1 116)), some (.int (nI i)), none, none]) rfl ?_
    exact V_widen (n' := n + 8) (k' := k + 48) (by omega) (by omega) (kk _ hj3)
set_option maxHeartbeats 4000000 in
set_option maxRecDepth 100000 in
theorem law_vouch (K : LawC p l s m args meth c w b L0 xs) (hi : i + 7 ≤ L0) (hnk : n + 8 ≤ 601024 ∧ k + 48 ≤ 7293034) (hJ : JJ X) (kk : ∀ X2, JJ X2 → V p l e room_1 s m args below meth c w 7 (n + 8) (k + 48) Q 2148 [some (.ref b), some (.ref (w.2.1 0)), some (.ref (w.2.1 85)), some (.ref (w.2.1 116)), some (.int (nI i)), none, none] [] X2) : V p l e room_1 s m args below meth c w 7 n k Q 710 [some (.ref b), some (.ref (w.2.1 0)), some (.ref (w.2.1 85)), some (.ref (w.2.1 116)), some (.int (nI i)), none, none] [] X := by
  obtain ⟨C, hD, hN, hX, hbl, hfar, hL⟩ := K
  obtain ⟨h, D, no, Dd, Ro, dr, PP, Z, Th, hJ⟩ := hJ
  refine V_aload_n C dL_law_710 rfl ?_
  refine V_arg (i := i) (j := 1) C hX hbl hfar hL rfl rfl (by omega) dL_law_711 dL_law_712 (fun kk => V_iconst (v := nI 1) C dL_law_714 (by decide) kk) dL_law_715 dL_law_716 ?_
  refine V_arg (i := i) (j := 2) C hX hbl hfar hL rfl rfl (by omega) dL_law_717 dL_law_718 (fun kk => V_iconst (v := nI 2) C dL_law_720 (by decide) kk) dL_law_721 dL_law_722 ?_
  refine V_arg (i := i) (j := 3) C hX hbl hfar hL rfl rfl (by omega) dL_law_723 dL_law_724 (fun kk => V_iconst (v := nI 3) C dL_law_726 (by decide) kk) dL_law_727 dL_law_728 ?_
  refine V_arg (i := i) (j := 4) C hX hbl hfar hL rfl rfl (by omega) dL_law_729 dL_law_730 (fun kk => V_iconst (v := nI 4) C dL_law_732 (by decide) kk) dL_law_733 dL_law_734 ?_
  refine V_aload_n C dL_law_735 rfl ?_
  refine V_lcallS (na := 6) C hD hN [.ref (w.2.1 0), .int (xs (i + 1)), .int (xs (i + 2)), .int (xs (i + 3)), .int (xs (i + 4)), .ref (w.2.1 116)] (tb_i 720 (by decide +kernel) (by decide +kernel)) (tb_i 722 (by decide +kernel) (by decide +kernel)) (tb_i 59 (by decide +kernel) (by decide +kernel)) (by decide +kernel) (tb_i 721 (by decide +kernel) (by decide +kernel)) (k_L_vouch w l (xs (i + 1)) (xs (i + 2)) (xs (i + 3)) (xs (i + 4)) X h no hJ.1.2.2.1 hJ.1.2.2.2.1.1 hJ.1.2.2.2.1.2.1 hJ.2.1.1 hJ.2.1.2.1.1) dL_law_736 rfl rfl (Nat.le_of_ble_eq_true rfl) (Nat.le_of_ble_eq_true rfl) (Nat.le_of_ble_eq_true rfl) ⟨by show _ ≤ 601024; omega, by show _ ≤ 7293034; omega⟩ (fun r X1 q1 => ?_)
  have kM := km_vouch q1
  have hM := JM_k kM hJ.jm
  refine V_istore (ls1 := [some (.ref b), some (.ref (w.2.1 0)), some (.ref (w.2.1 85)), some (.ref (w.2.1 116)), some (.int (nI i)), some (.int r), none]) C dL_law_739 (by decide) rfl ?_
  refine V_aload_n C dL_law_741 rfl ?_
  refine V_arg (i := i) (j := 1) C hX hbl hfar hL rfl rfl (by omega) dL_law_742 dL_law_743 (fun kk => V_iconst (v := nI 1) C dL_law_745 (by decide) kk) dL_law_746 dL_law_747 ?_
  refine V_arg (i := i) (j := 2) C hX hbl hfar hL rfl rfl (by omega) dL_law_748 dL_law_749 (fun kk => V_iconst (v := nI 2) C dL_law_751 (by decide) kk) dL_law_752 dL_law_753 ?_
  refine V_arg (i := i) (j := 3) C hX hbl hfar hL rfl rfl (by omega) dL_law_754 dL_law_755 (fun kk => V_iconst (v := nI 3) C dL_law_757 (by decide) kk) dL_law_758 dL_law_759 ?_
  refine V_arg (i := i) (j := 4) C hX hbl hfar hL rfl rfl (by omega) dL_law_760 dL_law_761 (fun kk => V_iconst (v := nI 4) C dL_law_763 (by decide) kk) dL_law_764 dL_law_765 ?_
  refine V_callVI C [.int (xs (i + 1)), .int (xs (i + 2)), .int (xs (i + 3)), .int (xs (i + 4))] mi_L_143 (k_X10_vouch w l (xs (i + 1)) (xs (i + 2)) (xs (i + 3)) (xs (i + 4)) X1 h no hM.1.2.2 hJ.1.2.2.2.1.1 hJ.1.2.2.2.1.2.1 hM.2.1.2 hJ.2.1.2.1.1) dL_law_766 sh_85 (by decide) rfl rfl rfl (Nat.le_of_ble_eq_true rfl) (Nat.le_of_ble_eq_true rfl) (Nat.le_of_ble_eq_true rfl) ⟨by show _ ≤ 601024; omega, by show _ ≤ 7293034; omega⟩ (fun b2 X2 q2 => ?_)
  obtain ⟨g1, g2, hj3⟩ := pr_vouch hJ q1 q2
  refine V_istore (ls1 := [some (.ref b), some (.ref (w.2.1 0)), some (.ref (w.2.1 85)), some (.ref (w.2.1 116)), some (.int (nI i)), some (.int r), some (.int b2)]) C dL_law_769 (by decide) rfl ?_
  refine V_aload_n C dL_law_771 rfl ?_
  refine V_callVI C [] mi_L_115 (k_X10_thrown w l X2) dL_law_772 sh_85 (by decide) rfl rfl rfl (Nat.le_of_ble_eq_true rfl) (Nat.le_of_ble_eq_true rfl) (Nat.le_of_ble_eq_true rfl) ⟨by show _ ≤ 601024; omega, by show _ ≤ 7293034; omega⟩ (fun t X3 q3 => ?_)
  obtain ⟨et, eX3⟩ := q3
  subst eX3
  subst et
  refine V_iload C dL_law_775 rfl ?_
  refine V_icmp_eq (tgt := 782) C dL_law_777 (by decide) (fun _ => ?_) (fun hne => absurd g1 hne)
  refine V_iload C dL_law_782 rfl ?_
  refine V_if_ne (x := r) (tgt := 799) C dL_law_784 (by decide) (fun hr => ?_) (fun hr => ?_)
  · refine V_goto (tgt := 2148) C dL_law_799 (by decide) ?_
    refine V_kill (i := 5) (ls1 := [some (.ref b), some (.ref (w.2.1 0)), some (.ref (w.2.1 85)), some (.ref (w.2.1 116)), some (.int (nI i)), none, some (.int b2)]) rfl ?_
    refine V_kill (i := 6) (ls1 := [some (.ref b), some (.ref (w.2.1 0)), some (.ref (w.2.1 85)), some (.ref (w.2.1 116)), some (.int (nI i)), none, none]) rfl ?_
    exact V_widen (n' := n + 8) (k' := k + 48) (by omega) (by omega) (kk _ hj3)
  · refine V_aload_n C dL_law_787 rfl ?_
    refine V_iconst (v := (0 : Int32)) C dL_law_788 (by decide) ?_
    refine V_laload0 C dL_law_789 ?_
    refine V_iload C dL_law_790 rfl ?_
    refine V_i2l C dL_law_792 ?_
    refine V_lcmp C dL_law_793 (fun cmp hcmp => ?_)
    refine V_if_eq (x := cmp) (tgt := 799) C dL_law_794 (by decide) (fun _ => ?_) (fun hne => absurd (hcmp.mpr (g2 hr)) hne)
    refine V_goto (tgt := 2148) C dL_law_799 (by decide) ?_
    refine V_kill (i := 5) (ls1 := [some (.ref b), some (.ref (w.2.1 0)), some (.ref (w.2.1 85)), some (.ref (w.2.1 116)), some (.int (nI i)), none, some (.int b2)]) rfl ?_
    refine V_kill (i := 6) (ls1 := [some (.ref b), some (.ref (w.2.1 0)), some (.ref (w.2.1 85)), some (.ref (w.2.1 116)), some (.int (nI i)), none, none]) rfl ?_
    exact V_widen (n' := n + 8) (k' := k + 48) (by omega) (by omega) (kk _ hj3)
set_option maxHeartbeats 4000000 in
set_option maxRecDepth 100000 in
theorem law_revoke (K : LawC p l s m args meth c w b L0 xs) (hi : i + 7 ≤ L0) (hnk : n + 8 ≤ 601024 ∧ k + 48 ≤ 7293034) (hJ : JJ X) (kk : ∀ X2, JJ X2 → V p l e room_1 s m args below meth c w 7 (n + 8) (k + 48) Q 2148 [some (.ref b), some (.ref (w.2.1 0)), some (.ref (w.2.1 85)), some (.ref (w.2.1 116)), some (.int (nI i)), none, none] [] X2) : V p l e room_1 s m args below meth c w 7 n k Q 802 [some (.ref b), some (.ref (w.2.1 0)), some (.ref (w.2.1 85)), some (.ref (w.2.1 116)), some (.int (nI i)), none, none] [] X := by
  obtain ⟨C, hD, hN, hX, hbl, hfar, hL⟩ := K
  obtain ⟨h, D, no, Dd, Ro, dr, PP, Z, Th, hJ⟩ := hJ
  refine V_aload_n C dL_law_802 rfl ?_
  refine V_arg (i := i) (j := 1) C hX hbl hfar hL rfl rfl (by omega) dL_law_803 dL_law_804 (fun kk => V_iconst (v := nI 1) C dL_law_806 (by decide) kk) dL_law_807 dL_law_808 ?_
  refine V_aload_n C dL_law_809 rfl ?_
  refine V_lcallS (na := 3) C hD hN [.ref (w.2.1 0), .int (xs (i + 1)), .ref (w.2.1 116)] (tb_i 727 (by decide +kernel) (by decide +kernel)) (tb_i 729 (by decide +kernel) (by decide +kernel)) (tb_i 59 (by decide +kernel) (by decide +kernel)) (by decide +kernel) (tb_i 728 (by decide +kernel) (by decide +kernel)) (k_L_revoke w l (xs (i + 1)) X no hJ.2.1.1 hJ.2.1.2.1.1) dL_law_810 rfl rfl (Nat.le_of_ble_eq_true rfl) (Nat.le_of_ble_eq_true rfl) (Nat.le_of_ble_eq_true rfl) ⟨by show _ ≤ 601024; omega, by show _ ≤ 7293034; omega⟩ (fun r X1 q1 => ?_)
  have kM := km_revoke q1
  have hM := JM_k kM hJ.jm
  refine V_istore (ls1 := [some (.ref b), some (.ref (w.2.1 0)), some (.ref (w.2.1 85)), some (.ref (w.2.1 116)), some (.int (nI i)), some (.int r), none]) C dL_law_813 (by decide) rfl ?_
  refine V_aload_n C dL_law_815 rfl ?_
  refine V_arg (i := i) (j := 1) C hX hbl hfar hL rfl rfl (by omega) dL_law_816 dL_law_817 (fun kk => V_iconst (v := nI 1) C dL_law_819 (by decide) kk) dL_law_820 dL_law_821 ?_
  refine V_callVI C [.int (xs (i + 1))] mi_L_146 (k_X10_revoke w l (xs (i + 1)) X1 no hM.2.1.2 hJ.2.1.2.1.1 (fun o ho => (hM.2.1.1.2 o ho).2.2.2.2.2.2.1)) dL_law_822 sh_85 (by decide) rfl rfl rfl (Nat.le_of_ble_eq_true rfl) (Nat.le_of_ble_eq_true rfl) (Nat.le_of_ble_eq_true rfl) ⟨by show _ ≤ 601024; omega, by show _ ≤ 7293034; omega⟩ (fun b2 X2 q2 => ?_)
  obtain ⟨g1, g2, hj3⟩ := pr_revoke hJ q1 q2
  refine V_istore (ls1 := [some (.ref b), some (.ref (w.2.1 0)), some (.ref (w.2.1 85)), some (.ref (w.2.1 116)), some (.int (nI i)), some (.int r), some (.int b2)]) C dL_law_825 (by decide) rfl ?_
  refine V_aload_n C dL_law_827 rfl ?_
  refine V_callVI C [] mi_L_115 (k_X10_thrown w l X2) dL_law_828 sh_85 (by decide) rfl rfl rfl (Nat.le_of_ble_eq_true rfl) (Nat.le_of_ble_eq_true rfl) (Nat.le_of_ble_eq_true rfl) ⟨by show _ ≤ 601024; omega, by show _ ≤ 7293034; omega⟩ (fun t X3 q3 => ?_)
  obtain ⟨et, eX3⟩ := q3
  subst eX3
  subst et
  refine V_iload C dL_law_831 rfl ?_
  refine V_icmp_eq (tgt := 838) C dL_law_833 (by decide) (fun _ => ?_) (fun hne => absurd g1 hne)
  refine V_iload C dL_law_838 rfl ?_
  refine V_if_ne (x := r) (tgt := 862) C dL_law_840 (by decide) (fun hr => ?_) (fun hr => ?_)
  · refine V_goto (tgt := 2148) C dL_law_862 (by decide) ?_
    refine V_kill (i := 5) (ls1 := [some (.ref b), some (.ref (w.2.1 0)), some (.ref (w.2.1 85)), some (.ref (w.2.1 116)), some (.int (nI i)), none, some (.int b2)]) rfl ?_
    refine V_kill (i := 6) (ls1 := [some (.ref b), some (.ref (w.2.1 0)), some (.ref (w.2.1 85)), some (.ref (w.2.1 116)), some (.int (nI i)), none, none]) rfl ?_
    exact V_widen (n' := n + 8) (k' := k + 48) (by omega) (by omega) (kk _ hj3)
  · refine V_aload_n C dL_law_843 rfl ?_
    refine V_iconst (v := (0 : Int32)) C dL_law_844 (by decide) ?_
    refine V_laload0 C dL_law_845 ?_
    refine V_iload C dL_law_846 rfl ?_
    refine V_if_eq (x := b2) (tgt := 855) C dL_law_848 (by decide) (fun hb => ?_) (fun hb => ?_)
    · refine V_lconst C (0 : Int32) dL_law_855 (by decide) ?_
      refine V_lcmp C dL_law_856 (fun cmp hcmp => ?_)
      refine V_if_eq (x := cmp) (tgt := 862) C dL_law_857 (by decide) (fun _ => ?_) (fun hne => absurd (hcmp.mpr (by rw [g2 hr, if_pos hb])) hne)
      refine V_goto (tgt := 2148) C dL_law_862 (by decide) ?_
      refine V_kill (i := 5) (ls1 := [some (.ref b), some (.ref (w.2.1 0)), some (.ref (w.2.1 85)), some (.ref (w.2.1 116)), some (.int (nI i)), none, some (.int b2)]) rfl ?_
      refine V_kill (i := 6) (ls1 := [some (.ref b), some (.ref (w.2.1 0)), some (.ref (w.2.1 85)), some (.ref (w.2.1 116)), some (.int (nI i)), none, none]) rfl ?_
      exact V_widen (n' := n + 8) (k' := k + 48) (by omega) (by omega) (kk _ hj3)
    · refine V_lconst C (1 : Int32) dL_law_851 (by decide) ?_
      refine V_goto (tgt := 856) C dL_law_852 (by decide) ?_
      refine V_lcmp C dL_law_856 (fun cmp hcmp => ?_)
      refine V_if_eq (x := cmp) (tgt := 862) C dL_law_857 (by decide) (fun _ => ?_) (fun hne => absurd (hcmp.mpr (by rw [g2 hr, if_neg hb])) hne)
      refine V_goto (tgt := 2148) C dL_law_862 (by decide) ?_
      refine V_kill (i := 5) (ls1 := [some (.ref b), some (.ref (w.2.1 0)), some (.ref (w.2.1 85)), some (.ref (w.2.1 116)), some (.int (nI i)), none, some (.int b2)]) rfl ?_
      refine V_kill (i := 6) (ls1 := [some (.ref b), some (.ref (w.2.1 0)), some (.ref (w.2.1 85)), some (.ref (w.2.1 116)), some (.int (nI i)), none, none]) rfl ?_
      exact V_widen (n' := n + 8) (k' := k + 48) (by omega) (by omega) (kk _ hj3)
set_option maxHeartbeats 4000000 in
set_option maxRecDepth 100000 in
theorem law_alter (K : LawC p l s m args meth c w b L0 xs) (hi : i + 7 ≤ L0) (hnk : n + 8 ≤ 601024 ∧ k + 48 ≤ 7293034) (hJ : JJ X) (kk : ∀ X2, JJ X2 → V p l e room_1 s m args below meth c w 7 (n + 8) (k + 48) Q 2148 [some (.ref b), some (.ref (w.2.1 0)), some (.ref (w.2.1 85)), some (.ref (w.2.1 116)), some (.int (nI i)), none, none] [] X2) : V p l e room_1 s m args below meth c w 7 n k Q 865 [some (.ref b), some (.ref (w.2.1 0)), some (.ref (w.2.1 85)), some (.ref (w.2.1 116)), some (.int (nI i)), none, none] [] X := by
  obtain ⟨C, hD, hN, hX, hbl, hfar, hL⟩ := K
  obtain ⟨h, D, no, Dd, Ro, dr, PP, Z, Th, hJ⟩ := hJ
  refine V_aload_n C dL_law_865 rfl ?_
  refine V_arg (i := i) (j := 1) C hX hbl hfar hL rfl rfl (by omega) dL_law_866 dL_law_867 (fun kk => V_iconst (v := nI 1) C dL_law_869 (by decide) kk) dL_law_870 dL_law_871 ?_
  refine V_arg (i := i) (j := 2) C hX hbl hfar hL rfl rfl (by omega) dL_law_872 dL_law_873 (fun kk => V_iconst (v := nI 2) C dL_law_875 (by decide) kk) dL_law_876 dL_law_877 ?_
  refine V_aload_n C dL_law_878 rfl ?_
  refine V_lcallS (na := 4) C hD hN [.ref (w.2.1 0), .int (xs (i + 1)), .int (xs (i + 2)), .ref (w.2.1 116)] (tb_i 739 (by decide +kernel) (by decide +kernel)) (tb_i 741 (by decide +kernel) (by decide +kernel)) (tb_i 59 (by decide +kernel) (by decide +kernel)) (by decide +kernel) (tb_i 740 (by decide +kernel) (by decide +kernel)) (k_L_alter w l (xs (i + 1)) (xs (i + 2)) X h no hJ.2.1.2.1 hJ.2.1.1) dL_law_879 rfl rfl (Nat.le_of_ble_eq_true rfl) (Nat.le_of_ble_eq_true rfl) (Nat.le_of_ble_eq_true rfl) ⟨by show _ ≤ 601024; omega, by show _ ≤ 7293034; omega⟩ (fun r X1 q1 => ?_)
  have kM := km_alter q1
  have hM := JM_k kM hJ.jm
  refine V_istore (ls1 := [some (.ref b), some (.ref (w.2.1 0)), some (.ref (w.2.1 85)), some (.ref (w.2.1 116)), some (.int (nI i)), some (.int r), none]) C dL_law_882 (by decide) rfl ?_
  refine V_aload_n C dL_law_884 rfl ?_
  refine V_arg (i := i) (j := 1) C hX hbl hfar hL rfl rfl (by omega) dL_law_885 dL_law_886 (fun kk => V_iconst (v := nI 1) C dL_law_888 (by decide) kk) dL_law_889 dL_law_890 ?_
  refine V_arg (i := i) (j := 2) C hX hbl hfar hL rfl rfl (by omega) dL_law_891 dL_law_892 (fun kk => V_iconst (v := nI 2) C dL_law_894 (by decide) kk) dL_law_895 dL_law_896 ?_
  refine V_callVI C [.int (xs (i + 1)), .int (xs (i + 2))] mi_L_149 (k_X10_alter w l (xs (i + 1)) (xs (i + 2)) X1 no hM.2.1.2 hJ.2.1.2.1.1 (fun o ho => (hM.2.1.1.2 o ho).2.1)) dL_law_897 sh_85 (by decide) rfl rfl rfl (Nat.le_of_ble_eq_true rfl) (Nat.le_of_ble_eq_true rfl) (Nat.le_of_ble_eq_true rfl) ⟨by show _ ≤ 601024; omega, by show _ ≤ 7293034; omega⟩ (fun b2 X2 q2 => ?_)
  obtain ⟨g1, g2, hj3⟩ := pr_alter hJ q1 q2 kM
  refine V_istore (ls1 := [some (.ref b), some (.ref (w.2.1 0)), some (.ref (w.2.1 85)), some (.ref (w.2.1 116)), some (.int (nI i)), some (.int r), some (.int b2)]) C dL_law_900 (by decide) rfl ?_
  refine V_aload_n C dL_law_902 rfl ?_
  refine V_callVI C [] mi_L_115 (k_X10_thrown w l X2) dL_law_903 sh_85 (by decide) rfl rfl rfl (Nat.le_of_ble_eq_true rfl) (Nat.le_of_ble_eq_true rfl) (Nat.le_of_ble_eq_true rfl) ⟨by show _ ≤ 601024; omega, by show _ ≤ 7293034; omega⟩ (fun t X3 q3 => ?_)
  obtain ⟨et, eX3⟩ := q3
  subst eX3
  subst et
  refine V_iload C dL_law_906 rfl ?_
  refine V_icmp_eq (tgt := 913) C dL_law_908 (by decide) (fun _ => ?_) (fun hne => absurd g1 hne)
  refine V_iload C dL_law_913 rfl ?_
  refine V_if_ne (x := r) (tgt := 930) C dL_law_915 (by decide) (fun hr => ?_) (fun hr => ?_)
  · refine V_goto (tgt := 2148) C dL_law_930 (by decide) ?_
    refine V_kill (i := 5) (ls1 := [some (.ref b), some (.ref (w.2.1 0)), some (.ref (w.2.1 85)), some (.ref (w.2.1 116)), some (.int (nI i)), none, some (.int b2)]) rfl ?_
    refine V_kill (i := 6) (ls1 := [some (.ref b), some (.ref (w.2.1 0)), some (.ref (w.2.1 85)), some (.ref (w.2.1 116)), some (.int (nI i)), none, none]) rfl ?_
    exact V_widen (n' := n + 8) (k' := k + 48) (by omega) (by omega) (kk _ hj3)
  · refine V_aload_n C dL_law_918 rfl ?_
    refine V_iconst (v := (0 : Int32)) C dL_law_919 (by decide) ?_
    refine V_laload0 C dL_law_920 ?_
    refine V_iload C dL_law_921 rfl ?_
    refine V_i2l C dL_law_923 ?_
    refine V_lcmp C dL_law_924 (fun cmp hcmp => ?_)
    refine V_if_eq (x := cmp) (tgt := 930) C dL_law_925 (by decide) (fun _ => ?_) (fun hne => absurd (hcmp.mpr (g2 hr)) hne)
    refine V_goto (tgt := 2148) C dL_law_930 (by decide) ?_
    refine V_kill (i := 5) (ls1 := [some (.ref b), some (.ref (w.2.1 0)), some (.ref (w.2.1 85)), some (.ref (w.2.1 116)), some (.int (nI i)), none, some (.int b2)]) rfl ?_
    refine V_kill (i := 6) (ls1 := [some (.ref b), some (.ref (w.2.1 0)), some (.ref (w.2.1 85)), some (.ref (w.2.1 116)), some (.int (nI i)), none, none]) rfl ?_
    exact V_widen (n' := n + 8) (k' := k + 48) (by omega) (by omega) (kk _ hj3)
set_option maxHeartbeats 4000000 in
set_option maxRecDepth 100000 in
theorem law_sign (K : LawC p l s m args meth c w b L0 xs) (hi : i + 7 ≤ L0) (hnk : n + 8 ≤ 601024 ∧ k + 48 ≤ 7293034) (hJ : JJ X) (kk : ∀ X2, JJ X2 → V p l e room_1 s m args below meth c w 7 (n + 8) (k + 48) Q 2148 [some (.ref b), some (.ref (w.2.1 0)), some (.ref (w.2.1 85)), some (.ref (w.2.1 116)), some (.int (nI i)), none, none] [] X2) : V p l e room_1 s m args below meth c w 7 n k Q 933 [some (.ref b), some (.ref (w.2.1 0)), some (.ref (w.2.1 85)), some (.ref (w.2.1 116)), some (.int (nI i)), none, none] [] X := by
  obtain ⟨C, hD, hN, hX, hbl, hfar, hL⟩ := K
  obtain ⟨h, D, no, Dd, Ro, dr, PP, Z, Th, hJ⟩ := hJ
  refine V_aload_n C dL_law_933 rfl ?_
  refine V_arg (i := i) (j := 1) C hX hbl hfar hL rfl rfl (by omega) dL_law_934 dL_law_935 (fun kk => V_iconst (v := nI 1) C dL_law_937 (by decide) kk) dL_law_938 dL_law_939 ?_
  refine V_aload_n C dL_law_940 rfl ?_
  refine V_lcallS (na := 3) C hD hN [.ref (w.2.1 0), .int (xs (i + 1)), .ref (w.2.1 116)] (tb_i 747 (by decide +kernel) (by decide +kernel)) (tb_i 749 (by decide +kernel) (by decide +kernel)) (tb_i 59 (by decide +kernel) (by decide +kernel)) (by decide +kernel) (tb_i 748 (by decide +kernel) (by decide +kernel)) (k_L_sign w l (xs (i + 1)) X h no hJ.2.1.2.1 hJ.1.2.2.2.1.2.1 hJ.2.1.1 hJ.2.1.2.1.1) dL_law_941 rfl rfl (Nat.le_of_ble_eq_true rfl) (Nat.le_of_ble_eq_true rfl) (Nat.le_of_ble_eq_true rfl) ⟨by show _ ≤ 601024; omega, by show _ ≤ 7293034; omega⟩ (fun r X1 q1 => ?_)
  have kM := km_sign q1
  have hM := JM_k kM hJ.jm
  refine V_istore (ls1 := [some (.ref b), some (.ref (w.2.1 0)), some (.ref (w.2.1 85)), some (.ref (w.2.1 116)), some (.int (nI i)), some (.int r), none]) C dL_law_944 (by decide) rfl ?_
  refine V_aload_n C dL_law_946 rfl ?_
  refine V_arg (i := i) (j := 1) C hX hbl hfar hL rfl rfl (by omega) dL_law_947 dL_law_948 (fun kk => V_iconst (v := nI 1) C dL_law_950 (by decide) kk) dL_law_951 dL_law_952 ?_
  refine V_callVI C [.int (xs (i + 1))] mi_L_152 (k_X10_sign w l (xs (i + 1)) X1 h no hM.2.1.1 hJ.1.2.2.2.1.2.1 hM.2.1.2 hJ.2.1.2.1.1) dL_law_953 sh_85 (by decide) rfl rfl rfl (Nat.le_of_ble_eq_true rfl) (Nat.le_of_ble_eq_true rfl) (Nat.le_of_ble_eq_true rfl) ⟨by show _ ≤ 601024; omega, by show _ ≤ 7293034; omega⟩ (fun b2 X2 q2 => ?_)
  obtain ⟨g1, g2, hj3⟩ := pr_sign hJ q1 q2 kM
  refine V_istore (ls1 := [some (.ref b), some (.ref (w.2.1 0)), some (.ref (w.2.1 85)), some (.ref (w.2.1 116)), some (.int (nI i)), some (.int r), some (.int b2)]) C dL_law_956 (by decide) rfl ?_
  refine V_aload_n C dL_law_958 rfl ?_
  refine V_callVI C [] mi_L_115 (k_X10_thrown w l X2) dL_law_959 sh_85 (by decide) rfl rfl rfl (Nat.le_of_ble_eq_true rfl) (Nat.le_of_ble_eq_true rfl) (Nat.le_of_ble_eq_true rfl) ⟨by show _ ≤ 601024; omega, by show _ ≤ 7293034; omega⟩ (fun t X3 q3 => ?_)
  obtain ⟨et, eX3⟩ := q3
  subst eX3
  subst et
  refine V_iload C dL_law_962 rfl ?_
  refine V_icmp_eq (tgt := 969) C dL_law_964 (by decide) (fun _ => ?_) (fun hne => absurd g1 hne)
  refine V_iload C dL_law_969 rfl ?_
  refine V_if_ne (x := r) (tgt := 986) C dL_law_971 (by decide) (fun hr => ?_) (fun hr => ?_)
  · refine V_goto (tgt := 2148) C dL_law_986 (by decide) ?_
    refine V_kill (i := 5) (ls1 := [some (.ref b), some (.ref (w.2.1 0)), some (.ref (w.2.1 85)), some (.ref (w.2.1 116)), some (.int (nI i)), none, some (.int b2)]) rfl ?_
    refine V_kill (i := 6) (ls1 := [some (.ref b), some (.ref (w.2.1 0)), some (.ref (w.2.1 85)), some (.ref (w.2.1 116)), some (.int (nI i)), none, none]) rfl ?_
    exact V_widen (n' := n + 8) (k' := k + 48) (by omega) (by omega) (kk _ hj3)
  · refine V_aload_n C dL_law_974 rfl ?_
    refine V_iconst (v := (0 : Int32)) C dL_law_975 (by decide) ?_
    refine V_laload0 C dL_law_976 ?_
    refine V_iload C dL_law_977 rfl ?_
    refine V_i2l C dL_law_979 ?_
    refine V_lcmp C dL_law_980 (fun cmp hcmp => ?_)
    refine V_if_eq (x := cmp) (tgt := 986) C dL_law_981 (by decide) (fun _ => ?_) (fun hne => absurd (hcmp.mpr (g2 hr)) hne)
    refine V_goto (tgt := 2148) C dL_law_986 (by decide) ?_
    refine V_kill (i := 5) (ls1 := [some (.ref b), some (.ref (w.2.1 0)), some (.ref (w.2.1 85)), some (.ref (w.2.1 116)), some (.int (nI i)), none, some (.int b2)]) rfl ?_
    refine V_kill (i := 6) (ls1 := [some (.ref b), some (.ref (w.2.1 0)), some (.ref (w.2.1 85)), some (.ref (w.2.1 116)), some (.int (nI i)), none, none]) rfl ?_
    exact V_widen (n' := n + 8) (k' := k + 48) (by omega) (by omega) (kk _ hj3)
set_option maxHeartbeats 4000000 in
set_option maxRecDepth 100000 in
theorem law_hop (K : LawC p l s m args meth c w b L0 xs) (hi : i + 7 ≤ L0) (hnk : n + 8 ≤ 601024 ∧ k + 48 ≤ 7293034) (hJ : JJ X) (kk : ∀ X2, JJ X2 → V p l e room_1 s m args below meth c w 7 (n + 8) (k + 48) Q 2148 [some (.ref b), some (.ref (w.2.1 0)), some (.ref (w.2.1 85)), some (.ref (w.2.1 116)), some (.int (nI i)), none, none] [] X2) : V p l e room_1 s m args below meth c w 7 n k Q 989 [some (.ref b), some (.ref (w.2.1 0)), some (.ref (w.2.1 85)), some (.ref (w.2.1 116)), some (.int (nI i)), none, none] [] X := by
  obtain ⟨C, hD, hN, hX, hbl, hfar, hL⟩ := K
  obtain ⟨h, D, no, Dd, Ro, dr, PP, Z, Th, hJ⟩ := hJ
  refine V_aload_n C dL_law_989 rfl ?_
  refine V_arg (i := i) (j := 1) C hX hbl hfar hL rfl rfl (by omega) dL_law_990 dL_law_991 (fun kk => V_iconst (v := nI 1) C dL_law_993 (by decide) kk) dL_law_994 dL_law_995 ?_
  refine V_aload_n C dL_law_996 rfl ?_
  refine V_lcallS (na := 3) C hD hN [.ref (w.2.1 0), .int (xs (i + 1)), .ref (w.2.1 116)] (tb_i 754 (by decide +kernel) (by decide +kernel)) (tb_i 756 (by decide +kernel) (by decide +kernel)) (tb_i 59 (by decide +kernel) (by decide +kernel)) (by decide +kernel) (tb_i 755 (by decide +kernel) (by decide +kernel)) (k_L_hop w l (xs (i + 1)) X Dd hJ.2.2.1.1 hJ.2.2.1.2.1) dL_law_997 rfl rfl (Nat.le_of_ble_eq_true rfl) (Nat.le_of_ble_eq_true rfl) (Nat.le_of_ble_eq_true rfl) ⟨by show _ ≤ 601024; omega, by show _ ≤ 7293034; omega⟩ (fun r X1 q1 => ?_)
  have kM := km_hop q1
  have hM := JM_k kM hJ.jm
  refine V_istore (ls1 := [some (.ref b), some (.ref (w.2.1 0)), some (.ref (w.2.1 85)), some (.ref (w.2.1 116)), some (.int (nI i)), some (.int r), none]) C dL_law_1000 (by decide) rfl ?_
  refine V_aload_n C dL_law_1002 rfl ?_
  refine V_arg (i := i) (j := 1) C hX hbl hfar hL rfl rfl (by omega) dL_law_1003 dL_law_1004 (fun kk => V_iconst (v := nI 1) C dL_law_1006 (by decide) kk) dL_law_1007 dL_law_1008 ?_
  refine V_callVI C [.int (xs (i + 1))] mi_L_155 (k_X10_hop w l (xs (i + 1)) X1 Dd hM.2.2.1.1 hJ.2.2.1.2.1) dL_law_1009 sh_85 (by decide) rfl rfl rfl (Nat.le_of_ble_eq_true rfl) (Nat.le_of_ble_eq_true rfl) (Nat.le_of_ble_eq_true rfl) ⟨by show _ ≤ 601024; omega, by show _ ≤ 7293034; omega⟩ (fun b2 X2 q2 => ?_)
  obtain ⟨g1, g2, hj3⟩ := pr_hop hJ q1 q2
  refine V_istore (ls1 := [some (.ref b), some (.ref (w.2.1 0)), some (.ref (w.2.1 85)), some (.ref (w.2.1 116)), some (.int (nI i)), some (.int r), some (.int b2)]) C dL_law_1012 (by decide) rfl ?_
  refine V_aload_n C dL_law_1014 rfl ?_
  refine V_callVI C [] mi_L_115 (k_X10_thrown w l X2) dL_law_1015 sh_85 (by decide) rfl rfl rfl (Nat.le_of_ble_eq_true rfl) (Nat.le_of_ble_eq_true rfl) (Nat.le_of_ble_eq_true rfl) ⟨by show _ ≤ 601024; omega, by show _ ≤ 7293034; omega⟩ (fun t X3 q3 => ?_)
  obtain ⟨et, eX3⟩ := q3
  subst eX3
  subst et
  refine V_iload C dL_law_1018 rfl ?_
  refine V_icmp_eq (tgt := 1025) C dL_law_1020 (by decide) (fun _ => ?_) (fun hne => absurd g1 hne)
  refine V_iload C dL_law_1025 rfl ?_
  refine V_if_ne (x := r) (tgt := 1042) C dL_law_1027 (by decide) (fun hr => ?_) (fun hr => ?_)
  · refine V_goto (tgt := 2148) C dL_law_1042 (by decide) ?_
    refine V_kill (i := 5) (ls1 := [some (.ref b), some (.ref (w.2.1 0)), some (.ref (w.2.1 85)), some (.ref (w.2.1 116)), some (.int (nI i)), none, some (.int b2)]) rfl ?_
    refine V_kill (i := 6) (ls1 := [some (.ref b), some (.ref (w.2.1 0)), some (.ref (w.2.1 85)), some (.ref (w.2.1 116)), some (.int (nI i)), none, none]) rfl ?_
    exact V_widen (n' := n + 8) (k' := k + 48) (by omega) (by omega) (kk _ hj3)
  · refine V_aload_n C dL_law_1030 rfl ?_
    refine V_iconst (v := (0 : Int32)) C dL_law_1031 (by decide) ?_
    refine V_laload0 C dL_law_1032 ?_
    refine V_iload C dL_law_1033 rfl ?_
    refine V_i2l C dL_law_1035 ?_
    refine V_lcmp C dL_law_1036 (fun cmp hcmp => ?_)
    refine V_if_eq (x := cmp) (tgt := 1042) C dL_law_1037 (by decide) (fun _ => ?_) (fun hne => absurd (hcmp.mpr (g2 hr)) hne)
    refine V_goto (tgt := 2148) C dL_law_1042 (by decide) ?_
    refine V_kill (i := 5) (ls1 := [some (.ref b), some (.ref (w.2.1 0)), some (.ref (w.2.1 85)), some (.ref (w.2.1 116)), some (.int (nI i)), none, some (.int b2)]) rfl ?_
    refine V_kill (i := 6) (ls1 := [some (.ref b), some (.ref (w.2.1 0)), some (.ref (w.2.1 85)), some (.ref (w.2.1 116)), some (.int (nI i)), none, none]) rfl ?_
    exact V_widen (n' := n + 8) (k' := k + 48) (by omega) (by omega) (kk _ hj3)
set_option maxHeartbeats 4000000 in
set_option maxRecDepth 100000 in
theorem law_hear (K : LawC p l s m args meth c w b L0 xs) (hi : i + 7 ≤ L0) (hnk : n + 8 ≤ 601024 ∧ k + 48 ≤ 7293034) (hJ : JJ X) (kk : ∀ X2, JJ X2 → V p l e room_1 s m args below meth c w 7 (n + 8) (k + 48) Q 2148 [some (.ref b), some (.ref (w.2.1 0)), some (.ref (w.2.1 85)), some (.ref (w.2.1 116)), some (.int (nI i)), none, none] [] X2) : V p l e room_1 s m args below meth c w 7 n k Q 1045 [some (.ref b), some (.ref (w.2.1 0)), some (.ref (w.2.1 85)), some (.ref (w.2.1 116)), some (.int (nI i)), none, none] [] X := by
  obtain ⟨C, hD, hN, hX, hbl, hfar, hL⟩ := K
  obtain ⟨h, D, no, Dd, Ro, dr, PP, Z, Th, hJ⟩ := hJ
  refine V_aload_n C dL_law_1045 rfl ?_
  refine V_arg (i := i) (j := 1) C hX hbl hfar hL rfl rfl (by omega) dL_law_1046 dL_law_1047 (fun kk => V_iconst (v := nI 1) C dL_law_1049 (by decide) kk) dL_law_1050 dL_law_1051 ?_
  refine V_arg (i := i) (j := 2) C hX hbl hfar hL rfl rfl (by omega) dL_law_1052 dL_law_1053 (fun kk => V_iconst (v := nI 2) C dL_law_1055 (by decide) kk) dL_law_1056 dL_law_1057 ?_
  refine V_aload_n C dL_law_1058 rfl ?_
  refine V_lcallS (na := 4) C hD hN [.ref (w.2.1 0), .int (xs (i + 1)), .int (xs (i + 2)), .ref (w.2.1 116)] (tb_i 762 (by decide +kernel) (by decide +kernel)) (tb_i 764 (by decide +kernel) (by decide +kernel)) (tb_i 59 (by decide +kernel) (by decide +kernel)) (by decide +kernel) (tb_i 763 (by decide +kernel) (by decide +kernel)) (k_L_hear w l (xs (i + 1)) (xs (i + 2)) X Ro (cntT Th Ro) Dd dr hJ.2.2.2.1.1.2.1 hJ.2.2.2.1.1.1 hJ.2.2.2.1.2.2.1 hJ.2.2.1.1 hJ.2.2.1.2.1 hJ.2.2.1.2.2.1) dL_law_1059 rfl rfl (Nat.le_of_ble_eq_true rfl) (Nat.le_of_ble_eq_true rfl) (Nat.le_of_ble_eq_true rfl) ⟨by show _ ≤ 601024; omega, by show _ ≤ 7293034; omega⟩ (fun r X1 q1 => ?_)
  have kM := km_hear q1
  have hM := JM_k kM hJ.jm
  refine V_istore (ls1 := [some (.ref b), some (.ref (w.2.1 0)), some (.ref (w.2.1 85)), some (.ref (w.2.1 116)), some (.int (nI i)), some (.int r), none]) C dL_law_1062 (by decide) rfl ?_
  refine V_aload_n C dL_law_1064 rfl ?_
  refine V_arg (i := i) (j := 1) C hX hbl hfar hL rfl rfl (by omega) dL_law_1065 dL_law_1066 (fun kk => V_iconst (v := nI 1) C dL_law_1068 (by decide) kk) dL_law_1069 dL_law_1070 ?_
  refine V_arg (i := i) (j := 2) C hX hbl hfar hL rfl rfl (by omega) dL_law_1071 dL_law_1072 (fun kk => V_iconst (v := nI 2) C dL_law_1074 (by decide) kk) dL_law_1075 dL_law_1076 ?_
  refine V_callVI C [.int (xs (i + 1)), .int (xs (i + 2))] mi_L_158 (k_X10_hear w l (xs (i + 1)) (xs (i + 2)) X1 Ro Dd dr hM.2.2.2.1.2.1 hJ.2.2.2.1.1.1 hM.2.2.1.1 hJ.2.2.1.2.1 hM.2.2.1.2) dL_law_1077 sh_85 (by decide) rfl rfl rfl (Nat.le_of_ble_eq_true rfl) (Nat.le_of_ble_eq_true rfl) (Nat.le_of_ble_eq_true rfl) ⟨by show _ ≤ 601024; omega, by show _ ≤ 7293034; omega⟩ (fun b2 X2 q2 => ?_)
  obtain ⟨g1, g2, hj3⟩ := pr_hear hJ q1 q2
  refine V_istore (ls1 := [some (.ref b), some (.ref (w.2.1 0)), some (.ref (w.2.1 85)), some (.ref (w.2.1 116)), some (.int (nI i)), some (.int r), some (.int b2)]) C dL_law_1080 (by decide) rfl ?_
  refine V_aload_n C dL_law_1082 rfl ?_
  refine V_callVI C [] mi_L_115 (k_X10_thrown w l X2) dL_law_1083 sh_85 (by decide) rfl rfl rfl (Nat.le_of_ble_eq_true rfl) (Nat.le_of_ble_eq_true rfl) (Nat.le_of_ble_eq_true rfl) ⟨by show _ ≤ 601024; omega, by show _ ≤ 7293034; omega⟩ (fun t X3 q3 => ?_)
  obtain ⟨et, eX3⟩ := q3
  subst eX3
  subst et
  refine V_iload C dL_law_1086 rfl ?_
  refine V_icmp_eq (tgt := 1093) C dL_law_1088 (by decide) (fun _ => ?_) (fun hne => absurd g1 hne)
  refine V_iload C dL_law_1093 rfl ?_
  refine V_if_ne (x := r) (tgt := 1110) C dL_law_1095 (by decide) (fun hr => ?_) (fun hr => ?_)
  · refine V_goto (tgt := 2148) C dL_law_1110 (by decide) ?_
    refine V_kill (i := 5) (ls1 := [some (.ref b), some (.ref (w.2.1 0)), some (.ref (w.2.1 85)), some (.ref (w.2.1 116)), some (.int (nI i)), none, some (.int b2)]) rfl ?_
    refine V_kill (i := 6) (ls1 := [some (.ref b), some (.ref (w.2.1 0)), some (.ref (w.2.1 85)), some (.ref (w.2.1 116)), some (.int (nI i)), none, none]) rfl ?_
    exact V_widen (n' := n + 8) (k' := k + 48) (by omega) (by omega) (kk _ hj3)
  · refine V_aload_n C dL_law_1098 rfl ?_
    refine V_iconst (v := (0 : Int32)) C dL_law_1099 (by decide) ?_
    refine V_laload0 C dL_law_1100 ?_
    refine V_iload C dL_law_1101 rfl ?_
    refine V_i2l C dL_law_1103 ?_
    refine V_lcmp C dL_law_1104 (fun cmp hcmp => ?_)
    refine V_if_eq (x := cmp) (tgt := 1110) C dL_law_1105 (by decide) (fun _ => ?_) (fun hne => absurd (hcmp.mpr (g2 hr)) hne)
    refine V_goto (tgt := 2148) C dL_law_1110 (by decide) ?_
    refine V_kill (i := 5) (ls1 := [some (.ref b), some (.ref (w.2.1 0)), some (.ref (w.2.1 85)), some (.ref (w.2.1 116)), some (.int (nI i)), none, some (.int b2)]) rfl ?_
    refine V_kill (i := 6) (ls1 := [some (.ref b), some (.ref (w.2.1 0)), some (.ref (w.2.1 85)), some (.ref (w.2.1 116)), some (.int (nI i)), none, none]) rfl ?_
    exact V_widen (n' := n + 8) (k' := k + 48) (by omega) (by omega) (kk _ hj3)
set_option maxHeartbeats 4000000 in
set_option maxRecDepth 100000 in
theorem law_withdraw (K : LawC p l s m args meth c w b L0 xs) (hi : i + 7 ≤ L0) (hnk : n + 8 ≤ 601024 ∧ k + 48 ≤ 7293034) (hJ : JJ X) (kk : ∀ X2, JJ X2 → V p l e room_1 s m args below meth c w 7 (n + 8) (k + 48) Q 2148 [some (.ref b), some (.ref (w.2.1 0)), some (.ref (w.2.1 85)), some (.ref (w.2.1 116)), some (.int (nI i)), none, none] [] X2) : V p l e room_1 s m args below meth c w 7 n k Q 1113 [some (.ref b), some (.ref (w.2.1 0)), some (.ref (w.2.1 85)), some (.ref (w.2.1 116)), some (.int (nI i)), none, none] [] X := by
  obtain ⟨C, hD, hN, hX, hbl, hfar, hL⟩ := K
  obtain ⟨h, D, no, Dd, Ro, dr, PP, Z, Th, hJ⟩ := hJ
  refine V_aload_n C dL_law_1113 rfl ?_
  refine V_arg (i := i) (j := 1) C hX hbl hfar hL rfl rfl (by omega) dL_law_1114 dL_law_1115 (fun kk => V_iconst (v := nI 1) C dL_law_1117 (by decide) kk) dL_law_1118 dL_law_1119 ?_
  refine V_aload_n C dL_law_1120 rfl ?_
  refine V_lcallS (na := 3) C hD hN [.ref (w.2.1 0), .int (xs (i + 1)), .ref (w.2.1 116)] (tb_i 774 (by decide +kernel) (by decide +kernel)) (tb_i 776 (by decide +kernel) (by decide +kernel)) (tb_i 59 (by decide +kernel) (by decide +kernel)) (by decide +kernel) (tb_i 775 (by decide +kernel) (by decide +kernel)) (k_L_withdraw w l (xs (i + 1)) X Ro (cntT Th Ro) hJ.2.2.2.1.1.2.1 hJ.2.2.2.1.1.1 hJ.2.2.2.1.2.2.1) dL_law_1121 rfl rfl (Nat.le_of_ble_eq_true rfl) (Nat.le_of_ble_eq_true rfl) (Nat.le_of_ble_eq_true rfl) ⟨by show _ ≤ 601024; omega, by show _ ≤ 7293034; omega⟩ (fun r X1 q1 => ?_)
  have kM := km_withdraw q1
  have hM := JM_k kM hJ.jm
  refine V_istore (ls1 := [some (.ref b), some (.ref (w.2.1 0)), some (.ref (w.2.1 85)), some (.ref (w.2.1 116)), some (.int (nI i)), some (.int r), none]) C dL_law_1124 (by decide) rfl ?_
  refine V_aload_n C dL_law_1126 rfl ?_
  refine V_arg (i := i) (j := 1) C hX hbl hfar hL rfl rfl (by omega) dL_law_1127 dL_law_1128 (fun kk => V_iconst (v := nI 1) C dL_law_1130 (by decide) kk) dL_law_1131 dL_law_1132 ?_
  refine V_callVI C [.int (xs (i + 1))] mi_L_161 (k_X10_withdraw w l (xs (i + 1)) X1 Ro hM.2.2.2.1.2.1 hJ.2.2.2.1.1.1) dL_law_1133 sh_85 (by decide) rfl rfl rfl (Nat.le_of_ble_eq_true rfl) (Nat.le_of_ble_eq_true rfl) (Nat.le_of_ble_eq_true rfl) ⟨by show _ ≤ 601024; omega, by show _ ≤ 7293034; omega⟩ (fun b2 X2 q2 => ?_)
  obtain ⟨g1, g2, hj3⟩ := pr_withdraw hJ q1 q2 kM
  refine V_istore (ls1 := [some (.ref b), some (.ref (w.2.1 0)), some (.ref (w.2.1 85)), some (.ref (w.2.1 116)), some (.int (nI i)), some (.int r), some (.int b2)]) C dL_law_1136 (by decide) rfl ?_
  refine V_aload_n C dL_law_1138 rfl ?_
  refine V_callVI C [] mi_L_115 (k_X10_thrown w l X2) dL_law_1139 sh_85 (by decide) rfl rfl rfl (Nat.le_of_ble_eq_true rfl) (Nat.le_of_ble_eq_true rfl) (Nat.le_of_ble_eq_true rfl) ⟨by show _ ≤ 601024; omega, by show _ ≤ 7293034; omega⟩ (fun t X3 q3 => ?_)
  obtain ⟨et, eX3⟩ := q3
  subst eX3
  subst et
  refine V_iload C dL_law_1142 rfl ?_
  refine V_icmp_eq (tgt := 1149) C dL_law_1144 (by decide) (fun _ => ?_) (fun hne => absurd g1 hne)
  refine V_iload C dL_law_1149 rfl ?_
  refine V_if_ne (x := r) (tgt := 1166) C dL_law_1151 (by decide) (fun hr => ?_) (fun hr => ?_)
  · refine V_goto (tgt := 2148) C dL_law_1166 (by decide) ?_
    refine V_kill (i := 5) (ls1 := [some (.ref b), some (.ref (w.2.1 0)), some (.ref (w.2.1 85)), some (.ref (w.2.1 116)), some (.int (nI i)), none, some (.int b2)]) rfl ?_
    refine V_kill (i := 6) (ls1 := [some (.ref b), some (.ref (w.2.1 0)), some (.ref (w.2.1 85)), some (.ref (w.2.1 116)), some (.int (nI i)), none, none]) rfl ?_
    exact V_widen (n' := n + 8) (k' := k + 48) (by omega) (by omega) (kk _ hj3)
  · refine V_aload_n C dL_law_1154 rfl ?_
    refine V_iconst (v := (0 : Int32)) C dL_law_1155 (by decide) ?_
    refine V_laload0 C dL_law_1156 ?_
    refine V_iload C dL_law_1157 rfl ?_
    refine V_i2l C dL_law_1159 ?_
    refine V_lcmp C dL_law_1160 (fun cmp hcmp => ?_)
    refine V_if_eq (x := cmp) (tgt := 1166) C dL_law_1161 (by decide) (fun _ => ?_) (fun hne => absurd (hcmp.mpr (g2 hr)) hne)
    refine V_goto (tgt := 2148) C dL_law_1166 (by decide) ?_
    refine V_kill (i := 5) (ls1 := [some (.ref b), some (.ref (w.2.1 0)), some (.ref (w.2.1 85)), some (.ref (w.2.1 116)), some (.int (nI i)), none, some (.int b2)]) rfl ?_
    refine V_kill (i := 6) (ls1 := [some (.ref b), some (.ref (w.2.1 0)), some (.ref (w.2.1 85)), some (.ref (w.2.1 116)), some (.int (nI i)), none, none]) rfl ?_
    exact V_widen (n' := n + 8) (k' := k + 48) (by omega) (by omega) (kk _ hj3)
set_option maxHeartbeats 4000000 in
set_option maxRecDepth 100000 in
theorem law_tie (K : LawC p l s m args meth c w b L0 xs) (hi : i + 7 ≤ L0) (hnk : n + 8 ≤ 601024 ∧ k + 48 ≤ 7293034) (hJ : JJ X) (kk : ∀ X2, JJ X2 → V p l e room_1 s m args below meth c w 7 (n + 8) (k + 48) Q 2148 [some (.ref b), some (.ref (w.2.1 0)), some (.ref (w.2.1 85)), some (.ref (w.2.1 116)), some (.int (nI i)), none, none] [] X2) : V p l e room_1 s m args below meth c w 7 n k Q 1169 [some (.ref b), some (.ref (w.2.1 0)), some (.ref (w.2.1 85)), some (.ref (w.2.1 116)), some (.int (nI i)), none, none] [] X := by
  obtain ⟨C, hD, hN, hX, hbl, hfar, hL⟩ := K
  obtain ⟨h, D, no, Dd, Ro, dr, PP, Z, Th, hJ⟩ := hJ
  refine V_aload_n C dL_law_1169 rfl ?_
  refine V_arg (i := i) (j := 1) C hX hbl hfar hL rfl rfl (by omega) dL_law_1170 dL_law_1171 (fun kk => V_iconst (v := nI 1) C dL_law_1173 (by decide) kk) dL_law_1174 dL_law_1175 ?_
  refine V_arg (i := i) (j := 2) C hX hbl hfar hL rfl rfl (by omega) dL_law_1176 dL_law_1177 (fun kk => V_iconst (v := nI 2) C dL_law_1179 (by decide) kk) dL_law_1180 dL_law_1181 ?_
  refine V_arg (i := i) (j := 3) C hX hbl hfar hL rfl rfl (by omega) dL_law_1182 dL_law_1183 (fun kk => V_iconst (v := nI 3) C dL_law_1185 (by decide) kk) dL_law_1186 dL_law_1187 ?_
  refine V_aload_n C dL_law_1188 rfl ?_
  refine V_lcallS (na := 5) C hD hN [.ref (w.2.1 0), .int (xs (i + 1)), .int (xs (i + 2)), .int (xs (i + 3)), .ref (w.2.1 116)] (tb_i 783 (by decide +kernel) (by decide +kernel)) (tb_i 785 (by decide +kernel) (by decide +kernel)) (tb_i 59 (by decide +kernel) (by decide +kernel)) (by decide +kernel) (tb_i 784 (by decide +kernel) (by decide +kernel)) (k_L_tie w l (xs (i + 1)) (xs (i + 2)) (xs (i + 3)) X) dL_law_1189 rfl rfl (Nat.le_of_ble_eq_true rfl) (Nat.le_of_ble_eq_true rfl) (Nat.le_of_ble_eq_true rfl) ⟨by show _ ≤ 601024; omega, by show _ ≤ 7293034; omega⟩ (fun r X1 q1 => ?_)
  have kM := km_tie q1
  have hM := JM_k kM hJ.jm
  refine V_istore (ls1 := [some (.ref b), some (.ref (w.2.1 0)), some (.ref (w.2.1 85)), some (.ref (w.2.1 116)), some (.int (nI i)), some (.int r), none]) C dL_law_1192 (by decide) rfl ?_
  refine V_aload_n C dL_law_1194 rfl ?_
  refine V_arg (i := i) (j := 1) C hX hbl hfar hL rfl rfl (by omega) dL_law_1195 dL_law_1196 (fun kk => V_iconst (v := nI 1) C dL_law_1198 (by decide) kk) dL_law_1199 dL_law_1200 ?_
  refine V_arg (i := i) (j := 2) C hX hbl hfar hL rfl rfl (by omega) dL_law_1201 dL_law_1202 (fun kk => V_iconst (v := nI 2) C dL_law_1204 (by decide) kk) dL_law_1205 dL_law_1206 ?_
  refine V_arg (i := i) (j := 3) C hX hbl hfar hL rfl rfl (by omega) dL_law_1207 dL_law_1208 (fun kk => V_iconst (v := nI 3) C dL_law_1210 (by decide) kk) dL_law_1211 dL_law_1212 ?_
  refine V_callVI C [.int (xs (i + 1)), .int (xs (i + 2)), .int (xs (i + 3))] mi_L_165 (k_X10_tie w l (xs (i + 1)) (xs (i + 2)) (xs (i + 3)) X1) dL_law_1213 sh_85 (by decide) rfl rfl rfl (Nat.le_of_ble_eq_true rfl) (Nat.le_of_ble_eq_true rfl) (Nat.le_of_ble_eq_true rfl) ⟨by show _ ≤ 601024; omega, by show _ ≤ 7293034; omega⟩ (fun b2 X2 q2 => ?_)
  obtain ⟨g1, g2, hj3⟩ := pr_tie hJ q1 q2 kM
  refine V_istore (ls1 := [some (.ref b), some (.ref (w.2.1 0)), some (.ref (w.2.1 85)), some (.ref (w.2.1 116)), some (.int (nI i)), some (.int r), some (.int b2)]) C dL_law_1216 (by decide) rfl ?_
  refine V_aload_n C dL_law_1218 rfl ?_
  refine V_callVI C [] mi_L_115 (k_X10_thrown w l X2) dL_law_1219 sh_85 (by decide) rfl rfl rfl (Nat.le_of_ble_eq_true rfl) (Nat.le_of_ble_eq_true rfl) (Nat.le_of_ble_eq_true rfl) ⟨by show _ ≤ 601024; omega, by show _ ≤ 7293034; omega⟩ (fun t X3 q3 => ?_)
  obtain ⟨et, eX3⟩ := q3
  subst eX3
  subst et
  refine V_iload C dL_law_1222 rfl ?_
  refine V_icmp_eq (tgt := 1229) C dL_law_1224 (by decide) (fun _ => ?_) (fun hne => absurd g1 hne)
  refine V_iload C dL_law_1229 rfl ?_
  refine V_if_ne (x := r) (tgt := 1246) C dL_law_1231 (by decide) (fun hr => ?_) (fun hr => ?_)
  · refine V_goto (tgt := 2148) C dL_law_1246 (by decide) ?_
    refine V_kill (i := 5) (ls1 := [some (.ref b), some (.ref (w.2.1 0)), some (.ref (w.2.1 85)), some (.ref (w.2.1 116)), some (.int (nI i)), none, some (.int b2)]) rfl ?_
    refine V_kill (i := 6) (ls1 := [some (.ref b), some (.ref (w.2.1 0)), some (.ref (w.2.1 85)), some (.ref (w.2.1 116)), some (.int (nI i)), none, none]) rfl ?_
    exact V_widen (n' := n + 8) (k' := k + 48) (by omega) (by omega) (kk _ hj3)
  · refine V_aload_n C dL_law_1234 rfl ?_
    refine V_iconst (v := (0 : Int32)) C dL_law_1235 (by decide) ?_
    refine V_laload0 C dL_law_1236 ?_
    refine V_iload C dL_law_1237 rfl ?_
    refine V_i2l C dL_law_1239 ?_
    refine V_lcmp C dL_law_1240 (fun cmp hcmp => ?_)
    refine V_if_eq (x := cmp) (tgt := 1246) C dL_law_1241 (by decide) (fun _ => ?_) (fun hne => absurd (hcmp.mpr (g2 hr)) hne)
    refine V_goto (tgt := 2148) C dL_law_1246 (by decide) ?_
    refine V_kill (i := 5) (ls1 := [some (.ref b), some (.ref (w.2.1 0)), some (.ref (w.2.1 85)), some (.ref (w.2.1 116)), some (.int (nI i)), none, some (.int b2)]) rfl ?_
    refine V_kill (i := 6) (ls1 := [some (.ref b), some (.ref (w.2.1 0)), some (.ref (w.2.1 85)), some (.ref (w.2.1 116)), some (.int (nI i)), none, none]) rfl ?_
    exact V_widen (n' := n + 8) (k' := k + 48) (by omega) (by omega) (kk _ hj3)
set_option maxHeartbeats 4000000 in
set_option maxRecDepth 100000 in
theorem law_today (K : LawC p l s m args meth c w b L0 xs) (hi : i + 7 ≤ L0) (hnk : n + 8 ≤ 601024 ∧ k + 48 ≤ 7293034) (hJ : JJ X) (kk : ∀ X2, JJ X2 → V p l e room_1 s m args below meth c w 7 (n + 8) (k + 48) Q 2148 [some (.ref b), some (.ref (w.2.1 0)), some (.ref (w.2.1 85)), some (.ref (w.2.1 116)), some (.int (nI i)), none, none] [] X2) : V p l e room_1 s m args below meth c w 7 n k Q 1249 [some (.ref b), some (.ref (w.2.1 0)), some (.ref (w.2.1 85)), some (.ref (w.2.1 116)), some (.int (nI i)), none, none] [] X := by
  obtain ⟨C, hD, hN, hX, hbl, hfar, hL⟩ := K
  obtain ⟨h, D, no, Dd, Ro, dr, PP, Z, Th, hJ⟩ := hJ
  refine V_aload_n C dL_law_1249 rfl ?_
  refine V_callVI C [] mi_L_166 (k_X9_today w l X) dL_law_1250 sh_0 (by decide) rfl rfl rfl (Nat.le_of_ble_eq_true rfl) (Nat.le_of_ble_eq_true rfl) (Nat.le_of_ble_eq_true rfl) ⟨by show _ ≤ 601024; omega, by show _ ≤ 7293034; omega⟩ (fun a2 X1 q1 => ?_)
  refine V_aload_n C dL_law_1253 rfl ?_
  have kM := kd_today q1
  have hM := JM_k kM hJ.jm
  refine V_callVI C [] mi_L_169 (k_X10_today w l X1) dL_law_1254 sh_85 (by decide) rfl rfl rfl (Nat.le_of_ble_eq_true rfl) (Nat.le_of_ble_eq_true rfl) (Nat.le_of_ble_eq_true rfl) ⟨by show _ ≤ 601024; omega, by show _ ≤ 7293034; omega⟩ (fun b2 X2 q2 => ?_)
  obtain ⟨g1, hj3⟩ := pr_today hJ q1 q2
  refine V_icmp_eq (tgt := 2148) C dL_law_1257 (by decide) (fun _ => ?_) (fun hne => absurd g1 hne)
  exact V_widen (n' := n + 8) (k' := k + 48) (by omega) (by omega) (kk _ hj3)
set_option maxHeartbeats 4000000 in
set_option maxRecDepth 100000 in
theorem law_objects (K : LawC p l s m args meth c w b L0 xs) (hi : i + 7 ≤ L0) (hnk : n + 8 ≤ 601024 ∧ k + 48 ≤ 7293034) (hJ : JJ X) (kk : ∀ X2, JJ X2 → V p l e room_1 s m args below meth c w 7 (n + 8) (k + 48) Q 2148 [some (.ref b), some (.ref (w.2.1 0)), some (.ref (w.2.1 85)), some (.ref (w.2.1 116)), some (.int (nI i)), none, none] [] X2) : V p l e room_1 s m args below meth c w 7 n k Q 1262 [some (.ref b), some (.ref (w.2.1 0)), some (.ref (w.2.1 85)), some (.ref (w.2.1 116)), some (.int (nI i)), none, none] [] X := by
  obtain ⟨C, hD, hN, hX, hbl, hfar, hL⟩ := K
  obtain ⟨h, D, no, Dd, Ro, dr, PP, Z, Th, hJ⟩ := hJ
  refine V_aload_n C dL_law_1262 rfl ?_
  refine V_callVI C [] mi_L_170 (k_X9_objects w l X) dL_law_1263 sh_0 (by decide) rfl rfl rfl (Nat.le_of_ble_eq_true rfl) (Nat.le_of_ble_eq_true rfl) (Nat.le_of_ble_eq_true rfl) ⟨by show _ ≤ 601024; omega, by show _ ≤ 7293034; omega⟩ (fun a2 X1 q1 => ?_)
  refine V_aload_n C dL_law_1266 rfl ?_
  have kM := kd_objects q1
  have hM := JM_k kM hJ.jm
  refine V_callVI C [] mi_L_173 (k_X10_objects w l X1) dL_law_1267 sh_85 (by decide) rfl rfl rfl (Nat.le_of_ble_eq_true rfl) (Nat.le_of_ble_eq_true rfl) (Nat.le_of_ble_eq_true rfl) ⟨by show _ ≤ 601024; omega, by show _ ≤ 7293034; omega⟩ (fun b2 X2 q2 => ?_)
  obtain ⟨g1, hj3⟩ := pr_objects hJ q1 q2
  refine V_icmp_eq (tgt := 2148) C dL_law_1270 (by decide) (fun _ => ?_) (fun hne => absurd g1 hne)
  exact V_widen (n' := n + 8) (k' := k + 48) (by omega) (by omega) (kk _ hj3)
set_option maxHeartbeats 4000000 in
set_option maxRecDepth 100000 in
theorem law_judged (K : LawC p l s m args meth c w b L0 xs) (hi : i + 7 ≤ L0) (hnk : n + 8 ≤ 601024 ∧ k + 48 ≤ 7293034) (hJ : JJ X) (kk : ∀ X2, JJ X2 → V p l e room_1 s m args below meth c w 7 (n + 8) (k + 48) Q 2148 [some (.ref b), some (.ref (w.2.1 0)), some (.ref (w.2.1 85)), some (.ref (w.2.1 116)), some (.int (nI i)), none, none] [] X2) : V p l e room_1 s m args below meth c w 7 n k Q 1275 [some (.ref b), some (.ref (w.2.1 0)), some (.ref (w.2.1 85)), some (.ref (w.2.1 116)), some (.int (nI i)), none, none] [] X := by
  obtain ⟨C, hD, hN, hX, hbl, hfar, hL⟩ := K
  obtain ⟨h, D, no, Dd, Ro, dr, PP, Z, Th, hJ⟩ := hJ
  refine V_aload_n C dL_law_1275 rfl ?_
  refine V_arg (i := i) (j := 1) C hX hbl hfar hL rfl rfl (by omega) dL_law_1276 dL_law_1277 (fun kk => V_iconst (v := nI 1) C dL_law_1279 (by decide) kk) dL_law_1280 dL_law_1281 ?_
  refine V_aload_n C dL_law_1282 rfl ?_
  refine V_lcallS (na := 3) C hD hN [.ref (w.2.1 0), .int (xs (i + 1)), .ref (w.2.1 116)] (tb_i 799 (by decide +kernel) (by decide +kernel)) (tb_i 801 (by decide +kernel) (by decide +kernel)) (tb_i 59 (by decide +kernel) (by decide +kernel)) (by decide +kernel) (tb_i 800 (by decide +kernel) (by decide +kernel)) (k_L_judged w l (xs (i + 1)) X h no hJ.2.1.2.1 hJ.1.2.2.2.1 hJ.2.1.1 hJ.1.2.2.1) dL_law_1283 rfl rfl (Nat.le_of_ble_eq_true rfl) (Nat.le_of_ble_eq_true rfl) (Nat.le_of_ble_eq_true rfl) ⟨by show _ ≤ 601024; omega, by show _ ≤ 7293034; omega⟩ (fun r X1 q1 => ?_)
  have kM := km_judged q1
  have hM := JM_k kM hJ.jm
  refine V_istore (ls1 := [some (.ref b), some (.ref (w.2.1 0)), some (.ref (w.2.1 85)), some (.ref (w.2.1 116)), some (.int (nI i)), some (.int r), none]) C dL_law_1286 (by decide) rfl ?_
  refine V_aload_n C dL_law_1288 rfl ?_
  refine V_arg (i := i) (j := 1) C hX hbl hfar hL rfl rfl (by omega) dL_law_1289 dL_law_1290 (fun kk => V_iconst (v := nI 1) C dL_law_1292 (by decide) kk) dL_law_1293 dL_law_1294 ?_
  refine V_callVI C [.int (xs (i + 1))] mi_L_176 (k_X10_judged w l (xs (i + 1)) X1 h no hM.2.1.1 hM.1.1 hM.2.1.2 hM.1.2.2) dL_law_1295 sh_85 (by decide) rfl rfl rfl (Nat.le_of_ble_eq_true rfl) (Nat.le_of_ble_eq_true rfl) (Nat.le_of_ble_eq_true rfl) ⟨by show _ ≤ 601024; omega, by show _ ≤ 7293034; omega⟩ (fun b2 X2 q2 => ?_)
  obtain ⟨g1, g2, hj3⟩ := pr_judged hJ q1 q2
  refine V_istore (ls1 := [some (.ref b), some (.ref (w.2.1 0)), some (.ref (w.2.1 85)), some (.ref (w.2.1 116)), some (.int (nI i)), some (.int r), some (.int b2)]) C dL_law_1298 (by decide) rfl ?_
  refine V_aload_n C dL_law_1300 rfl ?_
  refine V_callVI C [] mi_L_115 (k_X10_thrown w l X2) dL_law_1301 sh_85 (by decide) rfl rfl rfl (Nat.le_of_ble_eq_true rfl) (Nat.le_of_ble_eq_true rfl) (Nat.le_of_ble_eq_true rfl) ⟨by show _ ≤ 601024; omega, by show _ ≤ 7293034; omega⟩ (fun t X3 q3 => ?_)
  obtain ⟨et, eX3⟩ := q3
  subst eX3
  subst et
  refine V_iload C dL_law_1304 rfl ?_
  refine V_icmp_eq (tgt := 1311) C dL_law_1306 (by decide) (fun _ => ?_) (fun hne => absurd g1 hne)
  refine V_iload C dL_law_1311 rfl ?_
  refine V_if_ne (x := r) (tgt := 1328) C dL_law_1313 (by decide) (fun hr => ?_) (fun hr => ?_)
  · refine V_goto (tgt := 2148) C dL_law_1328 (by decide) ?_
    refine V_kill (i := 5) (ls1 := [some (.ref b), some (.ref (w.2.1 0)), some (.ref (w.2.1 85)), some (.ref (w.2.1 116)), some (.int (nI i)), none, some (.int b2)]) rfl ?_
    refine V_kill (i := 6) (ls1 := [some (.ref b), some (.ref (w.2.1 0)), some (.ref (w.2.1 85)), some (.ref (w.2.1 116)), some (.int (nI i)), none, none]) rfl ?_
    exact V_widen (n' := n + 8) (k' := k + 48) (by omega) (by omega) (kk _ hj3)
  · refine V_aload_n C dL_law_1316 rfl ?_
    refine V_iconst (v := (0 : Int32)) C dL_law_1317 (by decide) ?_
    refine V_laload0 C dL_law_1318 ?_
    refine V_iload C dL_law_1319 rfl ?_
    refine V_i2l C dL_law_1321 ?_
    refine V_lcmp C dL_law_1322 (fun cmp hcmp => ?_)
    refine V_if_eq (x := cmp) (tgt := 1328) C dL_law_1323 (by decide) (fun _ => ?_) (fun hne => absurd (hcmp.mpr (g2 hr)) hne)
    refine V_goto (tgt := 2148) C dL_law_1328 (by decide) ?_
    refine V_kill (i := 5) (ls1 := [some (.ref b), some (.ref (w.2.1 0)), some (.ref (w.2.1 85)), some (.ref (w.2.1 116)), some (.int (nI i)), none, some (.int b2)]) rfl ?_
    refine V_kill (i := 6) (ls1 := [some (.ref b), some (.ref (w.2.1 0)), some (.ref (w.2.1 85)), some (.ref (w.2.1 116)), some (.int (nI i)), none, none]) rfl ?_
    exact V_widen (n' := n + 8) (k' := k + 48) (by omega) (by omega) (kk _ hj3)
set_option maxHeartbeats 4000000 in
set_option maxRecDepth 100000 in
theorem law_has (K : LawC p l s m args meth c w b L0 xs) (hi : i + 7 ≤ L0) (hnk : n + 8 ≤ 601024 ∧ k + 48 ≤ 7293034) (hJ : JJ X) (kk : ∀ X2, JJ X2 → V p l e room_1 s m args below meth c w 7 (n + 8) (k + 48) Q 2148 [some (.ref b), some (.ref (w.2.1 0)), some (.ref (w.2.1 85)), some (.ref (w.2.1 116)), some (.int (nI i)), none, none] [] X2) : V p l e room_1 s m args below meth c w 7 n k Q 1331 [some (.ref b), some (.ref (w.2.1 0)), some (.ref (w.2.1 85)), some (.ref (w.2.1 116)), some (.int (nI i)), none, none] [] X := by
  obtain ⟨C, hD, hN, hX, hbl, hfar, hL⟩ := K
  obtain ⟨h, D, no, Dd, Ro, dr, PP, Z, Th, hJ⟩ := hJ
  refine V_aload_n C dL_law_1331 rfl ?_
  refine V_arg (i := i) (j := 1) C hX hbl hfar hL rfl rfl (by omega) dL_law_1332 dL_law_1333 (fun kk => V_iconst (v := nI 1) C dL_law_1335 (by decide) kk) dL_law_1336 dL_law_1337 ?_
  refine V_arg (i := i) (j := 2) C hX hbl hfar hL rfl rfl (by omega) dL_law_1338 dL_law_1339 (fun kk => V_iconst (v := nI 2) C dL_law_1341 (by decide) kk) dL_law_1342 dL_law_1343 ?_
  refine V_arg (i := i) (j := 3) C hX hbl hfar hL rfl rfl (by omega) dL_law_1344 dL_law_1345 (fun kk => V_iconst (v := nI 3) C dL_law_1347 (by decide) kk) dL_law_1348 dL_law_1349 ?_
  refine V_aload_n C dL_law_1350 rfl ?_
  refine V_lcallS (na := 5) C hD hN [.ref (w.2.1 0), .int (xs (i + 1)), .int (xs (i + 2)), .int (xs (i + 3)), .ref (w.2.1 116)] (tb_i 806 (by decide +kernel) (by decide +kernel)) (tb_i 808 (by decide +kernel) (by decide +kernel)) (tb_i 59 (by decide +kernel) (by decide +kernel)) (by decide +kernel) (tb_i 807 (by decide +kernel) (by decide +kernel)) (k_L_has w l (xs (i + 1)) (xs (i + 2)) (xs (i + 3)) X h no hJ.2.1.2.1 hJ.1.2.2.2.1 hJ.2.1.1 hJ.1.2.2.1) dL_law_1351 rfl rfl (Nat.le_of_ble_eq_true rfl) (Nat.le_of_ble_eq_true rfl) (Nat.le_of_ble_eq_true rfl) ⟨by show _ ≤ 601024; omega, by show _ ≤ 7293034; omega⟩ (fun r X1 q1 => ?_)
  have kM := km_has q1
  have hM := JM_k kM hJ.jm
  refine V_istore (ls1 := [some (.ref b), some (.ref (w.2.1 0)), some (.ref (w.2.1 85)), some (.ref (w.2.1 116)), some (.int (nI i)), some (.int r), none]) C dL_law_1354 (by decide) rfl ?_
  refine V_aload_n C dL_law_1356 rfl ?_
  refine V_arg (i := i) (j := 1) C hX hbl hfar hL rfl rfl (by omega) dL_law_1357 dL_law_1358 (fun kk => V_iconst (v := nI 1) C dL_law_1360 (by decide) kk) dL_law_1361 dL_law_1362 ?_
  refine V_arg (i := i) (j := 2) C hX hbl hfar hL rfl rfl (by omega) dL_law_1363 dL_law_1364 (fun kk => V_iconst (v := nI 2) C dL_law_1366 (by decide) kk) dL_law_1367 dL_law_1368 ?_
  refine V_arg (i := i) (j := 3) C hX hbl hfar hL rfl rfl (by omega) dL_law_1369 dL_law_1370 (fun kk => V_iconst (v := nI 3) C dL_law_1372 (by decide) kk) dL_law_1373 dL_law_1374 ?_
  refine V_callVI C [.int (xs (i + 1)), .int (xs (i + 2)), .int (xs (i + 3))] mi_L_179 (k_X10_has w l (xs (i + 1)) (xs (i + 2)) (xs (i + 3)) X1 h no hM.2.1.1 hM.1.1 hM.2.1.2 hM.1.2.2) dL_law_1375 sh_85 (by decide) rfl rfl rfl (Nat.le_of_ble_eq_true rfl) (Nat.le_of_ble_eq_true rfl) (Nat.le_of_ble_eq_true rfl) ⟨by show _ ≤ 601024; omega, by show _ ≤ 7293034; omega⟩ (fun b2 X2 q2 => ?_)
  obtain ⟨g1, g2, hj3⟩ := pr_has hJ q1 q2
  refine V_istore (ls1 := [some (.ref b), some (.ref (w.2.1 0)), some (.ref (w.2.1 85)), some (.ref (w.2.1 116)), some (.int (nI i)), some (.int r), some (.int b2)]) C dL_law_1378 (by decide) rfl ?_
  refine V_aload_n C dL_law_1380 rfl ?_
  refine V_callVI C [] mi_L_115 (k_X10_thrown w l X2) dL_law_1381 sh_85 (by decide) rfl rfl rfl (Nat.le_of_ble_eq_true rfl) (Nat.le_of_ble_eq_true rfl) (Nat.le_of_ble_eq_true rfl) ⟨by show _ ≤ 601024; omega, by show _ ≤ 7293034; omega⟩ (fun t X3 q3 => ?_)
  obtain ⟨et, eX3⟩ := q3
  subst eX3
  subst et
  refine V_iload C dL_law_1384 rfl ?_
  refine V_icmp_eq (tgt := 1391) C dL_law_1386 (by decide) (fun _ => ?_) (fun hne => absurd g1 hne)
  refine V_iload C dL_law_1391 rfl ?_
  refine V_if_ne (x := r) (tgt := 1415) C dL_law_1393 (by decide) (fun hr => ?_) (fun hr => ?_)
  · refine V_goto (tgt := 2148) C dL_law_1415 (by decide) ?_
    refine V_kill (i := 5) (ls1 := [some (.ref b), some (.ref (w.2.1 0)), some (.ref (w.2.1 85)), some (.ref (w.2.1 116)), some (.int (nI i)), none, some (.int b2)]) rfl ?_
    refine V_kill (i := 6) (ls1 := [some (.ref b), some (.ref (w.2.1 0)), some (.ref (w.2.1 85)), some (.ref (w.2.1 116)), some (.int (nI i)), none, none]) rfl ?_
    exact V_widen (n' := n + 8) (k' := k + 48) (by omega) (by omega) (kk _ hj3)
  · refine V_aload_n C dL_law_1396 rfl ?_
    refine V_iconst (v := (0 : Int32)) C dL_law_1397 (by decide) ?_
    refine V_laload0 C dL_law_1398 ?_
    refine V_iload C dL_law_1399 rfl ?_
    refine V_if_eq (x := b2) (tgt := 1408) C dL_law_1401 (by decide) (fun hb => ?_) (fun hb => ?_)
    · refine V_lconst C (0 : Int32) dL_law_1408 (by decide) ?_
      refine V_lcmp C dL_law_1409 (fun cmp hcmp => ?_)
      refine V_if_eq (x := cmp) (tgt := 1415) C dL_law_1410 (by decide) (fun _ => ?_) (fun hne => absurd (hcmp.mpr (by rw [g2 hr, if_pos hb])) hne)
      refine V_goto (tgt := 2148) C dL_law_1415 (by decide) ?_
      refine V_kill (i := 5) (ls1 := [some (.ref b), some (.ref (w.2.1 0)), some (.ref (w.2.1 85)), some (.ref (w.2.1 116)), some (.int (nI i)), none, some (.int b2)]) rfl ?_
      refine V_kill (i := 6) (ls1 := [some (.ref b), some (.ref (w.2.1 0)), some (.ref (w.2.1 85)), some (.ref (w.2.1 116)), some (.int (nI i)), none, none]) rfl ?_
      exact V_widen (n' := n + 8) (k' := k + 48) (by omega) (by omega) (kk _ hj3)
    · refine V_lconst C (1 : Int32) dL_law_1404 (by decide) ?_
      refine V_goto (tgt := 1409) C dL_law_1405 (by decide) ?_
      refine V_lcmp C dL_law_1409 (fun cmp hcmp => ?_)
      refine V_if_eq (x := cmp) (tgt := 1415) C dL_law_1410 (by decide) (fun _ => ?_) (fun hne => absurd (hcmp.mpr (by rw [g2 hr, if_neg hb])) hne)
      refine V_goto (tgt := 2148) C dL_law_1415 (by decide) ?_
      refine V_kill (i := 5) (ls1 := [some (.ref b), some (.ref (w.2.1 0)), some (.ref (w.2.1 85)), some (.ref (w.2.1 116)), some (.int (nI i)), none, some (.int b2)]) rfl ?_
      refine V_kill (i := 6) (ls1 := [some (.ref b), some (.ref (w.2.1 0)), some (.ref (w.2.1 85)), some (.ref (w.2.1 116)), some (.int (nI i)), none, none]) rfl ?_
      exact V_widen (n' := n + 8) (k' := k + 48) (by omega) (by omega) (kk _ hj3)
set_option maxHeartbeats 4000000 in
set_option maxRecDepth 100000 in
theorem law_hasByChains (K : LawC p l s m args meth c w b L0 xs) (hi : i + 7 ≤ L0) (hnk : n + 8 ≤ 601024 ∧ k + 48 ≤ 7293034) (hJ : JJ X) (kk : ∀ X2, JJ X2 → V p l e room_1 s m args below meth c w 7 (n + 8) (k + 48) Q 2148 [some (.ref b), some (.ref (w.2.1 0)), some (.ref (w.2.1 85)), some (.ref (w.2.1 116)), some (.int (nI i)), none, none] [] X2) : V p l e room_1 s m args below meth c w 7 n k Q 1418 [some (.ref b), some (.ref (w.2.1 0)), some (.ref (w.2.1 85)), some (.ref (w.2.1 116)), some (.int (nI i)), none, none] [] X := by
  obtain ⟨C, hD, hN, hX, hbl, hfar, hL⟩ := K
  obtain ⟨h, D, no, Dd, Ro, dr, PP, Z, Th, hJ⟩ := hJ
  refine V_aload_n C dL_law_1418 rfl ?_
  refine V_arg (i := i) (j := 1) C hX hbl hfar hL rfl rfl (by omega) dL_law_1419 dL_law_1420 (fun kk => V_iconst (v := nI 1) C dL_law_1422 (by decide) kk) dL_law_1423 dL_law_1424 ?_
  refine V_arg (i := i) (j := 2) C hX hbl hfar hL rfl rfl (by omega) dL_law_1425 dL_law_1426 (fun kk => V_iconst (v := nI 2) C dL_law_1428 (by decide) kk) dL_law_1429 dL_law_1430 ?_
  refine V_arg (i := i) (j := 3) C hX hbl hfar hL rfl rfl (by omega) dL_law_1431 dL_law_1432 (fun kk => V_iconst (v := nI 3) C dL_law_1434 (by decide) kk) dL_law_1435 dL_law_1436 ?_
  refine V_aload_n C dL_law_1437 rfl ?_
  refine V_lcallS (na := 5) C hD hN [.ref (w.2.1 0), .int (xs (i + 1)), .int (xs (i + 2)), .int (xs (i + 3)), .ref (w.2.1 116)] (tb_i 814 (by decide +kernel) (by decide +kernel)) (tb_i 816 (by decide +kernel) (by decide +kernel)) (tb_i 59 (by decide +kernel) (by decide +kernel)) (by decide +kernel) (tb_i 815 (by decide +kernel) (by decide +kernel)) (k_L_hasByChains w l (xs (i + 1)) (xs (i + 2)) (xs (i + 3)) X h no hJ.2.1.2.1 hJ.1.2.2.2.1 hJ.2.1.1 hJ.1.2.2.1) dL_law_1438 rfl rfl (Nat.le_of_ble_eq_true rfl) (Nat.le_of_ble_eq_true rfl) (Nat.le_of_ble_eq_true rfl) ⟨by show _ ≤ 601024; omega, by show _ ≤ 7293034; omega⟩ (fun r X1 q1 => ?_)
  have kM := km_hasByChains q1
  have hM := JM_k kM hJ.jm
  refine V_istore (ls1 := [some (.ref b), some (.ref (w.2.1 0)), some (.ref (w.2.1 85)), some (.ref (w.2.1 116)), some (.int (nI i)), some (.int r), none]) C dL_law_1441 (by decide) rfl ?_
  refine V_aload_n C dL_law_1443 rfl ?_
  refine V_arg (i := i) (j := 1) C hX hbl hfar hL rfl rfl (by omega) dL_law_1444 dL_law_1445 (fun kk => V_iconst (v := nI 1) C dL_law_1447 (by decide) kk) dL_law_1448 dL_law_1449 ?_
  refine V_arg (i := i) (j := 2) C hX hbl hfar hL rfl rfl (by omega) dL_law_1450 dL_law_1451 (fun kk => V_iconst (v := nI 2) C dL_law_1453 (by decide) kk) dL_law_1454 dL_law_1455 ?_
  refine V_arg (i := i) (j := 3) C hX hbl hfar hL rfl rfl (by omega) dL_law_1456 dL_law_1457 (fun kk => V_iconst (v := nI 3) C dL_law_1459 (by decide) kk) dL_law_1460 dL_law_1461 ?_
  refine V_callVI C [.int (xs (i + 1)), .int (xs (i + 2)), .int (xs (i + 3))] mi_L_182 (k_X10_hasByChains w l (xs (i + 1)) (xs (i + 2)) (xs (i + 3)) X1 h no hM.2.1.1 hM.1.1 hM.2.1.2 hM.1.2.2) dL_law_1462 sh_85 (by decide) rfl rfl rfl (Nat.le_of_ble_eq_true rfl) (Nat.le_of_ble_eq_true rfl) (Nat.le_of_ble_eq_true rfl) ⟨by show _ ≤ 601024; omega, by show _ ≤ 7293034; omega⟩ (fun b2 X2 q2 => ?_)
  obtain ⟨g1, g2, hj3⟩ := pr_hasByChains hJ q1 q2
  refine V_istore (ls1 := [some (.ref b), some (.ref (w.2.1 0)), some (.ref (w.2.1 85)), some (.ref (w.2.1 116)), some (.int (nI i)), some (.int r), some (.int b2)]) C dL_law_1465 (by decide) rfl ?_
  refine V_aload_n C dL_law_1467 rfl ?_
  refine V_callVI C [] mi_L_115 (k_X10_thrown w l X2) dL_law_1468 sh_85 (by decide) rfl rfl rfl (Nat.le_of_ble_eq_true rfl) (Nat.le_of_ble_eq_true rfl) (Nat.le_of_ble_eq_true rfl) ⟨by show _ ≤ 601024; omega, by show _ ≤ 7293034; omega⟩ (fun t X3 q3 => ?_)
  obtain ⟨et, eX3⟩ := q3
  subst eX3
  subst et
  refine V_iload C dL_law_1471 rfl ?_
  refine V_icmp_eq (tgt := 1478) C dL_law_1473 (by decide) (fun _ => ?_) (fun hne => absurd g1 hne)
  refine V_iload C dL_law_1478 rfl ?_
  refine V_if_ne (x := r) (tgt := 1502) C dL_law_1480 (by decide) (fun hr => ?_) (fun hr => ?_)
  · refine V_goto (tgt := 2148) C dL_law_1502 (by decide) ?_
    refine V_kill (i := 5) (ls1 := [some (.ref b), some (.ref (w.2.1 0)), some (.ref (w.2.1 85)), some (.ref (w.2.1 116)), some (.int (nI i)), none, some (.int b2)]) rfl ?_
    refine V_kill (i := 6) (ls1 := [some (.ref b), some (.ref (w.2.1 0)), some (.ref (w.2.1 85)), some (.ref (w.2.1 116)), some (.int (nI i)), none, none]) rfl ?_
    exact V_widen (n' := n + 8) (k' := k + 48) (by omega) (by omega) (kk _ hj3)
  · refine V_aload_n C dL_law_1483 rfl ?_
    refine V_iconst (v := (0 : Int32)) C dL_law_1484 (by decide) ?_
    refine V_laload0 C dL_law_1485 ?_
    refine V_iload C dL_law_1486 rfl ?_
    refine V_if_eq (x := b2) (tgt := 1495) C dL_law_1488 (by decide) (fun hb => ?_) (fun hb => ?_)
    · refine V_lconst C (0 : Int32) dL_law_1495 (by decide) ?_
      refine V_lcmp C dL_law_1496 (fun cmp hcmp => ?_)
      refine V_if_eq (x := cmp) (tgt := 1502) C dL_law_1497 (by decide) (fun _ => ?_) (fun hne => absurd (hcmp.mpr (by rw [g2 hr, if_pos hb])) hne)
      refine V_goto (tgt := 2148) C dL_law_1502 (by decide) ?_
      refine V_kill (i := 5) (ls1 := [some (.ref b), some (.ref (w.2.1 0)), some (.ref (w.2.1 85)), some (.ref (w.2.1 116)), some (.int (nI i)), none, some (.int b2)]) rfl ?_
      refine V_kill (i := 6) (ls1 := [some (.ref b), some (.ref (w.2.1 0)), some (.ref (w.2.1 85)), some (.ref (w.2.1 116)), some (.int (nI i)), none, none]) rfl ?_
      exact V_widen (n' := n + 8) (k' := k + 48) (by omega) (by omega) (kk _ hj3)
    · refine V_lconst C (1 : Int32) dL_law_1491 (by decide) ?_
      refine V_goto (tgt := 1496) C dL_law_1492 (by decide) ?_
      refine V_lcmp C dL_law_1496 (fun cmp hcmp => ?_)
      refine V_if_eq (x := cmp) (tgt := 1502) C dL_law_1497 (by decide) (fun _ => ?_) (fun hne => absurd (hcmp.mpr (by rw [g2 hr, if_neg hb])) hne)
      refine V_goto (tgt := 2148) C dL_law_1502 (by decide) ?_
      refine V_kill (i := 5) (ls1 := [some (.ref b), some (.ref (w.2.1 0)), some (.ref (w.2.1 85)), some (.ref (w.2.1 116)), some (.int (nI i)), none, some (.int b2)]) rfl ?_
      refine V_kill (i := 6) (ls1 := [some (.ref b), some (.ref (w.2.1 0)), some (.ref (w.2.1 85)), some (.ref (w.2.1 116)), some (.int (nI i)), none, none]) rfl ?_
      exact V_widen (n' := n + 8) (k' := k + 48) (by omega) (by omega) (kk _ hj3)
set_option maxHeartbeats 4000000 in
set_option maxRecDepth 100000 in
theorem law_state (K : LawC p l s m args meth c w b L0 xs) (hi : i + 7 ≤ L0) (hnk : n + 8 ≤ 601024 ∧ k + 48 ≤ 7293034) (hJ : JJ X) (kk : ∀ X2, JJ X2 → V p l e room_1 s m args below meth c w 7 (n + 8) (k + 48) Q 2148 [some (.ref b), some (.ref (w.2.1 0)), some (.ref (w.2.1 85)), some (.ref (w.2.1 116)), some (.int (nI i)), none, none] [] X2) : V p l e room_1 s m args below meth c w 7 n k Q 1505 [some (.ref b), some (.ref (w.2.1 0)), some (.ref (w.2.1 85)), some (.ref (w.2.1 116)), some (.int (nI i)), none, none] [] X := by
  obtain ⟨C, hD, hN, hX, hbl, hfar, hL⟩ := K
  obtain ⟨h, D, no, Dd, Ro, dr, PP, Z, Th, hJ⟩ := hJ
  refine V_aload_n C dL_law_1505 rfl ?_
  refine V_arg (i := i) (j := 1) C hX hbl hfar hL rfl rfl (by omega) dL_law_1506 dL_law_1507 (fun kk => V_iconst (v := nI 1) C dL_law_1509 (by decide) kk) dL_law_1510 dL_law_1511 ?_
  refine V_arg (i := i) (j := 2) C hX hbl hfar hL rfl rfl (by omega) dL_law_1512 dL_law_1513 (fun kk => V_iconst (v := nI 2) C dL_law_1515 (by decide) kk) dL_law_1516 dL_law_1517 ?_
  refine V_arg (i := i) (j := 3) C hX hbl hfar hL rfl rfl (by omega) dL_law_1518 dL_law_1519 (fun kk => V_iconst (v := nI 3) C dL_law_1521 (by decide) kk) dL_law_1522 dL_law_1523 ?_
  refine V_aload_n C dL_law_1524 rfl ?_
  refine V_lcallS (na := 5) C hD hN [.ref (w.2.1 0), .int (xs (i + 1)), .int (xs (i + 2)), .int (xs (i + 3)), .ref (w.2.1 116)] (tb_i 837 (by decide +kernel) (by decide +kernel)) (tb_i 839 (by decide +kernel) (by decide +kernel)) (tb_i 59 (by decide +kernel) (by decide +kernel)) (by decide +kernel) (tb_i 838 (by decide +kernel) (by decide +kernel)) (k_L_state w l (xs (i + 1)) (xs (i + 2)) (xs (i + 3)) X h no hJ.2.1.2.1 hJ.1.2.2.2.1 hJ.2.1.1 hJ.1.2.2.1) dL_law_1525 rfl rfl (Nat.le_of_ble_eq_true rfl) (Nat.le_of_ble_eq_true rfl) (Nat.le_of_ble_eq_true rfl) ⟨by show _ ≤ 601024; omega, by show _ ≤ 7293034; omega⟩ (fun r X1 q1 => ?_)
  have kM := km_state q1
  have hM := JM_k kM hJ.jm
  refine V_istore (ls1 := [some (.ref b), some (.ref (w.2.1 0)), some (.ref (w.2.1 85)), some (.ref (w.2.1 116)), some (.int (nI i)), some (.int r), none]) C dL_law_1528 (by decide) rfl ?_
  refine V_aload_n C dL_law_1530 rfl ?_
  refine V_arg (i := i) (j := 1) C hX hbl hfar hL rfl rfl (by omega) dL_law_1531 dL_law_1532 (fun kk => V_iconst (v := nI 1) C dL_law_1534 (by decide) kk) dL_law_1535 dL_law_1536 ?_
  refine V_arg (i := i) (j := 2) C hX hbl hfar hL rfl rfl (by omega) dL_law_1537 dL_law_1538 (fun kk => V_iconst (v := nI 2) C dL_law_1540 (by decide) kk) dL_law_1541 dL_law_1542 ?_
  refine V_arg (i := i) (j := 3) C hX hbl hfar hL rfl rfl (by omega) dL_law_1543 dL_law_1544 (fun kk => V_iconst (v := nI 3) C dL_law_1546 (by decide) kk) dL_law_1547 dL_law_1548 ?_
  refine V_callVI C [.int (xs (i + 1)), .int (xs (i + 2)), .int (xs (i + 3))] mi_L_185 (k_X10_state w l (xs (i + 1)) (xs (i + 2)) (xs (i + 3)) X1 h no hM.2.1.1 hM.1.1 hM.2.1.2 hM.1.2.2) dL_law_1549 sh_85 (by decide) rfl rfl rfl (Nat.le_of_ble_eq_true rfl) (Nat.le_of_ble_eq_true rfl) (Nat.le_of_ble_eq_true rfl) ⟨by show _ ≤ 601024; omega, by show _ ≤ 7293034; omega⟩ (fun b2 X2 q2 => ?_)
  obtain ⟨g1, g2, hj3⟩ := pr_state hJ q1 q2
  refine V_istore (ls1 := [some (.ref b), some (.ref (w.2.1 0)), some (.ref (w.2.1 85)), some (.ref (w.2.1 116)), some (.int (nI i)), some (.int r), some (.int b2)]) C dL_law_1552 (by decide) rfl ?_
  refine V_aload_n C dL_law_1554 rfl ?_
  refine V_callVI C [] mi_L_115 (k_X10_thrown w l X2) dL_law_1555 sh_85 (by decide) rfl rfl rfl (Nat.le_of_ble_eq_true rfl) (Nat.le_of_ble_eq_true rfl) (Nat.le_of_ble_eq_true rfl) ⟨by show _ ≤ 601024; omega, by show _ ≤ 7293034; omega⟩ (fun t X3 q3 => ?_)
  obtain ⟨et, eX3⟩ := q3
  subst eX3
  subst et
  refine V_iload C dL_law_1558 rfl ?_
  refine V_icmp_eq (tgt := 1565) C dL_law_1560 (by decide) (fun _ => ?_) (fun hne => absurd g1 hne)
  refine V_iload C dL_law_1565 rfl ?_
  refine V_if_ne (x := r) (tgt := 1582) C dL_law_1567 (by decide) (fun hr => ?_) (fun hr => ?_)
  · refine V_goto (tgt := 2148) C dL_law_1582 (by decide) ?_
    refine V_kill (i := 5) (ls1 := [some (.ref b), some (.ref (w.2.1 0)), some (.ref (w.2.1 85)), some (.ref (w.2.1 116)), some (.int (nI i)), none, some (.int b2)]) rfl ?_
    refine V_kill (i := 6) (ls1 := [some (.ref b), some (.ref (w.2.1 0)), some (.ref (w.2.1 85)), some (.ref (w.2.1 116)), some (.int (nI i)), none, none]) rfl ?_
    exact V_widen (n' := n + 8) (k' := k + 48) (by omega) (by omega) (kk _ hj3)
  · refine V_aload_n C dL_law_1570 rfl ?_
    refine V_iconst (v := (0 : Int32)) C dL_law_1571 (by decide) ?_
    refine V_laload0 C dL_law_1572 ?_
    refine V_iload C dL_law_1573 rfl ?_
    refine V_i2l C dL_law_1575 ?_
    refine V_lcmp C dL_law_1576 (fun cmp hcmp => ?_)
    refine V_if_eq (x := cmp) (tgt := 1582) C dL_law_1577 (by decide) (fun _ => ?_) (fun hne => absurd (hcmp.mpr (g2 hr)) hne)
    refine V_goto (tgt := 2148) C dL_law_1582 (by decide) ?_
    refine V_kill (i := 5) (ls1 := [some (.ref b), some (.ref (w.2.1 0)), some (.ref (w.2.1 85)), some (.ref (w.2.1 116)), some (.int (nI i)), none, some (.int b2)]) rfl ?_
    refine V_kill (i := 6) (ls1 := [some (.ref b), some (.ref (w.2.1 0)), some (.ref (w.2.1 85)), some (.ref (w.2.1 116)), some (.int (nI i)), none, none]) rfl ?_
    exact V_widen (n' := n + 8) (k' := k + 48) (by omega) (by omega) (kk _ hj3)
set_option maxHeartbeats 4000000 in
set_option maxRecDepth 100000 in
theorem law_routes (K : LawC p l s m args meth c w b L0 xs) (hi : i + 7 ≤ L0) (hnk : n + 8 ≤ 601024 ∧ k + 48 ≤ 7293034) (hJ : JJ X) (kk : ∀ X2, JJ X2 → V p l e room_1 s m args below meth c w 7 (n + 8) (k + 48) Q 2148 [some (.ref b), some (.ref (w.2.1 0)), some (.ref (w.2.1 85)), some (.ref (w.2.1 116)), some (.int (nI i)), none, none] [] X2) : V p l e room_1 s m args below meth c w 7 n k Q 1585 [some (.ref b), some (.ref (w.2.1 0)), some (.ref (w.2.1 85)), some (.ref (w.2.1 116)), some (.int (nI i)), none, none] [] X := by
  obtain ⟨C, hD, hN, hX, hbl, hfar, hL⟩ := K
  obtain ⟨h, D, no, Dd, Ro, dr, PP, Z, Th, hJ⟩ := hJ
  refine V_aload_n C dL_law_1585 rfl ?_
  refine V_callVI C [] mi_L_186 (k_X9_routes w l X) dL_law_1586 sh_0 (by decide) rfl rfl rfl (Nat.le_of_ble_eq_true rfl) (Nat.le_of_ble_eq_true rfl) (Nat.le_of_ble_eq_true rfl) ⟨by show _ ≤ 601024; omega, by show _ ≤ 7293034; omega⟩ (fun a2 X1 q1 => ?_)
  refine V_aload_n C dL_law_1589 rfl ?_
  have kM := kd_routes q1
  have hM := JM_k kM hJ.jm
  refine V_callVI C [] mi_L_189 (k_X10_routes w l X1) dL_law_1590 sh_85 (by decide) rfl rfl rfl (Nat.le_of_ble_eq_true rfl) (Nat.le_of_ble_eq_true rfl) (Nat.le_of_ble_eq_true rfl) ⟨by show _ ≤ 601024; omega, by show _ ≤ 7293034; omega⟩ (fun b2 X2 q2 => ?_)
  obtain ⟨g1, hj3⟩ := pr_routes hJ q1 q2
  refine V_icmp_eq (tgt := 2148) C dL_law_1593 (by decide) (fun _ => ?_) (fun hne => absurd g1 hne)
  exact V_widen (n' := n + 8) (k' := k + 48) (by omega) (by omega) (kk _ hj3)
set_option maxHeartbeats 4000000 in
set_option maxRecDepth 100000 in
theorem law_path (K : LawC p l s m args meth c w b L0 xs) (hi : i + 7 ≤ L0) (hnk : n + 8 ≤ 601024 ∧ k + 48 ≤ 7293034) (hJ : JJ X) (kk : ∀ X2, JJ X2 → V p l e room_1 s m args below meth c w 7 (n + 8) (k + 48) Q 2148 [some (.ref b), some (.ref (w.2.1 0)), some (.ref (w.2.1 85)), some (.ref (w.2.1 116)), some (.int (nI i)), none, none] [] X2) : V p l e room_1 s m args below meth c w 7 n k Q 1598 [some (.ref b), some (.ref (w.2.1 0)), some (.ref (w.2.1 85)), some (.ref (w.2.1 116)), some (.int (nI i)), none, none] [] X := by
  obtain ⟨C, hD, hN, hX, hbl, hfar, hL⟩ := K
  obtain ⟨h, D, no, Dd, Ro, dr, PP, Z, Th, hJ⟩ := hJ
  refine V_aload_n C dL_law_1598 rfl ?_
  refine V_arg (i := i) (j := 1) C hX hbl hfar hL rfl rfl (by omega) dL_law_1599 dL_law_1600 (fun kk => V_iconst (v := nI 1) C dL_law_1602 (by decide) kk) dL_law_1603 dL_law_1604 ?_
  refine V_arg (i := i) (j := 2) C hX hbl hfar hL rfl rfl (by omega) dL_law_1605 dL_law_1606 (fun kk => V_iconst (v := nI 2) C dL_law_1608 (by decide) kk) dL_law_1609 dL_law_1610 ?_
  refine V_if_eq (x := xs (i + 2)) (tgt := 1618) C dL_law_1611 (by decide) (fun hu => ?_) (fun hu => ?_)
  · refine V_iconst (v := (0 : Int32)) C dL_law_1618 (by decide) ?_
    refine V_aload_n C dL_law_1619 rfl ?_
    refine V_lcallS (na := 4) C hD hN [.ref (w.2.1 0), .int (xs (i + 1)), .int (0 : Int32), .ref (w.2.1 116)] (tb_i 852 (by decide +kernel) (by decide +kernel)) (tb_i 854 (by decide +kernel) (by decide +kernel)) (tb_i 59 (by decide +kernel) (by decide +kernel)) (by decide +kernel) (tb_i 853 (by decide +kernel) (by decide +kernel)) (k_L_path w l (xs (i + 1)) (0 : Int32) X h no Ro PP Z Th hJ.2.1.2.1 hJ.1.2.2.2.1 hJ.2.1.1 hJ.1.2.2.1 hJ.2.2.2.1.1) dL_law_1620 rfl rfl (Nat.le_of_ble_eq_true rfl) (Nat.le_of_ble_eq_true rfl) (Nat.le_of_ble_eq_true rfl) ⟨by show _ ≤ 601024; omega, by show _ ≤ 7293034; omega⟩ (fun r X1 q1 => ?_)
    have kM := km_path q1
    have hM := JM_k kM hJ.jm
    refine V_istore (ls1 := [some (.ref b), some (.ref (w.2.1 0)), some (.ref (w.2.1 85)), some (.ref (w.2.1 116)), some (.int (nI i)), some (.int r), none]) C dL_law_1623 (by decide) rfl ?_
    refine V_aload_n C dL_law_1625 rfl ?_
    refine V_arg (i := i) (j := 1) C hX hbl hfar hL rfl rfl (by omega) dL_law_1626 dL_law_1627 (fun kk => V_iconst (v := nI 1) C dL_law_1629 (by decide) kk) dL_law_1630 dL_law_1631 ?_
    refine V_arg (i := i) (j := 2) C hX hbl hfar hL rfl rfl (by omega) dL_law_1632 dL_law_1633 (fun kk => V_iconst (v := nI 2) C dL_law_1635 (by decide) kk) dL_law_1636 dL_law_1637 ?_
    refine V_if_eq (x := xs (i + 2)) (tgt := 1645) C dL_law_1638 (by decide) (fun _ => ?_) (fun h2 => absurd hu h2)
    refine V_iconst (v := (0 : Int32)) C dL_law_1645 (by decide) ?_
    refine V_callVI C [.int (xs (i + 1)), .int (0 : Int32)] mi_L_193 (k_X10_path_0 w l (xs (i + 1)) X1 h no Ro PP Z Th hM.2.1.1 hM.1.1 hM.2.1.2 hM.1.2.2 hM.2.2.2.1) dL_law_1646 sh_85 (by decide) rfl rfl rfl (Nat.le_of_ble_eq_true rfl) (Nat.le_of_ble_eq_true rfl) (Nat.le_of_ble_eq_true rfl) ⟨by show _ ≤ 601024; omega, by show _ ≤ 7293034; omega⟩ (fun b2 X2 q2 => ?_)
    obtain ⟨g1, g2, hj3⟩ := pr_path0 (by decide) hJ q1 q2
    refine V_istore (ls1 := [some (.ref b), some (.ref (w.2.1 0)), some (.ref (w.2.1 85)), some (.ref (w.2.1 116)), some (.int (nI i)), some (.int r), some (.int b2)]) C dL_law_1649 (by decide) rfl ?_
    refine V_aload_n C dL_law_1651 rfl ?_
    refine V_callVI C [] mi_L_115 (k_X10_thrown w l X2) dL_law_1652 sh_85 (by decide) rfl rfl rfl (Nat.le_of_ble_eq_true rfl) (Nat.le_of_ble_eq_true rfl) (Nat.le_of_ble_eq_true rfl) ⟨by show _ ≤ 601024; omega, by show _ ≤ 7293034; omega⟩ (fun t X3 q3 => ?_)
    obtain ⟨et, eX3⟩ := q3
    subst eX3
    subst et
    refine V_iload C dL_law_1655 rfl ?_
    refine V_icmp_eq (tgt := 1662) C dL_law_1657 (by decide) (fun _ => ?_) (fun hne => absurd g1 hne)
    refine V_iload C dL_law_1662 rfl ?_
    refine V_if_ne (x := r) (tgt := 1679) C dL_law_1664 (by decide) (fun hr => ?_) (fun hr => ?_)
    · refine V_goto (tgt := 2148) C dL_law_1679 (by decide) ?_
      refine V_kill (i := 5) (ls1 := [some (.ref b), some (.ref (w.2.1 0)), some (.ref (w.2.1 85)), some (.ref (w.2.1 116)), some (.int (nI i)), none, some (.int b2)]) rfl ?_
      refine V_kill (i := 6) (ls1 := [some (.ref b), some (.ref (w.2.1 0)), some (.ref (w.2.1 85)), some (.ref (w.2.1 116)), some (.int (nI i)), none, none]) rfl ?_
      exact V_widen (n' := n + 8) (k' := k + 48) (by omega) (by omega) (kk _ hj3)
    · refine V_aload_n C dL_law_1667 rfl ?_
      refine V_iconst (v := (0 : Int32)) C dL_law_1668 (by decide) ?_
      refine V_laload0 C dL_law_1669 ?_
      refine V_iload C dL_law_1670 rfl ?_
      refine V_i2l C dL_law_1672 ?_
      refine V_lcmp C dL_law_1673 (fun cmp hcmp => ?_)
      refine V_if_eq (x := cmp) (tgt := 1679) C dL_law_1674 (by decide) (fun _ => ?_) (fun hne => absurd (hcmp.mpr (g2 hr)) hne)
      refine V_goto (tgt := 2148) C dL_law_1679 (by decide) ?_
      refine V_kill (i := 5) (ls1 := [some (.ref b), some (.ref (w.2.1 0)), some (.ref (w.2.1 85)), some (.ref (w.2.1 116)), some (.int (nI i)), none, some (.int b2)]) rfl ?_
      refine V_kill (i := 6) (ls1 := [some (.ref b), some (.ref (w.2.1 0)), some (.ref (w.2.1 85)), some (.ref (w.2.1 116)), some (.int (nI i)), none, none]) rfl ?_
      exact V_widen (n' := n + 8) (k' := k + 48) (by omega) (by omega) (kk _ hj3)
  · refine V_iconst (v := (1 : Int32)) C dL_law_1614 (by decide) ?_
    refine V_goto (tgt := 1619) C dL_law_1615 (by decide) ?_
    refine V_aload_n C dL_law_1619 rfl ?_
    refine V_lcallS (na := 4) C hD hN [.ref (w.2.1 0), .int (xs (i + 1)), .int (1 : Int32), .ref (w.2.1 116)] (tb_i 852 (by decide +kernel) (by decide +kernel)) (tb_i 854 (by decide +kernel) (by decide +kernel)) (tb_i 59 (by decide +kernel) (by decide +kernel)) (by decide +kernel) (tb_i 853 (by decide +kernel) (by decide +kernel)) (k_L_path w l (xs (i + 1)) (1 : Int32) X h no Ro PP Z Th hJ.2.1.2.1 hJ.1.2.2.2.1 hJ.2.1.1 hJ.1.2.2.1 hJ.2.2.2.1.1) dL_law_1620 rfl rfl (Nat.le_of_ble_eq_true rfl) (Nat.le_of_ble_eq_true rfl) (Nat.le_of_ble_eq_true rfl) ⟨by show _ ≤ 601024; omega, by show _ ≤ 7293034; omega⟩ (fun r X1 q1 => ?_)
    have kM := km_path q1
    have hM := JM_k kM hJ.jm
    refine V_istore (ls1 := [some (.ref b), some (.ref (w.2.1 0)), some (.ref (w.2.1 85)), some (.ref (w.2.1 116)), some (.int (nI i)), some (.int r), none]) C dL_law_1623 (by decide) rfl ?_
    refine V_aload_n C dL_law_1625 rfl ?_
    refine V_arg (i := i) (j := 1) C hX hbl hfar hL rfl rfl (by omega) dL_law_1626 dL_law_1627 (fun kk => V_iconst (v := nI 1) C dL_law_1629 (by decide) kk) dL_law_1630 dL_law_1631 ?_
    refine V_arg (i := i) (j := 2) C hX hbl hfar hL rfl rfl (by omega) dL_law_1632 dL_law_1633 (fun kk => V_iconst (v := nI 2) C dL_law_1635 (by decide) kk) dL_law_1636 dL_law_1637 ?_
    refine V_if_eq (x := xs (i + 2)) (tgt := 1645) C dL_law_1638 (by decide) (fun h2 => absurd h2 hu) (fun _ => ?_)
    refine V_iconst (v := (1 : Int32)) C dL_law_1641 (by decide) ?_
    refine V_goto (tgt := 1646) C dL_law_1642 (by decide) ?_
    refine V_callVI C [.int (xs (i + 1)), .int (1 : Int32)] mi_L_193 (k_X10_path_1 w l (xs (i + 1)) X1 h no Ro PP Z Th hM.2.1.1 hM.1.1 hM.2.1.2 hM.1.2.2 hM.2.2.2.1) dL_law_1646 sh_85 (by decide) rfl rfl rfl (Nat.le_of_ble_eq_true rfl) (Nat.le_of_ble_eq_true rfl) (Nat.le_of_ble_eq_true rfl) ⟨by show _ ≤ 601024; omega, by show _ ≤ 7293034; omega⟩ (fun b2 X2 q2 => ?_)
    obtain ⟨g1, g2, hj3⟩ := pr_path1 (by decide) hJ q1 q2
    refine V_istore (ls1 := [some (.ref b), some (.ref (w.2.1 0)), some (.ref (w.2.1 85)), some (.ref (w.2.1 116)), some (.int (nI i)), some (.int r), some (.int b2)]) C dL_law_1649 (by decide) rfl ?_
    refine V_aload_n C dL_law_1651 rfl ?_
    refine V_callVI C [] mi_L_115 (k_X10_thrown w l X2) dL_law_1652 sh_85 (by decide) rfl rfl rfl (Nat.le_of_ble_eq_true rfl) (Nat.le_of_ble_eq_true rfl) (Nat.le_of_ble_eq_true rfl) ⟨by show _ ≤ 601024; omega, by show _ ≤ 7293034; omega⟩ (fun t X3 q3 => ?_)
    obtain ⟨et, eX3⟩ := q3
    subst eX3
    subst et
    refine V_iload C dL_law_1655 rfl ?_
    refine V_icmp_eq (tgt := 1662) C dL_law_1657 (by decide) (fun _ => ?_) (fun hne => absurd g1 hne)
    refine V_iload C dL_law_1662 rfl ?_
    refine V_if_ne (x := r) (tgt := 1679) C dL_law_1664 (by decide) (fun hr => ?_) (fun hr => ?_)
    · refine V_goto (tgt := 2148) C dL_law_1679 (by decide) ?_
      refine V_kill (i := 5) (ls1 := [some (.ref b), some (.ref (w.2.1 0)), some (.ref (w.2.1 85)), some (.ref (w.2.1 116)), some (.int (nI i)), none, some (.int b2)]) rfl ?_
      refine V_kill (i := 6) (ls1 := [some (.ref b), some (.ref (w.2.1 0)), some (.ref (w.2.1 85)), some (.ref (w.2.1 116)), some (.int (nI i)), none, none]) rfl ?_
      exact V_widen (n' := n + 8) (k' := k + 48) (by omega) (by omega) (kk _ hj3)
    · refine V_aload_n C dL_law_1667 rfl ?_
      refine V_iconst (v := (0 : Int32)) C dL_law_1668 (by decide) ?_
      refine V_laload0 C dL_law_1669 ?_
      refine V_iload C dL_law_1670 rfl ?_
      refine V_i2l C dL_law_1672 ?_
      refine V_lcmp C dL_law_1673 (fun cmp hcmp => ?_)
      refine V_if_eq (x := cmp) (tgt := 1679) C dL_law_1674 (by decide) (fun _ => ?_) (fun hne => absurd (hcmp.mpr (g2 hr)) hne)
      refine V_goto (tgt := 2148) C dL_law_1679 (by decide) ?_
      refine V_kill (i := 5) (ls1 := [some (.ref b), some (.ref (w.2.1 0)), some (.ref (w.2.1 85)), some (.ref (w.2.1 116)), some (.int (nI i)), none, some (.int b2)]) rfl ?_
      refine V_kill (i := 6) (ls1 := [some (.ref b), some (.ref (w.2.1 0)), some (.ref (w.2.1 85)), some (.ref (w.2.1 116)), some (.int (nI i)), none, none]) rfl ?_
      exact V_widen (n' := n + 8) (k' := k + 48) (by omega) (by omega) (kk _ hj3)
set_option maxHeartbeats 4000000 in
set_option maxRecDepth 100000 in
theorem law_leak (K : LawC p l s m args meth c w b L0 xs) (hi : i + 7 ≤ L0) (hnk : n + 8 ≤ 601024 ∧ k + 48 ≤ 7293034) (hJ : JJ X) (kk : ∀ X2, JJ X2 → V p l e room_1 s m args below meth c w 7 (n + 8) (k + 48) Q 2148 [some (.ref b), some (.ref (w.2.1 0)), some (.ref (w.2.1 85)), some (.ref (w.2.1 116)), some (.int (nI i)), none, none] [] X2) : V p l e room_1 s m args below meth c w 7 n k Q 1682 [some (.ref b), some (.ref (w.2.1 0)), some (.ref (w.2.1 85)), some (.ref (w.2.1 116)), some (.int (nI i)), none, none] [] X := by
  obtain ⟨C, hD, hN, hX, hbl, hfar, hL⟩ := K
  obtain ⟨h, D, no, Dd, Ro, dr, PP, Z, Th, hJ⟩ := hJ
  refine V_aload_n C dL_law_1682 rfl ?_
  refine V_arg (i := i) (j := 1) C hX hbl hfar hL rfl rfl (by omega) dL_law_1683 dL_law_1684 (fun kk => V_iconst (v := nI 1) C dL_law_1686 (by decide) kk) dL_law_1687 dL_law_1688 ?_
  refine V_aload_n C dL_law_1689 rfl ?_
  refine V_lcallS (na := 3) C hD hN [.ref (w.2.1 0), .int (xs (i + 1)), .ref (w.2.1 116)] (tb_i 866 (by decide +kernel) (by decide +kernel)) (tb_i 868 (by decide +kernel) (by decide +kernel)) (tb_i 59 (by decide +kernel) (by decide +kernel)) (by decide +kernel) (tb_i 867 (by decide +kernel) (by decide +kernel)) (k_L_leak w l (xs (i + 1)) X Ro PP Z Th hJ.2.2.2.1.1) dL_law_1690 rfl rfl (Nat.le_of_ble_eq_true rfl) (Nat.le_of_ble_eq_true rfl) (Nat.le_of_ble_eq_true rfl) ⟨by show _ ≤ 601024; omega, by show _ ≤ 7293034; omega⟩ (fun r X1 q1 => ?_)
  have kM := km_leak q1
  have hM := JM_k kM hJ.jm
  refine V_istore (ls1 := [some (.ref b), some (.ref (w.2.1 0)), some (.ref (w.2.1 85)), some (.ref (w.2.1 116)), some (.int (nI i)), some (.int r), none]) C dL_law_1693 (by decide) rfl ?_
  refine V_aload_n C dL_law_1695 rfl ?_
  refine V_arg (i := i) (j := 1) C hX hbl hfar hL rfl rfl (by omega) dL_law_1696 dL_law_1697 (fun kk => V_iconst (v := nI 1) C dL_law_1699 (by decide) kk) dL_law_1700 dL_law_1701 ?_
  refine V_callVI C [.int (xs (i + 1))] mi_L_196 (k_X10_leak w l (xs (i + 1)) X1 Ro PP Z Th hM.2.2.2.1) dL_law_1702 sh_85 (by decide) rfl rfl rfl (Nat.le_of_ble_eq_true rfl) (Nat.le_of_ble_eq_true rfl) (Nat.le_of_ble_eq_true rfl) ⟨by show _ ≤ 601024; omega, by show _ ≤ 7293034; omega⟩ (fun b2 X2 q2 => ?_)
  obtain ⟨g1, g2, hj3⟩ := pr_leak hJ q1 q2
  refine V_istore (ls1 := [some (.ref b), some (.ref (w.2.1 0)), some (.ref (w.2.1 85)), some (.ref (w.2.1 116)), some (.int (nI i)), some (.int r), some (.int b2)]) C dL_law_1705 (by decide) rfl ?_
  refine V_aload_n C dL_law_1707 rfl ?_
  refine V_callVI C [] mi_L_115 (k_X10_thrown w l X2) dL_law_1708 sh_85 (by decide) rfl rfl rfl (Nat.le_of_ble_eq_true rfl) (Nat.le_of_ble_eq_true rfl) (Nat.le_of_ble_eq_true rfl) ⟨by show _ ≤ 601024; omega, by show _ ≤ 7293034; omega⟩ (fun t X3 q3 => ?_)
  obtain ⟨et, eX3⟩ := q3
  subst eX3
  subst et
  refine V_iload C dL_law_1711 rfl ?_
  refine V_icmp_eq (tgt := 1718) C dL_law_1713 (by decide) (fun _ => ?_) (fun hne => absurd g1 hne)
  refine V_iload C dL_law_1718 rfl ?_
  refine V_if_ne (x := r) (tgt := 1735) C dL_law_1720 (by decide) (fun hr => ?_) (fun hr => ?_)
  · refine V_goto (tgt := 2148) C dL_law_1735 (by decide) ?_
    refine V_kill (i := 5) (ls1 := [some (.ref b), some (.ref (w.2.1 0)), some (.ref (w.2.1 85)), some (.ref (w.2.1 116)), some (.int (nI i)), none, some (.int b2)]) rfl ?_
    refine V_kill (i := 6) (ls1 := [some (.ref b), some (.ref (w.2.1 0)), some (.ref (w.2.1 85)), some (.ref (w.2.1 116)), some (.int (nI i)), none, none]) rfl ?_
    exact V_widen (n' := n + 8) (k' := k + 48) (by omega) (by omega) (kk _ hj3)
  · refine V_aload_n C dL_law_1723 rfl ?_
    refine V_iconst (v := (0 : Int32)) C dL_law_1724 (by decide) ?_
    refine V_laload0 C dL_law_1725 ?_
    refine V_iload C dL_law_1726 rfl ?_
    refine V_i2l C dL_law_1728 ?_
    refine V_lcmp C dL_law_1729 (fun cmp hcmp => ?_)
    refine V_if_eq (x := cmp) (tgt := 1735) C dL_law_1730 (by decide) (fun _ => ?_) (fun hne => absurd (hcmp.mpr (g2 hr)) hne)
    refine V_goto (tgt := 2148) C dL_law_1735 (by decide) ?_
    refine V_kill (i := 5) (ls1 := [some (.ref b), some (.ref (w.2.1 0)), some (.ref (w.2.1 85)), some (.ref (w.2.1 116)), some (.int (nI i)), none, some (.int b2)]) rfl ?_
    refine V_kill (i := 6) (ls1 := [some (.ref b), some (.ref (w.2.1 0)), some (.ref (w.2.1 85)), some (.ref (w.2.1 116)), some (.int (nI i)), none, none]) rfl ?_
    exact V_widen (n' := n + 8) (k' := k + 48) (by omega) (by omega) (kk _ hj3)
set_option maxHeartbeats 4000000 in
set_option maxRecDepth 100000 in
theorem law_stopped (K : LawC p l s m args meth c w b L0 xs) (hi : i + 7 ≤ L0) (hnk : n + 8 ≤ 601024 ∧ k + 48 ≤ 7293034) (hJ : JJ X) (kk : ∀ X2, JJ X2 → V p l e room_1 s m args below meth c w 7 (n + 8) (k + 48) Q 2148 [some (.ref b), some (.ref (w.2.1 0)), some (.ref (w.2.1 85)), some (.ref (w.2.1 116)), some (.int (nI i)), none, none] [] X2) : V p l e room_1 s m args below meth c w 7 n k Q 1738 [some (.ref b), some (.ref (w.2.1 0)), some (.ref (w.2.1 85)), some (.ref (w.2.1 116)), some (.int (nI i)), none, none] [] X := by
  obtain ⟨C, hD, hN, hX, hbl, hfar, hL⟩ := K
  obtain ⟨h, D, no, Dd, Ro, dr, PP, Z, Th, hJ⟩ := hJ
  refine V_aload_n C dL_law_1738 rfl ?_
  refine V_arg (i := i) (j := 1) C hX hbl hfar hL rfl rfl (by omega) dL_law_1739 dL_law_1740 (fun kk => V_iconst (v := nI 1) C dL_law_1742 (by decide) kk) dL_law_1743 dL_law_1744 ?_
  refine V_arg (i := i) (j := 2) C hX hbl hfar hL rfl rfl (by omega) dL_law_1745 dL_law_1746 (fun kk => V_iconst (v := nI 2) C dL_law_1748 (by decide) kk) dL_law_1749 dL_law_1750 ?_
  refine V_aload_n C dL_law_1751 rfl ?_
  refine V_lcallS (na := 4) C hD hN [.ref (w.2.1 0), .int (xs (i + 1)), .int (xs (i + 2)), .ref (w.2.1 116)] (tb_i 879 (by decide +kernel) (by decide +kernel)) (tb_i 881 (by decide +kernel) (by decide +kernel)) (tb_i 59 (by decide +kernel) (by decide +kernel)) (by decide +kernel) (tb_i 880 (by decide +kernel) (by decide +kernel)) (k_L_stopped w l (xs (i + 1)) (xs (i + 2)) X h no Ro PP Z Th hJ.2.1.2.1 hJ.1.2.2.2.1 hJ.2.1.1 hJ.1.2.2.1 hJ.2.2.2.1.1) dL_law_1752 rfl rfl (Nat.le_of_ble_eq_true rfl) (Nat.le_of_ble_eq_true rfl) (Nat.le_of_ble_eq_true rfl) ⟨by show _ ≤ 601024; omega, by show _ ≤ 7293034; omega⟩ (fun r X1 q1 => ?_)
  have kM := km_stopped q1
  have hM := JM_k kM hJ.jm
  refine V_istore (ls1 := [some (.ref b), some (.ref (w.2.1 0)), some (.ref (w.2.1 85)), some (.ref (w.2.1 116)), some (.int (nI i)), some (.int r), none]) C dL_law_1755 (by decide) rfl ?_
  refine V_aload_n C dL_law_1757 rfl ?_
  refine V_arg (i := i) (j := 1) C hX hbl hfar hL rfl rfl (by omega) dL_law_1758 dL_law_1759 (fun kk => V_iconst (v := nI 1) C dL_law_1761 (by decide) kk) dL_law_1762 dL_law_1763 ?_
  refine V_arg (i := i) (j := 2) C hX hbl hfar hL rfl rfl (by omega) dL_law_1764 dL_law_1765 (fun kk => V_iconst (v := nI 2) C dL_law_1767 (by decide) kk) dL_law_1768 dL_law_1769 ?_
  refine V_callVI C [.int (xs (i + 1)), .int (xs (i + 2))] mi_L_199 (k_X10_stopped w l (xs (i + 1)) (xs (i + 2)) X1 h no Ro PP Z Th hM.2.1.1 hM.1.1 hM.2.1.2 hM.1.2.2 hM.2.2.2.1) dL_law_1770 sh_85 (by decide) rfl rfl rfl (Nat.le_of_ble_eq_true rfl) (Nat.le_of_ble_eq_true rfl) (Nat.le_of_ble_eq_true rfl) ⟨by show _ ≤ 601024; omega, by show _ ≤ 7293034; omega⟩ (fun b2 X2 q2 => ?_)
  obtain ⟨g1, g2, hj3⟩ := pr_stopped hJ q1 q2
  refine V_istore (ls1 := [some (.ref b), some (.ref (w.2.1 0)), some (.ref (w.2.1 85)), some (.ref (w.2.1 116)), some (.int (nI i)), some (.int r), some (.int b2)]) C dL_law_1773 (by decide) rfl ?_
  refine V_aload_n C dL_law_1775 rfl ?_
  refine V_callVI C [] mi_L_115 (k_X10_thrown w l X2) dL_law_1776 sh_85 (by decide) rfl rfl rfl (Nat.le_of_ble_eq_true rfl) (Nat.le_of_ble_eq_true rfl) (Nat.le_of_ble_eq_true rfl) ⟨by show _ ≤ 601024; omega, by show _ ≤ 7293034; omega⟩ (fun t X3 q3 => ?_)
  obtain ⟨et, eX3⟩ := q3
  subst eX3
  subst et
  refine V_iload C dL_law_1779 rfl ?_
  refine V_icmp_eq (tgt := 1786) C dL_law_1781 (by decide) (fun _ => ?_) (fun hne => absurd g1 hne)
  refine V_iload C dL_law_1786 rfl ?_
  refine V_if_ne (x := r) (tgt := 1803) C dL_law_1788 (by decide) (fun hr => ?_) (fun hr => ?_)
  · refine V_goto (tgt := 2148) C dL_law_1803 (by decide) ?_
    refine V_kill (i := 5) (ls1 := [some (.ref b), some (.ref (w.2.1 0)), some (.ref (w.2.1 85)), some (.ref (w.2.1 116)), some (.int (nI i)), none, some (.int b2)]) rfl ?_
    refine V_kill (i := 6) (ls1 := [some (.ref b), some (.ref (w.2.1 0)), some (.ref (w.2.1 85)), some (.ref (w.2.1 116)), some (.int (nI i)), none, none]) rfl ?_
    exact V_widen (n' := n + 8) (k' := k + 48) (by omega) (by omega) (kk _ hj3)
  · refine V_aload_n C dL_law_1791 rfl ?_
    refine V_iconst (v := (0 : Int32)) C dL_law_1792 (by decide) ?_
    refine V_laload0 C dL_law_1793 ?_
    refine V_iload C dL_law_1794 rfl ?_
    refine V_i2l C dL_law_1796 ?_
    refine V_lcmp C dL_law_1797 (fun cmp hcmp => ?_)
    refine V_if_eq (x := cmp) (tgt := 1803) C dL_law_1798 (by decide) (fun _ => ?_) (fun hne => absurd (hcmp.mpr (g2 hr)) hne)
    refine V_goto (tgt := 2148) C dL_law_1803 (by decide) ?_
    refine V_kill (i := 5) (ls1 := [some (.ref b), some (.ref (w.2.1 0)), some (.ref (w.2.1 85)), some (.ref (w.2.1 116)), some (.int (nI i)), none, some (.int b2)]) rfl ?_
    refine V_kill (i := 6) (ls1 := [some (.ref b), some (.ref (w.2.1 0)), some (.ref (w.2.1 85)), some (.ref (w.2.1 116)), some (.int (nI i)), none, none]) rfl ?_
    exact V_widen (n' := n + 8) (k' := k + 48) (by omega) (by omega) (kk _ hj3)
set_option maxHeartbeats 4000000 in
set_option maxRecDepth 100000 in
theorem law_allowed (K : LawC p l s m args meth c w b L0 xs) (hi : i + 7 ≤ L0) (hnk : n + 8 ≤ 601024 ∧ k + 48 ≤ 7293034) (hJ : JJ X) (kk : ∀ X2, JJ X2 → V p l e room_1 s m args below meth c w 7 (n + 8) (k + 48) Q 2148 [some (.ref b), some (.ref (w.2.1 0)), some (.ref (w.2.1 85)), some (.ref (w.2.1 116)), some (.int (nI i)), none, none] [] X2) : V p l e room_1 s m args below meth c w 7 n k Q 1806 [some (.ref b), some (.ref (w.2.1 0)), some (.ref (w.2.1 85)), some (.ref (w.2.1 116)), some (.int (nI i)), none, none] [] X := by
  obtain ⟨C, hD, hN, hX, hbl, hfar, hL⟩ := K
  obtain ⟨h, D, no, Dd, Ro, dr, PP, Z, Th, hJ⟩ := hJ
  refine V_aload_n C dL_law_1806 rfl ?_
  refine V_arg (i := i) (j := 1) C hX hbl hfar hL rfl rfl (by omega) dL_law_1807 dL_law_1808 (fun kk => V_iconst (v := nI 1) C dL_law_1810 (by decide) kk) dL_law_1811 dL_law_1812 ?_
  refine V_arg (i := i) (j := 2) C hX hbl hfar hL rfl rfl (by omega) dL_law_1813 dL_law_1814 (fun kk => V_iconst (v := nI 2) C dL_law_1816 (by decide) kk) dL_law_1817 dL_law_1818 ?_
  refine V_aload_n C dL_law_1819 rfl ?_
  refine V_lcallS (na := 4) C hD hN [.ref (w.2.1 0), .int (xs (i + 1)), .int (xs (i + 2)), .ref (w.2.1 116)] (tb_i 888 (by decide +kernel) (by decide +kernel)) (tb_i 890 (by decide +kernel) (by decide +kernel)) (tb_i 59 (by decide +kernel) (by decide +kernel)) (by decide +kernel) (tb_i 889 (by decide +kernel) (by decide +kernel)) (k_L_allowed w l (xs (i + 1)) (xs (i + 2)) X) dL_law_1820 rfl rfl (Nat.le_of_ble_eq_true rfl) (Nat.le_of_ble_eq_true rfl) (Nat.le_of_ble_eq_true rfl) ⟨by show _ ≤ 601024; omega, by show _ ≤ 7293034; omega⟩ (fun r X1 q1 => ?_)
  have kM := km_allowed q1
  have hM := JM_k kM hJ.jm
  refine V_istore (ls1 := [some (.ref b), some (.ref (w.2.1 0)), some (.ref (w.2.1 85)), some (.ref (w.2.1 116)), some (.int (nI i)), some (.int r), none]) C dL_law_1823 (by decide) rfl ?_
  refine V_aload_n C dL_law_1825 rfl ?_
  refine V_arg (i := i) (j := 1) C hX hbl hfar hL rfl rfl (by omega) dL_law_1826 dL_law_1827 (fun kk => V_iconst (v := nI 1) C dL_law_1829 (by decide) kk) dL_law_1830 dL_law_1831 ?_
  refine V_arg (i := i) (j := 2) C hX hbl hfar hL rfl rfl (by omega) dL_law_1832 dL_law_1833 (fun kk => V_iconst (v := nI 2) C dL_law_1835 (by decide) kk) dL_law_1836 dL_law_1837 ?_
  refine V_callVI C [.int (xs (i + 1)), .int (xs (i + 2))] mi_L_202 (k_X10_allowed w l (xs (i + 1)) (xs (i + 2)) X1) dL_law_1838 sh_85 (by decide) rfl rfl rfl (Nat.le_of_ble_eq_true rfl) (Nat.le_of_ble_eq_true rfl) (Nat.le_of_ble_eq_true rfl) ⟨by show _ ≤ 601024; omega, by show _ ≤ 7293034; omega⟩ (fun b2 X2 q2 => ?_)
  obtain ⟨g1, g2, hj3⟩ := pr_allowed hJ q1 q2
  refine V_istore (ls1 := [some (.ref b), some (.ref (w.2.1 0)), some (.ref (w.2.1 85)), some (.ref (w.2.1 116)), some (.int (nI i)), some (.int r), some (.int b2)]) C dL_law_1841 (by decide) rfl ?_
  refine V_aload_n C dL_law_1843 rfl ?_
  refine V_callVI C [] mi_L_115 (k_X10_thrown w l X2) dL_law_1844 sh_85 (by decide) rfl rfl rfl (Nat.le_of_ble_eq_true rfl) (Nat.le_of_ble_eq_true rfl) (Nat.le_of_ble_eq_true rfl) ⟨by show _ ≤ 601024; omega, by show _ ≤ 7293034; omega⟩ (fun t X3 q3 => ?_)
  obtain ⟨et, eX3⟩ := q3
  subst eX3
  subst et
  refine V_iload C dL_law_1847 rfl ?_
  refine V_icmp_eq (tgt := 1854) C dL_law_1849 (by decide) (fun _ => ?_) (fun hne => absurd g1 hne)
  refine V_iload C dL_law_1854 rfl ?_
  refine V_if_ne (x := r) (tgt := 1871) C dL_law_1856 (by decide) (fun hr => ?_) (fun hr => ?_)
  · refine V_goto (tgt := 2148) C dL_law_1871 (by decide) ?_
    refine V_kill (i := 5) (ls1 := [some (.ref b), some (.ref (w.2.1 0)), some (.ref (w.2.1 85)), some (.ref (w.2.1 116)), some (.int (nI i)), none, some (.int b2)]) rfl ?_
    refine V_kill (i := 6) (ls1 := [some (.ref b), some (.ref (w.2.1 0)), some (.ref (w.2.1 85)), some (.ref (w.2.1 116)), some (.int (nI i)), none, none]) rfl ?_
    exact V_widen (n' := n + 8) (k' := k + 48) (by omega) (by omega) (kk _ hj3)
  · refine V_aload_n C dL_law_1859 rfl ?_
    refine V_iconst (v := (0 : Int32)) C dL_law_1860 (by decide) ?_
    refine V_laload0 C dL_law_1861 ?_
    refine V_iload C dL_law_1862 rfl ?_
    refine V_i2l C dL_law_1864 ?_
    refine V_lcmp C dL_law_1865 (fun cmp hcmp => ?_)
    refine V_if_eq (x := cmp) (tgt := 1871) C dL_law_1866 (by decide) (fun _ => ?_) (fun hne => absurd (hcmp.mpr (g2 hr)) hne)
    refine V_goto (tgt := 2148) C dL_law_1871 (by decide) ?_
    refine V_kill (i := 5) (ls1 := [some (.ref b), some (.ref (w.2.1 0)), some (.ref (w.2.1 85)), some (.ref (w.2.1 116)), some (.int (nI i)), none, some (.int b2)]) rfl ?_
    refine V_kill (i := 6) (ls1 := [some (.ref b), some (.ref (w.2.1 0)), some (.ref (w.2.1 85)), some (.ref (w.2.1 116)), some (.int (nI i)), none, none]) rfl ?_
    exact V_widen (n' := n + 8) (k' := k + 48) (by omega) (by omega) (kk _ hj3)
set_option maxHeartbeats 4000000 in
set_option maxRecDepth 100000 in
theorem law_falseAlarms (K : LawC p l s m args meth c w b L0 xs) (hi : i + 7 ≤ L0) (hnk : n + 8 ≤ 601024 ∧ k + 48 ≤ 7293034) (hJ : JJ X) (kk : ∀ X2, JJ X2 → V p l e room_1 s m args below meth c w 7 (n + 8) (k + 48) Q 2148 [some (.ref b), some (.ref (w.2.1 0)), some (.ref (w.2.1 85)), some (.ref (w.2.1 116)), some (.int (nI i)), none, none] [] X2) : V p l e room_1 s m args below meth c w 7 n k Q 1874 [some (.ref b), some (.ref (w.2.1 0)), some (.ref (w.2.1 85)), some (.ref (w.2.1 116)), some (.int (nI i)), none, none] [] X := by
  obtain ⟨C, hD, hN, hX, hbl, hfar, hL⟩ := K
  obtain ⟨h, D, no, Dd, Ro, dr, PP, Z, Th, hJ⟩ := hJ
  refine V_aload_n C dL_law_1874 rfl ?_
  refine V_callVI C [] mi_L_203 (k_X9_falseAlarms w l X h no hJ.2.1.2.1 hJ.1.2.2.2.1 hJ.2.1.1 hJ.1.2.2.1) dL_law_1875 sh_0 (by decide) rfl rfl rfl (Nat.le_of_ble_eq_true rfl) (Nat.le_of_ble_eq_true rfl) (Nat.le_of_ble_eq_true rfl) ⟨by show _ ≤ 601024; omega, by show _ ≤ 7293034; omega⟩ (fun a2 X1 q1 => ?_)
  refine V_aload_n C dL_law_1878 rfl ?_
  have kM := kd_falseAlarms q1
  have hM := JM_k kM hJ.jm
  refine V_callVI C [] mi_L_206 (k_X10_falseAlarms w l X1 h no hM.2.1.1 hM.1.1 hM.2.1.2 hM.1.2.2) dL_law_1879 sh_85 (by decide) rfl rfl rfl (Nat.le_of_ble_eq_true rfl) (Nat.le_of_ble_eq_true rfl) (Nat.le_of_ble_eq_true rfl) ⟨by show _ ≤ 601024; omega, by show _ ≤ 7293034; omega⟩ (fun b2 X2 q2 => ?_)
  obtain ⟨g1, hj3⟩ := pr_falseAlarms hJ q1 q2
  refine V_icmp_eq (tgt := 2148) C dL_law_1882 (by decide) (fun _ => ?_) (fun hne => absurd g1 hne)
  exact V_widen (n' := n + 8) (k' := k + 48) (by omega) (by omega) (kk _ hj3)
set_option maxHeartbeats 4000000 in
set_option maxRecDepth 100000 in
theorem law_clique (K : LawC p l s m args meth c w b L0 xs) (hi : i + 7 ≤ L0) (hnk : n + 8 ≤ 601024 ∧ k + 48 ≤ 7293034) (hJ : JJ X) (kk : ∀ X2, JJ X2 → V p l e room_1 s m args below meth c w 7 (n + 8) (k + 48) Q 2148 [some (.ref b), some (.ref (w.2.1 0)), some (.ref (w.2.1 85)), some (.ref (w.2.1 116)), some (.int (nI i)), none, none] [] X2) : V p l e room_1 s m args below meth c w 7 n k Q 1887 [some (.ref b), some (.ref (w.2.1 0)), some (.ref (w.2.1 85)), some (.ref (w.2.1 116)), some (.int (nI i)), none, none] [] X := by
  obtain ⟨C, hD, hN, hX, hbl, hfar, hL⟩ := K
  obtain ⟨h, D, no, Dd, Ro, dr, PP, Z, Th, hJ⟩ := hJ
  refine V_aload_n C dL_law_1887 rfl ?_
  refine V_callVI C [] mi_L_207 (k_X9_clique w l X Ro PP Z Th hJ.2.2.2.1.1) dL_law_1888 sh_0 (by decide) rfl rfl rfl (Nat.le_of_ble_eq_true rfl) (Nat.le_of_ble_eq_true rfl) (Nat.le_of_ble_eq_true rfl) ⟨by show _ ≤ 601024; omega, by show _ ≤ 7293034; omega⟩ (fun a2 X1 q1 => ?_)
  refine V_aload_n C dL_law_1891 rfl ?_
  have kM := kd_clique q1
  have hM := JM_k kM hJ.jm
  refine V_callVI C [] mi_L_210 (k_X10_clique w l X1 Ro PP Z Th hM.2.2.2.1) dL_law_1892 sh_85 (by decide) rfl rfl rfl (Nat.le_of_ble_eq_true rfl) (Nat.le_of_ble_eq_true rfl) (Nat.le_of_ble_eq_true rfl) ⟨by show _ ≤ 601024; omega, by show _ ≤ 7293034; omega⟩ (fun b2 X2 q2 => ?_)
  obtain ⟨g1, hj3⟩ := pr_clique hJ q1 q2
  refine V_icmp_eq (tgt := 2148) C dL_law_1895 (by decide) (fun _ => ?_) (fun hne => absurd g1 hne)
  exact V_widen (n' := n + 8) (k' := k + 48) (by omega) (by omega) (kk _ hj3)
set_option maxHeartbeats 4000000 in
set_option maxRecDepth 100000 in
theorem law_inferred (K : LawC p l s m args meth c w b L0 xs) (hi : i + 7 ≤ L0) (hnk : n + 8 ≤ 601024 ∧ k + 48 ≤ 7293034) (hJ : JJ X) (kk : ∀ X2, JJ X2 → V p l e room_1 s m args below meth c w 7 (n + 8) (k + 48) Q 2148 [some (.ref b), some (.ref (w.2.1 0)), some (.ref (w.2.1 85)), some (.ref (w.2.1 116)), some (.int (nI i)), none, none] [] X2) : V p l e room_1 s m args below meth c w 7 n k Q 1900 [some (.ref b), some (.ref (w.2.1 0)), some (.ref (w.2.1 85)), some (.ref (w.2.1 116)), some (.int (nI i)), none, none] [] X := by
  obtain ⟨C, hD, hN, hX, hbl, hfar, hL⟩ := K
  obtain ⟨h, D, no, Dd, Ro, dr, PP, Z, Th, hJ⟩ := hJ
  refine V_aload_n C dL_law_1900 rfl ?_
  refine V_arg (i := i) (j := 1) C hX hbl hfar hL rfl rfl (by omega) dL_law_1901 dL_law_1902 (fun kk => V_iconst (v := nI 1) C dL_law_1904 (by decide) kk) dL_law_1905 dL_law_1906 ?_
  refine V_arg (i := i) (j := 2) C hX hbl hfar hL rfl rfl (by omega) dL_law_1907 dL_law_1908 (fun kk => V_iconst (v := nI 2) C dL_law_1910 (by decide) kk) dL_law_1911 dL_law_1912 ?_
  refine V_arg (i := i) (j := 3) C hX hbl hfar hL rfl rfl (by omega) dL_law_1913 dL_law_1914 (fun kk => V_iconst (v := nI 3) C dL_law_1916 (by decide) kk) dL_law_1917 dL_law_1918 ?_
  refine V_aload_n C dL_law_1919 rfl ?_
  refine V_lcallS (na := 5) C hD hN [.ref (w.2.1 0), .int (xs (i + 1)), .int (xs (i + 2)), .int (xs (i + 3)), .ref (w.2.1 116)] (tb_i 899 (by decide +kernel) (by decide +kernel)) (tb_i 901 (by decide +kernel) (by decide +kernel)) (tb_i 59 (by decide +kernel) (by decide +kernel)) (by decide +kernel) (tb_i 900 (by decide +kernel) (by decide +kernel)) (k_L_inferred w l (xs (i + 1)) (xs (i + 2)) (xs (i + 3)) X Ro PP Z Th hJ.2.2.2.1.1) dL_law_1920 rfl rfl (Nat.le_of_ble_eq_true rfl) (Nat.le_of_ble_eq_true rfl) (Nat.le_of_ble_eq_true rfl) ⟨by show _ ≤ 601024; omega, by show _ ≤ 7293034; omega⟩ (fun r X1 q1 => ?_)
  have kM := km_inferred q1
  have hM := JM_k kM hJ.jm
  refine V_istore (ls1 := [some (.ref b), some (.ref (w.2.1 0)), some (.ref (w.2.1 85)), some (.ref (w.2.1 116)), some (.int (nI i)), some (.int r), none]) C dL_law_1923 (by decide) rfl ?_
  refine V_aload_n C dL_law_1925 rfl ?_
  refine V_arg (i := i) (j := 1) C hX hbl hfar hL rfl rfl (by omega) dL_law_1926 dL_law_1927 (fun kk => V_iconst (v := nI 1) C dL_law_1929 (by decide) kk) dL_law_1930 dL_law_1931 ?_
  refine V_arg (i := i) (j := 2) C hX hbl hfar hL rfl rfl (by omega) dL_law_1932 dL_law_1933 (fun kk => V_iconst (v := nI 2) C dL_law_1935 (by decide) kk) dL_law_1936 dL_law_1937 ?_
  refine V_arg (i := i) (j := 3) C hX hbl hfar hL rfl rfl (by omega) dL_law_1938 dL_law_1939 (fun kk => V_iconst (v := nI 3) C dL_law_1941 (by decide) kk) dL_law_1942 dL_law_1943 ?_
  refine V_callVI C [.int (xs (i + 1)), .int (xs (i + 2)), .int (xs (i + 3))] mi_L_213 (k_X10_inferred w l (xs (i + 1)) (xs (i + 2)) (xs (i + 3)) X1 Ro PP Z Th hM.2.2.2.1) dL_law_1944 sh_85 (by decide) rfl rfl rfl (Nat.le_of_ble_eq_true rfl) (Nat.le_of_ble_eq_true rfl) (Nat.le_of_ble_eq_true rfl) ⟨by show _ ≤ 601024; omega, by show _ ≤ 7293034; omega⟩ (fun b2 X2 q2 => ?_)
  obtain ⟨g1, g2, hj3⟩ := pr_inferred hJ q1 q2
  refine V_istore (ls1 := [some (.ref b), some (.ref (w.2.1 0)), some (.ref (w.2.1 85)), some (.ref (w.2.1 116)), some (.int (nI i)), some (.int r), some (.int b2)]) C dL_law_1947 (by decide) rfl ?_
  refine V_aload_n C dL_law_1949 rfl ?_
  refine V_callVI C [] mi_L_115 (k_X10_thrown w l X2) dL_law_1950 sh_85 (by decide) rfl rfl rfl (Nat.le_of_ble_eq_true rfl) (Nat.le_of_ble_eq_true rfl) (Nat.le_of_ble_eq_true rfl) ⟨by show _ ≤ 601024; omega, by show _ ≤ 7293034; omega⟩ (fun t X3 q3 => ?_)
  obtain ⟨et, eX3⟩ := q3
  subst eX3
  subst et
  refine V_iload C dL_law_1953 rfl ?_
  refine V_icmp_eq (tgt := 1960) C dL_law_1955 (by decide) (fun _ => ?_) (fun hne => absurd g1 hne)
  refine V_iload C dL_law_1960 rfl ?_
  refine V_if_ne (x := r) (tgt := 1977) C dL_law_1962 (by decide) (fun hr => ?_) (fun hr => ?_)
  · refine V_goto (tgt := 2148) C dL_law_1977 (by decide) ?_
    refine V_kill (i := 5) (ls1 := [some (.ref b), some (.ref (w.2.1 0)), some (.ref (w.2.1 85)), some (.ref (w.2.1 116)), some (.int (nI i)), none, some (.int b2)]) rfl ?_
    refine V_kill (i := 6) (ls1 := [some (.ref b), some (.ref (w.2.1 0)), some (.ref (w.2.1 85)), some (.ref (w.2.1 116)), some (.int (nI i)), none, none]) rfl ?_
    exact V_widen (n' := n + 8) (k' := k + 48) (by omega) (by omega) (kk _ hj3)
  · refine V_aload_n C dL_law_1965 rfl ?_
    refine V_iconst (v := (0 : Int32)) C dL_law_1966 (by decide) ?_
    refine V_laload0 C dL_law_1967 ?_
    refine V_iload C dL_law_1968 rfl ?_
    refine V_i2l C dL_law_1970 ?_
    refine V_lcmp C dL_law_1971 (fun cmp hcmp => ?_)
    refine V_if_eq (x := cmp) (tgt := 1977) C dL_law_1972 (by decide) (fun _ => ?_) (fun hne => absurd (hcmp.mpr (g2 hr)) hne)
    refine V_goto (tgt := 2148) C dL_law_1977 (by decide) ?_
    refine V_kill (i := 5) (ls1 := [some (.ref b), some (.ref (w.2.1 0)), some (.ref (w.2.1 85)), some (.ref (w.2.1 116)), some (.int (nI i)), none, some (.int b2)]) rfl ?_
    refine V_kill (i := 6) (ls1 := [some (.ref b), some (.ref (w.2.1 0)), some (.ref (w.2.1 85)), some (.ref (w.2.1 116)), some (.int (nI i)), none, none]) rfl ?_
    exact V_widen (n' := n + 8) (k' := k + 48) (by omega) (by omega) (kk _ hj3)
set_option maxHeartbeats 4000000 in
set_option maxRecDepth 100000 in
theorem law_cone (K : LawC p l s m args meth c w b L0 xs) (hi : i + 7 ≤ L0) (hnk : n + 8 ≤ 601024 ∧ k + 48 ≤ 7293034) (hJ : JJ X) (kk : ∀ X2, JJ X2 → V p l e room_1 s m args below meth c w 7 (n + 8) (k + 48) Q 2148 [some (.ref b), some (.ref (w.2.1 0)), some (.ref (w.2.1 85)), some (.ref (w.2.1 116)), some (.int (nI i)), none, none] [] X2) : V p l e room_1 s m args below meth c w 7 n k Q 1980 [some (.ref b), some (.ref (w.2.1 0)), some (.ref (w.2.1 85)), some (.ref (w.2.1 116)), some (.int (nI i)), none, none] [] X := by
  obtain ⟨C, hD, hN, hX, hbl, hfar, hL⟩ := K
  obtain ⟨h, D, no, Dd, Ro, dr, PP, Z, Th, hJ⟩ := hJ
  refine V_aload_n C dL_law_1980 rfl ?_
  refine V_arg (i := i) (j := 1) C hX hbl hfar hL rfl rfl (by omega) dL_law_1981 dL_law_1982 (fun kk => V_iconst (v := nI 1) C dL_law_1984 (by decide) kk) dL_law_1985 dL_law_1986 ?_
  refine V_aload_n C dL_law_1987 rfl ?_
  refine V_lcallS (na := 3) C hD hN [.ref (w.2.1 0), .int (xs (i + 1)), .ref (w.2.1 116)] (tb_i 911 (by decide +kernel) (by decide +kernel)) (tb_i 913 (by decide +kernel) (by decide +kernel)) (tb_i 59 (by decide +kernel) (by decide +kernel)) (by decide +kernel) (tb_i 912 (by decide +kernel) (by decide +kernel)) (k_L_cone w l (xs (i + 1)) X Ro PP Z Th hJ.2.2.2.1.1) dL_law_1988 rfl rfl (Nat.le_of_ble_eq_true rfl) (Nat.le_of_ble_eq_true rfl) (Nat.le_of_ble_eq_true rfl) ⟨by show _ ≤ 601024; omega, by show _ ≤ 7293034; omega⟩ (fun r X1 q1 => ?_)
  have kM := km_cone q1
  have hM := JM_k kM hJ.jm
  refine V_istore (ls1 := [some (.ref b), some (.ref (w.2.1 0)), some (.ref (w.2.1 85)), some (.ref (w.2.1 116)), some (.int (nI i)), some (.int r), none]) C dL_law_1991 (by decide) rfl ?_
  refine V_aload_n C dL_law_1993 rfl ?_
  refine V_arg (i := i) (j := 1) C hX hbl hfar hL rfl rfl (by omega) dL_law_1994 dL_law_1995 (fun kk => V_iconst (v := nI 1) C dL_law_1997 (by decide) kk) dL_law_1998 dL_law_1999 ?_
  refine V_callVI C [.int (xs (i + 1))] mi_L_216 (k_X10_cone w l (xs (i + 1)) X1 Ro PP Z Th hM.2.2.2.1) dL_law_2000 sh_85 (by decide) rfl rfl rfl (Nat.le_of_ble_eq_true rfl) (Nat.le_of_ble_eq_true rfl) (Nat.le_of_ble_eq_true rfl) ⟨by show _ ≤ 601024; omega, by show _ ≤ 7293034; omega⟩ (fun b2 X2 q2 => ?_)
  obtain ⟨g1, g2, hj3⟩ := pr_cone hJ q1 q2
  refine V_istore (ls1 := [some (.ref b), some (.ref (w.2.1 0)), some (.ref (w.2.1 85)), some (.ref (w.2.1 116)), some (.int (nI i)), some (.int r), some (.int b2)]) C dL_law_2003 (by decide) rfl ?_
  refine V_aload_n C dL_law_2005 rfl ?_
  refine V_callVI C [] mi_L_115 (k_X10_thrown w l X2) dL_law_2006 sh_85 (by decide) rfl rfl rfl (Nat.le_of_ble_eq_true rfl) (Nat.le_of_ble_eq_true rfl) (Nat.le_of_ble_eq_true rfl) ⟨by show _ ≤ 601024; omega, by show _ ≤ 7293034; omega⟩ (fun t X3 q3 => ?_)
  obtain ⟨et, eX3⟩ := q3
  subst eX3
  subst et
  refine V_iload C dL_law_2009 rfl ?_
  refine V_icmp_eq (tgt := 2016) C dL_law_2011 (by decide) (fun _ => ?_) (fun hne => absurd g1 hne)
  refine V_iload C dL_law_2016 rfl ?_
  refine V_if_ne (x := r) (tgt := 2033) C dL_law_2018 (by decide) (fun hr => ?_) (fun hr => ?_)
  · refine V_goto (tgt := 2148) C dL_law_2033 (by decide) ?_
    refine V_kill (i := 5) (ls1 := [some (.ref b), some (.ref (w.2.1 0)), some (.ref (w.2.1 85)), some (.ref (w.2.1 116)), some (.int (nI i)), none, some (.int b2)]) rfl ?_
    refine V_kill (i := 6) (ls1 := [some (.ref b), some (.ref (w.2.1 0)), some (.ref (w.2.1 85)), some (.ref (w.2.1 116)), some (.int (nI i)), none, none]) rfl ?_
    exact V_widen (n' := n + 8) (k' := k + 48) (by omega) (by omega) (kk _ hj3)
  · refine V_aload_n C dL_law_2021 rfl ?_
    refine V_iconst (v := (0 : Int32)) C dL_law_2022 (by decide) ?_
    refine V_laload0 C dL_law_2023 ?_
    refine V_iload C dL_law_2024 rfl ?_
    refine V_i2l C dL_law_2026 ?_
    refine V_lcmp C dL_law_2027 (fun cmp hcmp => ?_)
    refine V_if_eq (x := cmp) (tgt := 2033) C dL_law_2028 (by decide) (fun _ => ?_) (fun hne => absurd (hcmp.mpr (g2 hr)) hne)
    refine V_goto (tgt := 2148) C dL_law_2033 (by decide) ?_
    refine V_kill (i := 5) (ls1 := [some (.ref b), some (.ref (w.2.1 0)), some (.ref (w.2.1 85)), some (.ref (w.2.1 116)), some (.int (nI i)), none, some (.int b2)]) rfl ?_
    refine V_kill (i := 6) (ls1 := [some (.ref b), some (.ref (w.2.1 0)), some (.ref (w.2.1 85)), some (.ref (w.2.1 116)), some (.int (nI i)), none, none]) rfl ?_
    exact V_widen (n' := n + 8) (k' := k + 48) (by omega) (by omega) (kk _ hj3)
set_option maxHeartbeats 4000000 in
set_option maxRecDepth 100000 in
theorem law_coneByPaths (K : LawC p l s m args meth c w b L0 xs) (hi : i + 7 ≤ L0) (hnk : n + 8 ≤ 601024 ∧ k + 48 ≤ 7293034) (hJ : JJ X) (kk : ∀ X2, JJ X2 → V p l e room_1 s m args below meth c w 7 (n + 8) (k + 48) Q 2148 [some (.ref b), some (.ref (w.2.1 0)), some (.ref (w.2.1 85)), some (.ref (w.2.1 116)), some (.int (nI i)), none, none] [] X2) : V p l e room_1 s m args below meth c w 7 n k Q 2036 [some (.ref b), some (.ref (w.2.1 0)), some (.ref (w.2.1 85)), some (.ref (w.2.1 116)), some (.int (nI i)), none, none] [] X := by
  obtain ⟨C, hD, hN, hX, hbl, hfar, hL⟩ := K
  obtain ⟨h, D, no, Dd, Ro, dr, PP, Z, Th, hJ⟩ := hJ
  refine V_aload_n C dL_law_2036 rfl ?_
  refine V_arg (i := i) (j := 1) C hX hbl hfar hL rfl rfl (by omega) dL_law_2037 dL_law_2038 (fun kk => V_iconst (v := nI 1) C dL_law_2040 (by decide) kk) dL_law_2041 dL_law_2042 ?_
  refine V_aload_n C dL_law_2043 rfl ?_
  refine V_lcallS (na := 3) C hD hN [.ref (w.2.1 0), .int (xs (i + 1)), .ref (w.2.1 116)] (tb_i 922 (by decide +kernel) (by decide +kernel)) (tb_i 924 (by decide +kernel) (by decide +kernel)) (tb_i 59 (by decide +kernel) (by decide +kernel)) (by decide +kernel) (tb_i 923 (by decide +kernel) (by decide +kernel)) (k_L_coneByPaths w l (xs (i + 1)) X Ro PP Z Th hJ.2.2.2.1.1) dL_law_2044 rfl rfl (Nat.le_of_ble_eq_true rfl) (Nat.le_of_ble_eq_true rfl) (Nat.le_of_ble_eq_true rfl) ⟨by show _ ≤ 601024; omega, by show _ ≤ 7293034; omega⟩ (fun r X1 q1 => ?_)
  have kM := km_coneByPaths q1
  have hM := JM_k kM hJ.jm
  refine V_istore (ls1 := [some (.ref b), some (.ref (w.2.1 0)), some (.ref (w.2.1 85)), some (.ref (w.2.1 116)), some (.int (nI i)), some (.int r), none]) C dL_law_2047 (by decide) rfl ?_
  refine V_aload_n C dL_law_2049 rfl ?_
  refine V_arg (i := i) (j := 1) C hX hbl hfar hL rfl rfl (by omega) dL_law_2050 dL_law_2051 (fun kk => V_iconst (v := nI 1) C dL_law_2053 (by decide) kk) dL_law_2054 dL_law_2055 ?_
  refine V_callVI C [.int (xs (i + 1))] mi_L_219 (k_X10_coneByPaths w l (xs (i + 1)) X1 Ro PP Z Th hM.2.2.2.1) dL_law_2056 sh_85 (by decide) rfl rfl rfl (Nat.le_of_ble_eq_true rfl) (Nat.le_of_ble_eq_true rfl) (Nat.le_of_ble_eq_true rfl) ⟨by show _ ≤ 601024; omega, by show _ ≤ 7293034; omega⟩ (fun b2 X2 q2 => ?_)
  obtain ⟨g1, g2, hj3⟩ := pr_coneByPaths hJ q1 q2
  refine V_istore (ls1 := [some (.ref b), some (.ref (w.2.1 0)), some (.ref (w.2.1 85)), some (.ref (w.2.1 116)), some (.int (nI i)), some (.int r), some (.int b2)]) C dL_law_2059 (by decide) rfl ?_
  refine V_aload_n C dL_law_2061 rfl ?_
  refine V_callVI C [] mi_L_115 (k_X10_thrown w l X2) dL_law_2062 sh_85 (by decide) rfl rfl rfl (Nat.le_of_ble_eq_true rfl) (Nat.le_of_ble_eq_true rfl) (Nat.le_of_ble_eq_true rfl) ⟨by show _ ≤ 601024; omega, by show _ ≤ 7293034; omega⟩ (fun t X3 q3 => ?_)
  obtain ⟨et, eX3⟩ := q3
  subst eX3
  subst et
  refine V_iload C dL_law_2065 rfl ?_
  refine V_icmp_eq (tgt := 2072) C dL_law_2067 (by decide) (fun _ => ?_) (fun hne => absurd g1 hne)
  refine V_iload C dL_law_2072 rfl ?_
  refine V_if_ne (x := r) (tgt := 2089) C dL_law_2074 (by decide) (fun hr => ?_) (fun hr => ?_)
  · refine V_goto (tgt := 2148) C dL_law_2089 (by decide) ?_
    refine V_kill (i := 5) (ls1 := [some (.ref b), some (.ref (w.2.1 0)), some (.ref (w.2.1 85)), some (.ref (w.2.1 116)), some (.int (nI i)), none, some (.int b2)]) rfl ?_
    refine V_kill (i := 6) (ls1 := [some (.ref b), some (.ref (w.2.1 0)), some (.ref (w.2.1 85)), some (.ref (w.2.1 116)), some (.int (nI i)), none, none]) rfl ?_
    exact V_widen (n' := n + 8) (k' := k + 48) (by omega) (by omega) (kk _ hj3)
  · refine V_aload_n C dL_law_2077 rfl ?_
    refine V_iconst (v := (0 : Int32)) C dL_law_2078 (by decide) ?_
    refine V_laload0 C dL_law_2079 ?_
    refine V_iload C dL_law_2080 rfl ?_
    refine V_i2l C dL_law_2082 ?_
    refine V_lcmp C dL_law_2083 (fun cmp hcmp => ?_)
    refine V_if_eq (x := cmp) (tgt := 2089) C dL_law_2084 (by decide) (fun _ => ?_) (fun hne => absurd (hcmp.mpr (g2 hr)) hne)
    refine V_goto (tgt := 2148) C dL_law_2089 (by decide) ?_
    refine V_kill (i := 5) (ls1 := [some (.ref b), some (.ref (w.2.1 0)), some (.ref (w.2.1 85)), some (.ref (w.2.1 116)), some (.int (nI i)), none, some (.int b2)]) rfl ?_
    refine V_kill (i := 6) (ls1 := [some (.ref b), some (.ref (w.2.1 0)), some (.ref (w.2.1 85)), some (.ref (w.2.1 116)), some (.int (nI i)), none, none]) rfl ?_
    exact V_widen (n' := n + 8) (k' := k + 48) (by omega) (by omega) (kk _ hj3)
set_option maxHeartbeats 4000000 in
set_option maxRecDepth 100000 in
theorem law_addresses (K : LawC p l s m args meth c w b L0 xs) (hi : i + 7 ≤ L0) (hnk : n + 8 ≤ 601024 ∧ k + 48 ≤ 7293034) (hJ : JJ X) (kk : ∀ X2, JJ X2 → V p l e room_1 s m args below meth c w 7 (n + 8) (k + 48) Q 2148 [some (.ref b), some (.ref (w.2.1 0)), some (.ref (w.2.1 85)), some (.ref (w.2.1 116)), some (.int (nI i)), none, none] [] X2) : V p l e room_1 s m args below meth c w 7 n k Q 2092 [some (.ref b), some (.ref (w.2.1 0)), some (.ref (w.2.1 85)), some (.ref (w.2.1 116)), some (.int (nI i)), none, none] [] X := by
  obtain ⟨C, hD, hN, hX, hbl, hfar, hL⟩ := K
  obtain ⟨h, D, no, Dd, Ro, dr, PP, Z, Th, hJ⟩ := hJ
  refine V_aload_n C dL_law_2092 rfl ?_
  refine V_arg (i := i) (j := 1) C hX hbl hfar hL rfl rfl (by omega) dL_law_2093 dL_law_2094 (fun kk => V_iconst (v := nI 1) C dL_law_2096 (by decide) kk) dL_law_2097 dL_law_2098 ?_
  refine V_aload_n C dL_law_2099 rfl ?_
  refine V_lcallS (na := 3) C hD hN [.ref (w.2.1 0), .int (xs (i + 1)), .ref (w.2.1 116)] (tb_i 937 (by decide +kernel) (by decide +kernel)) (tb_i 939 (by decide +kernel) (by decide +kernel)) (tb_i 59 (by decide +kernel) (by decide +kernel)) (by decide +kernel) (tb_i 938 (by decide +kernel) (by decide +kernel)) (k_L_addresses w l (xs (i + 1)) X Ro PP Z Th hJ.2.2.2.1.1) dL_law_2100 rfl rfl (Nat.le_of_ble_eq_true rfl) (Nat.le_of_ble_eq_true rfl) (Nat.le_of_ble_eq_true rfl) ⟨by show _ ≤ 601024; omega, by show _ ≤ 7293034; omega⟩ (fun r X1 q1 => ?_)
  have kM := km_addresses q1
  have hM := JM_k kM hJ.jm
  refine V_istore (ls1 := [some (.ref b), some (.ref (w.2.1 0)), some (.ref (w.2.1 85)), some (.ref (w.2.1 116)), some (.int (nI i)), some (.int r), none]) C dL_law_2103 (by decide) rfl ?_
  refine V_aload_n C dL_law_2105 rfl ?_
  refine V_arg (i := i) (j := 1) C hX hbl hfar hL rfl rfl (by omega) dL_law_2106 dL_law_2107 (fun kk => V_iconst (v := nI 1) C dL_law_2109 (by decide) kk) dL_law_2110 dL_law_2111 ?_
  refine V_callVI C [.int (xs (i + 1))] mi_L_222 (k_X10_addresses w l (xs (i + 1)) X1 Ro PP Z Th hM.2.2.2.1 hM.2.2.2.2) dL_law_2112 sh_85 (by decide) rfl rfl rfl (Nat.le_of_ble_eq_true rfl) (Nat.le_of_ble_eq_true rfl) (Nat.le_of_ble_eq_true rfl) ⟨by show _ ≤ 601024; omega, by show _ ≤ 7293034; omega⟩ (fun b2 X2 q2 => ?_)
  obtain ⟨g1, g2, hj3⟩ := pr_addresses hJ q1 q2
  refine V_istore (ls1 := [some (.ref b), some (.ref (w.2.1 0)), some (.ref (w.2.1 85)), some (.ref (w.2.1 116)), some (.int (nI i)), some (.int r), some (.int b2)]) C dL_law_2115 (by decide) rfl ?_
  refine V_aload_n C dL_law_2117 rfl ?_
  refine V_callVI C [] mi_L_115 (k_X10_thrown w l X2) dL_law_2118 sh_85 (by decide) rfl rfl rfl (Nat.le_of_ble_eq_true rfl) (Nat.le_of_ble_eq_true rfl) (Nat.le_of_ble_eq_true rfl) ⟨by show _ ≤ 601024; omega, by show _ ≤ 7293034; omega⟩ (fun t X3 q3 => ?_)
  obtain ⟨et, eX3⟩ := q3
  subst eX3
  subst et
  refine V_iload C dL_law_2121 rfl ?_
  refine V_icmp_eq (tgt := 2128) C dL_law_2123 (by decide) (fun _ => ?_) (fun hne => absurd g1 hne)
  refine V_iload C dL_law_2128 rfl ?_
  refine V_if_ne (x := r) (tgt := 2145) C dL_law_2130 (by decide) (fun hr => ?_) (fun hr => ?_)
  · refine V_goto (tgt := 2148) C dL_law_2145 (by decide) ?_
    refine V_kill (i := 5) (ls1 := [some (.ref b), some (.ref (w.2.1 0)), some (.ref (w.2.1 85)), some (.ref (w.2.1 116)), some (.int (nI i)), none, some (.int b2)]) rfl ?_
    refine V_kill (i := 6) (ls1 := [some (.ref b), some (.ref (w.2.1 0)), some (.ref (w.2.1 85)), some (.ref (w.2.1 116)), some (.int (nI i)), none, none]) rfl ?_
    exact V_widen (n' := n + 8) (k' := k + 48) (by omega) (by omega) (kk _ hj3)
  · refine V_aload_n C dL_law_2133 rfl ?_
    refine V_iconst (v := (0 : Int32)) C dL_law_2134 (by decide) ?_
    refine V_laload0 C dL_law_2135 ?_
    refine V_iload C dL_law_2136 rfl ?_
    refine V_i2l C dL_law_2138 ?_
    refine V_lcmp C dL_law_2139 (fun cmp hcmp => ?_)
    refine V_if_eq (x := cmp) (tgt := 2145) C dL_law_2140 (by decide) (fun _ => ?_) (fun hne => absurd (hcmp.mpr (g2 hr)) hne)
    refine V_goto (tgt := 2148) C dL_law_2145 (by decide) ?_
    refine V_kill (i := 5) (ls1 := [some (.ref b), some (.ref (w.2.1 0)), some (.ref (w.2.1 85)), some (.ref (w.2.1 116)), some (.int (nI i)), none, some (.int b2)]) rfl ?_
    refine V_kill (i := 6) (ls1 := [some (.ref b), some (.ref (w.2.1 0)), some (.ref (w.2.1 85)), some (.ref (w.2.1 116)), some (.int (nI i)), none, none]) rfl ?_
    exact V_widen (n' := n + 8) (k' := k + 48) (by omega) (by omega) (kk _ hj3)
end LW
