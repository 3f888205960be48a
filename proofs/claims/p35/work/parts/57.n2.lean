def q_L_areBlocks (n : Nat) (who : Nat) (net : Nat) (v : Nat) (b : Nat) (X : Mem) (h D Dd R : Nat) (dr : Nat → Nat) (PP : Nat → Nat → Nat) (Z : Nat → Nat) (Th : Nat → Prop) : Int32 → Mem → Prop := fun r X' => r = 1 ∧ Kp X X'
set_option maxHeartbeats 4000000 in
set_option maxRecDepth 100000 in
theorem k_L_areBlocks (w : Wt) (l : Launch) (n : Nat) (who : Nat) (net : Nat) (v : Nat) (b : Nat) (X : Mem) (h D Dd R : Nat) (dr : Nat → Nat) (PP : Nat → Nat → Nat) (Z : Nat → Nat) (Th : Nat → Prop) (hJ : JP X h D n Dd R dr PP Z Th) (hL : LA X h n R PP Z Th) (hw : who < h) (hnet : net < 10) (hv : v < 256) (hb8 : b ≤ 8) (hvb : v % 2 ^ (8 - b) = 0) (n16 : n ≤ 16) : CtN w l yL_areBlocks cL_areBlocks 17 (some .boolean) 30 800 120 [.ref (w.2.1 0), .ref (w.2.1 85), .ref (w.2.1 86), .ref (w.2.1 87), .ref (w.2.1 88), .int (nI n), .int (nI who), .int (nI net), .int (nI v), .int (nI b)] X (q_L_areBlocks n who net v b X h D Dd R dr PP Z Th) := by
  have hK0 : Kp X X := Kp.rf
  have h1 := hJ.1.2.2.2.1
  have h8 := hJ.1.2.2.2.2.1
  have n50 := hJ.2.1.2.1.1
  refine CtN_of (by decide +kernel) (Nat.le_of_ble_eq_true rfl) (List.forall_mem_cons.mpr ⟨rfl, (List.forall_mem_cons.mpr ⟨rfl, (List.forall_mem_cons.mpr ⟨rfl, (List.forall_mem_cons.mpr ⟨rfl, (List.forall_mem_cons.mpr ⟨rfl, (List.forall_mem_cons.mpr ⟨rfl, (List.forall_mem_cons.mpr ⟨rfl, (List.forall_mem_cons.mpr ⟨rfl, (List.forall_mem_cons.mpr ⟨rfl, (List.forall_mem_cons.mpr ⟨rfl, (fun _ h => nomatch h)⟩)⟩)⟩)⟩)⟩)⟩)⟩)⟩)⟩)⟩) (ls := [some (.ref (w.2.1 0)), some (.ref (w.2.1 85)), some (.ref (w.2.1 86)), some (.ref (w.2.1 87)), some (.ref (w.2.1 88)), some (.int (nI n)), some (.int (nI who)), some (.int (nI net)), some (.int (nI v)), some (.int (nI b)), none, none, none, none, none, none, none]) rfl (args := (#[.ref (w.2.1 0), .ref (w.2.1 85), .ref (w.2.1 86), .ref (w.2.1 87), .ref (w.2.1 88), .int (nI n), .int (nI who), .int (nI net), .int (nI v), .int (nI b)] : Array Value)) rfl (own := RL) rfl ?_
  intro p e s m below meth c C hD hN
  refine V_aload_n C dL_areBlocks_0 rfl ?_
  refine V_iload C dL_areBlocks_1 rfl ?_
  refine V_iload C dL_areBlocks_3 rfl ?_
  refine V_iload C dL_areBlocks_5 rfl ?_
  refine V_hcallV C hD [.int (nI who), .int (nI v), .int (nI b)] mi_L_40 pl_L_40 (k_X9_has w l (nI who) (nI v) (nI b) X h n hJ.2.1.2.1 hJ.1.2.2.2 hJ.2.1.1 hJ.1.2.2.1) dL_areBlocks_7 sh_0 (by decide) rfl rfl rfl (Nat.le_of_ble_eq_true rfl) (Nat.le_of_ble_eq_true rfl) (Nat.le_of_ble_eq_true rfl) ⟨by decide, by decide⟩ (fun E X1 hx => False.elim (hx.2.elim (fun g => g.2 (btw_n (a := who) (m := h - 1) (by omega) (by omega))) (fun g => g.2.2 (blk_n (v := v) (l := b) (by omega) (by omega) (by omega))))) (fun v1 X1 q1 => ?_)
  obtain ⟨-, V1, eX1, hV1, hb1⟩ := q1
  have hb1 := (HasX_of hJ.1.2.2.2 hJ.2.1.2.1 hV1 hb1).congr (HasX_k hK0)
  have hK1 : Kp X X1 := by rw [eX1]; exact hK0.put (Or.inl rfl)
  have hJ1 := JP_k hK1 hJ
  have hV1 : ∃ V, IsV (oC X) (gC X) n (X 1 0) V := ⟨V1, by rw [← hK0.o, ← hK0.g, ← hK0 1 (by omega)]; exact hV1⟩
  refine V_istore (ls1 := [some (.ref (w.2.1 0)), some (.ref (w.2.1 85)), some (.ref (w.2.1 86)), some (.ref (w.2.1 87)), some (.ref (w.2.1 88)), some (.int (nI n)), some (.int (nI who)), some (.int (nI net)), some (.int (nI v)), some (.int (nI b)), some (.int v1), none, none, none, none, none, none]) C dL_areBlocks_10 (by decide) rfl ?_
  refine V_iload C dL_areBlocks_12 rfl ?_
  refine V_aload_n C dL_areBlocks_14 rfl ?_
  refine V_iload C dL_areBlocks_15 rfl ?_
  refine V_iload C dL_areBlocks_17 rfl ?_
  refine V_iload C dL_areBlocks_19 rfl ?_
  refine V_hcallV C hD [.int (nI who), .int (nI v), .int (nI b)] mi_L_44 pl_L_44 (k_X9_hasByChains w l (nI who) (nI v) (nI b) X1 h n hJ1.2.1.2.1 hJ1.1.2.2.2 hJ1.2.1.1 hJ1.1.2.2.1) dL_areBlocks_21 sh_0 (by decide) rfl rfl rfl (Nat.le_of_ble_eq_true rfl) (Nat.le_of_ble_eq_true rfl) (Nat.le_of_ble_eq_true rfl) ⟨by decide, by decide⟩ (fun E X1 hx => False.elim (hx.2.elim (fun g => g.2 (btw_n (a := who) (m := h - 1) (by omega) (by omega))) (fun g => g.2.2 (blk_n (v := v) (l := b) (by omega) (by omega) (by omega))))) (fun v2 X2 q2 => ?_)
  obtain ⟨-, a2, ha2, ea2, T2, eX2, hb2⟩ := q2
  rw [← ea2, hK1.o, hK1.g, hK1 1 (by omega)] at hb2
  have hK2 : Kp X X2 := by rw [eX2]; exact hK1.put (Or.inr (Or.inl rfl))
  have hJ2 := JP_k hK2 hJ
  refine V_icmp_ne (x := v1) (y := v2) (tgt := 90) C dL_areBlocks_24 (by decide) (fun h24_3 => False.elim (h24_3 (HasX_Rx hJ.1.2.2.2 hJ.2.1.2.1 hw hb1 hV1 hb2))) (fun h24_3 => ?_)
  have L37 : (True) → V p l e ({ frames := 30, cells := 120, slots := 6 * 120, locals := 800 } : Room) s m (#[.ref (w.2.1 0), .ref (w.2.1 85), .ref (w.2.1 86), .ref (w.2.1 87), .ref (w.2.1 88), .int (nI n), .int (nI who), .int (nI net), .int (nI v), .int (nI b)] : Array Value) below meth c w 17 8 48 (XI w below s (#[.ref (w.2.1 0), .ref (w.2.1 85), .ref (w.2.1 86), .ref (w.2.1 87), .ref (w.2.1 88), .int (nI n), .int (nI who), .int (nI net), .int (nI v), .int (nI b)] : Array Value) 120 (q_L_areBlocks n who net v b X h D Dd R dr PP Z Th) (fun _ _ => False)) 37 [some (.ref (w.2.1 0)), some (.ref (w.2.1 85)), some (.ref (w.2.1 86)), some (.ref (w.2.1 87)), some (.ref (w.2.1 88)), some (.int (nI n)), some (.int (nI who)), some (.int (nI net)), some (.int (nI v)), some (.int (nI b)), some (.int v1), none, none, none, none, none, none] [] X2 := by
    intro  ht37
    have L86 : ∀ (Y : Mem), (Kp X Y) → V p l e ({ frames := 30, cells := 120, slots := 6 * 120, locals := 800 } : Room) s m (#[.ref (w.2.1 0), .ref (w.2.1 85), .ref (w.2.1 86), .ref (w.2.1 87), .ref (w.2.1 88), .int (nI n), .int (nI who), .int (nI net), .int (nI v), .int (nI b)] : Array Value) below meth c w 17 16 96 (XI w below s (#[.ref (w.2.1 0), .ref (w.2.1 85), .ref (w.2.1 86), .ref (w.2.1 87), .ref (w.2.1 88), .int (nI n), .int (nI who), .int (nI net), .int (nI v), .int (nI b)] : Array Value) 120 (q_L_areBlocks n who net v b X h D Dd R dr PP Z Th) (fun _ _ => False)) 86 [some (.ref (w.2.1 0)), some (.ref (w.2.1 85)), some (.ref (w.2.1 86)), some (.ref (w.2.1 87)), some (.ref (w.2.1 88)), some (.int (nI n)), some (.int (nI who)), some (.int (nI net)), some (.int (nI v)), some (.int (nI b)), some (.int v1), none, none, none, none, none, none] [] Y := by
      intro Y hKY
      have hJY := JP_k hKY hJ
      refine V_iconst (v := (1 : Int32)) C dL_areBlocks_86 (by decide) ?_
      refine V_goto (tgt := 91) C dL_areBlocks_87 (by decide) ?_
      refine V_istore (ls1 := [some (.ref (w.2.1 0)), some (.ref (w.2.1 85)), some (.ref (w.2.1 86)), some (.ref (w.2.1 87)), some (.ref (w.2.1 88)), some (.int (nI n)), some (.int (nI who)), some (.int (nI net)), some (.int (nI v)), some (.int (nI b)), some (.int v1), some (.int (1 : Int32)), none, none, none, none, none]) C dL_areBlocks_91 (by decide) rfl ?_
      refine V_iconst (v := (0 : Int32)) C dL_areBlocks_93 (by decide) ?_
      refine V_istore (ls1 := [some (.ref (w.2.1 0)), some (.ref (w.2.1 85)), some (.ref (w.2.1 86)), some (.ref (w.2.1 87)), some (.ref (w.2.1 88)), some (.int (nI n)), some (.int (nI who)), some (.int (nI net)), some (.int (nI v)), some (.int (nI b)), some (.int v1), some (.int (1 : Int32)), some (.int (0 : Int32)), none, none, none, none]) C dL_areBlocks_94 (by decide) rfl ?_
      refine V_iconst (v := (0 : Int32)) C dL_areBlocks_96 (by decide) ?_
      refine V_istore (ls1 := [some (.ref (w.2.1 0)), some (.ref (w.2.1 85)), some (.ref (w.2.1 86)), some (.ref (w.2.1 87)), some (.ref (w.2.1 88)), some (.int (nI n)), some (.int (nI who)), some (.int (nI net)), some (.int (nI v)), some (.int (nI b)), some (.int v1), some (.int (1 : Int32)), some (.int (0 : Int32)), some (.int (0 : Int32)), none, none, none]) C dL_areBlocks_97 (by decide) rfl ?_
      refine V_iconst (v := (0 : Int32)) C dL_areBlocks_99 (by decide) ?_
      refine V_istore (ls1 := [some (.ref (w.2.1 0)), some (.ref (w.2.1 85)), some (.ref (w.2.1 86)), some (.ref (w.2.1 87)), some (.ref (w.2.1 88)), some (.int (nI n)), some (.int (nI who)), some (.int (nI net)), some (.int (nI v)), some (.int (nI b)), some (.int v1), some (.int (1 : Int32)), some (.int (0 : Int32)), some (.int (0 : Int32)), some (.int (0 : Int32)), none, none]) C dL_areBlocks_100 (by decide) rfl ?_
      have L102 : ∀ (fu : Nat) (j : Nat) (ow : Int32) (an : Int32) (Y1 : Mem), n - j < fu → (j ≤ n) → (Kp X Y1) → (bI (OwnT X n (nI v) (nI b) (nI net) j) ow) → (bI (AnyT X n (nI v) (nI b) j) an) → V p l e ({ frames := 30, cells := 120, slots := 6 * 120, locals := 800 } : Room) s m (#[.ref (w.2.1 0), .ref (w.2.1 85), .ref (w.2.1 86), .ref (w.2.1 87), .ref (w.2.1 88), .int (nI n), .int (nI who), .int (nI net), .int (nI v), .int (nI b)] : Array Value) below meth c w 17 (5 * j + 16) (6 * (5 * j + 16)) (XI w below s (#[.ref (w.2.1 0), .ref (w.2.1 85), .ref (w.2.1 86), .ref (w.2.1 87), .ref (w.2.1 88), .int (nI n), .int (nI who), .int (nI net), .int (nI v), .int (nI b)] : Array Value) 120 (q_L_areBlocks n who net v b X h D Dd R dr PP Z Th) (fun _ _ => False)) 102 [some (.ref (w.2.1 0)), some (.ref (w.2.1 85)), some (.ref (w.2.1 86)), some (.ref (w.2.1 87)), some (.ref (w.2.1 88)), some (.int (nI n)), some (.int (nI who)), some (.int (nI net)), some (.int (nI v)), some (.int (nI b)), some (.int v1), some (.int (1 : Int32)), some (.int ow), some (.int an), some (.int (nI j)), none, none] [] Y1 := by
        intro fu
        induction fu with
        | zero => intro j ow an Y1 hm; exact absurd hm (Nat.not_lt_zero _)
        | succ fu ih102 =>
          intro j ow an Y1 hm102 hj hKY1 how han
          have hJY1 := JP_k hKY1 hJ
          refine V_iload C dL_areBlocks_102 rfl ?_
          refine V_iload C dL_areBlocks_104 rfl ?_
          refine V_icmp_geN (a := j) (b := n) (tgt := 292) C dL_areBlocks_106 (by decide) (by omega) (by omega) (fun h106_4 => ?_) (fun h106_4 => ?_)
          · refine V_aload_n C dL_areBlocks_292 rfl ?_
            refine V_iload C dL_areBlocks_293 rfl ?_
            refine V_iload C dL_areBlocks_295 rfl ?_
            refine V_iload C dL_areBlocks_297 rfl ?_
            refine V_hcallV C hD [.int (nI net), .int (nI v), .int (nI b)] mi_L_50 pl_L_50 (k_X9_state w l (nI net) (nI v) (nI b) Y1 h n hJY1.2.1.2.1 hJY1.1.2.2.2 hJY1.2.1.1 hJY1.1.2.2.1) dL_areBlocks_299 sh_0 (by decide) rfl rfl rfl (Nat.le_of_ble_eq_true rfl) (Nat.le_of_ble_eq_true rfl) (Nat.le_of_ble_eq_true rfl) ⟨by show _ ≤ 120; omega, by show _ ≤ 720; omega⟩ (fun E X1 hx => False.elim (hx.2.elim (fun g => g.2 (btw_n (a := net) (m := 9) (by omega) (by omega))) (fun g => g.2.2 (blk_n (v := v) (l := b) (by omega) (by omega) (by omega))))) (fun v5 X5 q5 => ?_)
            obtain ⟨-, V5, eX5, hV5, hs5⟩ := q5
            have hs5 : StX X n _ _ _ _ := (StX_k hKY1).mp ⟨V5, hV5, hs5⟩
            have hK5 : Kp X X5 := by rw [eX5]; exact hKY1.put (Or.inl rfl)
            have hJ5 := JP_k hK5 hJ
            obtain ⟨c5, hc5, ec5⟩ := StX_n hs5
            rw [ec5] at hs5
            refine V_eqi ec5 ?_
            have hsa : c5 = 0 ↔ ¬ AnyT X n (nI v) (nI b) j := by
              rw [show j = n by omega]
              exact (nI_eq (by omega) (by omega) : nI c5 = nI 0 ↔ c5 = 0).symm.trans (StX_any hJ.1.2.2.2 hJ.2.1.2.1 hs5)
            obtain ⟨c99, ec99, hs99⟩ : ∃ c99, c99 = c5 ∧ StX X n (nI net) (nI v) (nI b) (nI c99) := ⟨_, rfl, hs5⟩
            refine V_istore (ls1 := [some (.ref (w.2.1 0)), some (.ref (w.2.1 85)), some (.ref (w.2.1 86)), some (.ref (w.2.1 87)), some (.ref (w.2.1 88)), some (.int (nI n)), some (.int (nI who)), some (.int (nI net)), some (.int (nI v)), some (.int (nI b)), some (.int v1), some (.int (1 : Int32)), some (.int ow), some (.int an), some (.int (nI c5)), none, none]) C dL_areBlocks_302 (by decide) rfl ?_
            refine V_iload C dL_areBlocks_304 rfl ?_
            refine V_if_eq (x := (1 : Int32)) (tgt := 347) C dL_areBlocks_306 (by decide) (fun h => absurd h (by decide)) (fun _ => ?_)
            refine V_iload C dL_areBlocks_309 rfl ?_
            refine V_if_neN (a := c5) (tgt := 318) C dL_areBlocks_311 (by decide) (by omega) (fun h311_7 => ?_) (fun h311_7 => ?_)
            · refine V_iconst (v := (0 : Int32)) C dL_areBlocks_318 (by decide) ?_
              refine V_iload C dL_areBlocks_319 rfl ?_
              refine V_if_neB (tgt := 328) C han dL_areBlocks_321 (by decide) (fun h321_8 => ?_) (fun h321_8 => ?_)
              · refine V_iconst (v := (0 : Int32)) C dL_areBlocks_328 (by decide) ?_
                refine V_icmp_neN (a := 0) (b := 0) (tgt := 347) C dL_areBlocks_329 (by decide) (by decide) (by decide) (fun h => absurd h (by decide)) (fun _ => ?_)
                refine V_iload C dL_areBlocks_332 rfl ?_
                refine V_iconst (v := (1 : Int32)) C dL_areBlocks_334 (by decide) ?_
                refine V_icmp_neN (a := c5) (b := 1) (tgt := 343) C dL_areBlocks_335 (by decide) (by omega) (by omega) (fun h335_10 => ?_) (fun h335_10 => ?_)
                · refine V_iconst (v := (1 : Int32)) C dL_areBlocks_343 (by decide) ?_
                  refine V_goto (tgt := 348) C dL_areBlocks_344 (by decide) ?_
                  exact V_zreturnX C dL_areBlocks_348 (Or.inr rfl) (by show _ ≤ 120; omega) (by show _ ≤ 720; omega) ⟨rfl, hK5⟩
                · refine V_iload C dL_areBlocks_338 rfl ?_
                  refine V_if_eqB (tgt := 347) C how dL_areBlocks_340 (by decide) (fun h340_11 => False.elim (h340_11 (by have hs1 : StX X n (nI net) (nI v) (nI b) 1 := by { rw [show c99 = 1 by omega] at hs99; exact hs99 }; obtain ⟨o, h1, h2, h3⟩ := StX_own hJ.1.2.2.2 hJ.2.1.2.1 hs1; exact ⟨o, by omega, h2, h3⟩))) (fun h340_11 => ?_)
                  refine V_iconst (v := (1 : Int32)) C dL_areBlocks_343 (by decide) ?_
                  refine V_goto (tgt := 348) C dL_areBlocks_344 (by decide) ?_
                  exact V_zreturnX C dL_areBlocks_348 (Or.inr rfl) (by show _ ≤ 120; omega) (by show _ ≤ 720; omega) ⟨rfl, hK5⟩
              · refine V_iconst (v := (1 : Int32)) C dL_areBlocks_324 (by decide) ?_
                refine V_goto (tgt := 329) C dL_areBlocks_325 (by decide) ?_
                refine V_icmp_neN (a := 0) (b := 1) (tgt := 347) C dL_areBlocks_329 (by decide) (by decide) (by decide) (fun _ => ?_) (fun h => absurd h (by decide))
                refine V_iconst (v := (0 : Int32)) C dL_areBlocks_347 (by decide) ?_
                exact V_zreturnX C dL_areBlocks_348 (Or.inl rfl) (by show _ ≤ 120; omega) (by show _ ≤ 720; omega) (by exfalso; first | exact (hsa.mp (by assumption)) (by assumption) | exact absurd (hsa.mpr (by assumption)) (by assumption))
            · refine V_iconst (v := (1 : Int32)) C dL_areBlocks_314 (by decide) ?_
              refine V_goto (tgt := 319) C dL_areBlocks_315 (by decide) ?_
              refine V_iload C dL_areBlocks_319 rfl ?_
              refine V_if_neB (tgt := 328) C han dL_areBlocks_321 (by decide) (fun h321_13 => ?_) (fun h321_13 => ?_)
              · refine V_iconst (v := (0 : Int32)) C dL_areBlocks_328 (by decide) ?_
                refine V_icmp_neN (a := 1) (b := 0) (tgt := 347) C dL_areBlocks_329 (by decide) (by decide) (by decide) (fun _ => ?_) (fun h => absurd h (by decide))
                refine V_iconst (v := (0 : Int32)) C dL_areBlocks_347 (by decide) ?_
                exact V_zreturnX C dL_areBlocks_348 (Or.inl rfl) (by show _ ≤ 120; omega) (by show _ ≤ 720; omega) (by exfalso; first | exact (hsa.mp (by assumption)) (by assumption) | exact absurd (hsa.mpr (by assumption)) (by assumption))
              · refine V_iconst (v := (1 : Int32)) C dL_areBlocks_324 (by decide) ?_
                refine V_goto (tgt := 329) C dL_areBlocks_325 (by decide) ?_
                refine V_icmp_neN (a := 1) (b := 1) (tgt := 347) C dL_areBlocks_329 (by decide) (by decide) (by decide) (fun h => absurd h (by decide)) (fun _ => ?_)
                refine V_iload C dL_areBlocks_332 rfl ?_
                refine V_iconst (v := (1 : Int32)) C dL_areBlocks_334 (by decide) ?_
                refine V_icmp_neN (a := c5) (b := 1) (tgt := 343) C dL_areBlocks_335 (by decide) (by omega) (by omega) (fun h335_16 => ?_) (fun h335_16 => ?_)
                · refine V_iconst (v := (1 : Int32)) C dL_areBlocks_343 (by decide) ?_
                  refine V_goto (tgt := 348) C dL_areBlocks_344 (by decide) ?_
                  exact V_zreturnX C dL_areBlocks_348 (Or.inr rfl) (by show _ ≤ 120; omega) (by show _ ≤ 720; omega) ⟨rfl, hK5⟩
                · refine V_iload C dL_areBlocks_338 rfl ?_
                  refine V_if_eqB (tgt := 347) C how dL_areBlocks_340 (by decide) (fun h340_17 => False.elim (h340_17 (by have hs1 : StX X n (nI net) (nI v) (nI b) 1 := by { rw [show c99 = 1 by omega] at hs99; exact hs99 }; obtain ⟨o, h1, h2, h3⟩ := StX_own hJ.1.2.2.2 hJ.2.1.2.1 hs1; exact ⟨o, by omega, h2, h3⟩))) (fun h340_17 => ?_)
                  refine V_iconst (v := (1 : Int32)) C dL_areBlocks_343 (by decide) ?_
                  refine V_goto (tgt := 348) C dL_areBlocks_344 (by decide) ?_
                  exact V_zreturnX C dL_areBlocks_348 (Or.inr rfl) (by show _ ≤ 120; omega) (by show _ ≤ 720; omega) ⟨rfl, hK5⟩
          · refine V_iload C dL_areBlocks_109 rfl ?_
            refine V_if_eqN (a := 1) (tgt := 292) C dL_areBlocks_111 (by decide) (by omega) (fun h111_18 => False.elim (absurd h111_18 (by decide))) (fun h111_18 => ?_)
            refine V_aload_n C dL_areBlocks_114 rfl ?_
            refine V_iload C dL_areBlocks_115 rfl ?_
            refine V_hcallV C hD [.int (nI j)] mi_L_47 pl_L_47 (k_X9_judged w l (nI j) Y1 h n hJY1.2.1.2.1 hJY1.1.2.2.2 hJY1.2.1.1 hJY1.1.2.2.1) dL_areBlocks_117 sh_0 (by decide) rfl rfl rfl (Nat.le_of_ble_eq_true rfl) (Nat.le_of_ble_eq_true rfl) (Nat.le_of_ble_eq_true rfl) ⟨by show _ ≤ 120; omega, by show _ ≤ 720; omega⟩ (fun E X1 hx => False.elim (hx.2.2 (obj_b (by omega) hJY1.2.1.2.1.1))) (fun v19 X19 q19 => ?_)
            obtain ⟨-, o19, ho19, eo19, V19, eX19, hV19, er19⟩ := q19
            have hj19 : JgX X n j v19 := (JgX_k hKY1).mp ⟨V19, hV19, by rw [(nI_eq (by omega) (by omega)).mp eo19]; exact er19⟩
            have hK19 : Kp X X19 := by rw [eX19]; exact hKY1.put (Or.inl rfl)
            have hJ19 := JP_k hK19 hJ
            obtain ⟨c19, hc19, ec19⟩ := JgX_lt (by omega) hj19
            rw [ec19] at hj19
            refine V_eqi ec19 ?_
            refine V_istore (ls1 := [some (.ref (w.2.1 0)), some (.ref (w.2.1 85)), some (.ref (w.2.1 86)), some (.ref (w.2.1 87)), some (.ref (w.2.1 88)), some (.int (nI n)), some (.int (nI who)), some (.int (nI net)), some (.int (nI v)), some (.int (nI b)), some (.int v1), some (.int (1 : Int32)), some (.int ow), some (.int an), some (.int (nI j)), some (.int (nI c19)), none]) C dL_areBlocks_120 (by decide) rfl ?_
            have L164 : ∀ (cv : Int32), (bI (LiesIn (nI v) (nI b) (X 10 j) (X 11 j)) cv) → V p l e ({ frames := 30, cells := 120, slots := 6 * 120, locals := 800 } : Room) s m (#[.ref (w.2.1 0), .ref (w.2.1 85), .ref (w.2.1 86), .ref (w.2.1 87), .ref (w.2.1 88), .int (nI n), .int (nI who), .int (nI net), .int (nI v), .int (nI b)] : Array Value) below meth c w 17 (5 * j + 17) (6 * (5 * j + 17)) (XI w below s (#[.ref (w.2.1 0), .ref (w.2.1 85), .ref (w.2.1 86), .ref (w.2.1 87), .ref (w.2.1 88), .int (nI n), .int (nI who), .int (nI net), .int (nI v), .int (nI b)] : Array Value) 120 (q_L_areBlocks n who net v b X h D Dd R dr PP Z Th) (fun _ _ => False)) 164 [some (.ref (w.2.1 0)), some (.ref (w.2.1 85)), some (.ref (w.2.1 86)), some (.ref (w.2.1 87)), some (.ref (w.2.1 88)), some (.int (nI n)), some (.int (nI who)), some (.int (nI net)), some (.int (nI v)), some (.int (nI b)), some (.int v1), some (.int (1 : Int32)), some (.int ow), some (.int an), some (.int (nI j)), some (.int (nI c19)), none] [.int cv] X19 := by
              intro cv hcv
              refine V_istore (ls1 := [some (.ref (w.2.1 0)), some (.ref (w.2.1 85)), some (.ref (w.2.1 86)), some (.ref (w.2.1 87)), some (.ref (w.2.1 88)), some (.int (nI n)), some (.int (nI who)), some (.int (nI net)), some (.int (nI v)), some (.int (nI b)), some (.int v1), some (.int (1 : Int32)), some (.int ow), some (.int an), some (.int (nI j)), some (.int (nI c19)), some (.int cv)]) C dL_areBlocks_164 (by decide) rfl ?_
              have L203 : ∀ (ow2 : Int32), (bI (OwnT X n (nI v) (nI b) (nI net) (j + 1)) ow2) → V p l e ({ frames := 30, cells := 120, slots := 6 * 120, locals := 800 } : Room) s m (#[.ref (w.2.1 0), .ref (w.2.1 85), .ref (w.2.1 86), .ref (w.2.1 87), .ref (w.2.1 88), .int (nI n), .int (nI who), .int (nI net), .int (nI v), .int (nI b)] : Array Value) below meth c w 17 (5 * j + 17) (6 * (5 * j + 17)) (XI w below s (#[.ref (w.2.1 0), .ref (w.2.1 85), .ref (w.2.1 86), .ref (w.2.1 87), .ref (w.2.1 88), .int (nI n), .int (nI who), .int (nI net), .int (nI v), .int (nI b)] : Array Value) 120 (q_L_areBlocks n who net v b X h D Dd R dr PP Z Th) (fun _ _ => False)) 203 [some (.ref (w.2.1 0)), some (.ref (w.2.1 85)), some (.ref (w.2.1 86)), some (.ref (w.2.1 87)), some (.ref (w.2.1 88)), some (.int (nI n)), some (.int (nI who)), some (.int (nI net)), some (.int (nI v)), some (.int (nI b)), some (.int v1), some (.int (1 : Int32)), some (.int ow), some (.int an), some (.int (nI j)), some (.int (nI c19)), some (.int cv)] [.int ow2] X19 := by
                intro ow2 how2
                refine V_istore (ls1 := [some (.ref (w.2.1 0)), some (.ref (w.2.1 85)), some (.ref (w.2.1 86)), some (.ref (w.2.1 87)), some (.ref (w.2.1 88)), some (.int (nI n)), some (.int (nI who)), some (.int (nI net)), some (.int (nI v)), some (.int (nI b)), some (.int v1), some (.int (1 : Int32)), some (.int ow2), some (.int an), some (.int (nI j)), some (.int (nI c19)), some (.int cv)]) C dL_areBlocks_203 (by decide) rfl ?_
                have L233 : ∀ (an2 : Int32), (bI (AnyT X n (nI v) (nI b) (j + 1)) an2) → V p l e ({ frames := 30, cells := 120, slots := 6 * 120, locals := 800 } : Room) s m (#[.ref (w.2.1 0), .ref (w.2.1 85), .ref (w.2.1 86), .ref (w.2.1 87), .ref (w.2.1 88), .int (nI n), .int (nI who), .int (nI net), .int (nI v), .int (nI b)] : Array Value) below meth c w 17 (5 * j + 17) (6 * (5 * j + 17)) (XI w below s (#[.ref (w.2.1 0), .ref (w.2.1 85), .ref (w.2.1 86), .ref (w.2.1 87), .ref (w.2.1 88), .int (nI n), .int (nI who), .int (nI net), .int (nI v), .int (nI b)] : Array Value) 120 (q_L_areBlocks n who net v b X h D Dd R dr PP Z Th) (fun _ _ => False)) 233 [some (.ref (w.2.1 0)), some (.ref (w.2.1 85)), some (.ref (w.2.1 86)), some (.ref (w.2.1 87)), some (.ref (w.2.1 88)), some (.int (nI n)), some (.int (nI who)), some (.int (nI net)), some (.int (nI v)), some (.int (nI b)), some (.int v1), some (.int (1 : Int32)), some (.int ow2), some (.int an), some (.int (nI j)), some (.int (nI c19)), some (.int cv)] [.int an2] X19 := by
                  intro an2 han2
                  refine V_istore (ls1 := [some (.ref (w.2.1 0)), some (.ref (w.2.1 85)), some (.ref (w.2.1 86)), some (.ref (w.2.1 87)), some (.ref (w.2.1 88)), some (.int (nI n)), some (.int (nI who)), some (.int (nI net)), some (.int (nI v)), some (.int (nI b)), some (.int v1), some (.int (1 : Int32)), some (.int ow2), some (.int an2), some (.int (nI j)), some (.int (nI c19)), some (.int cv)]) C dL_areBlocks_233 (by decide) rfl ?_
                  have L279 : ∀ (Y2 : Mem), (Kp X Y2) → V p l e ({ frames := 30, cells := 120, slots := 6 * 120, locals := 800 } : Room) s m (#[.ref (w.2.1 0), .ref (w.2.1 85), .ref (w.2.1 86), .ref (w.2.1 87), .ref (w.2.1 88), .int (nI n), .int (nI who), .int (nI net), .int (nI v), .int (nI b)] : Array Value) below meth c w 17 (5 * j + 21) (6 * (5 * j + 21)) (XI w below s (#[.ref (w.2.1 0), .ref (w.2.1 85), .ref (w.2.1 86), .ref (w.2.1 87), .ref (w.2.1 88), .int (nI n), .int (nI who), .int (nI net), .int (nI v), .int (nI b)] : Array Value) 120 (q_L_areBlocks n who net v b X h D Dd R dr PP Z Th) (fun _ _ => False)) 279 [some (.ref (w.2.1 0)), some (.ref (w.2.1 85)), some (.ref (w.2.1 86)), some (.ref (w.2.1 87)), some (.ref (w.2.1 88)), some (.int (nI n)), some (.int (nI who)), some (.int (nI net)), some (.int (nI v)), some (.int (nI b)), some (.int v1), some (.int (1 : Int32)), some (.int ow2), some (.int an2), some (.int (nI j)), some (.int (nI c19)), some (.int cv)] [] Y2 := by
                    intro Y2 hKY2
                    have hJY2 := JP_k hKY2 hJ
                    refine V_iconst (v := (1 : Int32)) C dL_areBlocks_279 (by decide) ?_
                    refine V_goto (tgt := 284) C dL_areBlocks_280 (by decide) ?_
                    refine V_istore (ls1 := [some (.ref (w.2.1 0)), some (.ref (w.2.1 85)), some (.ref (w.2.1 86)), some (.ref (w.2.1 87)), some (.ref (w.2.1 88)), some (.int (nI n)), some (.int (nI who)), some (.int (nI net)), some (.int (nI v)), some (.int (nI b)), some (.int v1), some (.int (1 : Int32)), some (.int ow2), some (.int an2), some (.int (nI j)), some (.int (nI c19)), some (.int cv)]) C dL_areBlocks_284 (by decide) rfl ?_
                    refine V_iincN (a := j) (ls1 := [some (.ref (w.2.1 0)), some (.ref (w.2.1 85)), some (.ref (w.2.1 86)), some (.ref (w.2.1 87)), some (.ref (w.2.1 88)), some (.int (nI n)), some (.int (nI who)), some (.int (nI net)), some (.int (nI v)), some (.int (nI b)), some (.int v1), some (.int (1 : Int32)), some (.int ow2), some (.int an2), some (.int (nI (j + 1))), some (.int (nI c19)), some (.int cv)]) C dL_areBlocks_286 rfl (by decide) rfl ?_
                    refine V_goto (tgt := 102) C dL_areBlocks_289 (by decide) ?_
                    refine V_kill (i := 15) (ls1 := [some (.ref (w.2.1 0)), some (.ref (w.2.1 85)), some (.ref (w.2.1 86)), some (.ref (w.2.1 87)), some (.ref (w.2.1 88)), some (.int (nI n)), some (.int (nI who)), some (.int (nI net)), some (.int (nI v)), some (.int (nI b)), some (.int v1), some (.int (1 : Int32)), some (.int ow2), some (.int an2), some (.int (nI (j + 1))), none, some (.int cv)]) rfl ?_
                    refine V_kill (i := 16) (ls1 := [some (.ref (w.2.1 0)), some (.ref (w.2.1 85)), some (.ref (w.2.1 86)), some (.ref (w.2.1 87)), some (.ref (w.2.1 88)), some (.int (nI n)), some (.int (nI who)), some (.int (nI net)), some (.int (nI v)), some (.int (nI b)), some (.int v1), some (.int (1 : Int32)), some (.int ow2), some (.int an2), some (.int (nI (j + 1))), none, none]) rfl ?_
                    refine V_widen (n' := (5 * (j + 1) + 16)) (k' := (6 * (5 * (j + 1) + 16))) (by omega) (by omega) ?_
                    exact ih102 (j + 1) ow2 an2 Y2 (by omega) (by omega) hKY2 how2 han2
                  refine V_iload C dL_areBlocks_235 rfl ?_
                  refine V_if_ltN (a := c19) (tgt := 283) C dL_areBlocks_237 (by decide) (by omega) ?_
                  refine V_iload C dL_areBlocks_240 rfl ?_
                  refine V_bipush (v := (6 : Int32)) C dL_areBlocks_242 (by decide) ?_
                  refine V_icmp_geN (a := c19) (b := 6) (tgt := 283) C dL_areBlocks_244 (by decide) (by omega) (by omega) (fun h244_21 => False.elim (absurd h244_21 (by omega))) (fun h244_21 => ?_)
                  refine V_aload_n C dL_areBlocks_247 rfl ?_
                  refine V_iload C dL_areBlocks_248 rfl ?_
                  refine V_ialdN (p0 := 85) (o := j) (v := X19 85 j) C dL_areBlocks_250 sh_85 (by decide) (by omega) (by decide) rfl ?_
                  refine V_eqi (y := X 7 j) ((congrFun (hK19 85 (by omega)) _).trans (hL.1 j (by omega)).1) ?_
                  refine V_if_gt (x := X 7 j) (tgt := 279) C dL_areBlocks_251 (by decide) (fun h251_22 => ?_) (fun h251_22 => ?_)
                  · refine V_widen (n' := (5 * j + 21)) (k' := (6 * (5 * j + 21))) (by omega) (by omega) ?_
                    exact L279 X19 hK19
                  · refine V_iload C dL_areBlocks_254 rfl ?_
                    refine V_if_gtN (a := c19) (tgt := 279) C dL_areBlocks_256 (by decide) (by omega) (fun h256_23 => ?_) (fun h256_23 => ?_)
                    · refine V_widen (n' := (5 * j + 21)) (k' := (6 * (5 * j + 21))) (by omega) (by omega) ?_
                      exact L279 X19 hK19
                    · refine V_aload_n C dL_areBlocks_259 rfl ?_
                      refine V_aload_n C dL_areBlocks_260 rfl ?_
                      refine V_iload C dL_areBlocks_261 rfl ?_
                      refine V_ialdN (p0 := 86) (o := j) (v := X19 86 j) C dL_areBlocks_263 sh_86 (by decide) (by omega) (by decide) rfl ?_
                      refine V_eqi (y := X 9 j) ((congrFun (hK19 86 (by omega)) _).trans (hL.1 j (by omega)).2.1) ?_
                      refine V_aload_n C dL_areBlocks_264 rfl ?_
                      refine V_iload C dL_areBlocks_265 rfl ?_
                      refine V_ialdN (p0 := 87) (o := j) (v := X19 87 j) C dL_areBlocks_267 sh_87 (by decide) (by omega) (by decide) rfl ?_
                      refine V_eqi (y := X 10 j) ((congrFun (hK19 87 (by omega)) _).trans (hL.1 j (by omega)).2.2.1) ?_
                      refine V_aload C dL_areBlocks_268 rfl ?_
                      refine V_iload C dL_areBlocks_270 rfl ?_
                      refine V_ialdN (p0 := 88) (o := j) (v := X19 88 j) C dL_areBlocks_272 sh_88 (by decide) (by omega) (by decide) rfl ?_
                      refine V_eqi (y := X 11 j) ((congrFun (hK19 88 (by omega)) _).trans (hL.1 j (by omega)).2.2.2.1) ?_
                      refine V_hcallV C hD [.int (X 9 j), .int (X 10 j), .int (X 11 j)] mi_L_40 pl_L_40 (k_X9_has w l (X 9 j) (X 10 j) (X 11 j) X19 h n hJ19.2.1.2.1 hJ19.1.2.2.2 hJ19.2.1.1 hJ19.1.2.2.1) dL_areBlocks_273 sh_0 (by decide) rfl rfl rfl (Nat.le_of_ble_eq_true rfl) (Nat.le_of_ble_eq_true rfl) (Nat.le_of_ble_eq_true rfl) ⟨by show _ ≤ 120; omega, by show _ ≤ 720; omega⟩ (fun E X1 hx => False.elim (hx.2.elim (fun g => g.2 (by obtain ⟨a9, h9, e9⟩ := (hJ.2.1.2.1.2 j (by omega)).2.2.1 (la_k0 hJ.2.1.2.1 (by omega) (by assumption)); rw [show X 9 j = nI a9 from e9]; exact btw_n (by omega) (by omega))) (fun g => g.2.2 (hL.1 j (by omega)).2.2.2.2.2.1))) (fun v24 X24 q24 => ?_)
                      obtain ⟨-, V24, eX24, hV24, hb24⟩ := q24
                      have hb24 := (HasX_of hJ19.1.2.2.2 hJ19.2.1.2.1 hV24 hb24).congr (HasX_k hK19)
                      have hK24 : Kp X X24 := by rw [eX24]; exact hK19.put (Or.inl rfl)
                      have hJ24 := JP_k hK24 hJ
                      have hV24 : ∃ V, IsV (oC X) (gC X) n (X 1 0) V := ⟨V24, by rw [← hK19.o, ← hK19.g, ← hK19 1 (by omega)]; exact hV24⟩
                      refine V_if_eqB (tgt := 283) C hb24 dL_areBlocks_276 (by decide) (fun h276_25 => False.elim (h276_25 (JgX_has (by omega) (by have hc0 : c19 = 0 := (by omega); have h9 := hj19; rw [hc0] at h9; exact h9) (la_k0 hJ.2.1.2.1 (by omega) (by assumption))))) (fun h276_25 => ?_)
                      exact L279 X24 hK24
                refine V_iload C dL_areBlocks_205 rfl ?_
                refine V_if_neB (tgt := 228) C han dL_areBlocks_207 (by decide) (fun h207_26 => ?_) (fun h207_26 => ?_)
                · refine V_iconst (v := (1 : Int32)) C dL_areBlocks_228 (by decide) ?_
                  refine V_goto (tgt := 233) C dL_areBlocks_229 (by decide) ?_
                  exact L233 (1 : Int32) (bI.t (AnyT_s.mpr (by first | exact Or.inl (by assumption) | exact Or.inr ((CvX_i hJ.1.2.2.2 hJ.2.1.2.1 (by omega) (by omega) hj19).mpr ⟨by assumption, by assumption, by assumption⟩))))
                · refine V_aload_n C dL_areBlocks_210 rfl ?_
                  refine V_iload C dL_areBlocks_211 rfl ?_
                  refine V_ialdN (p0 := 85) (o := j) (v := X19 85 j) C dL_areBlocks_213 sh_85 (by decide) (by omega) (by decide) rfl ?_
                  refine V_eqi (y := X 7 j) ((congrFun (hK19 85 (by omega)) _).trans (hL.1 j (by omega)).1) ?_
                  refine V_iconst (v := (1 : Int32)) C dL_areBlocks_214 (by decide) ?_
                  refine V_icmp_ne (x := X 7 j) (y := (1 : Int32)) (tgt := 232) C dL_areBlocks_215 (by decide) (fun h215_27 => ?_) (fun h215_27 => ?_)
                  · refine V_iconst (v := (0 : Int32)) C dL_areBlocks_232 (by decide) ?_
                    exact L233 (0 : Int32) (bI.f (fun q => (AnyT_s.mp q).elim (by assumption) (fun g => by have g1 := (CvX_i hJ.1.2.2.2 hJ.2.1.2.1 (by omega) (by omega) hj19).mp g; first | exact absurd g1.1 (by assumption) | exact absurd g1.2.1 (by assumption) | exact absurd g1.2.2 (by assumption))))
                  · refine V_iload C dL_areBlocks_218 rfl ?_
                    refine V_if_neN (a := c19) (tgt := 232) C dL_areBlocks_220 (by decide) (by omega) (fun h220_28 => ?_) (fun h220_28 => ?_)
                    · refine V_iconst (v := (0 : Int32)) C dL_areBlocks_232 (by decide) ?_
                      exact L233 (0 : Int32) (bI.f (fun q => (AnyT_s.mp q).elim (by assumption) (fun g => by have g1 := (CvX_i hJ.1.2.2.2 hJ.2.1.2.1 (by omega) (by omega) hj19).mp g; first | exact absurd g1.1 (by assumption) | exact absurd g1.2.1 (by assumption) | exact absurd g1.2.2 (by assumption))))
                    · refine V_iload C dL_areBlocks_223 rfl ?_
                      refine V_if_eqB (tgt := 232) C hcv dL_areBlocks_225 (by decide) (fun h225_29 => ?_) (fun h225_29 => ?_)
                      · refine V_iconst (v := (0 : Int32)) C dL_areBlocks_232 (by decide) ?_
                        exact L233 (0 : Int32) (bI.f (fun q => (AnyT_s.mp q).elim (by assumption) (fun g => by have g1 := (CvX_i hJ.1.2.2.2 hJ.2.1.2.1 (by omega) (by omega) hj19).mp g; first | exact absurd g1.1 (by assumption) | exact absurd g1.2.1 (by assumption) | exact absurd g1.2.2 (by assumption))))
                      · refine V_iconst (v := (1 : Int32)) C dL_areBlocks_228 (by decide) ?_
                        refine V_goto (tgt := 233) C dL_areBlocks_229 (by decide) ?_
                        exact L233 (1 : Int32) (bI.t (AnyT_s.mpr (by first | exact Or.inl (by assumption) | exact Or.inr ((CvX_i hJ.1.2.2.2 hJ.2.1.2.1 (by omega) (by omega) hj19).mpr ⟨by assumption, by assumption, by assumption⟩))))
              refine V_iload C dL_areBlocks_166 rfl ?_
              refine V_if_neB (tgt := 198) C how dL_areBlocks_168 (by decide) (fun h168_30 => ?_) (fun h168_30 => ?_)
              · refine V_iconst (v := (1 : Int32)) C dL_areBlocks_198 (by decide) ?_
                refine V_goto (tgt := 203) C dL_areBlocks_199 (by decide) ?_
                exact L203 (1 : Int32) (bI.t (OwnT_s.mpr (by first | exact Or.inl (by assumption) | exact Or.inr ⟨(CvX_i hJ.1.2.2.2 hJ.2.1.2.1 (by omega) (by omega) hj19).mpr ⟨by assumption, by assumption, by assumption⟩, by assumption⟩)))
              · refine V_aload_n C dL_areBlocks_171 rfl ?_
                refine V_iload C dL_areBlocks_172 rfl ?_
                refine V_ialdN (p0 := 85) (o := j) (v := X19 85 j) C dL_areBlocks_174 sh_85 (by decide) (by omega) (by decide) rfl ?_
                refine V_eqi (y := X 7 j) ((congrFun (hK19 85 (by omega)) _).trans (hL.1 j (by omega)).1) ?_
                refine V_iconst (v := (1 : Int32)) C dL_areBlocks_175 (by decide) ?_
                refine V_icmp_ne (x := X 7 j) (y := (1 : Int32)) (tgt := 202) C dL_areBlocks_176 (by decide) (fun h176_31 => ?_) (fun h176_31 => ?_)
                · refine V_iconst (v := (0 : Int32)) C dL_areBlocks_202 (by decide) ?_
                  exact L203 (0 : Int32) (bI.f (fun q => (OwnT_s.mp q).elim (by assumption) (fun g => by have g1 := (CvX_i hJ.1.2.2.2 hJ.2.1.2.1 (by omega) (by omega) hj19).mp g.1; first | exact absurd g1.1 (by assumption) | exact absurd g1.2.1 (by assumption) | exact absurd g1.2.2 (by assumption) | exact absurd g.2 (by assumption))))
                · refine V_iload C dL_areBlocks_179 rfl ?_
                  refine V_if_neN (a := c19) (tgt := 202) C dL_areBlocks_181 (by decide) (by omega) (fun h181_32 => ?_) (fun h181_32 => ?_)
                  · refine V_iconst (v := (0 : Int32)) C dL_areBlocks_202 (by decide) ?_
                    exact L203 (0 : Int32) (bI.f (fun q => (OwnT_s.mp q).elim (by assumption) (fun g => by have g1 := (CvX_i hJ.1.2.2.2 hJ.2.1.2.1 (by omega) (by omega) hj19).mp g.1; first | exact absurd g1.1 (by assumption) | exact absurd g1.2.1 (by assumption) | exact absurd g1.2.2 (by assumption) | exact absurd g.2 (by assumption))))
                  · refine V_iload C dL_areBlocks_184 rfl ?_
                    refine V_if_eqB (tgt := 202) C hcv dL_areBlocks_186 (by decide) (fun h186_33 => ?_) (fun h186_33 => ?_)
                    · refine V_iconst (v := (0 : Int32)) C dL_areBlocks_202 (by decide) ?_
                      exact L203 (0 : Int32) (bI.f (fun q => (OwnT_s.mp q).elim (by assumption) (fun g => by have g1 := (CvX_i hJ.1.2.2.2 hJ.2.1.2.1 (by omega) (by omega) hj19).mp g.1; first | exact absurd g1.1 (by assumption) | exact absurd g1.2.1 (by assumption) | exact absurd g1.2.2 (by assumption) | exact absurd g.2 (by assumption))))
                    · refine V_aload_n C dL_areBlocks_189 rfl ?_
                      refine V_iload C dL_areBlocks_190 rfl ?_
                      refine V_ialdN (p0 := 86) (o := j) (v := X19 86 j) C dL_areBlocks_192 sh_86 (by decide) (by omega) (by decide) rfl ?_
                      refine V_eqi (y := X 9 j) ((congrFun (hK19 86 (by omega)) _).trans (hL.1 j (by omega)).2.1) ?_
                      refine V_iload C dL_areBlocks_193 rfl ?_
                      refine V_icmp_ne (x := X 9 j) (y := nI net) (tgt := 202) C dL_areBlocks_195 (by decide) (fun h195_34 => ?_) (fun h195_34 => ?_)
                      · refine V_iconst (v := (0 : Int32)) C dL_areBlocks_202 (by decide) ?_
                        exact L203 (0 : Int32) (bI.f (fun q => (OwnT_s.mp q).elim (by assumption) (fun g => by have g1 := (CvX_i hJ.1.2.2.2 hJ.2.1.2.1 (by omega) (by omega) hj19).mp g.1; first | exact absurd g1.1 (by assumption) | exact absurd g1.2.1 (by assumption) | exact absurd g1.2.2 (by assumption) | exact absurd g.2 (by assumption))))
                      · refine V_iconst (v := (1 : Int32)) C dL_areBlocks_198 (by decide) ?_
                        refine V_goto (tgt := 203) C dL_areBlocks_199 (by decide) ?_
                        exact L203 (1 : Int32) (bI.t (OwnT_s.mpr (by first | exact Or.inl (by assumption) | exact Or.inr ⟨(CvX_i hJ.1.2.2.2 hJ.2.1.2.1 (by omega) (by omega) hj19).mpr ⟨by assumption, by assumption, by assumption⟩, by assumption⟩)))
            refine V_iload C dL_areBlocks_122 rfl ?_
            refine V_aload C dL_areBlocks_124 rfl ?_
            refine V_iload C dL_areBlocks_126 rfl ?_
            refine V_ialdN (p0 := 88) (o := j) (v := X19 88 j) C dL_areBlocks_128 sh_88 (by decide) (by omega) (by decide) rfl ?_
            refine V_eqi (y := X 11 j) ((congrFun (hK19 88 (by omega)) _).trans (hL.1 j (by omega)).2.2.2.1) ?_
            refine V_icmp_lt (x := nI b) (y := X 11 j) (tgt := 163) C dL_areBlocks_129 (by decide) (fun h129_35 => ?_) (fun h129_35 => ?_)
            · refine V_iconst (v := (0 : Int32)) C dL_areBlocks_163 (by decide) ?_
              exact L164 (0 : Int32) (bI.f (fun q => by first | exact absurd (by assumption) (Int32.not_lt.mpr q.1) | exact absurd q.2 (by assumption)))
            · refine V_iload C dL_areBlocks_132 rfl ?_
              refine V_bipush (v := (8 : Int32)) C dL_areBlocks_134 (by decide) ?_
              refine V_aload C dL_areBlocks_136 rfl ?_
              refine V_iload C dL_areBlocks_138 rfl ?_
              refine V_ialdN (p0 := 88) (o := j) (v := X19 88 j) C dL_areBlocks_140 sh_88 (by decide) (by omega) (by decide) rfl ?_
              refine V_eqi (y := X 11 j) ((congrFun (hK19 88 (by omega)) _).trans (hL.1 j (by omega)).2.2.2.1) ?_
              refine V_isub C dL_areBlocks_141 ?_
              refine V_ishr C dL_areBlocks_142 ?_
              refine V_aload_n C dL_areBlocks_143 rfl ?_
              refine V_iload C dL_areBlocks_144 rfl ?_
              refine V_ialdN (p0 := 87) (o := j) (v := X19 87 j) C dL_areBlocks_146 sh_87 (by decide) (by omega) (by decide) rfl ?_
              refine V_eqi (y := X 10 j) ((congrFun (hK19 87 (by omega)) _).trans (hL.1 j (by omega)).2.2.1) ?_
              refine V_bipush (v := (8 : Int32)) C dL_areBlocks_147 (by decide) ?_
              refine V_aload C dL_areBlocks_149 rfl ?_
              refine V_iload C dL_areBlocks_151 rfl ?_
              refine V_ialdN (p0 := 88) (o := j) (v := X19 88 j) C dL_areBlocks_153 sh_88 (by decide) (by omega) (by decide) rfl ?_
              refine V_eqi (y := X 11 j) ((congrFun (hK19 88 (by omega)) _).trans (hL.1 j (by omega)).2.2.2.1) ?_
              refine V_isub C dL_areBlocks_154 ?_
              refine V_ishr C dL_areBlocks_155 ?_
              refine V_icmp_ne (x := (nI v) >>> (((8 : Int32) - (X 11 j)) &&& 31)) (y := (X 10 j) >>> (((8 : Int32) - (X 11 j)) &&& 31)) (tgt := 163) C dL_areBlocks_156 (by decide) (fun h156_36 => ?_) (fun h156_36 => ?_)
              · refine V_iconst (v := (0 : Int32)) C dL_areBlocks_163 (by decide) ?_
                exact L164 (0 : Int32) (bI.f (fun q => by first | exact absurd (by assumption) (Int32.not_lt.mpr q.1) | exact absurd q.2 (by assumption)))
              · refine V_iconst (v := (1 : Int32)) C dL_areBlocks_159 (by decide) ?_
                refine V_goto (tgt := 164) C dL_areBlocks_160 (by decide) ?_
                exact L164 (1 : Int32) (bI.t ⟨Int32.not_lt.mp (by assumption), by assumption⟩)
      refine V_widen (n' := (5 * 0 + 16)) (k' := (6 * (5 * 0 + 16))) (by omega) (by omega) ?_
      exact L102 _ 0 (0 : Int32) (0 : Int32) Y (Nat.lt_succ_self _) (by omega) hKY (bI.f OwnT_0) (bI.f AnyT_0)
    refine V_iload C dL_areBlocks_37 rfl ?_
    refine V_bipush (v := (8 : Int32)) C dL_areBlocks_39 (by decide) ?_
    refine V_icmp_eqN (a := b) (b := 8) (tgt := 86) C dL_areBlocks_41 (by decide) (by omega) (by omega) (fun h41_37 => ?_) (fun h41_37 => ?_)
    · refine V_widen (n' := 16) (k' := 96) (by omega) (by omega) ?_
      exact L86 X2 hK2
    · refine V_iload C dL_areBlocks_44 rfl ?_
      refine V_if_eqB (tgt := 86) C hb1 dL_areBlocks_46 (by decide) (fun h46_38 => ?_) (fun h46_38 => ?_)
      · refine V_widen (n' := 16) (k' := 96) (by omega) (by omega) ?_
        exact L86 X2 hK2
      · refine V_aload_n C dL_areBlocks_49 rfl ?_
        refine V_iload C dL_areBlocks_50 rfl ?_
        refine V_iload C dL_areBlocks_52 rfl ?_
        refine V_iload C dL_areBlocks_54 rfl ?_
        refine V_iconst (v := (1 : Int32)) C dL_areBlocks_56 (by decide) ?_
        refine V_iaddN (a := b) (b := 1) C dL_areBlocks_57 ?_
        refine V_hcallV C hD [.int (nI who), .int (nI v), .int (nI (b + 1))] mi_L_40 pl_L_40 (k_X9_has w l (nI who) (nI v) (nI (b + 1)) X2 h n hJ2.2.1.2.1 hJ2.1.2.2.2 hJ2.2.1.1 hJ2.1.2.2.1) dL_areBlocks_58 sh_0 (by decide) rfl rfl rfl (Nat.le_of_ble_eq_true rfl) (Nat.le_of_ble_eq_true rfl) (Nat.le_of_ble_eq_true rfl) ⟨by decide, by decide⟩ (fun E X1 hx => False.elim (hx.2.elim (fun g => g.2 (btw_n (a := who) (m := h - 1) (by omega) (by omega))) (fun g => g.2.2 (blk_n (by omega) (by omega) (half_d (by omega) hv hvb).2.2)))) (fun v39 X39 q39 => ?_)
        obtain ⟨-, V39, eX39, hV39, hb39⟩ := q39
        have hb39 := (HasX_of hJ2.1.2.2.2 hJ2.2.1.2.1 hV39 hb39).congr (HasX_k hK2)
        have hK39 : Kp X X39 := by rw [eX39]; exact hK2.put (Or.inl rfl)
        have hJ39 := JP_k hK39 hJ
        have hV39 : ∃ V, IsV (oC X) (gC X) n (X 1 0) V := ⟨V39, by rw [← hK2.o, ← hK2.g, ← hK2 1 (by omega)]; exact hV39⟩
        refine V_if_eqB (tgt := 90) C hb39 dL_areBlocks_61 (by decide) (fun h61_40 => False.elim (h61_40 (HasX_1 (by omega) (by assumption)))) (fun h61_40 => ?_)
        refine V_aload_n C dL_areBlocks_64 rfl ?_
        refine V_iload C dL_areBlocks_65 rfl ?_
        refine V_iload C dL_areBlocks_67 rfl ?_
        refine V_sipush (v := (128 : Int32)) C dL_areBlocks_69 (by decide) ?_
        refine V_iload C dL_areBlocks_72 rfl ?_
        refine V_ishr C dL_areBlocks_74 ?_
        refine V_eqi (y := nI (2 ^ (7 - b))) (sh128 b (by omega)) ?_
        refine V_iaddN (a := v) (b := 2 ^ (7 - b)) C dL_areBlocks_75 ?_
        refine V_iload C dL_areBlocks_76 rfl ?_
        refine V_iconst (v := (1 : Int32)) C dL_areBlocks_78 (by decide) ?_
        refine V_iaddN (a := b) (b := 1) C dL_areBlocks_79 ?_
        refine V_hcallV C hD [.int (nI who), .int (nI (v + (2 ^ (7 - b)))), .int (nI (b + 1))] mi_L_40 pl_L_40 (k_X9_has w l (nI who) (nI (v + (2 ^ (7 - b)))) (nI (b + 1)) X39 h n hJ39.2.1.2.1 hJ39.1.2.2.2 hJ39.2.1.1 hJ39.1.2.2.1) dL_areBlocks_80 sh_0 (by decide) rfl rfl rfl (Nat.le_of_ble_eq_true rfl) (Nat.le_of_ble_eq_true rfl) (Nat.le_of_ble_eq_true rfl) ⟨by decide, by decide⟩ (fun E X1 hx => False.elim (hx.2.elim (fun g => g.2 (btw_n (a := who) (m := h - 1) (by omega) (by omega))) (fun g => g.2.2 (blk_n (half_d (by omega) hv hvb).1 (by omega) (half_d (by omega) hv hvb).2.1)))) (fun v41 X41 q41 => ?_)
        obtain ⟨-, V41, eX41, hV41, hb41⟩ := q41
        have hb41 := (HasX_of hJ39.1.2.2.2 hJ39.2.1.2.1 hV41 hb41).congr (HasX_k hK39)
        have hK41 : Kp X X41 := by rw [eX41]; exact hK39.put (Or.inl rfl)
        have hJ41 := JP_k hK41 hJ
        have hV41 : ∃ V, IsV (oC X) (gC X) n (X 1 0) V := ⟨V41, by rw [← hK39.o, ← hK39.g, ← hK39 1 (by omega)]; exact hV41⟩
        refine V_if_eqB (tgt := 90) C hb41 dL_areBlocks_83 (by decide) (fun h83_42 => False.elim (h83_42 (HasX_2 hJ.2.1.2.1 (by omega) hv hvb (by assumption)))) (fun h83_42 => ?_)
        exact L86 X41 hK41
  refine V_iload C dL_areBlocks_27 rfl ?_
  refine V_if_gtN (a := who) (tgt := 37) C dL_areBlocks_29 (by decide) (by omega) (fun h29_43 => ?_) (fun h29_43 => ?_)
  · exact L37  trivial
  · refine V_iload C dL_areBlocks_32 rfl ?_
    refine V_if_eqB (tgt := 90) C hb1 dL_areBlocks_34 (by decide) (fun h34_44 => False.elim (h34_44 (by rw [show who = 0 by omega]; exact HasX_0 hV1))) (fun h34_44 => ?_)
    exact L37  trivial
