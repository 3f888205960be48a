def q_L_areCones (net : Nat) (oth : Nat) (rd : Nat) (X : Mem) (h D n Dd R : Nat) (dr : Nat → Nat) (PP : Nat → Nat → Nat) (Z : Nat → Nat) (Th : Nat → Prop) : Int32 → Mem → Prop := fun r' X' => r' = 1 ∧ Kp X X'
set_option maxHeartbeats 4000000 in
set_option maxRecDepth 100000 in
theorem k_L_areCones (w : Wt) (l : Launch) (net : Nat) (oth : Nat) (rd : Nat) (X : Mem) (h D n Dd R : Nat) (dr : Nat → Nat) (PP : Nat → Nat → Nat) (Z : Nat → Nat) (Th : Nat → Prop) (hJ : JP X h D n Dd R dr PP Z Th) (hnt : net < 10) (hot : oth < 10) (hrd : rd < 3) : CtN w l yL_areCones cL_areCones 10 (some .boolean) 16 400 20 [.ref (w.2.1 0), .int (nI net), .int (nI oth), .int (nI rd)] X (q_L_areCones net oth rd X h D n Dd R dr PP Z Th) := by
  have hK0 : Kp X X := Kp.rf
  have h1 := hJ.1.2.2.2.1
  have h8 := hJ.1.2.2.2.2.1
  have n50 := hJ.2.1.2.1.1
  refine CtN_of (by decide +kernel) (Nat.le_of_ble_eq_true rfl) (List.forall_mem_cons.mpr ⟨rfl, (List.forall_mem_cons.mpr ⟨rfl, (List.forall_mem_cons.mpr ⟨rfl, (List.forall_mem_cons.mpr ⟨rfl, (fun _ h => nomatch h)⟩)⟩)⟩)⟩) (ls := [some (.ref (w.2.1 0)), some (.int (nI net)), some (.int (nI oth)), some (.int (nI rd)), none, none, none, none, none, none]) rfl (args := (#[.ref (w.2.1 0), .int (nI net), .int (nI oth), .int (nI rd)] : Array Value)) rfl (own := RL) rfl ?_
  intro p e s m below meth c C hD hN
  refine V_aload_n C dL_areCones_0 rfl ?_
  refine V_iload_n C dL_areCones_1 rfl ?_
  refine V_iload_n C dL_areCones_2 rfl ?_
  refine V_iload_n C dL_areCones_3 rfl ?_
  refine V_hcallV C hD [.int (nI net), .int (nI oth), .int (nI rd)] mi_L_57 pl_L_57 (k_X9_inferred w l (nI net) (nI oth) (nI rd) X R PP Z Th hJ.2.2.2.1.1) dL_areCones_4 sh_0 (by decide) rfl rfl rfl (Nat.le_of_ble_eq_true rfl) (Nat.le_of_ble_eq_true rfl) (Nat.le_of_ble_eq_true rfl) ⟨by decide, by decide⟩ (fun E X1 hx => False.elim (hx.2.2 ⟨(btw_n (a := net) (m := 9) (by omega) (by omega)), (btw_n (a := oth) (m := 9) (by omega) (by omega)), (btw_n (a := rd) (m := 2) (by omega) (by omega))⟩)) (fun v1 X1 q1 => ?_)
  obtain ⟨-, a1, b1, d1, ⟨ha1, hb1, hc1, ea1, eb1, ed1⟩, oI1, hB1⟩ := q1
  rw [← nIu (m := 10) (by decide) (by omega) (by omega) ea1, ← nIu (m := 10) (by decide) (by omega) (by omega) eb1, ← nIu (m := 3) (by decide) (by omega) (by omega) ed1] at hB1
  have hK1 : Kp X X1 := hK0.outI oI1
  have hJ1 := JP_k hK1 hJ
  obtain ⟨c1, hcc1, ec1⟩ := bet_n hB1
  rw [ec1] at hB1
  refine V_eqi ec1 ?_
  refine V_istore (ls1 := [some (.ref (w.2.1 0)), some (.int (nI net)), some (.int (nI oth)), some (.int (nI rd)), some (.int (nI c1)), none, none, none, none, none]) C dL_areCones_7 (by decide) rfl ?_
  refine V_aload_n C dL_areCones_9 rfl ?_
  refine V_iload_n C dL_areCones_10 rfl ?_
  refine V_hcallV C hD [.int (nI net)] mi_L_60 pl_L_60 (k_X9_cone w l (nI net) X1 R PP Z Th hJ1.2.2.2.1.1) dL_areCones_11 sh_0 (by decide) rfl rfl rfl (Nat.le_of_ble_eq_true rfl) (Nat.le_of_ble_eq_true rfl) (Nat.le_of_ble_eq_true rfl) ⟨by decide, by decide⟩ (fun E X1 hx => False.elim (hx.2.2 (btw_n (a := net) (m := 9) (by omega) (by omega)))) (fun v2 X2 q2 => ?_)
  obtain ⟨-, a2, ⟨ha2, ea2⟩, oI2, S2, ⟨hS2, hb2⟩, eS2⟩ := q2
  rw [← nIu (m := 10) (by decide) (by omega) (by omega) ea2] at hb2
  have hK2 : Kp X X2 := hK1.outI oI2
  have hJ2 := JP_k hK2 hJ
  refine V_eqi eS2 ?_
  refine V_istore (ls1 := [some (.ref (w.2.1 0)), some (.int (nI net)), some (.int (nI oth)), some (.int (nI rd)), some (.int (nI c1)), some (.int (nI S2)), none, none, none, none]) C dL_areCones_14 (by decide) rfl ?_
  refine V_aload_n C dL_areCones_16 rfl ?_
  refine V_iload_n C dL_areCones_17 rfl ?_
  refine V_hcallV C hD [.int (nI net)] mi_L_63 pl_L_63 (k_X9_coneByPaths w l (nI net) X2 R PP Z Th hJ2.2.2.2.1.1) dL_areCones_18 sh_0 (by decide) rfl rfl rfl (Nat.le_of_ble_eq_true rfl) (Nat.le_of_ble_eq_true rfl) (Nat.le_of_ble_eq_true rfl) ⟨by decide, by decide⟩ (fun E X1 hx => False.elim (hx.2.2 (btw_n (a := net) (m := 9) (by omega) (by omega)))) (fun v3 X3 q3 => ?_)
  obtain ⟨-, a3, ⟨ha3, ea3⟩, oI3, S3, ⟨hS3, hb3⟩, eS3⟩ := q3
  rw [← nIu (m := 10) (by decide) (by omega) (by omega) ea3] at hb3
  have hK3 : Kp X X3 := hK2.outI oI3
  have hJ3 := JP_k hK3 hJ
  refine V_eqi eS3 ?_
  refine V_istore (ls1 := [some (.ref (w.2.1 0)), some (.int (nI net)), some (.int (nI oth)), some (.int (nI rd)), some (.int (nI c1)), some (.int (nI S2)), some (.int (nI S3)), none, none, none]) C dL_areCones_21 (by decide) rfl ?_
  refine V_aload_n C dL_areCones_23 rfl ?_
  refine V_callVI C [] mi_L_66 (k_X9_clique w l X3 R PP Z Th hJ3.2.2.2.1.1) dL_areCones_24 sh_0 (by decide) rfl rfl rfl (Nat.le_of_ble_eq_true rfl) (Nat.le_of_ble_eq_true rfl) (Nat.le_of_ble_eq_true rfl) ⟨by decide, by decide⟩ (fun v4 X4 q4 => ?_)
  obtain ⟨oI4, ec4⟩ := q4
  have hK4 : Kp X X4 := hK3.outI oI4
  have hJ4 := JP_k hK4 hJ
  have hKF := (KF_is R PP Z Th).2
  refine V_eqi ec4 ?_
  refine V_istore (ls1 := [some (.ref (w.2.1 0)), some (.int (nI net)), some (.int (nI oth)), some (.int (nI rd)), some (.int (nI c1)), some (.int (nI S2)), some (.int (nI S3)), some (.int (nI (KF R PP Z Th))), none, none]) C dL_areCones_27 (by decide) rfl ?_
  refine V_iload C dL_areCones_29 rfl ?_
  refine V_iload_n C dL_areCones_31 rfl ?_
  refine V_ishr C dL_areCones_32 ?_
  refine V_iconst (v := (1 : Int32)) C dL_areCones_33 (by decide) ?_
  refine V_iand C dL_areCones_34 ?_
  refine V_eqi (y := nI ((KF R PP Z Th) / 2 ^ net % 2)) (bit_val (by omega) (by omega)) ?_
  refine V_iload C dL_areCones_35 rfl ?_
  refine V_iload_n C dL_areCones_37 rfl ?_
  refine V_ishr C dL_areCones_38 ?_
  refine V_iconst (v := (1 : Int32)) C dL_areCones_39 (by decide) ?_
  refine V_iand C dL_areCones_40 ?_
  refine V_eqi (y := nI ((KF R PP Z Th) / 2 ^ oth % 2)) (bit_val (by omega) (by omega)) ?_
  refine V_iaddN (a := (KF R PP Z Th) / 2 ^ net % 2) (b := (KF R PP Z Th) / 2 ^ oth % 2) C dL_areCones_41 ?_
  refine V_istore (ls1 := [some (.ref (w.2.1 0)), some (.int (nI net)), some (.int (nI oth)), some (.int (nI rd)), some (.int (nI c1)), some (.int (nI S2)), some (.int (nI S3)), some (.int (nI (KF R PP Z Th))), some (.int (nI ((KF R PP Z Th) / 2 ^ net % 2 + ((KF R PP Z Th) / 2 ^ oth % 2)))), none]) C dL_areCones_42 (by decide) rfl ?_
  have hself : S2 / 2 ^ net % 2 = 1 := bit_1 ((hb2 net).mpr Rch_rf)
  have hsm : S3 / 2 ^ net % 2 = 1 := bit_1 ((hb3 net).mpr (Or.inl rfl))
  have hor : S2 ||| S3 = S2 := or_sub (by omega) (by omega) (fun b g => (hb2 b).mpr (PCone_Rch ((hb3 b).mp g)))
  have hself0 : net = oth → c1 = 0 := by
    intro g
    rw [← g] at hB1
    exact bet_0 (by omega) hB1
  have hpe : KF R PP Z Th / 2 ^ net % 2 + KF R PP Z Th / 2 ^ oth % 2 ≥ 2 → net ≠ oth → c1 = 3 := fun g h => bet_3 (fun r hr k hk => ((hJ.2.2.2.1.1.2.2 r hr).2.2.2.1 k hk).2) (by omega) h (tb_iff.mpr (by have := Nat.mod_lt (KF R PP Z Th / 2 ^ oth) (by decide : 0 < 2); omega)) (tb_iff.mpr (by have := Nat.mod_lt (KF R PP Z Th / 2 ^ net) (by decide : 0 < 2); omega)) hB1
  refine V_aload_n C dL_areCones_44 rfl ?_
  refine V_iload_n C dL_areCones_45 rfl ?_
  refine V_iload_n C dL_areCones_46 rfl ?_
  refine V_iload_n C dL_areCones_47 rfl ?_
  refine V_hcallV C hD [.int (nI oth), .int (nI net), .int (nI rd)] mi_L_57 pl_L_57 (k_X9_inferred w l (nI oth) (nI net) (nI rd) X4 R PP Z Th hJ4.2.2.2.1.1) dL_areCones_48 sh_0 (by decide) rfl rfl rfl (Nat.le_of_ble_eq_true rfl) (Nat.le_of_ble_eq_true rfl) (Nat.le_of_ble_eq_true rfl) ⟨by decide, by decide⟩ (fun E X1 hx => False.elim (hx.2.2 ⟨(btw_n (a := oth) (m := 9) (by omega) (by omega)), (btw_n (a := net) (m := 9) (by omega) (by omega)), (btw_n (a := rd) (m := 2) (by omega) (by omega))⟩)) (fun v5 X5 q5 => ?_)
  obtain ⟨-, a5, b5, d5, ⟨ha5, hb5, hc5, ea5, eb5, ed5⟩, oI5, hB5⟩ := q5
  rw [← nIu (m := 10) (by decide) (by omega) (by omega) ea5, ← nIu (m := 10) (by decide) (by omega) (by omega) eb5, ← nIu (m := 3) (by decide) (by omega) (by omega) ed5] at hB5
  have hK5 : Kp X X5 := hK4.outI oI5
  have hJ5 := JP_k hK5 hJ
  obtain ⟨c5, hcc5, ec5⟩ := bet_n hB5
  rw [ec5] at hB5
  refine V_eqi ec5 ?_
  have hbm := bet_m (by omega) (by omega) hB1 hB5
  have L86 : (True) → V p l e ({ frames := 16, cells := 20, slots := 6 * 20, locals := 400 } : Room) s m (#[.ref (w.2.1 0), .int (nI net), .int (nI oth), .int (nI rd)] : Array Value) below meth c w 10 8 48 (XI w below s (#[.ref (w.2.1 0), .int (nI net), .int (nI oth), .int (nI rd)] : Array Value) 20 (q_L_areCones net oth rd X h D n Dd R dr PP Z Th) (fun _ _ => False)) 86 [some (.ref (w.2.1 0)), some (.int (nI net)), some (.int (nI oth)), some (.int (nI rd)), some (.int (nI c1)), some (.int (nI S2)), some (.int (nI S3)), some (.int (nI (KF R PP Z Th))), some (.int (nI ((KF R PP Z Th) / 2 ^ net % 2 + ((KF R PP Z Th) / 2 ^ oth % 2)))), none] [] X5 := by
    intro  ht86
    refine V_iload C dL_areCones_86 rfl ?_
    refine V_iload_n C dL_areCones_88 rfl ?_
    refine V_ishr C dL_areCones_89 ?_
    refine V_iconst (v := (1 : Int32)) C dL_areCones_90 (by decide) ?_
    refine V_iand C dL_areCones_91 ?_
    refine V_eqi (y := nI (S2 / 2 ^ net % 2)) (bit_val (by omega) (by omega)) ?_
    refine V_iconst (v := (1 : Int32)) C dL_areCones_92 (by decide) ?_
    refine V_icmp_neN (a := S2 / 2 ^ net % 2) (b := 1) (tgt := 120) C dL_areCones_93 (by decide) (by omega) (by omega) (fun h93_6 => False.elim (h93_6 hself)) (fun h93_6 => ?_)
    refine V_iload C dL_areCones_96 rfl ?_
    refine V_iload C dL_areCones_98 rfl ?_
    refine V_ior C dL_areCones_100 ?_
    refine V_eqi (y := nI (S2 ||| S3)) (nI_or _ _) ?_
    refine V_iload C dL_areCones_101 rfl ?_
    refine V_icmp_neN (a := S2 ||| S3) (b := S2) (tgt := 120) C dL_areCones_103 (by decide) (by omega) (by omega) (fun h103_7 => False.elim (h103_7 hor)) (fun h103_7 => ?_)
    refine V_iload C dL_areCones_106 rfl ?_
    refine V_iload_n C dL_areCones_108 rfl ?_
    refine V_ishr C dL_areCones_109 ?_
    refine V_iconst (v := (1 : Int32)) C dL_areCones_110 (by decide) ?_
    refine V_iand C dL_areCones_111 ?_
    refine V_eqi (y := nI (S3 / 2 ^ net % 2)) (bit_val (by omega) (by omega)) ?_
    refine V_iconst (v := (1 : Int32)) C dL_areCones_112 (by decide) ?_
    refine V_icmp_neN (a := S3 / 2 ^ net % 2) (b := 1) (tgt := 120) C dL_areCones_113 (by decide) (by omega) (by omega) (fun h113_8 => False.elim (h113_8 hsm)) (fun h113_8 => ?_)
    refine V_iconst (v := (1 : Int32)) C dL_areCones_116 (by decide) ?_
    refine V_goto (tgt := 121) C dL_areCones_117 (by decide) ?_
    refine V_istore (ls1 := [some (.ref (w.2.1 0)), some (.int (nI net)), some (.int (nI oth)), some (.int (nI rd)), some (.int (nI c1)), some (.int (nI S2)), some (.int (nI S3)), some (.int (nI (KF R PP Z Th))), some (.int (nI ((KF R PP Z Th) / 2 ^ net % 2 + ((KF R PP Z Th) / 2 ^ oth % 2)))), some (.int (1 : Int32))]) C dL_areCones_121 (by decide) rfl ?_
    have L172 : ∀ (Y : Mem), (Kp X Y) → V p l e ({ frames := 16, cells := 20, slots := 6 * 20, locals := 400 } : Room) s m (#[.ref (w.2.1 0), .int (nI net), .int (nI oth), .int (nI rd)] : Array Value) below meth c w 10 12 72 (XI w below s (#[.ref (w.2.1 0), .int (nI net), .int (nI oth), .int (nI rd)] : Array Value) 20 (q_L_areCones net oth rd X h D n Dd R dr PP Z Th) (fun _ _ => False)) 172 [some (.ref (w.2.1 0)), some (.int (nI net)), some (.int (nI oth)), some (.int (nI rd)), some (.int (nI c1)), some (.int (nI S2)), some (.int (nI S3)), some (.int (nI (KF R PP Z Th))), some (.int (nI ((KF R PP Z Th) / 2 ^ net % 2 + ((KF R PP Z Th) / 2 ^ oth % 2)))), some (.int (1 : Int32))] [] Y := by
      intro Y hKY
      have hJY := JP_k hKY hJ
      refine V_iconst (v := (1 : Int32)) C dL_areCones_172 (by decide) ?_
      refine V_goto (tgt := 177) C dL_areCones_173 (by decide) ?_
      refine V_istore (ls1 := [some (.ref (w.2.1 0)), some (.int (nI net)), some (.int (nI oth)), some (.int (nI rd)), some (.int (nI c1)), some (.int (nI S2)), some (.int (nI S3)), some (.int (nI (KF R PP Z Th))), some (.int (nI ((KF R PP Z Th) / 2 ^ net % 2 + ((KF R PP Z Th) / 2 ^ oth % 2)))), some (.int (1 : Int32))]) C dL_areCones_177 (by decide) rfl ?_
      refine V_iload C dL_areCones_179 rfl ?_
      refine V_if_eq (x := (1 : Int32)) (tgt := 231) C dL_areCones_181 (by decide) (fun h => absurd h (by decide)) (fun _ => ?_)
      refine V_aload_n C dL_areCones_184 rfl ?_
      refine V_iload_n C dL_areCones_185 rfl ?_
      refine V_hcallV C hD [.int (nI net)] mi_L_70 pl_L_70 (k_X9_addresses w l (nI net) Y R PP Z Th hJY.2.2.2.1.1) dL_areCones_186 sh_0 (by decide) rfl rfl rfl (Nat.le_of_ble_eq_true rfl) (Nat.le_of_ble_eq_true rfl) (Nat.le_of_ble_eq_true rfl) ⟨by decide, by decide⟩ (fun E X1 hx => False.elim (hx.2.2 (btw_n (a := net) (m := 9) (by omega) (by omega)))) (fun v10 X10 q10 => ?_)
      obtain ⟨-, a10, S10, ⟨ha10, ea10⟩, ⟨hS10, hb10⟩, oI10, eA10⟩ := q10
      rw [← nIu (m := 10) (by decide) (by omega) (by omega) ea10] at hb10
      rw [hKY 48 (by omega), hKY 49 (by omega)] at eA10
      have hK10 : Kp X X10 := hKY.outI oI10
      have hJ10 := JP_k hK10 hJ
      obtain ⟨n10, en10⟩ : ∃ m, m = sumN (fun ad => oneIf (ReA (X 48) (X 49) PP Th S10 ad R)) 256 := ⟨_, rfl⟩
      rw [← en10] at eA10
      have hn10 : n10 ≤ 256 := by rw [en10]; exact sum256 _
      refine V_eqi eA10 ?_
      refine V_if_ltN (a := n10) (tgt := 231) C dL_areCones_189 (by decide) (by omega) ?_
      refine V_aload_n C dL_areCones_192 rfl ?_
      refine V_iload_n C dL_areCones_193 rfl ?_
      refine V_hcallV C hD [.int (nI net)] mi_L_70 pl_L_70 (k_X9_addresses w l (nI net) X10 R PP Z Th hJ10.2.2.2.1.1) dL_areCones_194 sh_0 (by decide) rfl rfl rfl (Nat.le_of_ble_eq_true rfl) (Nat.le_of_ble_eq_true rfl) (Nat.le_of_ble_eq_true rfl) ⟨by decide, by decide⟩ (fun E X1 hx => False.elim (hx.2.2 (btw_n (a := net) (m := 9) (by omega) (by omega)))) (fun v12 X12 q12 => ?_)
      obtain ⟨-, a12, S12, ⟨ha12, ea12⟩, ⟨hS12, hb12⟩, oI12, eA12⟩ := q12
      rw [← nIu (m := 10) (by decide) (by omega) (by omega) ea12] at hb12
      rw [hK10 48 (by omega), hK10 49 (by omega)] at eA12
      have hK12 : Kp X X12 := hK10.outI oI12
      have hJ12 := JP_k hK12 hJ
      obtain ⟨n12, en12⟩ : ∃ m, m = sumN (fun ad => oneIf (ReA (X 48) (X 49) PP Th S12 ad R)) 256 := ⟨_, rfl⟩
      rw [← en12] at eA12
      have hn12 : n12 ≤ 256 := by rw [en12]; exact sum256 _
      refine V_eqi eA12 ?_
      refine V_sipush (v := (256 : Int32)) C dL_areCones_197 (by decide) ?_
      refine V_icmp_gtN (a := n12) (b := 256) (tgt := 231) C dL_areCones_200 (by decide) (by omega) (by omega) (fun h200_13 => False.elim (absurd h200_13 (by omega))) (fun h200_13 => ?_)
      have L227 : ∀ (Y2 : Mem), (Kp X Y2) → V p l e ({ frames := 16, cells := 20, slots := 6 * 20, locals := 400 } : Room) s m (#[.ref (w.2.1 0), .int (nI net), .int (nI oth), .int (nI rd)] : Array Value) below meth c w 10 18 108 (XI w below s (#[.ref (w.2.1 0), .int (nI net), .int (nI oth), .int (nI rd)] : Array Value) 20 (q_L_areCones net oth rd X h D n Dd R dr PP Z Th) (fun _ _ => False)) 227 [some (.ref (w.2.1 0)), some (.int (nI net)), some (.int (nI oth)), some (.int (nI rd)), some (.int (nI c1)), some (.int (nI S2)), some (.int (nI S3)), some (.int (nI (KF R PP Z Th))), some (.int (nI ((KF R PP Z Th) / 2 ^ net % 2 + ((KF R PP Z Th) / 2 ^ oth % 2)))), some (.int (1 : Int32))] [] Y2 := by
        intro Y2 hKY2
        have hJY2 := JP_k hKY2 hJ
        refine V_iconst (v := (1 : Int32)) C dL_areCones_227 (by decide) ?_
        refine V_goto (tgt := 232) C dL_areCones_228 (by decide) ?_
        exact V_zreturnX C dL_areCones_232 (Or.inr rfl) (by decide) (by decide) ⟨rfl, hKY2⟩
      refine V_iload_n C dL_areCones_203 rfl ?_
      refine V_iconst (v := (2 : Int32)) C dL_areCones_204 (by decide) ?_
      refine V_icmp_ltN (a := rd) (b := 2) (tgt := 227) C dL_areCones_205 (by decide) (by omega) (by omega) (fun h205_14 => ?_) (fun h205_14 => ?_)
      · refine V_widen (n' := 18) (k' := 108) (by omega) (by omega) ?_
        exact L227 X12 hK12
      · refine V_iload C dL_areCones_208 rfl ?_
        refine V_iconst (v := (1 : Int32)) C dL_areCones_210 (by decide) ?_
        refine V_icmp_neN (a := c1) (b := 1) (tgt := 227) C dL_areCones_211 (by decide) (by omega) (by omega) (fun h211_15 => ?_) (fun h211_15 => ?_)
        · refine V_widen (n' := 18) (k' := 108) (by omega) (by omega) ?_
          exact L227 X12 hK12
        · refine V_aload_n C dL_areCones_214 rfl ?_
          refine V_iload_n C dL_areCones_215 rfl ?_
          refine V_hcallV C hD [.int (nI oth)] mi_L_70 pl_L_70 (k_X9_addresses w l (nI oth) X12 R PP Z Th hJ12.2.2.2.1.1) dL_areCones_216 sh_0 (by decide) rfl rfl rfl (Nat.le_of_ble_eq_true rfl) (Nat.le_of_ble_eq_true rfl) (Nat.le_of_ble_eq_true rfl) ⟨by decide, by decide⟩ (fun E X1 hx => False.elim (hx.2.2 (btw_n (a := oth) (m := 9) (by omega) (by omega)))) (fun v16 X16 q16 => ?_)
          obtain ⟨-, a16, S16, ⟨ha16, ea16⟩, ⟨hS16, hb16⟩, oI16, eA16⟩ := q16
          rw [← nIu (m := 10) (by decide) (by omega) (by omega) ea16] at hb16
          rw [hK12 48 (by omega), hK12 49 (by omega)] at eA16
          have hK16 : Kp X X16 := hK12.outI oI16
          have hJ16 := JP_k hK16 hJ
          obtain ⟨n16, en16⟩ : ∃ m, m = sumN (fun ad => oneIf (ReA (X 48) (X 49) PP Th S16 ad R)) 256 := ⟨_, rfl⟩
          rw [← en16] at eA16
          have hn16 : n16 ≤ 256 := by rw [en16]; exact sum256 _
          refine V_eqi eA16 ?_
          refine V_aload_n C dL_areCones_219 rfl ?_
          refine V_iload_n C dL_areCones_220 rfl ?_
          refine V_hcallV C hD [.int (nI net)] mi_L_70 pl_L_70 (k_X9_addresses w l (nI net) X16 R PP Z Th hJ16.2.2.2.1.1) dL_areCones_221 sh_0 (by decide) rfl rfl rfl (Nat.le_of_ble_eq_true rfl) (Nat.le_of_ble_eq_true rfl) (Nat.le_of_ble_eq_true rfl) ⟨by decide, by decide⟩ (fun E X1 hx => False.elim (hx.2.2 (btw_n (a := net) (m := 9) (by omega) (by omega)))) (fun v17 X17 q17 => ?_)
          obtain ⟨-, a17, S17, ⟨ha17, ea17⟩, ⟨hS17, hb17⟩, oI17, eA17⟩ := q17
          rw [← nIu (m := 10) (by decide) (by omega) (by omega) ea17] at hb17
          rw [hK16 48 (by omega), hK16 49 (by omega)] at eA17
          have hK17 : Kp X X17 := hK16.outI oI17
          have hJ17 := JP_k hK17 hJ
          obtain ⟨n17, en17⟩ : ∃ m, m = sumN (fun ad => oneIf (ReA (X 48) (X 49) PP Th S17 ad R)) 256 := ⟨_, rfl⟩
          rw [← en17] at eA17
          have hn17 : n17 ≤ 256 := by rw [en17]; exact sum256 _
          refine V_eqi eA17 ?_
          refine V_icmp_ltN (a := n16) (b := n17) (tgt := 231) C dL_areCones_224 (by decide) (by omega) (by omega) (fun h224_18 => False.elim (absurd h224_18 (Nat.not_lt.mpr (by rw [en16, en17]; exact ReA_sub (fun b g => (hb16 b).mpr (Rch_tr (Rch_st Rch_rf (by have g9 := (bet_c (by omega) hB1).2.1 (by assumption); rw [show rd = 2 by omega] at g9; exact g9.2)) ((hb17 b).mp g))))))) (fun h224_18 => ?_)
          refine V_widen (n' := 18) (k' := 108) (by omega) (by omega) ?_
          exact L227 X17 hK17
    have L145 : (True) → V p l e ({ frames := 16, cells := 20, slots := 6 * 20, locals := 400 } : Room) s m (#[.ref (w.2.1 0), .int (nI net), .int (nI oth), .int (nI rd)] : Array Value) below meth c w 10 8 48 (XI w below s (#[.ref (w.2.1 0), .int (nI net), .int (nI oth), .int (nI rd)] : Array Value) 20 (q_L_areCones net oth rd X h D n Dd R dr PP Z Th) (fun _ _ => False)) 145 [some (.ref (w.2.1 0)), some (.int (nI net)), some (.int (nI oth)), some (.int (nI rd)), some (.int (nI c1)), some (.int (nI S2)), some (.int (nI S3)), some (.int (nI (KF R PP Z Th))), some (.int (nI ((KF R PP Z Th) / 2 ^ net % 2 + ((KF R PP Z Th) / 2 ^ oth % 2)))), some (.int (1 : Int32))] [] X5 := by
      intro  ht145
      refine V_iload_n C dL_areCones_145 rfl ?_
      refine V_iconst (v := (2 : Int32)) C dL_areCones_146 (by decide) ?_
      refine V_icmp_ltN (a := rd) (b := 2) (tgt := 172) C dL_areCones_147 (by decide) (by omega) (by omega) (fun h147_19 => ?_) (fun h147_19 => ?_)
      · refine V_widen (n' := 12) (k' := 72) (by omega) (by omega) ?_
        exact L172 X5 hK5
      · refine V_iload C dL_areCones_150 rfl ?_
        refine V_iconst (v := (1 : Int32)) C dL_areCones_152 (by decide) ?_
        refine V_icmp_neN (a := c1) (b := 1) (tgt := 172) C dL_areCones_153 (by decide) (by omega) (by omega) (fun h153_20 => ?_) (fun h153_20 => ?_)
        · refine V_widen (n' := 12) (k' := 72) (by omega) (by omega) ?_
          exact L172 X5 hK5
        · refine V_aload_n C dL_areCones_156 rfl ?_
          refine V_iload_n C dL_areCones_157 rfl ?_
          refine V_hcallV C hD [.int (nI oth)] mi_L_60 pl_L_60 (k_X9_cone w l (nI oth) X5 R PP Z Th hJ5.2.2.2.1.1) dL_areCones_158 sh_0 (by decide) rfl rfl rfl (Nat.le_of_ble_eq_true rfl) (Nat.le_of_ble_eq_true rfl) (Nat.le_of_ble_eq_true rfl) ⟨by decide, by decide⟩ (fun E X1 hx => False.elim (hx.2.2 (btw_n (a := oth) (m := 9) (by omega) (by omega)))) (fun v21 X21 q21 => ?_)
          obtain ⟨-, a21, ⟨ha21, ea21⟩, oI21, S21, ⟨hS21, hb21⟩, eS21⟩ := q21
          rw [← nIu (m := 10) (by decide) (by omega) (by omega) ea21] at hb21
          have hK21 : Kp X X21 := hK5.outI oI21
          have hJ21 := JP_k hK21 hJ
          refine V_eqi eS21 ?_
          refine V_iload C dL_areCones_161 rfl ?_
          refine V_ior C dL_areCones_163 ?_
          refine V_eqi (y := nI (S21 ||| S2)) (nI_or _ _) ?_
          refine V_aload_n C dL_areCones_164 rfl ?_
          refine V_iload_n C dL_areCones_165 rfl ?_
          refine V_hcallV C hD [.int (nI oth)] mi_L_60 pl_L_60 (k_X9_cone w l (nI oth) X21 R PP Z Th hJ21.2.2.2.1.1) dL_areCones_166 sh_0 (by decide) rfl rfl rfl (Nat.le_of_ble_eq_true rfl) (Nat.le_of_ble_eq_true rfl) (Nat.le_of_ble_eq_true rfl) ⟨by decide, by decide⟩ (fun E X1 hx => False.elim (hx.2.2 (btw_n (a := oth) (m := 9) (by omega) (by omega)))) (fun v22 X22 q22 => ?_)
          obtain ⟨-, a22, ⟨ha22, ea22⟩, oI22, S22, ⟨hS22, hb22⟩, eS22⟩ := q22
          rw [← nIu (m := 10) (by decide) (by omega) (by omega) ea22] at hb22
          have hK22 : Kp X X22 := hK21.outI oI22
          have hJ22 := JP_k hK22 hJ
          refine V_eqi eS22 ?_
          have hor2 : S21 ||| S2 < 1024 := or_lt (by omega) (by omega)
          refine V_icmp_neN (a := S21 ||| S2) (b := S22) (tgt := 176) C dL_areCones_169 (by decide) (by omega) (by omega) (fun h169_23 => False.elim (h169_23 ((or_sub (by omega) (by omega) (fun b g => (hb21 b).mpr (Rch_tr (Rch_st Rch_rf (by have g9 := (bet_c (by omega) hB1).2.1 (by assumption); rw [show rd = 2 by omega] at g9; exact g9.2)) ((hb2 b).mp g)))).trans (set_one (by omega) (by omega) hb21 hb22)))) (fun h169_23 => ?_)
          refine V_widen (n' := 12) (k' := 72) (by omega) (by omega) ?_
          exact L172 X22 hK22
    refine V_iload C dL_areCones_123 rfl ?_
    refine V_if_eq (x := (1 : Int32)) (tgt := 176) C dL_areCones_125 (by decide) (fun h => absurd h (by decide)) (fun _ => ?_)
    refine V_iload C dL_areCones_128 rfl ?_
    refine V_iconst (v := (2 : Int32)) C dL_areCones_130 (by decide) ?_
    refine V_icmp_ltN (a := (KF R PP Z Th) / 2 ^ net % 2 + ((KF R PP Z Th) / 2 ^ oth % 2)) (b := 2) (tgt := 145) C dL_areCones_131 (by decide) (by omega) (by omega) (fun h131_25 => ?_) (fun h131_25 => ?_)
    · exact L145  trivial
    · refine V_iload_n C dL_areCones_134 rfl ?_
      refine V_iload_n C dL_areCones_135 rfl ?_
      refine V_icmp_eqN (a := net) (b := oth) (tgt := 145) C dL_areCones_136 (by decide) (by omega) (by omega) (fun h136_26 => ?_) (fun h136_26 => ?_)
      · exact L145  trivial
      · refine V_iload C dL_areCones_139 rfl ?_
        refine V_iconst (v := (3 : Int32)) C dL_areCones_141 (by decide) ?_
        refine V_icmp_neN (a := c1) (b := 3) (tgt := 176) C dL_areCones_142 (by decide) (by omega) (by omega) (fun h142_27 => False.elim (h142_27 (hpe (by omega) (by assumption)))) (fun h142_27 => ?_)
        exact L145  trivial
  have L76 : (True) → V p l e ({ frames := 16, cells := 20, slots := 6 * 20, locals := 400 } : Room) s m (#[.ref (w.2.1 0), .int (nI net), .int (nI oth), .int (nI rd)] : Array Value) below meth c w 10 8 48 (XI w below s (#[.ref (w.2.1 0), .int (nI net), .int (nI oth), .int (nI rd)] : Array Value) 20 (q_L_areCones net oth rd X h D n Dd R dr PP Z Th) (fun _ _ => False)) 76 [some (.ref (w.2.1 0)), some (.int (nI net)), some (.int (nI oth)), some (.int (nI rd)), some (.int (nI c1)), some (.int (nI S2)), some (.int (nI S3)), some (.int (nI (KF R PP Z Th))), some (.int (nI ((KF R PP Z Th) / 2 ^ net % 2 + ((KF R PP Z Th) / 2 ^ oth % 2)))), none] [] X5 := by
    intro  ht76
    refine V_iload_n C dL_areCones_76 rfl ?_
    refine V_iload_n C dL_areCones_77 rfl ?_
    refine V_icmp_neN (a := net) (b := oth) (tgt := 86) C dL_areCones_78 (by decide) (by omega) (by omega) (fun h78_28 => ?_) (fun h78_28 => ?_)
    · exact L86  trivial
    · refine V_iload C dL_areCones_81 rfl ?_
      refine V_if_neN (a := c1) (tgt := 120) C dL_areCones_83 (by decide) (by omega) (fun h83_29 => False.elim (h83_29 (hself0 (by omega)))) (fun h83_29 => ?_)
      exact L86  trivial
  refine V_iload C dL_areCones_51 rfl ?_
  refine V_iconst (v := (1 : Int32)) C dL_areCones_53 (by decide) ?_
  refine V_icmp_neN (a := c1) (b := 1) (tgt := 61) C dL_areCones_54 (by decide) (by omega) (by omega) (fun h54_30 => ?_) (fun h54_30 => ?_)
  · refine V_iload C dL_areCones_61 rfl ?_
    refine V_iconst (v := (2 : Int32)) C dL_areCones_63 (by decide) ?_
    refine V_icmp_neN (a := c1) (b := 2) (tgt := 71) C dL_areCones_64 (by decide) (by omega) (by omega) (fun h64_31 => ?_) (fun h64_31 => ?_)
    · refine V_iload C dL_areCones_71 rfl ?_
      refine V_icmp_neN (a := c5) (b := c1) (tgt := 120) C dL_areCones_73 (by decide) (by omega) (by omega) (fun h73_32 => False.elim (h73_32 (by omega))) (fun h73_32 => ?_)
      exact L76  trivial
    · refine V_iconst (v := (1 : Int32)) C dL_areCones_67 (by decide) ?_
      refine V_goto (tgt := 73) C dL_areCones_68 (by decide) ?_
      refine V_icmp_neN (a := c5) (b := 1) (tgt := 120) C dL_areCones_73 (by decide) (by omega) (by omega) (fun h73_33 => False.elim (h73_33 (by omega))) (fun h73_33 => ?_)
      exact L76  trivial
  · refine V_iconst (v := (2 : Int32)) C dL_areCones_57 (by decide) ?_
    refine V_goto (tgt := 73) C dL_areCones_58 (by decide) ?_
    refine V_icmp_neN (a := c5) (b := 2) (tgt := 120) C dL_areCones_73 (by decide) (by omega) (by omega) (fun h73_34 => False.elim (h73_34 (by omega))) (fun h73_34 => ?_)
    exact L76  trivial
