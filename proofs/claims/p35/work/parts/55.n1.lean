theorem cl_36 : Cond.classLink RL 36 eIO ∈ TB := (tb_i 739 (by decide +kernel) (by decide +kernel))
theorem cl_38 : Cond.classLink RL 38 eIS ∈ TB := (tb_i 740 (by decide +kernel) (by decide +kernel))
theorem pl_L_77 : Cond.methodLink RL 77 yX9_holder ∈ TB := (tb_i 312 (by decide +kernel) (by decide +kernel))
theorem pl_L_80 : Cond.methodLink RL 80 yX9_belong ∈ TB := (tb_i 408 (by decide +kernel) (by decide +kernel))
theorem pl_L_103 : Cond.methodLink RL 103 yX9_publish ∈ TB := (tb_i 416 (by decide +kernel) (by decide +kernel))
theorem pl_L_109 : Cond.methodLink RL 109 yX9_pass ∈ TB := (tb_i 443 (by decide +kernel) (by decide +kernel))
theorem pl_L_83 : Cond.methodLink RL 83 yX9_grant ∈ TB := (tb_i 448 (by decide +kernel) (by decide +kernel))
theorem pl_L_87 : Cond.methodLink RL 87 yX9_origin ∈ TB := (tb_i 484 (by decide +kernel) (by decide +kernel))
theorem pl_L_91 : Cond.methodLink RL 91 yX9_vouch ∈ TB := (tb_i 488 (by decide +kernel) (by decide +kernel))
theorem pl_L_99 : Cond.methodLink RL 99 yX9_revoke ∈ TB := (tb_i 492 (by decide +kernel) (by decide +kernel))
theorem pl_L_95 : Cond.methodLink RL 95 yX9_sign ∈ TB := (tb_i 501 (by decide +kernel) (by decide +kernel))
theorem pl_L_112 : Cond.methodLink RL 112 yX9_hop ∈ TB := (tb_i 505 (by decide +kernel) (by decide +kernel))
theorem pl_L_115 : Cond.methodLink RL 115 yX9_hear ∈ TB := (tb_i 510 (by decide +kernel) (by decide +kernel))
theorem pl_L_121 : Cond.methodLink RL 121 yX9_tie ∈ TB := (tb_i 519 (by decide +kernel) (by decide +kernel))
theorem pl_L_106 : Cond.methodLink RL 106 yX9_today ∈ TB := (tb_i 535 (by decide +kernel) (by decide +kernel))
theorem pl_L_47 : Cond.methodLink RL 47 yX9_judged ∈ TB := (tb_i 539 (by decide +kernel) (by decide +kernel))
theorem pl_L_40 : Cond.methodLink RL 40 yX9_has ∈ TB := (tb_i 583 (by decide +kernel) (by decide +kernel))
theorem pl_L_118 : Cond.methodLink RL 118 yX9_routes ∈ TB := (tb_i 588 (by decide +kernel) (by decide +kernel))
theorem pl_L_124 : Cond.methodLink RL 124 yX9_allowed ∈ TB := (tb_i 592 (by decide +kernel) (by decide +kernel))
theorem pl_L_139 : Cond.methodLink RL 139 yX9_falseAlarms ∈ TB := (tb_i 647 (by decide +kernel) (by decide +kernel))
theorem pl_L_66 : Cond.methodLink RL 66 yX9_clique ∈ TB := (tb_i 667 (by decide +kernel) (by decide +kernel))
theorem pl_L_70 : Cond.methodLink RL 70 yX9_addresses ∈ TB := (tb_i 719 (by decide +kernel) (by decide +kernel))
theorem pl_L_54 : Cond.methodLink RL 54 yL_on ∈ TB := (tb_i 736 (by decide +kernel) (by decide +kernel))
theorem pl_L_30 : Cond.methodLink RL 30 yL_asks ∈ TB := (tb_i 741 (by decide +kernel) (by decide +kernel))
theorem pl_L_7 : Cond.methodLink RL 7 yX9_alter ∈ TB := (tb_i 744 (by decide +kernel) (by decide +kernel))
theorem pl_L_13 : Cond.methodLink RL 13 yX9_withdraw ∈ TB := (tb_i 749 (by decide +kernel) (by decide +kernel))
theorem pl_L_17 : Cond.methodLink RL 17 yX9_path ∈ TB := (tb_i 755 (by decide +kernel) (by decide +kernel))
theorem pl_L_21 : Cond.methodLink RL 21 yX9_leak ∈ TB := (tb_i 766 (by decide +kernel) (by decide +kernel))
theorem pl_L_24 : Cond.methodLink RL 24 yX9_stopped ∈ TB := (tb_i 776 (by decide +kernel) (by decide +kernel))
theorem pl_L_27 : Cond.methodLink RL 27 yX9_roll ∈ TB := (tb_i 790 (by decide +kernel) (by decide +kernel))
theorem pl_L_127 : Cond.methodLink RL 127 yL_areBlocks ∈ TB := (tb_i 795 (by decide +kernel) (by decide +kernel))
theorem pl_L_44 : Cond.methodLink RL 44 yX9_hasByChains ∈ TB := (tb_i 798 (by decide +kernel) (by decide +kernel))
theorem pl_L_50 : Cond.methodLink RL 50 yX9_state ∈ TB := (tb_i 818 (by decide +kernel) (by decide +kernel))
theorem pl_L_135 : Cond.methodLink RL 135 yL_isRoute ∈ TB := (tb_i 822 (by decide +kernel) (by decide +kernel))
theorem pl_L_131 : Cond.methodLink RL 131 yL_areCones ∈ TB := (tb_i 825 (by decide +kernel) (by decide +kernel))
theorem pl_L_57 : Cond.methodLink RL 57 yX9_inferred ∈ TB := (tb_i 828 (by decide +kernel) (by decide +kernel))
theorem pl_L_60 : Cond.methodLink RL 60 yX9_cone ∈ TB := (tb_i 837 (by decide +kernel) (by decide +kernel))
theorem pl_L_63 : Cond.methodLink RL 63 yX9_coneByPaths ∈ TB := (tb_i 841 (by decide +kernel) (by decide +kernel))
def q_L_asks_0 (a : Int32) (b : Int32) (X : Mem) (h n : Nat) : Int32 → Mem → Prop := q_X9_alter a b X h n
def r_L_asks_0 (a : Int32) (b : Int32) (X : Mem) (h n : Nat) : String → Mem → Prop := r_X9_alter a b X h n
set_option maxHeartbeats 4000000 in
set_option maxRecDepth 100000 in
theorem k_L_asks_0 (w : Wt) (l : Launch) (a : Int32) (b : Int32) (X : Mem) (h n : Nat) (hO : OInv (oC X) h n) (hn : X 6 0 = nI n) : CtXI w l yL_asks cL_asks 4 (some .int) 9 205 3 [.ref (w.2.1 0), .int (0 : Int32), .int a, .int b] X (q_L_asks_0 a b X h n) (r_L_asks_0 a b X h n) := by
  refine CtXI_of (by decide +kernel) (Nat.le_of_ble_eq_true rfl) (List.forall_mem_cons.mpr ⟨rfl, (List.forall_mem_cons.mpr ⟨rfl, (List.forall_mem_cons.mpr ⟨rfl, (List.forall_mem_cons.mpr ⟨rfl, (fun _ h => nomatch h)⟩)⟩)⟩)⟩) (ls := [some (.ref (w.2.1 0)), some (.int (0 : Int32)), some (.int a), some (.int b)]) rfl (args := (#[.ref (w.2.1 0), .int (0 : Int32), .int a, .int b] : Array Value)) rfl (own := RL) rfl ?_
  intro p e s m below meth c C ht hD
  refine V_iload_n C dL_asks_0 rfl ?_
  refine V_if_ne (x := (0 : Int32)) (tgt := 13) C dL_asks_1 (by decide) (fun h => absurd h (by decide)) (fun _ => ?_)
  refine V_aload_n C dL_asks_4 rfl ?_
  refine V_iload_n C dL_asks_5 rfl ?_
  refine V_iload_n C dL_asks_6 rfl ?_
  refine V_xcallVII C ht hD [.int a, .int b] mi_L_7 pl_L_7 (k_X9_alter w l a b X h n hO hn) dL_asks_7 sh_0 (by decide) rfl rfl rfl (Nat.le_of_ble_eq_true rfl) (Nat.le_of_ble_eq_true rfl) (Nat.le_of_ble_eq_true rfl) ⟨by decide, by decide⟩ ⟨by decide, by decide⟩ (fun E X1 h => h) (fun v2 X2 q2 => ?_)
  refine V_goto (tgt := 81) C dL_asks_10 (by decide) ?_
  exact V_ireturnX C dL_asks_81 (by decide) (by decide) q2
def q_L_on_0 (a : Int32) (b : Int32) (X : Mem) (h n : Nat) : Int32 → Mem → Prop := fun r X' => q_X9_alter a b X h n r X' ∨ ∃ E, r_X9_alter a b X h n E X' ∧ ((E = eIO ∧ r = -11) ∨ (E = eIS ∧ r = -13))
set_option maxHeartbeats 4000000 in
set_option maxRecDepth 100000 in
theorem k_L_on_0 (w : Wt) (l : Launch) (a : Int32) (b : Int32) (X : Mem) (h n : Nat) (hO : OInv (oC X) h n) (hn : X 6 0 = nI n) (hE : ∀ E X', r_X9_alter a b X h n E X' → E = eIO ∨ E = eIS) : CtH w l yL_on cL_on 5 [(0, 7, 8, 36), (0, 7, 13, 38)] 10 228 3 [.ref (w.2.1 0), .int (0 : Int32), .int a, .int b] X (q_L_on_0 a b X h n) := by
  refine CtH_of (by decide +kernel) (Nat.le_of_ble_eq_true rfl) (List.forall_mem_cons.mpr ⟨rfl, (List.forall_mem_cons.mpr ⟨rfl, (List.forall_mem_cons.mpr ⟨rfl, (List.forall_mem_cons.mpr ⟨rfl, (fun _ h => nomatch h)⟩)⟩)⟩)⟩) (ls := [some (.ref (w.2.1 0)), some (.int (0 : Int32)), some (.int a), some (.int b), none]) rfl (args := (#[.ref (w.2.1 0), .int (0 : Int32), .int a, .int b] : Array Value)) rfl (own := RL) rfl ?_
  intro p e s m below meth c C ht hD hN
  refine V_aload_n C dL_on_0 rfl ?_
  refine V_iload_n C dL_on_1 rfl ?_
  refine V_iload_n C dL_on_2 rfl ?_
  refine V_iload_n C dL_on_3 rfl ?_
  refine V_hcallS C hD [.ref (w.2.1 0), .int (0 : Int32), .int a, .int b] ms_L_30 pl_L_30 (k_L_asks_0 w l a b X h n hO hn) dL_on_4 rfl rfl (Nat.le_of_ble_eq_true rfl) (Nat.le_of_ble_eq_true rfl) (Nat.le_of_ble_eq_true rfl) ⟨by decide, by decide⟩ (fun E X1 hx => ?_) (fun rv X1 hq => ?_)
  · rcases hE E X1 hx with rfl | rfl
    · refine ⟨8, HC_1 ht rfl ⟨by decide, by decide⟩ (by decide) (C.2.2.2.2.2.2.2 _ cl_36) (C.2.2.2.2.2.2.2 _ cc_IO), fun q => ?_⟩
      refine V_astore (ls1 := [some (.ref (w.2.1 0)), some (.int (0 : Int32)), some (.int a), some (.int b), some (.ref q)]) C dL_on_8 (by decide) rfl ?_
      refine V_bipush (v := (-11 : Int32)) C dL_on_10 (by decide) ?_
      exact V_ireturnX C dL_on_12 (by decide) (by decide) (Or.inr ⟨_, hx, Or.inl ⟨rfl, rfl⟩⟩)
    · refine ⟨13, HC_2 ht rfl (by decide) (C.2.2.2.2.2.2.2 _ cl_36) hN.1 ⟨by decide, by decide⟩ (by decide) (C.2.2.2.2.2.2.2 _ cl_38) (C.2.2.2.2.2.2.2 _ cc_IS), fun q => ?_⟩
      refine V_astore (ls1 := [some (.ref (w.2.1 0)), some (.int (0 : Int32)), some (.int a), some (.int b), some (.ref q)]) C dL_on_13 (by decide) rfl ?_
      refine V_bipush (v := (-13 : Int32)) C dL_on_15 (by decide) ?_
      exact V_ireturnX C dL_on_17 (by decide) (by decide) (Or.inr ⟨_, hx, Or.inr ⟨rfl, rfl⟩⟩)
  · exact V_ireturnX C dL_on_7 (by decide) (by decide) (Or.inl hq)
def q_L_asks_1 (a : Int32) (X : Mem) (R N1 : Nat) : Int32 → Mem → Prop := q_X9_withdraw a X R N1
def r_L_asks_1 (a : Int32) (X : Mem) (R N1 : Nat) : String → Mem → Prop := r_X9_withdraw a X R N1
set_option maxHeartbeats 4000000 in
set_option maxRecDepth 100000 in
theorem k_L_asks_1 (w : Wt) (l : Launch) (a : Int32) (X : Mem) (R N1 : Nat) (hr0 : X 20 0 = nI R) (R24 : R ≤ 24) (hth : X 20 1 = nI N1) : CtXI w l yL_asks cL_asks 4 (some .int) 9 205 1 [.ref (w.2.1 0), .int (1 : Int32), .int a, .int (0 : Int32)] X (q_L_asks_1 a X R N1) (r_L_asks_1 a X R N1) := by
  refine CtXI_of (by decide +kernel) (Nat.le_of_ble_eq_true rfl) (List.forall_mem_cons.mpr ⟨rfl, (List.forall_mem_cons.mpr ⟨rfl, (List.forall_mem_cons.mpr ⟨rfl, (List.forall_mem_cons.mpr ⟨rfl, (fun _ h => nomatch h)⟩)⟩)⟩)⟩) (ls := [some (.ref (w.2.1 0)), some (.int (1 : Int32)), some (.int a), some (.int (0 : Int32))]) rfl (args := (#[.ref (w.2.1 0), .int (1 : Int32), .int a, .int (0 : Int32)] : Array Value)) rfl (own := RL) rfl ?_
  intro p e s m below meth c C ht hD
  refine V_iload_n C dL_asks_0 rfl ?_
  refine V_if_ne (x := (1 : Int32)) (tgt := 13) C dL_asks_1 (by decide) (fun _ => ?_) (fun h => absurd h (by decide))
  refine V_iload_n C dL_asks_13 rfl ?_
  refine V_iconst (v := (1 : Int32)) C dL_asks_14 (by decide) ?_
  refine V_icmp_neN (a := 1) (b := 1) (tgt := 26) C dL_asks_15 (by decide) (by decide) (by decide) (fun h => absurd h (by decide)) (fun _ => ?_)
  refine V_aload_n C dL_asks_18 rfl ?_
  refine V_iload_n C dL_asks_19 rfl ?_
  refine V_xcallVII C ht hD [.int a] mi_L_13 pl_L_13 (k_X9_withdraw w l a X R N1 hr0 R24 hth) dL_asks_20 sh_0 (by decide) rfl rfl rfl (Nat.le_of_ble_eq_true rfl) (Nat.le_of_ble_eq_true rfl) (Nat.le_of_ble_eq_true rfl) ⟨by decide, by decide⟩ ⟨by decide, by decide⟩ (fun E X1 h => h) (fun v3 X3 q3 => ?_)
  refine V_goto (tgt := 81) C dL_asks_23 (by decide) ?_
  exact V_ireturnX C dL_asks_81 (by decide) (by decide) q3
def q_L_on_1 (a : Int32) (X : Mem) (R N1 : Nat) : Int32 → Mem → Prop := fun r X' => q_X9_withdraw a X R N1 r X' ∨ ∃ E, r_X9_withdraw a X R N1 E X' ∧ ((E = eIO ∧ r = -11) ∨ (E = eIS ∧ r = -13))
set_option maxHeartbeats 4000000 in
set_option maxRecDepth 100000 in
theorem k_L_on_1 (w : Wt) (l : Launch) (a : Int32) (X : Mem) (R N1 : Nat) (hr0 : X 20 0 = nI R) (R24 : R ≤ 24) (hth : X 20 1 = nI N1) (hE : ∀ E X', r_X9_withdraw a X R N1 E X' → E = eIO ∨ E = eIS) : CtH w l yL_on cL_on 5 [(0, 7, 8, 36), (0, 7, 13, 38)] 10 228 1 [.ref (w.2.1 0), .int (1 : Int32), .int a, .int (0 : Int32)] X (q_L_on_1 a X R N1) := by
  refine CtH_of (by decide +kernel) (Nat.le_of_ble_eq_true rfl) (List.forall_mem_cons.mpr ⟨rfl, (List.forall_mem_cons.mpr ⟨rfl, (List.forall_mem_cons.mpr ⟨rfl, (List.forall_mem_cons.mpr ⟨rfl, (fun _ h => nomatch h)⟩)⟩)⟩)⟩) (ls := [some (.ref (w.2.1 0)), some (.int (1 : Int32)), some (.int a), some (.int (0 : Int32)), none]) rfl (args := (#[.ref (w.2.1 0), .int (1 : Int32), .int a, .int (0 : Int32)] : Array Value)) rfl (own := RL) rfl ?_
  intro p e s m below meth c C ht hD hN
  refine V_aload_n C dL_on_0 rfl ?_
  refine V_iload_n C dL_on_1 rfl ?_
  refine V_iload_n C dL_on_2 rfl ?_
  refine V_iload_n C dL_on_3 rfl ?_
  refine V_hcallS C hD [.ref (w.2.1 0), .int (1 : Int32), .int a, .int (0 : Int32)] ms_L_30 pl_L_30 (k_L_asks_1 w l a X R N1 hr0 R24 hth) dL_on_4 rfl rfl (Nat.le_of_ble_eq_true rfl) (Nat.le_of_ble_eq_true rfl) (Nat.le_of_ble_eq_true rfl) ⟨by decide, by decide⟩ (fun E X1 hx => ?_) (fun rv X1 hq => ?_)
  · rcases hE E X1 hx with rfl | rfl
    · refine ⟨8, HC_1 ht rfl ⟨by decide, by decide⟩ (by decide) (C.2.2.2.2.2.2.2 _ cl_36) (C.2.2.2.2.2.2.2 _ cc_IO), fun q => ?_⟩
      refine V_astore (ls1 := [some (.ref (w.2.1 0)), some (.int (1 : Int32)), some (.int a), some (.int (0 : Int32)), some (.ref q)]) C dL_on_8 (by decide) rfl ?_
      refine V_bipush (v := (-11 : Int32)) C dL_on_10 (by decide) ?_
      exact V_ireturnX C dL_on_12 (by decide) (by decide) (Or.inr ⟨_, hx, Or.inl ⟨rfl, rfl⟩⟩)
    · refine ⟨13, HC_2 ht rfl (by decide) (C.2.2.2.2.2.2.2 _ cl_36) hN.1 ⟨by decide, by decide⟩ (by decide) (C.2.2.2.2.2.2.2 _ cl_38) (C.2.2.2.2.2.2.2 _ cc_IS), fun q => ?_⟩
      refine V_astore (ls1 := [some (.ref (w.2.1 0)), some (.int (1 : Int32)), some (.int a), some (.int (0 : Int32)), some (.ref q)]) C dL_on_13 (by decide) rfl ?_
      refine V_bipush (v := (-13 : Int32)) C dL_on_15 (by decide) ?_
      exact V_ireturnX C dL_on_17 (by decide) (by decide) (Or.inr ⟨_, hx, Or.inr ⟨rfl, rfl⟩⟩)
  · exact V_ireturnX C dL_on_7 (by decide) (by decide) (Or.inl hq)
def q_L_asks_21 (a : Int32) (X : Mem) (h n : Nat) (R : Nat) (PP : Nat → Nat → Nat) (Z : Nat → Nat) (Th : Nat → Prop) : Int32 → Mem → Prop := q_X9_path a (1 : Int32) X h n R PP Z Th
def r_L_asks_21 (a : Int32) (X : Mem) (h n : Nat) (R : Nat) (PP : Nat → Nat → Nat) (Z : Nat → Nat) (Th : Nat → Prop) : String → Mem → Prop := r_X9_path a (1 : Int32) X h n R PP Z Th
set_option maxHeartbeats 4000000 in
set_option maxRecDepth 100000 in
theorem k_L_asks_21 (w : Wt) (l : Launch) (a : Int32) (X : Mem) (h n : Nat) (R : Nat) (PP : Nat → Nat → Nat) (Z : Nat → Nat) (Th : Nat → Prop) (hO : OInv (oC X) h n) (hG : GInv (gC X) h) (hn : X 6 0 = nI n) (hh : X 1 1 = nI h) (hB : RBc X R PP Z Th) : CtXI w l yL_asks cL_asks 4 (some .int) 9 205 1 [.ref (w.2.1 0), .int (2 : Int32), .int a, .int (1 : Int32)] X (q_L_asks_21 a X h n R PP Z Th) (r_L_asks_21 a X h n R PP Z Th) := by
  refine CtXI_of (by decide +kernel) (Nat.le_of_ble_eq_true rfl) (List.forall_mem_cons.mpr ⟨rfl, (List.forall_mem_cons.mpr ⟨rfl, (List.forall_mem_cons.mpr ⟨rfl, (List.forall_mem_cons.mpr ⟨rfl, (fun _ h => nomatch h)⟩)⟩)⟩)⟩) (ls := [some (.ref (w.2.1 0)), some (.int (2 : Int32)), some (.int a), some (.int (1 : Int32))]) rfl (args := (#[.ref (w.2.1 0), .int (2 : Int32), .int a, .int (1 : Int32)] : Array Value)) rfl (own := RL) rfl ?_
  intro p e s m below meth c C ht hD
  refine V_iload_n C dL_asks_0 rfl ?_
  refine V_if_ne (x := (2 : Int32)) (tgt := 13) C dL_asks_1 (by decide) (fun _ => ?_) (fun h => absurd h (by decide))
  refine V_iload_n C dL_asks_13 rfl ?_
  refine V_iconst (v := (1 : Int32)) C dL_asks_14 (by decide) ?_
  refine V_icmp_neN (a := 2) (b := 1) (tgt := 26) C dL_asks_15 (by decide) (by decide) (by decide) (fun _ => ?_) (fun h => absurd h (by decide))
  refine V_iload_n C dL_asks_26 rfl ?_
  refine V_iconst (v := (2 : Int32)) C dL_asks_27 (by decide) ?_
  refine V_icmp_neN (a := 2) (b := 2) (tgt := 49) C dL_asks_28 (by decide) (by decide) (by decide) (fun h => absurd h (by decide)) (fun _ => ?_)
  refine V_aload_n C dL_asks_31 rfl ?_
  refine V_iload_n C dL_asks_32 rfl ?_
  refine V_iload_n C dL_asks_33 rfl ?_
  refine V_iconst (v := (1 : Int32)) C dL_asks_34 (by decide) ?_
  refine V_icmp_neN (a := 1) (b := 1) (tgt := 42) C dL_asks_35 (by decide) (by decide) (by decide) (fun h => absurd h (by decide)) (fun _ => ?_)
  refine V_iconst (v := (1 : Int32)) C dL_asks_38 (by decide) ?_
  refine V_goto (tgt := 43) C dL_asks_39 (by decide) ?_
  refine V_xcallVII C ht hD [.int a, .int (1 : Int32)] mi_L_17 pl_L_17 (k_X9_path w l a (1 : Int32) X h n R PP Z Th hO hG hn hh hB) dL_asks_43 sh_0 (by decide) rfl rfl rfl (Nat.le_of_ble_eq_true rfl) (Nat.le_of_ble_eq_true rfl) (Nat.le_of_ble_eq_true rfl) ⟨by decide, by decide⟩ ⟨by decide, by decide⟩ (fun E X1 h => h) (fun v5 X5 q5 => ?_)
  refine V_goto (tgt := 81) C dL_asks_46 (by decide) ?_
  exact V_ireturnX C dL_asks_81 (by decide) (by decide) q5
def q_L_on_21 (a : Int32) (X : Mem) (h n : Nat) (R : Nat) (PP : Nat → Nat → Nat) (Z : Nat → Nat) (Th : Nat → Prop) : Int32 → Mem → Prop := fun r X' => q_X9_path a (1 : Int32) X h n R PP Z Th r X' ∨ ∃ E, r_X9_path a (1 : Int32) X h n R PP Z Th E X' ∧ ((E = eIO ∧ r = -11) ∨ (E = eIS ∧ r = -13))
set_option maxHeartbeats 4000000 in
set_option maxRecDepth 100000 in
theorem k_L_on_21 (w : Wt) (l : Launch) (a : Int32) (X : Mem) (h n : Nat) (R : Nat) (PP : Nat → Nat → Nat) (Z : Nat → Nat) (Th : Nat → Prop) (hO : OInv (oC X) h n) (hG : GInv (gC X) h) (hn : X 6 0 = nI n) (hh : X 1 1 = nI h) (hB : RBc X R PP Z Th) (hE : ∀ E X', r_X9_path a (1 : Int32) X h n R PP Z Th E X' → E = eIO ∨ E = eIS) : CtH w l yL_on cL_on 5 [(0, 7, 8, 36), (0, 7, 13, 38)] 10 228 1 [.ref (w.2.1 0), .int (2 : Int32), .int a, .int (1 : Int32)] X (q_L_on_21 a X h n R PP Z Th) := by
  refine CtH_of (by decide +kernel) (Nat.le_of_ble_eq_true rfl) (List.forall_mem_cons.mpr ⟨rfl, (List.forall_mem_cons.mpr ⟨rfl, (List.forall_mem_cons.mpr ⟨rfl, (List.forall_mem_cons.mpr ⟨rfl, (fun _ h => nomatch h)⟩)⟩)⟩)⟩) (ls := [some (.ref (w.2.1 0)), some (.int (2 : Int32)), some (.int a), some (.int (1 : Int32)), none]) rfl (args := (#[.ref (w.2.1 0), .int (2 : Int32), .int a, .int (1 : Int32)] : Array Value)) rfl (own := RL) rfl ?_
  intro p e s m below meth c C ht hD hN
  refine V_aload_n C dL_on_0 rfl ?_
  refine V_iload_n C dL_on_1 rfl ?_
  refine V_iload_n C dL_on_2 rfl ?_
  refine V_iload_n C dL_on_3 rfl ?_
  refine V_hcallS C hD [.ref (w.2.1 0), .int (2 : Int32), .int a, .int (1 : Int32)] ms_L_30 pl_L_30 (k_L_asks_21 w l a X h n R PP Z Th hO hG hn hh hB) dL_on_4 rfl rfl (Nat.le_of_ble_eq_true rfl) (Nat.le_of_ble_eq_true rfl) (Nat.le_of_ble_eq_true rfl) ⟨by decide, by decide⟩ (fun E X1 hx => ?_) (fun rv X1 hq => ?_)
  · rcases hE E X1 hx with rfl | rfl
    · refine ⟨8, HC_1 ht rfl ⟨by decide, by decide⟩ (by decide) (C.2.2.2.2.2.2.2 _ cl_36) (C.2.2.2.2.2.2.2 _ cc_IO), fun q => ?_⟩
      refine V_astore (ls1 := [some (.ref (w.2.1 0)), some (.int (2 : Int32)), some (.int a), some (.int (1 : Int32)), some (.ref q)]) C dL_on_8 (by decide) rfl ?_
      refine V_bipush (v := (-11 : Int32)) C dL_on_10 (by decide) ?_
      exact V_ireturnX C dL_on_12 (by decide) (by decide) (Or.inr ⟨_, hx, Or.inl ⟨rfl, rfl⟩⟩)
    · refine ⟨13, HC_2 ht rfl (by decide) (C.2.2.2.2.2.2.2 _ cl_36) hN.1 ⟨by decide, by decide⟩ (by decide) (C.2.2.2.2.2.2.2 _ cl_38) (C.2.2.2.2.2.2.2 _ cc_IS), fun q => ?_⟩
      refine V_astore (ls1 := [some (.ref (w.2.1 0)), some (.int (2 : Int32)), some (.int a), some (.int (1 : Int32)), some (.ref q)]) C dL_on_13 (by decide) rfl ?_
      refine V_bipush (v := (-13 : Int32)) C dL_on_15 (by decide) ?_
      exact V_ireturnX C dL_on_17 (by decide) (by decide) (Or.inr ⟨_, hx, Or.inr ⟨rfl, rfl⟩⟩)
  · exact V_ireturnX C dL_on_7 (by decide) (by decide) (Or.inl hq)
def q_L_asks_20 (a : Int32) (X : Mem) (h n : Nat) (R : Nat) (PP : Nat → Nat → Nat) (Z : Nat → Nat) (Th : Nat → Prop) : Int32 → Mem → Prop := q_X9_path a (0 : Int32) X h n R PP Z Th
def r_L_asks_20 (a : Int32) (X : Mem) (h n : Nat) (R : Nat) (PP : Nat → Nat → Nat) (Z : Nat → Nat) (Th : Nat → Prop) : String → Mem → Prop := r_X9_path a (0 : Int32) X h n R PP Z Th
set_option maxHeartbeats 4000000 in
set_option maxRecDepth 100000 in
theorem k_L_asks_20 (w : Wt) (l : Launch) (a : Int32) (X : Mem) (h n : Nat) (R : Nat) (PP : Nat → Nat → Nat) (Z : Nat → Nat) (Th : Nat → Prop) (hO : OInv (oC X) h n) (hG : GInv (gC X) h) (hn : X 6 0 = nI n) (hh : X 1 1 = nI h) (hB : RBc X R PP Z Th) : CtXI w l yL_asks cL_asks 4 (some .int) 9 205 1 [.ref (w.2.1 0), .int (2 : Int32), .int a, .int (0 : Int32)] X (q_L_asks_20 a X h n R PP Z Th) (r_L_asks_20 a X h n R PP Z Th) := by
  refine CtXI_of (by decide +kernel) (Nat.le_of_ble_eq_true rfl) (List.forall_mem_cons.mpr ⟨rfl, (List.forall_mem_cons.mpr ⟨rfl, (List.forall_mem_cons.mpr ⟨rfl, (List.forall_mem_cons.mpr ⟨rfl, (fun _ h => nomatch h)⟩)⟩)⟩)⟩) (ls := [some (.ref (w.2.1 0)), some (.int (2 : Int32)), some (.int a), some (.int (0 : Int32))]) rfl (args := (#[.ref (w.2.1 0), .int (2 : Int32), .int a, .int (0 : Int32)] : Array Value)) rfl (own := RL) rfl ?_
  intro p e s m below meth c C ht hD
  refine V_iload_n C dL_asks_0 rfl ?_
  refine V_if_ne (x := (2 : Int32)) (tgt := 13) C dL_asks_1 (by decide) (fun _ => ?_) (fun h => absurd h (by decide))
  refine V_iload_n C dL_asks_13 rfl ?_
  refine V_iconst (v := (1 : Int32)) C dL_asks_14 (by decide) ?_
  refine V_icmp_neN (a := 2) (b := 1) (tgt := 26) C dL_asks_15 (by decide) (by decide) (by decide) (fun _ => ?_) (fun h => absurd h (by decide))
  refine V_iload_n C dL_asks_26 rfl ?_
  refine V_iconst (v := (2 : Int32)) C dL_asks_27 (by decide) ?_
  refine V_icmp_neN (a := 2) (b := 2) (tgt := 49) C dL_asks_28 (by decide) (by decide) (by decide) (fun h => absurd h (by decide)) (fun _ => ?_)
  refine V_aload_n C dL_asks_31 rfl ?_
  refine V_iload_n C dL_asks_32 rfl ?_
  refine V_iload_n C dL_asks_33 rfl ?_
  refine V_iconst (v := (1 : Int32)) C dL_asks_34 (by decide) ?_
  refine V_icmp_neN (a := 0) (b := 1) (tgt := 42) C dL_asks_35 (by decide) (by decide) (by decide) (fun _ => ?_) (fun h => absurd h (by decide))
  refine V_iconst (v := (0 : Int32)) C dL_asks_42 (by decide) ?_
  refine V_xcallVII C ht hD [.int a, .int (0 : Int32)] mi_L_17 pl_L_17 (k_X9_path w l a (0 : Int32) X h n R PP Z Th hO hG hn hh hB) dL_asks_43 sh_0 (by decide) rfl rfl rfl (Nat.le_of_ble_eq_true rfl) (Nat.le_of_ble_eq_true rfl) (Nat.le_of_ble_eq_true rfl) ⟨by decide, by decide⟩ ⟨by decide, by decide⟩ (fun E X1 h => h) (fun v5 X5 q5 => ?_)
  refine V_goto (tgt := 81) C dL_asks_46 (by decide) ?_
  exact V_ireturnX C dL_asks_81 (by decide) (by decide) q5
def q_L_on_20 (a : Int32) (X : Mem) (h n : Nat) (R : Nat) (PP : Nat → Nat → Nat) (Z : Nat → Nat) (Th : Nat → Prop) : Int32 → Mem → Prop := fun r X' => q_X9_path a (0 : Int32) X h n R PP Z Th r X' ∨ ∃ E, r_X9_path a (0 : Int32) X h n R PP Z Th E X' ∧ ((E = eIO ∧ r = -11) ∨ (E = eIS ∧ r = -13))
set_option maxHeartbeats 4000000 in
set_option maxRecDepth 100000 in
theorem k_L_on_20 (w : Wt) (l : Launch) (a : Int32) (X : Mem) (h n : Nat) (R : Nat) (PP : Nat → Nat → Nat) (Z : Nat → Nat) (Th : Nat → Prop) (hO : OInv (oC X) h n) (hG : GInv (gC X) h) (hn : X 6 0 = nI n) (hh : X 1 1 = nI h) (hB : RBc X R PP Z Th) (hE : ∀ E X', r_X9_path a (0 : Int32) X h n R PP Z Th E X' → E = eIO ∨ E = eIS) : CtH w l yL_on cL_on 5 [(0, 7, 8, 36), (0, 7, 13, 38)] 10 228 1 [.ref (w.2.1 0), .int (2 : Int32), .int a, .int (0 : Int32)] X (q_L_on_20 a X h n R PP Z Th) := by
  refine CtH_of (by decide +kernel) (Nat.le_of_ble_eq_true rfl) (List.forall_mem_cons.mpr ⟨rfl, (List.forall_mem_cons.mpr ⟨rfl, (List.forall_mem_cons.mpr ⟨rfl, (List.forall_mem_cons.mpr ⟨rfl, (fun _ h => nomatch h)⟩)⟩)⟩)⟩) (ls := [some (.ref (w.2.1 0)), some (.int (2 : Int32)), some (.int a), some (.int (0 : Int32)), none]) rfl (args := (#[.ref (w.2.1 0), .int (2 : Int32), .int a, .int (0 : Int32)] : Array Value)) rfl (own := RL) rfl ?_
  intro p e s m below meth c C ht hD hN
  refine V_aload_n C dL_on_0 rfl ?_
  refine V_iload_n C dL_on_1 rfl ?_
  refine V_iload_n C dL_on_2 rfl ?_
  refine V_iload_n C dL_on_3 rfl ?_
  refine V_hcallS C hD [.ref (w.2.1 0), .int (2 : Int32), .int a, .int (0 : Int32)] ms_L_30 pl_L_30 (k_L_asks_20 w l a X h n R PP Z Th hO hG hn hh hB) dL_on_4 rfl rfl (Nat.le_of_ble_eq_true rfl) (Nat.le_of_ble_eq_true rfl) (Nat.le_of_ble_eq_true rfl) ⟨by decide, by decide⟩ (fun E X1 hx => ?_) (fun rv X1 hq => ?_)
  · rcases hE E X1 hx with rfl | rfl
    · refine ⟨8, HC_1 ht rfl ⟨by decide, by decide⟩ (by decide) (C.2.2.2.2.2.2.2 _ cl_36) (C.2.2.2.2.2.2.2 _ cc_IO), fun q => ?_⟩
      refine V_astore (ls1 := [some (.ref (w.2.1 0)), some (.int (2 : Int32)), some (.int a), some (.int (0 : Int32)), some (.ref q)]) C dL_on_8 (by decide) rfl ?_
      refine V_bipush (v := (-11 : Int32)) C dL_on_10 (by decide) ?_
      exact V_ireturnX C dL_on_12 (by decide) (by decide) (Or.inr ⟨_, hx, Or.inl ⟨rfl, rfl⟩⟩)
    · refine ⟨13, HC_2 ht rfl (by decide) (C.2.2.2.2.2.2.2 _ cl_36) hN.1 ⟨by decide, by decide⟩ (by decide) (C.2.2.2.2.2.2.2 _ cl_38) (C.2.2.2.2.2.2.2 _ cc_IS), fun q => ?_⟩
      refine V_astore (ls1 := [some (.ref (w.2.1 0)), some (.int (2 : Int32)), some (.int a), some (.int (0 : Int32)), some (.ref q)]) C dL_on_13 (by decide) rfl ?_
      refine V_bipush (v := (-13 : Int32)) C dL_on_15 (by decide) ?_
      exact V_ireturnX C dL_on_17 (by decide) (by decide) (Or.inr ⟨_, hx, Or.inr ⟨rfl, rfl⟩⟩)
  · exact V_ireturnX C dL_on_7 (by decide) (by decide) (Or.inl hq)
def q_L_asks_3 (a : Int32) (X : Mem) (R : Nat) (PP : Nat → Nat → Nat) (Z : Nat → Nat) (Th : Nat → Prop) : Int32 → Mem → Prop := q_X9_leak a X R PP Z Th
def r_L_asks_3 (a : Int32) (X : Mem) (R : Nat) (PP : Nat → Nat → Nat) (Z : Nat → Nat) (Th : Nat → Prop) : String → Mem → Prop := r_X9_leak a X R PP Z Th
set_option maxHeartbeats 4000000 in
set_option maxRecDepth 100000 in
theorem k_L_asks_3 (w : Wt) (l : Launch) (a : Int32) (X : Mem) (R : Nat) (PP : Nat → Nat → Nat) (Z : Nat → Nat) (Th : Nat → Prop) (hB : RBc X R PP Z Th) : CtXI w l yL_asks cL_asks 4 (some .int) 9 205 1 [.ref (w.2.1 0), .int (3 : Int32), .int a, .int (0 : Int32)] X (q_L_asks_3 a X R PP Z Th) (r_L_asks_3 a X R PP Z Th) := by
  refine CtXI_of (by decide +kernel) (Nat.le_of_ble_eq_true rfl) (List.forall_mem_cons.mpr ⟨rfl, (List.forall_mem_cons.mpr ⟨rfl, (List.forall_mem_cons.mpr ⟨rfl, (List.forall_mem_cons.mpr ⟨rfl, (fun _ h => nomatch h)⟩)⟩)⟩)⟩) (ls := [some (.ref (w.2.1 0)), some (.int (3 : Int32)), some (.int a), some (.int (0 : Int32))]) rfl (args := (#[.ref (w.2.1 0), .int (3 : Int32), .int a, .int (0 : Int32)] : Array Value)) rfl (own := RL) rfl ?_
  intro p e s m below meth c C ht hD
  refine V_iload_n C dL_asks_0 rfl ?_
  refine V_if_ne (x := (3 : Int32)) (tgt := 13) C dL_asks_1 (by decide) (fun _ => ?_) (fun h => absurd h (by decide))
  refine V_iload_n C dL_asks_13 rfl ?_
  refine V_iconst (v := (1 : Int32)) C dL_asks_14 (by decide) ?_
  refine V_icmp_neN (a := 3) (b := 1) (tgt := 26) C dL_asks_15 (by decide) (by decide) (by decide) (fun _ => ?_) (fun h => absurd h (by decide))
  refine V_iload_n C dL_asks_26 rfl ?_
  refine V_iconst (v := (2 : Int32)) C dL_asks_27 (by decide) ?_
  refine V_icmp_neN (a := 3) (b := 2) (tgt := 49) C dL_asks_28 (by decide) (by decide) (by decide) (fun _ => ?_) (fun h => absurd h (by decide))
  refine V_iload_n C dL_asks_49 rfl ?_
  refine V_iconst (v := (3 : Int32)) C dL_asks_50 (by decide) ?_
  refine V_icmp_neN (a := 3) (b := 3) (tgt := 62) C dL_asks_51 (by decide) (by decide) (by decide) (fun h => absurd h (by decide)) (fun _ => ?_)
  refine V_aload_n C dL_asks_54 rfl ?_
  refine V_iload_n C dL_asks_55 rfl ?_
  refine V_xcallVII C ht hD [.int a] mi_L_21 pl_L_21 (k_X9_leak w l a X R PP Z Th hB) dL_asks_56 sh_0 (by decide) rfl rfl rfl (Nat.le_of_ble_eq_true rfl) (Nat.le_of_ble_eq_true rfl) (Nat.le_of_ble_eq_true rfl) ⟨by decide, by decide⟩ ⟨by decide, by decide⟩ (fun E X1 h => h) (fun v5 X5 q5 => ?_)
  refine V_goto (tgt := 81) C dL_asks_59 (by decide) ?_
  exact V_ireturnX C dL_asks_81 (by decide) (by decide) q5
def q_L_on_3 (a : Int32) (X : Mem) (R : Nat) (PP : Nat → Nat → Nat) (Z : Nat → Nat) (Th : Nat → Prop) : Int32 → Mem → Prop := fun r X' => q_X9_leak a X R PP Z Th r X' ∨ ∃ E, r_X9_leak a X R PP Z Th E X' ∧ ((E = eIO ∧ r = -11) ∨ (E = eIS ∧ r = -13))
set_option maxHeartbeats 4000000 in
set_option maxRecDepth 100000 in
theorem k_L_on_3 (w : Wt) (l : Launch) (a : Int32) (X : Mem) (R : Nat) (PP : Nat → Nat → Nat) (Z : Nat → Nat) (Th : Nat → Prop) (hB : RBc X R PP Z Th) (hE : ∀ E X', r_X9_leak a X R PP Z Th E X' → E = eIO ∨ E = eIS) : CtH w l yL_on cL_on 5 [(0, 7, 8, 36), (0, 7, 13, 38)] 10 228 1 [.ref (w.2.1 0), .int (3 : Int32), .int a, .int (0 : Int32)] X (q_L_on_3 a X R PP Z Th) := by
  refine CtH_of (by decide +kernel) (Nat.le_of_ble_eq_true rfl) (List.forall_mem_cons.mpr ⟨rfl, (List.forall_mem_cons.mpr ⟨rfl, (List.forall_mem_cons.mpr ⟨rfl, (List.forall_mem_cons.mpr ⟨rfl, (fun _ h => nomatch h)⟩)⟩)⟩)⟩) (ls := [some (.ref (w.2.1 0)), some (.int (3 : Int32)), some (.int a), some (.int (0 : Int32)), none]) rfl (args := (#[.ref (w.2.1 0), .int (3 : Int32), .int a, .int (0 : Int32)] : Array Value)) rfl (own := RL) rfl ?_
  intro p e s m below meth c C ht hD hN
  refine V_aload_n C dL_on_0 rfl ?_
  refine V_iload_n C dL_on_1 rfl ?_
  refine V_iload_n C dL_on_2 rfl ?_
  refine V_iload_n C dL_on_3 rfl ?_
  refine V_hcallS C hD [.ref (w.2.1 0), .int (3 : Int32), .int a, .int (0 : Int32)] ms_L_30 pl_L_30 (k_L_asks_3 w l a X R PP Z Th hB) dL_on_4 rfl rfl (Nat.le_of_ble_eq_true rfl) (Nat.le_of_ble_eq_true rfl) (Nat.le_of_ble_eq_true rfl) ⟨by decide, by decide⟩ (fun E X1 hx => ?_) (fun rv X1 hq => ?_)
  · rcases hE E X1 hx with rfl | rfl
    · refine ⟨8, HC_1 ht rfl ⟨by decide, by decide⟩ (by decide) (C.2.2.2.2.2.2.2 _ cl_36) (C.2.2.2.2.2.2.2 _ cc_IO), fun q => ?_⟩
      refine V_astore (ls1 := [some (.ref (w.2.1 0)), some (.int (3 : Int32)), some (.int a), some (.int (0 : Int32)), some (.ref q)]) C dL_on_8 (by decide) rfl ?_
      refine V_bipush (v := (-11 : Int32)) C dL_on_10 (by decide) ?_
      exact V_ireturnX C dL_on_12 (by decide) (by decide) (Or.inr ⟨_, hx, Or.inl ⟨rfl, rfl⟩⟩)
    · refine ⟨13, HC_2 ht rfl (by decide) (C.2.2.2.2.2.2.2 _ cl_36) hN.1 ⟨by decide, by decide⟩ (by decide) (C.2.2.2.2.2.2.2 _ cl_38) (C.2.2.2.2.2.2.2 _ cc_IS), fun q => ?_⟩
      refine V_astore (ls1 := [some (.ref (w.2.1 0)), some (.int (3 : Int32)), some (.int a), some (.int (0 : Int32)), some (.ref q)]) C dL_on_13 (by decide) rfl ?_
      refine V_bipush (v := (-13 : Int32)) C dL_on_15 (by decide) ?_
      exact V_ireturnX C dL_on_17 (by decide) (by decide) (Or.inr ⟨_, hx, Or.inr ⟨rfl, rfl⟩⟩)
  · exact V_ireturnX C dL_on_7 (by decide) (by decide) (Or.inl hq)
def q_L_asks_4 (a : Int32) (b : Int32) (X : Mem) (h n : Nat) (R : Nat) (PP : Nat → Nat → Nat) (Z : Nat → Nat) (Th : Nat → Prop) : Int32 → Mem → Prop := q_X9_stopped a b X h n R PP Z Th
def r_L_asks_4 (a : Int32) (b : Int32) (X : Mem) (h n : Nat) (R : Nat) (PP : Nat → Nat → Nat) (Z : Nat → Nat) (Th : Nat → Prop) : String → Mem → Prop := r_X9_stopped a b X h n R PP Z Th
set_option maxHeartbeats 4000000 in
set_option maxRecDepth 100000 in
theorem k_L_asks_4 (w : Wt) (l : Launch) (a : Int32) (b : Int32) (X : Mem) (h n : Nat) (R : Nat) (PP : Nat → Nat → Nat) (Z : Nat → Nat) (Th : Nat → Prop) (hO : OInv (oC X) h n) (hG : GInv (gC X) h) (hn : X 6 0 = nI n) (hh : X 1 1 = nI h) (hB : RBc X R PP Z Th) : CtXI w l yL_asks cL_asks 4 (some .int) 9 205 2 [.ref (w.2.1 0), .int (4 : Int32), .int a, .int b] X (q_L_asks_4 a b X h n R PP Z Th) (r_L_asks_4 a b X h n R PP Z Th) := by
  refine CtXI_of (by decide +kernel) (Nat.le_of_ble_eq_true rfl) (List.forall_mem_cons.mpr ⟨rfl, (List.forall_mem_cons.mpr ⟨rfl, (List.forall_mem_cons.mpr ⟨rfl, (List.forall_mem_cons.mpr ⟨rfl, (fun _ h => nomatch h)⟩)⟩)⟩)⟩) (ls := [some (.ref (w.2.1 0)), some (.int (4 : Int32)), some (.int a), some (.int b)]) rfl (args := (#[.ref (w.2.1 0), .int (4 : Int32), .int a, .int b] : Array Value)) rfl (own := RL) rfl ?_
  intro p e s m below meth c C ht hD
  refine V_iload_n C dL_asks_0 rfl ?_
  refine V_if_ne (x := (4 : Int32)) (tgt := 13) C dL_asks_1 (by decide) (fun _ => ?_) (fun h => absurd h (by decide))
  refine V_iload_n C dL_asks_13 rfl ?_
  refine V_iconst (v := (1 : Int32)) C dL_asks_14 (by decide) ?_
  refine V_icmp_neN (a := 4) (b := 1) (tgt := 26) C dL_asks_15 (by decide) (by decide) (by decide) (fun _ => ?_) (fun h => absurd h (by decide))
  refine V_iload_n C dL_asks_26 rfl ?_
  refine V_iconst (v := (2 : Int32)) C dL_asks_27 (by decide) ?_
  refine V_icmp_neN (a := 4) (b := 2) (tgt := 49) C dL_asks_28 (by decide) (by decide) (by decide) (fun _ => ?_) (fun h => absurd h (by decide))
  refine V_iload_n C dL_asks_49 rfl ?_
  refine V_iconst (v := (3 : Int32)) C dL_asks_50 (by decide) ?_
  refine V_icmp_neN (a := 4) (b := 3) (tgt := 62) C dL_asks_51 (by decide) (by decide) (by decide) (fun _ => ?_) (fun h => absurd h (by decide))
  refine V_iload_n C dL_asks_62 rfl ?_
  refine V_iconst (v := (4 : Int32)) C dL_asks_63 (by decide) ?_
  refine V_icmp_neN (a := 4) (b := 4) (tgt := 76) C dL_asks_64 (by decide) (by decide) (by decide) (fun h => absurd h (by decide)) (fun _ => ?_)
  refine V_aload_n C dL_asks_67 rfl ?_
  refine V_iload_n C dL_asks_68 rfl ?_
  refine V_iload_n C dL_asks_69 rfl ?_
  refine V_xcallVII C ht hD [.int a, .int b] mi_L_24 pl_L_24 (k_X9_stopped w l a b X h n R PP Z Th hO hG hn hh hB) dL_asks_70 sh_0 (by decide) rfl rfl rfl (Nat.le_of_ble_eq_true rfl) (Nat.le_of_ble_eq_true rfl) (Nat.le_of_ble_eq_true rfl) ⟨by decide, by decide⟩ ⟨by decide, by decide⟩ (fun E X1 h => h) (fun v6 X6 q6 => ?_)
  refine V_goto (tgt := 81) C dL_asks_73 (by decide) ?_
  exact V_ireturnX C dL_asks_81 (by decide) (by decide) q6
def q_L_on_4 (a : Int32) (b : Int32) (X : Mem) (h n : Nat) (R : Nat) (PP : Nat → Nat → Nat) (Z : Nat → Nat) (Th : Nat → Prop) : Int32 → Mem → Prop := fun r X' => q_X9_stopped a b X h n R PP Z Th r X' ∨ ∃ E, r_X9_stopped a b X h n R PP Z Th E X' ∧ ((E = eIO ∧ r = -11) ∨ (E = eIS ∧ r = -13))
set_option maxHeartbeats 4000000 in
set_option maxRecDepth 100000 in
theorem k_L_on_4 (w : Wt) (l : Launch) (a : Int32) (b : Int32) (X : Mem) (h n : Nat) (R : Nat) (PP : Nat → Nat → Nat) (Z : Nat → Nat) (Th : Nat → Prop) (hO : OInv (oC X) h n) (hG : GInv (gC X) h) (hn : X 6 0 = nI n) (hh : X 1 1 = nI h) (hB : RBc X R PP Z Th) (hE : ∀ E X', r_X9_stopped a b X h n R PP Z Th E X' → E = eIO ∨ E = eIS) : CtH w l yL_on cL_on 5 [(0, 7, 8, 36), (0, 7, 13, 38)] 10 228 2 [.ref (w.2.1 0), .int (4 : Int32), .int a, .int b] X (q_L_on_4 a b X h n R PP Z Th) := by
  refine CtH_of (by decide +kernel) (Nat.le_of_ble_eq_true rfl) (List.forall_mem_cons.mpr ⟨rfl, (List.forall_mem_cons.mpr ⟨rfl, (List.forall_mem_cons.mpr ⟨rfl, (List.forall_mem_cons.mpr ⟨rfl, (fun _ h => nomatch h)⟩)⟩)⟩)⟩) (ls := [some (.ref (w.2.1 0)), some (.int (4 : Int32)), some (.int a), some (.int b), none]) rfl (args := (#[.ref (w.2.1 0), .int (4 : Int32), .int a, .int b] : Array Value)) rfl (own := RL) rfl ?_
  intro p e s m below meth c C ht hD hN
  refine V_aload_n C dL_on_0 rfl ?_
  refine V_iload_n C dL_on_1 rfl ?_
  refine V_iload_n C dL_on_2 rfl ?_
  refine V_iload_n C dL_on_3 rfl ?_
  refine V_hcallS C hD [.ref (w.2.1 0), .int (4 : Int32), .int a, .int b] ms_L_30 pl_L_30 (k_L_asks_4 w l a b X h n R PP Z Th hO hG hn hh hB) dL_on_4 rfl rfl (Nat.le_of_ble_eq_true rfl) (Nat.le_of_ble_eq_true rfl) (Nat.le_of_ble_eq_true rfl) ⟨by decide, by decide⟩ (fun E X1 hx => ?_) (fun rv X1 hq => ?_)
  · rcases hE E X1 hx with rfl | rfl
    · refine ⟨8, HC_1 ht rfl ⟨by decide, by decide⟩ (by decide) (C.2.2.2.2.2.2.2 _ cl_36) (C.2.2.2.2.2.2.2 _ cc_IO), fun q => ?_⟩
      refine V_astore (ls1 := [some (.ref (w.2.1 0)), some (.int (4 : Int32)), some (.int a), some (.int b), some (.ref q)]) C dL_on_8 (by decide) rfl ?_
      refine V_bipush (v := (-11 : Int32)) C dL_on_10 (by decide) ?_
      exact V_ireturnX C dL_on_12 (by decide) (by decide) (Or.inr ⟨_, hx, Or.inl ⟨rfl, rfl⟩⟩)
    · refine ⟨13, HC_2 ht rfl (by decide) (C.2.2.2.2.2.2.2 _ cl_36) hN.1 ⟨by decide, by decide⟩ (by decide) (C.2.2.2.2.2.2.2 _ cl_38) (C.2.2.2.2.2.2.2 _ cc_IS), fun q => ?_⟩
      refine V_astore (ls1 := [some (.ref (w.2.1 0)), some (.int (4 : Int32)), some (.int a), some (.int b), some (.ref q)]) C dL_on_13 (by decide) rfl ?_
      refine V_bipush (v := (-13 : Int32)) C dL_on_15 (by decide) ?_
      exact V_ireturnX C dL_on_17 (by decide) (by decide) (Or.inr ⟨_, hx, Or.inr ⟨rfl, rfl⟩⟩)
  · exact V_ireturnX C dL_on_7 (by decide) (by decide) (Or.inl hq)
def q_L_asks_5 (a : Int32) (X : Mem) (h : Nat) : Int32 → Mem → Prop := q_X9_roll a X h
def r_L_asks_5 (a : Int32) (X : Mem) (h : Nat) : String → Mem → Prop := r_X9_roll a X h
set_option maxHeartbeats 4000000 in
set_option maxRecDepth 100000 in
theorem k_L_asks_5 (w : Wt) (l : Launch) (a : Int32) (X : Mem) (h : Nat) (hh : X 1 1 = nI h) (h1 : 1 ≤ h) (h8 : h ≤ 8) (hk : ∀ b, b < 8 → ∃ a, a ≤ 100 ∧ X 3 b = nI a) : CtXI w l yL_asks cL_asks 4 (some .int) 9 205 2 [.ref (w.2.1 0), .int (5 : Int32), .int a, .int (0 : Int32)] X (q_L_asks_5 a X h) (r_L_asks_5 a X h) := by
  refine CtXI_of (by decide +kernel) (Nat.le_of_ble_eq_true rfl) (List.forall_mem_cons.mpr ⟨rfl, (List.forall_mem_cons.mpr ⟨rfl, (List.forall_mem_cons.mpr ⟨rfl, (List.forall_mem_cons.mpr ⟨rfl, (fun _ h => nomatch h)⟩)⟩)⟩)⟩) (ls := [some (.ref (w.2.1 0)), some (.int (5 : Int32)), some (.int a), some (.int (0 : Int32))]) rfl (args := (#[.ref (w.2.1 0), .int (5 : Int32), .int a, .int (0 : Int32)] : Array Value)) rfl (own := RL) rfl ?_
  intro p e s m below meth c C ht hD
  refine V_iload_n C dL_asks_0 rfl ?_
  refine V_if_ne (x := (5 : Int32)) (tgt := 13) C dL_asks_1 (by decide) (fun _ => ?_) (fun h => absurd h (by decide))
  refine V_iload_n C dL_asks_13 rfl ?_
  refine V_iconst (v := (1 : Int32)) C dL_asks_14 (by decide) ?_
  refine V_icmp_neN (a := 5) (b := 1) (tgt := 26) C dL_asks_15 (by decide) (by decide) (by decide) (fun _ => ?_) (fun h => absurd h (by decide))
  refine V_iload_n C dL_asks_26 rfl ?_
  refine V_iconst (v := (2 : Int32)) C dL_asks_27 (by decide) ?_
  refine V_icmp_neN (a := 5) (b := 2) (tgt := 49) C dL_asks_28 (by decide) (by decide) (by decide) (fun _ => ?_) (fun h => absurd h (by decide))
  refine V_iload_n C dL_asks_49 rfl ?_
  refine V_iconst (v := (3 : Int32)) C dL_asks_50 (by decide) ?_
  refine V_icmp_neN (a := 5) (b := 3) (tgt := 62) C dL_asks_51 (by decide) (by decide) (by decide) (fun _ => ?_) (fun h => absurd h (by decide))
  refine V_iload_n C dL_asks_62 rfl ?_
  refine V_iconst (v := (4 : Int32)) C dL_asks_63 (by decide) ?_
  refine V_icmp_neN (a := 5) (b := 4) (tgt := 76) C dL_asks_64 (by decide) (by decide) (by decide) (fun _ => ?_) (fun h => absurd h (by decide))
  refine V_aload_n C dL_asks_76 rfl ?_
  refine V_iload_n C dL_asks_77 rfl ?_
  refine V_xcallVII C ht hD [.int a] mi_L_27 pl_L_27 (k_X9_roll w l a X h hh h1 h8 hk) dL_asks_78 sh_0 (by decide) rfl rfl rfl (Nat.le_of_ble_eq_true rfl) (Nat.le_of_ble_eq_true rfl) (Nat.le_of_ble_eq_true rfl) ⟨by decide, by decide⟩ ⟨by decide, by decide⟩ (fun E X1 h => h) (fun v6 X6 q6 => ?_)
  exact V_ireturnX C dL_asks_81 (by decide) (by decide) q6
def q_L_on_5 (a : Int32) (X : Mem) (h : Nat) : Int32 → Mem → Prop := fun r X' => q_X9_roll a X h r X' ∨ ∃ E, r_X9_roll a X h E X' ∧ ((E = eIO ∧ r = -11) ∨ (E = eIS ∧ r = -13))
set_option maxHeartbeats 4000000 in
set_option maxRecDepth 100000 in
theorem k_L_on_5 (w : Wt) (l : Launch) (a : Int32) (X : Mem) (h : Nat) (hh : X 1 1 = nI h) (h1 : 1 ≤ h) (h8 : h ≤ 8) (hk : ∀ b, b < 8 → ∃ a, a ≤ 100 ∧ X 3 b = nI a) (hE : ∀ E X', r_X9_roll a X h E X' → E = eIO ∨ E = eIS) : CtH w l yL_on cL_on 5 [(0, 7, 8, 36), (0, 7, 13, 38)] 10 228 2 [.ref (w.2.1 0), .int (5 : Int32), .int a, .int (0 : Int32)] X (q_L_on_5 a X h) := by
  refine CtH_of (by decide +kernel) (Nat.le_of_ble_eq_true rfl) (List.forall_mem_cons.mpr ⟨rfl, (List.forall_mem_cons.mpr ⟨rfl, (List.forall_mem_cons.mpr ⟨rfl, (List.forall_mem_cons.mpr ⟨rfl, (fun _ h => nomatch h)⟩)⟩)⟩)⟩) (ls := [some (.ref (w.2.1 0)), some (.int (5 : Int32)), some (.int a), some (.int (0 : Int32)), none]) rfl (args := (#[.ref (w.2.1 0), .int (5 : Int32), .int a, .int (0 : Int32)] : Array Value)) rfl (own := RL) rfl ?_
  intro p e s m below meth c C ht hD hN
  refine V_aload_n C dL_on_0 rfl ?_
  refine V_iload_n C dL_on_1 rfl ?_
  refine V_iload_n C dL_on_2 rfl ?_
  refine V_iload_n C dL_on_3 rfl ?_
  refine V_hcallS C hD [.ref (w.2.1 0), .int (5 : Int32), .int a, .int (0 : Int32)] ms_L_30 pl_L_30 (k_L_asks_5 w l a X h hh h1 h8 hk) dL_on_4 rfl rfl (Nat.le_of_ble_eq_true rfl) (Nat.le_of_ble_eq_true rfl) (Nat.le_of_ble_eq_true rfl) ⟨by decide, by decide⟩ (fun E X1 hx => ?_) (fun rv X1 hq => ?_)
  · rcases hE E X1 hx with rfl | rfl
    · refine ⟨8, HC_1 ht rfl ⟨by decide, by decide⟩ (by decide) (C.2.2.2.2.2.2.2 _ cl_36) (C.2.2.2.2.2.2.2 _ cc_IO), fun q => ?_⟩
      refine V_astore (ls1 := [some (.ref (w.2.1 0)), some (.int (5 : Int32)), some (.int a), some (.int (0 : Int32)), some (.ref q)]) C dL_on_8 (by decide) rfl ?_
      refine V_bipush (v := (-11 : Int32)) C dL_on_10 (by decide) ?_
      exact V_ireturnX C dL_on_12 (by decide) (by decide) (Or.inr ⟨_, hx, Or.inl ⟨rfl, rfl⟩⟩)
    · refine ⟨13, HC_2 ht rfl (by decide) (C.2.2.2.2.2.2.2 _ cl_36) hN.1 ⟨by decide, by decide⟩ (by decide) (C.2.2.2.2.2.2.2 _ cl_38) (C.2.2.2.2.2.2.2 _ cc_IS), fun q => ?_⟩
      refine V_astore (ls1 := [some (.ref (w.2.1 0)), some (.int (5 : Int32)), some (.int a), some (.int (0 : Int32)), some (.ref q)]) C dL_on_13 (by decide) rfl ?_
      refine V_bipush (v := (-13 : Int32)) C dL_on_15 (by decide) ?_
      exact V_ireturnX C dL_on_17 (by decide) (by decide) (Or.inr ⟨_, hx, Or.inr ⟨rfl, rfl⟩⟩)
  · exact V_ireturnX C dL_on_7 (by decide) (by decide) (Or.inl hq)
