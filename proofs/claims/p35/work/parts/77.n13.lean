set_option maxHeartbeats 4000000 in
set_option maxRecDepth 100000 in
theorem law_fin {p : Program} {l : Launch} {e : Env} {s : State} {m : MethodId} {args : Array Value} {below : List Frame} {meth : Method} {c : Code} {w : Wt} {cn ck b L0 : Nat} {xs : Nat → Int32} {Q : State → Prop} {X : Mem} (K : LawC p l s m args meth c w b L0 xs) (hnk : cn + 60 ≤ 668764 ∧ ck + 360 ≤ 7095478) {h D n R tu t : Nat} (hS : LSt X h D n R) (hh6 : h ≤ 6) (hn16 : n ≤ 16) (hR8 : R ≤ 8) (kk : ∀ (X' : Mem) (ls' : List (Option Value)), V p l e room_1 s m args below meth c w 29 cn ck Q 1800 ls' [.int (1 : Int32)] X') : V p l e room_1 s m args below meth c w 29 cn ck Q 1783 [some (.ref b), some (.ref (w.2.1 0)), some (.ref (w.2.1 85)), some (.ref (w.2.1 86)), some (.ref (w.2.1 87)), some (.ref (w.2.1 88)), some (.ref (w.2.1 89)), some (.ref (w.2.1 90)), some (.ref (w.2.1 91)), some (.int (nI h)), some (.int (nI n)), some (.int (nI R)), some (.int (1 : Int32)), some (.int (nI tu)), some (.int (nI t)), none, none, none, none, none, none, none, none, none, none, none, none, none, none] [] X := by
  obtain ⟨C, hD, hN, hX, hbl, hfar, hL0⟩ := K
  obtain ⟨dr, PP, Z, Th, hJ, hL⟩ := hS
  have hK0 : Kp X X := Kp.rf
  have h1 := hJ.1.2.2.2.1
  have hR24 : R ≤ 24 := by omega
  refine V_iload C dL_law_1783 rfl ?_
  refine V_if_eq (x := (1 : Int32)) (tgt := 1799) C dL_law_1785 (by decide) (fun h => absurd h (by decide)) (fun _ => ?_)
  refine V_aload_n C dL_law_1788 rfl ?_
  refine V_callVI C [] mi_L_139 (k_X9_falseAlarms w l X h n hJ.2.1.2.1 hJ.1.2.2.2 hJ.2.1.1 hJ.1.2.2.1) dL_law_1789 sh_0 (by decide) rfl rfl rfl (Nat.le_of_ble_eq_true rfl) (Nat.le_of_ble_eq_true rfl) (Nat.le_of_ble_eq_true rfl) ⟨by show _ ≤ 668764; omega, by show _ ≤ 7095478; omega⟩ (fun v2 X2 q2 => ?_)
  obtain ⟨V2, hv2, pv2, nd2, T2, eX2, -, er2⟩ := q2
  obtain ⟨al, hal, eal⟩ : ∃ a, a ≤ 111100 ∧ v2 = nI a := ⟨_, alarm_le, er2⟩
  refine V_eqi eal ?_
  refine V_if_ltN (a := al) (tgt := 1799) C dL_law_1792 (by decide) (by omega) ?_
  refine V_iconst (v := (1 : Int32)) C dL_law_1795 (by decide) ?_
  refine V_goto (tgt := 1800) C dL_law_1796 (by decide) ?_
  exact kk _ _
set_option maxHeartbeats 4000000 in
set_option maxRecDepth 100000 in
theorem law_begin {p : Program} {l : Launch} {e : Env} {s : State} {m : MethodId} {args : Array Value} {below : List Frame} {meth : Method} {c : Code} {w : Wt} {cn ck b L0 : Nat} {xs : Nat → Int32} {Q : State → Prop} {X : Mem} (K : LawC p l s m args meth c w b L0 xs) (hnk : cn + 20 ≤ 668764 ∧ ck + 120 ≤ 7095478) {h D n R : Nat} (hS : LSt X h D n R) (e1 : h = 1) (e2 : D = 0) (e3 : n = 0) (e4 : R = 0) (kk : ∀ (X' : Mem) (tu : Nat), tu ≤ 190 → LSt X' h D n R → V p l e room_1 s m args below meth c w 29 (cn + 20) (ck + 120) Q 116 [some (.ref b), some (.ref (w.2.1 0)), some (.ref (w.2.1 85)), some (.ref (w.2.1 86)), some (.ref (w.2.1 87)), some (.ref (w.2.1 88)), some (.ref (w.2.1 89)), some (.ref (w.2.1 90)), some (.ref (w.2.1 91)), some (.int (1 : Int32)), some (.int (0 : Int32)), some (.int (0 : Int32)), some (.int (1 : Int32)), some (.int (nI tu)), some (.int (0 : Int32)), none, none, none, none, none, none, none, none, none, none, none, none, none, none] [] X') : V p l e room_1 s m args below meth c w 29 cn ck Q 48 [some (.ref b), some (.ref (w.2.1 0)), some (.ref (w.2.1 85)), some (.ref (w.2.1 86)), some (.ref (w.2.1 87)), some (.ref (w.2.1 88)), some (.ref (w.2.1 89)), some (.ref (w.2.1 90)), some (.ref (w.2.1 91)), none, none, none, none, none, none, none, none, none, none, none, none, none, none, none, none, none, none, none, none] [] X := by
  obtain ⟨C, hD, hN, hX, hbl, hfar, hL0⟩ := K
  obtain ⟨dr, PP, Z, Th, hJ, hL⟩ := hS
  have hK0 : Kp X X := Kp.rf
  have h1 := hJ.1.2.2.2.1
  have hR24 : R ≤ 24 := by omega
  refine V_iconst (v := (1 : Int32)) C dL_law_48 (by decide) ?_
  refine V_istore (ls1 := [some (.ref b), some (.ref (w.2.1 0)), some (.ref (w.2.1 85)), some (.ref (w.2.1 86)), some (.ref (w.2.1 87)), some (.ref (w.2.1 88)), some (.ref (w.2.1 89)), some (.ref (w.2.1 90)), some (.ref (w.2.1 91)), some (.int (1 : Int32)), none, none, none, none, none, none, none, none, none, none, none, none, none, none, none, none, none, none, none]) C dL_law_49 (by decide) rfl ?_
  refine V_iconst (v := (0 : Int32)) C dL_law_51 (by decide) ?_
  refine V_istore (ls1 := [some (.ref b), some (.ref (w.2.1 0)), some (.ref (w.2.1 85)), some (.ref (w.2.1 86)), some (.ref (w.2.1 87)), some (.ref (w.2.1 88)), some (.ref (w.2.1 89)), some (.ref (w.2.1 90)), some (.ref (w.2.1 91)), some (.int (1 : Int32)), some (.int (0 : Int32)), none, none, none, none, none, none, none, none, none, none, none, none, none, none, none, none, none, none]) C dL_law_52 (by decide) rfl ?_
  refine V_iconst (v := (0 : Int32)) C dL_law_54 (by decide) ?_
  refine V_istore (ls1 := [some (.ref b), some (.ref (w.2.1 0)), some (.ref (w.2.1 85)), some (.ref (w.2.1 86)), some (.ref (w.2.1 87)), some (.ref (w.2.1 88)), some (.ref (w.2.1 89)), some (.ref (w.2.1 90)), some (.ref (w.2.1 91)), some (.int (1 : Int32)), some (.int (0 : Int32)), some (.int (0 : Int32)), none, none, none, none, none, none, none, none, none, none, none, none, none, none, none, none, none]) C dL_law_55 (by decide) rfl ?_
  refine V_aload_n C dL_law_57 rfl ?_
  refine V_iconst (v := (0 : Int32)) C dL_law_58 (by decide) ?_
  refine V_iconst (v := (0 : Int32)) C dL_law_59 (by decide) ?_
  refine V_iconst (v := (0 : Int32)) C dL_law_60 (by decide) ?_
  refine V_hcallV C hD [.int (0 : Int32), .int (0 : Int32), .int (0 : Int32)] mi_L_40 pl_L_40 (k_X9_has w l (0 : Int32) (0 : Int32) (0 : Int32) X h n hJ.2.1.2.1 hJ.1.2.2.2 hJ.2.1.1 hJ.1.2.2.1) dL_law_61 sh_0 (by decide) rfl rfl rfl (Nat.le_of_ble_eq_true rfl) (Nat.le_of_ble_eq_true rfl) (Nat.le_of_ble_eq_true rfl) ⟨by show _ ≤ 668764; omega, by show _ ≤ 7095478; omega⟩ (fun E X1 hx => False.elim (hx.2.elim (fun g => g.2 (btw_n (a := 0) (m := h - 1) (by omega) (by omega))) (fun g => g.2.2 (blk_n (v := 0) (l := 0) (by decide) (by decide) (by decide))))) (fun v1 X1 q1 => ?_)
  obtain ⟨-, V1, eX1, hV1, hb1⟩ := q1
  have hb1 := (HasX_of hJ.1.2.2.2 hJ.2.1.2.1 hV1 hb1).congr (HasX_k hK0)
  have hK1 : Kp X X1 := by rw [eX1]; exact hK0.put (Or.inl rfl)
  have hJ1 := JP_k hK1 hJ
  have hV1 : ∃ V, IsV (oC X) (gC X) n (X 1 0) V := ⟨V1, by rw [← hK0.o, ← hK0.g, ← hK0 1 (by omega)]; exact hV1⟩
  refine V_if_eqB (tgt := 78) C hb1 dL_law_64 (by decide) (fun h64_2 => False.elim (h64_2 (HasX_0 hV1))) (fun h64_2 => ?_)
  refine V_aload_n C dL_law_67 rfl ?_
  refine V_callVI C [] mi_L_66 (k_X9_clique w l X1 R PP Z Th hJ1.2.2.2.1.1) dL_law_68 sh_0 (by decide) rfl rfl rfl (Nat.le_of_ble_eq_true rfl) (Nat.le_of_ble_eq_true rfl) (Nat.le_of_ble_eq_true rfl) ⟨by show _ ≤ 668764; omega, by show _ ≤ 7095478; omega⟩ (fun v3 X3 q3 => ?_)
  obtain ⟨oI3, ec3⟩ := q3
  have hK3 : Kp X X3 := hK1.outI oI3
  have hJ3 := JP_k hK3 hJ
  have hKF := (KF_is R PP Z Th).2
  refine V_eqi ec3 ?_
  refine V_if_neN (a := KF R PP Z Th) (tgt := 78) C dL_law_71 (by decide) (by omega) (fun h71_4 => False.elim (h71_4 (by rw [e4]; exact KF_0))) (fun h71_4 => ?_)
  refine V_iconst (v := (1 : Int32)) C dL_law_74 (by decide) ?_
  refine V_goto (tgt := 79) C dL_law_75 (by decide) ?_
  refine V_istore (ls1 := [some (.ref b), some (.ref (w.2.1 0)), some (.ref (w.2.1 85)), some (.ref (w.2.1 86)), some (.ref (w.2.1 87)), some (.ref (w.2.1 88)), some (.ref (w.2.1 89)), some (.ref (w.2.1 90)), some (.ref (w.2.1 91)), some (.int (1 : Int32)), some (.int (0 : Int32)), some (.int (0 : Int32)), some (.int (1 : Int32)), none, none, none, none, none, none, none, none, none, none, none, none, none, none, none, none]) C dL_law_79 (by decide) rfl ?_
  have L111 : ∀ (tu : Nat), (tu ≤ 190) → V p l e room_1 s m args below meth c w 29 (cn + 4) (ck + 24) Q 111 [some (.ref b), some (.ref (w.2.1 0)), some (.ref (w.2.1 85)), some (.ref (w.2.1 86)), some (.ref (w.2.1 87)), some (.ref (w.2.1 88)), some (.ref (w.2.1 89)), some (.ref (w.2.1 90)), some (.ref (w.2.1 91)), some (.int (1 : Int32)), some (.int (0 : Int32)), some (.int (0 : Int32)), some (.int (1 : Int32)), none, none, none, none, none, none, none, none, none, none, none, none, none, none, none, none] [.int (nI tu)] X3 := by
    intro tu htu
    refine V_istore (ls1 := [some (.ref b), some (.ref (w.2.1 0)), some (.ref (w.2.1 85)), some (.ref (w.2.1 86)), some (.ref (w.2.1 87)), some (.ref (w.2.1 88)), some (.ref (w.2.1 89)), some (.ref (w.2.1 90)), some (.ref (w.2.1 91)), some (.int (1 : Int32)), some (.int (0 : Int32)), some (.int (0 : Int32)), some (.int (1 : Int32)), some (.int (nI tu)), none, none, none, none, none, none, none, none, none, none, none, none, none, none, none]) C dL_law_111 (by decide) rfl ?_
    refine V_iconst (v := (0 : Int32)) C dL_law_113 (by decide) ?_
    refine V_istore (ls1 := [some (.ref b), some (.ref (w.2.1 0)), some (.ref (w.2.1 85)), some (.ref (w.2.1 86)), some (.ref (w.2.1 87)), some (.ref (w.2.1 88)), some (.ref (w.2.1 89)), some (.ref (w.2.1 90)), some (.ref (w.2.1 91)), some (.int (1 : Int32)), some (.int (0 : Int32)), some (.int (0 : Int32)), some (.int (1 : Int32)), some (.int (nI tu)), some (.int (0 : Int32)), none, none, none, none, none, none, none, none, none, none, none, none, none, none]) C dL_law_114 (by decide) rfl ?_
    exact V_widen (by omega) (by omega) (kk X3 tu (by omega) (LSt.mk hJ3 (LA_k hK3 hL)))
  refine V_aload_n C dL_law_81 rfl ?_
  refine V_slen C hX hbl hfar dL_law_82 ?_
  refine V_bipush (v := (40 : Int32)) C dL_law_83 (by decide) ?_
  refine V_icmp_geN (a := L0) (b := 40) (tgt := 94) C dL_law_85 (by decide) (by omega) (by omega) (fun h85_5 => ?_) (fun h85_5 => ?_)
  · refine V_aload_n C dL_law_94 rfl ?_
    refine V_slen C hX hbl hfar dL_law_95 ?_
    refine V_bipush (v := (80 : Int32)) C dL_law_96 (by decide) ?_
    refine V_icmp_geN (a := L0) (b := 80) (tgt := 108) C dL_law_98 (by decide) (by omega) (by omega) (fun h98_6 => ?_) (fun h98_6 => ?_)
    · refine V_sipush (v := (190 : Int32)) C dL_law_108 (by decide) ?_
      exact L111 190 (by omega)
    · refine V_iconst (v := (2 : Int32)) C dL_law_101 (by decide) ?_
      refine V_aload_n C dL_law_102 rfl ?_
      refine V_slen C hX hbl hfar dL_law_103 ?_
      refine V_imulN (a := 2) (b := L0) C dL_law_104 ?_
      refine V_goto (tgt := 111) C dL_law_105 (by decide) ?_
      exact L111 (2 * L0) (by omega)
  · refine V_sipush (v := (130 : Int32)) C dL_law_88 (by decide) ?_
    refine V_goto (tgt := 111) C dL_law_91 (by decide) ?_
    exact L111 130 (by omega)
