set_option maxHeartbeats 4000000 in
set_option maxRecDepth 100000 in
theorem law_d6g {p : Program} {l : Launch} {e : Env} {s : State} {m : MethodId} {args : Array Value} {below : List Frame} {meth : Method} {c : Code} {w : Wt} {cn ck b L0 : Nat} {xs : Nat → Int32} {Q : State → Prop} {X : Mem} (K : LawC p l s m args meth c w b L0 xs) (hnk : cn + 60 ≤ 668764 ∧ ck + 360 ≤ 7095478) {h D n R tu t y d who ko net mz va e0 kq : Nat} (hS : LSt X h D n R) (hh6 : h ≤ 6) (hn16 : n ≤ 16) (hR8 : R ≤ 8) (hD9 : D ≤ 9000) (hyb : y < 268435456) (hwho : who < h) (hko : n = 0 ∨ ko < n) (hnet : net < 7) (hma : mz ≤ 8) (hva : va < 256) (hvb : va % 2 ^ (8 - mz) = 0) (hn0 : 0 < n) (hk7 : X 7 ko = 0) (he12 : X 12 ko = nI e0) (he2 : e0 < 1024) (kk : ∀ (X' : Mem) (h' D' n' R' mz' va' : Nat), LSt X' h' D' n' R' → h ≤ h' → h' ≤ 6 → n' ≤ 16 → R' ≤ 8 → D' ≤ D + 12 → mz' ≤ 8 → va' < 256 → va' % 2 ^ (8 - mz') = 0 → V p l e room_1 s m args below meth c w 29 (cn + 60) (ck + 360) Q 1630 [some (.ref b), some (.ref (w.2.1 0)), some (.ref (w.2.1 85)), some (.ref (w.2.1 86)), some (.ref (w.2.1 87)), some (.ref (w.2.1 88)), some (.ref (w.2.1 89)), some (.ref (w.2.1 90)), some (.ref (w.2.1 91)), some (.int (nI h')), some (.int (nI n')), some (.int (nI R')), some (.int (1 : Int32)), some (.int (nI tu)), some (.int (nI t)), none, some (.int (nI y)), none, some (.int (nI who)), none, some (.int (nI net)), some (.int (nI mz')), some (.int (nI va')), none, none, none, none, none, none] [] X') : V p l e room_1 s m args below meth c w 29 cn ck Q 717 [some (.ref b), some (.ref (w.2.1 0)), some (.ref (w.2.1 85)), some (.ref (w.2.1 86)), some (.ref (w.2.1 87)), some (.ref (w.2.1 88)), some (.ref (w.2.1 89)), some (.ref (w.2.1 90)), some (.ref (w.2.1 91)), some (.int (nI h)), some (.int (nI n)), some (.int (nI R)), some (.int (1 : Int32)), some (.int (nI tu)), some (.int (nI t)), none, some (.int (nI y)), some (.int (nI d)), some (.int (nI who)), some (.int (nI ko)), some (.int (nI net)), some (.int (nI mz)), some (.int (nI va)), none, none, none, none, none, none] [] X := by
  obtain ⟨C, hD, hN, hX, hbl, hfar, hL0⟩ := K
  obtain ⟨dr, PP, Z, Th, hJ, hL⟩ := hS
  have hK0 : Kp X X := Kp.rf
  have h1 := hJ.1.2.2.2.1
  have hR24 : R ≤ 24 := by omega
  refine V_iload C dL_law_717 rfl ?_
  refine V_iconst (v := (5 : Int32)) C dL_law_719 (by decide) ?_
  refine V_ishr C dL_law_720 ?_
  refine V_eqi (y := nI (y / 32)) (pk_shrN (by omega) _ 5 (s_l31 5 (by decide))) ?_
  refine V_bipush (v := (9 : Int32)) C dL_law_721 (by decide) ?_
  refine V_irem C dL_law_723 (by decide) ?_
  refine V_eqi (y := nI ((y / 32) % 9)) (pk_rem (d := 9) (by omega) (by decide) (by decide)) ?_
  refine V_istore (ls1 := [some (.ref b), some (.ref (w.2.1 0)), some (.ref (w.2.1 85)), some (.ref (w.2.1 86)), some (.ref (w.2.1 87)), some (.ref (w.2.1 88)), some (.ref (w.2.1 89)), some (.ref (w.2.1 90)), some (.ref (w.2.1 91)), some (.int (nI h)), some (.int (nI n)), some (.int (nI R)), some (.int (1 : Int32)), some (.int (nI tu)), some (.int (nI t)), none, some (.int (nI y)), some (.int (nI d)), some (.int (nI who)), some (.int (nI ko)), some (.int (nI net)), some (.int (nI mz)), some (.int (nI va)), some (.int (nI ((y / 32) % 9))), none, none, none, none, none]) C dL_law_724 (by decide) rfl ?_
  refine V_aload_n C dL_law_726 rfl ?_
  refine V_iload C dL_law_727 rfl ?_
  refine V_hcallV C hD [.int (nI ko)] mi_L_47 pl_L_47 (k_X9_judged w l (nI ko) X h n hJ.2.1.2.1 hJ.1.2.2.2 hJ.2.1.1 hJ.1.2.2.1) dL_law_729 sh_0 (by decide) rfl rfl rfl (Nat.le_of_ble_eq_true rfl) (Nat.le_of_ble_eq_true rfl) (Nat.le_of_ble_eq_true rfl) ⟨by show _ ≤ 668764; omega, by show _ ≤ 7095478; omega⟩ (fun E X1 hx => False.elim (hx.2.2 (obj_b (by omega) hJ.2.1.2.1.1))) (fun v1 X1 q1 => ?_)
  obtain ⟨-, o1, ho1, eo1, V1, eX1, hV1, er1⟩ := q1
  have hj1 : JgX X n ko v1 := (JgX_k hK0).mp ⟨V1, hV1, by rw [(nI_eq (by omega) (by omega)).mp eo1]; exact er1⟩
  have hK1 : Kp X X1 := by rw [eX1]; exact hK0.put (Or.inl rfl)
  have hJ1 := JP_k hK1 hJ
  obtain ⟨c1, hc1, ec1⟩ := JgX_lt (by omega) hj1
  rw [ec1] at hj1
  refine V_eqi ec1 ?_
  refine V_istore (ls1 := [some (.ref b), some (.ref (w.2.1 0)), some (.ref (w.2.1 85)), some (.ref (w.2.1 86)), some (.ref (w.2.1 87)), some (.ref (w.2.1 88)), some (.ref (w.2.1 89)), some (.ref (w.2.1 90)), some (.ref (w.2.1 91)), some (.int (nI h)), some (.int (nI n)), some (.int (nI R)), some (.int (1 : Int32)), some (.int (nI tu)), some (.int (nI t)), none, some (.int (nI y)), some (.int (nI d)), some (.int (nI who)), some (.int (nI ko)), some (.int (nI net)), some (.int (nI mz)), some (.int (nI va)), some (.int (nI ((y / 32) % 9))), some (.int (nI c1)), none, none, none, none]) C dL_law_732 (by decide) rfl ?_
  refine V_aload_n C dL_law_734 rfl ?_
  refine V_iconst (v := (0 : Int32)) C dL_law_735 (by decide) ?_
  refine V_iload C dL_law_736 rfl ?_
  refine V_iload C dL_law_738 rfl ?_
  refine V_lcallS (na := 4) C hD hN [.ref (w.2.1 0), .int (0 : Int32), .int (nI ko), .int (nI ((y / 32) % 9))] pl_L_54 (tb_i 738 (by decide +kernel) (by decide +kernel)) (tb_i 31 (by decide +kernel) (by decide +kernel)) (by decide +kernel) (tb_i 737 (by decide +kernel) (by decide +kernel)) (k_L_on_0 w l (nI ko) (nI ((y / 32) % 9)) X1 h n hJ1.2.1.2.1 hJ1.2.1.1 (fun E X1 h => al_e h.2 (fun _ g9 => absurd (by rw [hK1 7 (by omega)]; exact hk7) (g9 ko (by omega) rfl)))) dL_law_740 rfl rfl (Nat.le_of_ble_eq_true rfl) (Nat.le_of_ble_eq_true rfl) (Nat.le_of_ble_eq_true rfl) ⟨by show _ ≤ 668764; omega, by show _ ≤ 7095478; omega⟩ (fun v2 X2 q2 => ?_)
  obtain ⟨er2, eX2⟩ := U_on0g hJ1 (by omega) (by rw [hK1 7 (by omega)]; exact hk7) q2; subst X2
  refine V_eqi er2 ?_
  refine V_istore (ls1 := [some (.ref b), some (.ref (w.2.1 0)), some (.ref (w.2.1 85)), some (.ref (w.2.1 86)), some (.ref (w.2.1 87)), some (.ref (w.2.1 88)), some (.ref (w.2.1 89)), some (.ref (w.2.1 90)), some (.ref (w.2.1 91)), some (.int (nI h)), some (.int (nI n)), some (.int (nI R)), some (.int (1 : Int32)), some (.int (nI tu)), some (.int (nI t)), none, some (.int (nI y)), some (.int (nI d)), some (.int (nI who)), some (.int (nI ko)), some (.int (nI net)), some (.int (nI mz)), some (.int (nI va)), some (.int (nI ((y / 32) % 9))), some (.int (nI c1)), some (.int (-13 : Int32)), none, none, none]) C dL_law_743 (by decide) rfl ?_
  refine V_iload C dL_law_745 rfl ?_
  refine V_aload_n C dL_law_747 rfl ?_
  refine V_iload C dL_law_748 rfl ?_
  refine V_ialdN (p0 := 85) (o := ko) (v := X1 85 ko) C dL_law_750 sh_85 (by decide) (by omega) (by decide) rfl ?_
  refine V_eqi (y := nI 0) ((congrFun (hK1 85 (by omega)) _).trans ((hL.1 ko (by omega)).1.trans hk7)) ?_
  refine V_if_ne (x := nI 0) (tgt := 759) C dL_law_751 (by decide) (fun h => absurd h (by decide)) (fun _ => ?_)
  refine V_bipush (v := (-13 : Int32)) C dL_law_754 (by decide) ?_
  refine V_goto (tgt := 764) C dL_law_756 (by decide) ?_
  refine V_icmp_ne (x := (-13 : Int32)) (y := (-13 : Int32)) (tgt := 830) C dL_law_764 (by decide) (fun h => absurd rfl h) (fun _ => ?_)
  refine V_iload C dL_law_767 rfl ?_
  refine V_if_lt (x := (-13 : Int32)) (tgt := 826) C dL_law_769 (by decide) (fun h769_5 => ?_) (fun h769_5 => False.elim (absurd (by decide : (-13 : Int32) < 0) h769_5))
  refine V_iconst (v := (1 : Int32)) C dL_law_826 (by decide) ?_
  refine V_goto (tgt := 831) C dL_law_827 (by decide) ?_
  refine V_istore (ls1 := [some (.ref b), some (.ref (w.2.1 0)), some (.ref (w.2.1 85)), some (.ref (w.2.1 86)), some (.ref (w.2.1 87)), some (.ref (w.2.1 88)), some (.ref (w.2.1 89)), some (.ref (w.2.1 90)), some (.ref (w.2.1 91)), some (.int (nI h)), some (.int (nI n)), some (.int (nI R)), some (.int (1 : Int32)), some (.int (nI tu)), some (.int (nI t)), none, some (.int (nI y)), some (.int (nI d)), some (.int (nI who)), some (.int (nI ko)), some (.int (nI net)), some (.int (nI mz)), some (.int (nI va)), some (.int (nI ((y / 32) % 9))), some (.int (nI c1)), some (.int (-13 : Int32)), none, none, none]) C dL_law_831 (by decide) rfl ?_
  refine V_aload C dL_law_833 rfl ?_
  refine V_iload C dL_law_835 rfl ?_
  refine V_iload C dL_law_837 rfl ?_
  refine V_if_ge (x := (-13 : Int32)) (tgt := 850) C dL_law_839 (by decide) (fun h839_6 => False.elim (absurd h839_6 (by decide))) (fun h839_6 => ?_)
  refine V_aload C dL_law_842 rfl ?_
  refine V_iload C dL_law_844 rfl ?_
  refine V_ialdN (p0 := 89) (o := ko) (v := X1 89 ko) C dL_law_846 sh_89 (by decide) (by omega) (by decide) rfl ?_
  refine V_eqi (y := nI e0) ((congrFun (hK1 89 (by omega)) _).trans ((hL.1 ko (by omega)).2.2.2.2.1.trans he12)) ?_
  refine V_goto (tgt := 852) C dL_law_847 (by decide) ?_
  refine V_iastN (p0 := 89) (o := ko) (X1 := (ma X1 89 (upd (X1 89) ko (nI e0)))) C dL_law_852 sh_89 (by decide) (by omega) (by decide) rfl ?_
  obtain ⟨Y9, eY9⟩ : ∃ Y : Mem, Y = (ma X1 89 (upd (X1 89) ko (nI e0))) := ⟨_, rfl⟩
  rw [← eY9]
  have hJY9 : JP Y9 h D n 0 R dr PP Z Th := by rw [eY9]; exact JP_l (by decide) hJ1
  have hLY9 : LA Y9 h n R PP Z Th := by rw [eY9]; exact LA_ext (X := X) hL (fun k hk => by rw [hK1 12 (by omega)]; by_cases z : k = ko; subst z; rw [if_pos rfl]; exact (by assumption : X 12 k = nI e0); rw [if_neg z]) (fun p hp => hK1 p (by omega)) (by omega)
  have hKY9 : Kp Y9 Y9 := Kp.rf
  refine V_goto (tgt := 1630) C dL_law_853 (by decide) ?_
  refine V_kill (i := 17) (ls1 := [some (.ref b), some (.ref (w.2.1 0)), some (.ref (w.2.1 85)), some (.ref (w.2.1 86)), some (.ref (w.2.1 87)), some (.ref (w.2.1 88)), some (.ref (w.2.1 89)), some (.ref (w.2.1 90)), some (.ref (w.2.1 91)), some (.int (nI h)), some (.int (nI n)), some (.int (nI R)), some (.int (1 : Int32)), some (.int (nI tu)), some (.int (nI t)), none, some (.int (nI y)), none, some (.int (nI who)), some (.int (nI ko)), some (.int (nI net)), some (.int (nI mz)), some (.int (nI va)), some (.int (nI ((y / 32) % 9))), some (.int (nI c1)), some (.int (-13 : Int32)), none, none, none]) rfl ?_
  refine V_kill (i := 19) (ls1 := [some (.ref b), some (.ref (w.2.1 0)), some (.ref (w.2.1 85)), some (.ref (w.2.1 86)), some (.ref (w.2.1 87)), some (.ref (w.2.1 88)), some (.ref (w.2.1 89)), some (.ref (w.2.1 90)), some (.ref (w.2.1 91)), some (.int (nI h)), some (.int (nI n)), some (.int (nI R)), some (.int (1 : Int32)), some (.int (nI tu)), some (.int (nI t)), none, some (.int (nI y)), none, some (.int (nI who)), none, some (.int (nI net)), some (.int (nI mz)), some (.int (nI va)), some (.int (nI ((y / 32) % 9))), some (.int (nI c1)), some (.int (-13 : Int32)), none, none, none]) rfl ?_
  refine V_kill (i := 23) (ls1 := [some (.ref b), some (.ref (w.2.1 0)), some (.ref (w.2.1 85)), some (.ref (w.2.1 86)), some (.ref (w.2.1 87)), some (.ref (w.2.1 88)), some (.ref (w.2.1 89)), some (.ref (w.2.1 90)), some (.ref (w.2.1 91)), some (.int (nI h)), some (.int (nI n)), some (.int (nI R)), some (.int (1 : Int32)), some (.int (nI tu)), some (.int (nI t)), none, some (.int (nI y)), none, some (.int (nI who)), none, some (.int (nI net)), some (.int (nI mz)), some (.int (nI va)), none, some (.int (nI c1)), some (.int (-13 : Int32)), none, none, none]) rfl ?_
  refine V_kill (i := 24) (ls1 := [some (.ref b), some (.ref (w.2.1 0)), some (.ref (w.2.1 85)), some (.ref (w.2.1 86)), some (.ref (w.2.1 87)), some (.ref (w.2.1 88)), some (.ref (w.2.1 89)), some (.ref (w.2.1 90)), some (.ref (w.2.1 91)), some (.int (nI h)), some (.int (nI n)), some (.int (nI R)), some (.int (1 : Int32)), some (.int (nI tu)), some (.int (nI t)), none, some (.int (nI y)), none, some (.int (nI who)), none, some (.int (nI net)), some (.int (nI mz)), some (.int (nI va)), none, none, some (.int (-13 : Int32)), none, none, none]) rfl ?_
  refine V_kill (i := 25) (ls1 := [some (.ref b), some (.ref (w.2.1 0)), some (.ref (w.2.1 85)), some (.ref (w.2.1 86)), some (.ref (w.2.1 87)), some (.ref (w.2.1 88)), some (.ref (w.2.1 89)), some (.ref (w.2.1 90)), some (.ref (w.2.1 91)), some (.int (nI h)), some (.int (nI n)), some (.int (nI R)), some (.int (1 : Int32)), some (.int (nI tu)), some (.int (nI t)), none, some (.int (nI y)), none, some (.int (nI who)), none, some (.int (nI net)), some (.int (nI mz)), some (.int (nI va)), none, none, none, none, none, none]) rfl ?_
  exact V_widen (by omega) (by omega) (kk Y9 h D n R mz va (LSt.mk hJY9 hLY9) (by omega) (by omega) (by omega) (by omega) (by omega) (by omega) (by omega) (by omega))
set_option maxHeartbeats 4000000 in
set_option maxRecDepth 100000 in
theorem law_d6n {p : Program} {l : Launch} {e : Env} {s : State} {m : MethodId} {args : Array Value} {below : List Frame} {meth : Method} {c : Code} {w : Wt} {cn ck b L0 : Nat} {xs : Nat → Int32} {Q : State → Prop} {X : Mem} (K : LawC p l s m args meth c w b L0 xs) (hnk : cn + 60 ≤ 668764 ∧ ck + 360 ≤ 7095478) {h D n R tu t y d who ko net mz va e0 kq : Nat} (hS : LSt X h D n R) (hh6 : h ≤ 6) (hn16 : n ≤ 16) (hR8 : R ≤ 8) (hD9 : D ≤ 9000) (hyb : y < 268435456) (hwho : who < h) (hko : n = 0 ∨ ko < n) (hnet : net < 7) (hma : mz ≤ 8) (hva : va < 256) (hvb : va % 2 ^ (8 - mz) = 0) (hn0 : 0 < n) (hk7 : X 7 ko = nI kq) (hkq : kq = 1 ∨ kq = 2) (he12 : X 12 ko = nI e0) (he2 : e0 < 1024) (he1 : kq = 1 → e0 ≤ 8) (kk : ∀ (X' : Mem) (h' D' n' R' mz' va' : Nat), LSt X' h' D' n' R' → h ≤ h' → h' ≤ 6 → n' ≤ 16 → R' ≤ 8 → D' ≤ D + 12 → mz' ≤ 8 → va' < 256 → va' % 2 ^ (8 - mz') = 0 → V p l e room_1 s m args below meth c w 29 (cn + 60) (ck + 360) Q 1630 [some (.ref b), some (.ref (w.2.1 0)), some (.ref (w.2.1 85)), some (.ref (w.2.1 86)), some (.ref (w.2.1 87)), some (.ref (w.2.1 88)), some (.ref (w.2.1 89)), some (.ref (w.2.1 90)), some (.ref (w.2.1 91)), some (.int (nI h')), some (.int (nI n')), some (.int (nI R')), some (.int (1 : Int32)), some (.int (nI tu)), some (.int (nI t)), none, some (.int (nI y)), none, some (.int (nI who)), none, some (.int (nI net)), some (.int (nI mz')), some (.int (nI va')), none, none, none, none, none, none] [] X') : V p l e room_1 s m args below meth c w 29 cn ck Q 717 [some (.ref b), some (.ref (w.2.1 0)), some (.ref (w.2.1 85)), some (.ref (w.2.1 86)), some (.ref (w.2.1 87)), some (.ref (w.2.1 88)), some (.ref (w.2.1 89)), some (.ref (w.2.1 90)), some (.ref (w.2.1 91)), some (.int (nI h)), some (.int (nI n)), some (.int (nI R)), some (.int (1 : Int32)), some (.int (nI tu)), some (.int (nI t)), none, some (.int (nI y)), some (.int (nI d)), some (.int (nI who)), some (.int (nI ko)), some (.int (nI net)), some (.int (nI mz)), some (.int (nI va)), none, none, none, none, none, none] [] X := by
  obtain ⟨C, hD, hN, hX, hbl, hfar, hL0⟩ := K
  obtain ⟨dr, PP, Z, Th, hJ, hL⟩ := hS
  have hK0 : Kp X X := Kp.rf
  have h1 := hJ.1.2.2.2.1
  have hR24 : R ≤ 24 := by omega
  refine V_iload C dL_law_717 rfl ?_
  refine V_iconst (v := (5 : Int32)) C dL_law_719 (by decide) ?_
  refine V_ishr C dL_law_720 ?_
  refine V_eqi (y := nI (y / 32)) (pk_shrN (by omega) _ 5 (s_l31 5 (by decide))) ?_
  refine V_bipush (v := (9 : Int32)) C dL_law_721 (by decide) ?_
  refine V_irem C dL_law_723 (by decide) ?_
  refine V_eqi (y := nI ((y / 32) % 9)) (pk_rem (d := 9) (by omega) (by decide) (by decide)) ?_
  refine V_istore (ls1 := [some (.ref b), some (.ref (w.2.1 0)), some (.ref (w.2.1 85)), some (.ref (w.2.1 86)), some (.ref (w.2.1 87)), some (.ref (w.2.1 88)), some (.ref (w.2.1 89)), some (.ref (w.2.1 90)), some (.ref (w.2.1 91)), some (.int (nI h)), some (.int (nI n)), some (.int (nI R)), some (.int (1 : Int32)), some (.int (nI tu)), some (.int (nI t)), none, some (.int (nI y)), some (.int (nI d)), some (.int (nI who)), some (.int (nI ko)), some (.int (nI net)), some (.int (nI mz)), some (.int (nI va)), some (.int (nI ((y / 32) % 9))), none, none, none, none, none]) C dL_law_724 (by decide) rfl ?_
  refine V_aload_n C dL_law_726 rfl ?_
  refine V_iload C dL_law_727 rfl ?_
  refine V_hcallV C hD [.int (nI ko)] mi_L_47 pl_L_47 (k_X9_judged w l (nI ko) X h n hJ.2.1.2.1 hJ.1.2.2.2 hJ.2.1.1 hJ.1.2.2.1) dL_law_729 sh_0 (by decide) rfl rfl rfl (Nat.le_of_ble_eq_true rfl) (Nat.le_of_ble_eq_true rfl) (Nat.le_of_ble_eq_true rfl) ⟨by show _ ≤ 668764; omega, by show _ ≤ 7095478; omega⟩ (fun E X1 hx => False.elim (hx.2.2 (obj_b (by omega) hJ.2.1.2.1.1))) (fun v1 X1 q1 => ?_)
  obtain ⟨-, o1, ho1, eo1, V1, eX1, hV1, er1⟩ := q1
  have hj1 : JgX X n ko v1 := (JgX_k hK0).mp ⟨V1, hV1, by rw [(nI_eq (by omega) (by omega)).mp eo1]; exact er1⟩
  have hK1 : Kp X X1 := by rw [eX1]; exact hK0.put (Or.inl rfl)
  have hJ1 := JP_k hK1 hJ
  obtain ⟨c1, hc1, ec1⟩ := JgX_lt (by omega) hj1
  rw [ec1] at hj1
  refine V_eqi ec1 ?_
  refine V_istore (ls1 := [some (.ref b), some (.ref (w.2.1 0)), some (.ref (w.2.1 85)), some (.ref (w.2.1 86)), some (.ref (w.2.1 87)), some (.ref (w.2.1 88)), some (.ref (w.2.1 89)), some (.ref (w.2.1 90)), some (.ref (w.2.1 91)), some (.int (nI h)), some (.int (nI n)), some (.int (nI R)), some (.int (1 : Int32)), some (.int (nI tu)), some (.int (nI t)), none, some (.int (nI y)), some (.int (nI d)), some (.int (nI who)), some (.int (nI ko)), some (.int (nI net)), some (.int (nI mz)), some (.int (nI va)), some (.int (nI ((y / 32) % 9))), some (.int (nI c1)), none, none, none, none]) C dL_law_732 (by decide) rfl ?_
  refine V_aload_n C dL_law_734 rfl ?_
  refine V_iconst (v := (0 : Int32)) C dL_law_735 (by decide) ?_
  refine V_iload C dL_law_736 rfl ?_
  refine V_iload C dL_law_738 rfl ?_
  refine V_lcallS (na := 4) C hD hN [.ref (w.2.1 0), .int (0 : Int32), .int (nI ko), .int (nI ((y / 32) % 9))] pl_L_54 (tb_i 738 (by decide +kernel) (by decide +kernel)) (tb_i 31 (by decide +kernel) (by decide +kernel)) (by decide +kernel) (tb_i 737 (by decide +kernel) (by decide +kernel)) (k_L_on_0 w l (nI ko) (nI ((y / 32) % 9)) X1 h n hJ1.2.1.2.1 hJ1.2.1.1 (fun E X1 h => al_e h.2 (fun _ _ => al_C (by omega) hJ1.2.1.2.1.1 (by rw [hK1 7 (by omega)]; exact hk7) (by omega) (by omega) (by omega)))) dL_law_740 rfl rfl (Nat.le_of_ble_eq_true rfl) (Nat.le_of_ble_eq_true rfl) (Nat.le_of_ble_eq_true rfl) ⟨by show _ ≤ 668764; omega, by show _ ≤ 7095478; omega⟩ (fun v2 X2 q2 => ?_)
  obtain ⟨er2, hJ2, eX2⟩ := U_on0n (e := ((y / 32) % 9)) hJ1 (by omega) (by rw [hK1 7 (by omega)]; exact hk7) (by omega) (by omega) (by omega) q2
  have h7X2 : X2 7 ko = nI kq := by rw [eX2, ma_ne (by decide)]; exact (by rw [hK1 7 (by omega)]; exact hk7)
  have hw2 : X1 12 ko = nI e0 := by rw [hK1 12 (by omega)]; exact he12
  refine V_eqi (er2.trans hw2) ?_
  have hKX2 : Kp X2 X2 := Kp.rf
  have kx2 : ∀ p, (p < 18 ∨ (19 < p ∧ p < 63) ∨ 84 < p) → p ≠ 12 → X2 p = X p := fun p g1 g2 => by rw [eX2, ma_ne g2]; exact hK1 p g1
  have ky2 : X2 12 = upd (X 12) ko (nI ((y / 32) % 9)) := by rw [eX2, ma_eq, hK1 12 (by omega)]
  refine V_istore (ls1 := [some (.ref b), some (.ref (w.2.1 0)), some (.ref (w.2.1 85)), some (.ref (w.2.1 86)), some (.ref (w.2.1 87)), some (.ref (w.2.1 88)), some (.ref (w.2.1 89)), some (.ref (w.2.1 90)), some (.ref (w.2.1 91)), some (.int (nI h)), some (.int (nI n)), some (.int (nI R)), some (.int (1 : Int32)), some (.int (nI tu)), some (.int (nI t)), none, some (.int (nI y)), some (.int (nI d)), some (.int (nI who)), some (.int (nI ko)), some (.int (nI net)), some (.int (nI mz)), some (.int (nI va)), some (.int (nI ((y / 32) % 9))), some (.int (nI c1)), some (.int (nI e0)), none, none, none]) C dL_law_743 (by decide) rfl ?_
  refine V_iload C dL_law_745 rfl ?_
  refine V_aload_n C dL_law_747 rfl ?_
  refine V_iload C dL_law_748 rfl ?_
  refine V_ialdN (p0 := 85) (o := ko) (v := X2 85 ko) C dL_law_750 sh_85 (by decide) (by omega) (by decide) rfl ?_
  refine V_eqi (y := nI kq) ((congrFun (kx2 85 (by omega) (by decide)) _).trans ((hL.1 ko (by omega)).1.trans hk7)) ?_
  refine V_if_neN (a := kq) (tgt := 759) C dL_law_751 (by decide) (by omega) (fun h751_3 => ?_) (fun h751_3 => False.elim (absurd h751_3 (by omega)))
  refine V_aload C dL_law_759 rfl ?_
  refine V_iload C dL_law_761 rfl ?_
  refine V_ialdN (p0 := 89) (o := ko) (v := X2 89 ko) C dL_law_763 sh_89 (by decide) (by omega) (by decide) rfl ?_
  refine V_eqi (y := nI e0) ((congrFun (kx2 89 (by omega) (by decide)) _).trans ((hL.1 ko (by omega)).2.2.2.2.1.trans he12)) ?_
  refine V_icmp_neN (a := e0) (b := e0) (tgt := 830) C dL_law_764 (by decide) (by omega) (by omega) (fun h764_4 => False.elim (h764_4 rfl)) (fun h764_4 => ?_)
  refine V_iload C dL_law_767 rfl ?_
  refine V_if_ltN (a := e0) (tgt := 826) C dL_law_769 (by decide) (by omega) ?_
  refine V_iload C dL_law_772 rfl ?_
  refine V_bipush (v := (8 : Int32)) C dL_law_774 (by decide) ?_
  refine V_icmp_leN (a := e0) (b := 8) (tgt := 787) C dL_law_776 (by decide) (by omega) (by omega) (fun h776_6 => ?_) (fun h776_6 => ?_)
  · refine V_aload_n C dL_law_787 rfl ?_
    refine V_iconst (v := (0 : Int32)) C dL_law_788 (by decide) ?_
    refine V_iload C dL_law_789 rfl ?_
    refine V_iload C dL_law_791 rfl ?_
    refine V_lcallS (na := 4) C hD hN [.ref (w.2.1 0), .int (0 : Int32), .int (nI ko), .int (nI e0)] pl_L_54 (tb_i 738 (by decide +kernel) (by decide +kernel)) (tb_i 31 (by decide +kernel) (by decide +kernel)) (by decide +kernel) (tb_i 737 (by decide +kernel) (by decide +kernel)) (k_L_on_0 w l (nI ko) (nI e0) X2 h n hJ2.2.1.2.1 hJ2.2.1.1 (fun E X1 h => al_e h.2 (fun _ _ => al_C (by omega) hJ2.2.1.2.1.1 h7X2 (by omega) (by omega) (by omega)))) dL_law_793 rfl rfl (Nat.le_of_ble_eq_true rfl) (Nat.le_of_ble_eq_true rfl) (Nat.le_of_ble_eq_true rfl) ⟨by show _ ≤ 668764; omega, by show _ ≤ 7095478; omega⟩ (fun v7 X7 q7 => ?_)
    obtain ⟨er7, hJ7, eX7⟩ := U_on0n (e := e0) hJ2 (by omega) h7X2 (by omega) (by omega) (by omega) q7
    have h7X7 : X7 7 ko = nI kq := by rw [eX7, ma_ne (by decide)]; exact h7X2
    have hw7 : X2 12 ko = nI ((y / 32) % 9) := by rw [hKX2 12 (by omega), eX2, ma_eq, upd_eq]
    refine V_eqi (er7.trans hw7) ?_
    have hKX7 : Kp X7 X7 := Kp.rf
    have kx7 : ∀ p, (p < 18 ∨ (19 < p ∧ p < 63) ∨ 84 < p) → p ≠ 12 → X7 p = X p := fun p g1 g2 => by rw [eX7, ma_ne g2, hKX2 p g1]; exact kx2 p g1 g2
    have ky7 : X7 12 = upd (X 12) ko (nI e0) := by rw [eX7, ma_eq, hKX2 12 (by omega), ky2, upd_uu]
    refine V_iload C dL_law_796 rfl ?_
    refine V_icmp_neN (a := ((y / 32) % 9)) (b := (y / 32) % 9) (tgt := 830) C dL_law_798 (by decide) (by omega) (by omega) (fun h798_8 => False.elim (h798_8 rfl)) (fun h798_8 => ?_)
    refine V_aload_n C dL_law_801 rfl ?_
    refine V_iload C dL_law_802 rfl ?_
    refine V_hcallV C hD [.int (nI ko)] mi_L_47 pl_L_47 (k_X9_judged w l (nI ko) X7 h n hJ7.2.1.2.1 hJ7.1.2.2.2 hJ7.2.1.1 hJ7.1.2.2.1) dL_law_804 sh_0 (by decide) rfl rfl rfl (Nat.le_of_ble_eq_true rfl) (Nat.le_of_ble_eq_true rfl) (Nat.le_of_ble_eq_true rfl) ⟨by show _ ≤ 668764; omega, by show _ ≤ 7095478; omega⟩ (fun E X1 hx => False.elim (hx.2.2 (obj_b (by omega) hJ7.2.1.2.1.1))) (fun v9 X9 q9 => ?_)
    obtain ⟨-, o9, ho9, eo9, V9, eX9, hV9, er9⟩ := q9
    have hj9 : JgX X7 n ko v9 := (JgX_k hKX7).mp ⟨V9, hV9, by rw [(nI_eq (by omega) (by omega)).mp eo9]; exact er9⟩
    have hK9 : Kp X7 X9 := by rw [eX9]; exact hKX7.put (Or.inl rfl)
    have hJ9 := JP_k hK9 hJ7
    obtain ⟨c9, hc9, ec9⟩ := JgX_lt (by omega) hj9
    rw [ec9] at hj9
    refine V_eqi ec9 ?_
    refine V_iload C dL_law_807 rfl ?_
    refine V_icmp_neN (a := c9) (b := c1) (tgt := 830) C dL_law_809 (by decide) (by omega) (by omega) (fun h809_10 => False.elim (h809_10 (nIu (m := 6) (by decide) (by omega) (by omega) (JgX_one hJ.1.2.2.2 hJ.2.1.2.1 (by omega) (JgX_r (fun p hp => by by_cases z : p = 12; subst z; rw [ky7, ← he12]; exact upd_self _ _; exact kx7 p (by omega) z) hj9) hj1)))) (fun h809_10 => ?_)
    refine V_aload_n C dL_law_812 rfl ?_
    refine V_iconst (v := (0 : Int32)) C dL_law_813 (by decide) ?_
    refine V_iload C dL_law_814 rfl ?_
    refine V_iload C dL_law_816 rfl ?_
    refine V_lcallS (na := 4) C hD hN [.ref (w.2.1 0), .int (0 : Int32), .int (nI ko), .int (nI ((y / 32) % 9))] pl_L_54 (tb_i 738 (by decide +kernel) (by decide +kernel)) (tb_i 31 (by decide +kernel) (by decide +kernel)) (by decide +kernel) (tb_i 737 (by decide +kernel) (by decide +kernel)) (k_L_on_0 w l (nI ko) (nI ((y / 32) % 9)) X9 h n hJ9.2.1.2.1 hJ9.2.1.1 (fun E X1 h => al_e h.2 (fun _ _ => al_C (by omega) hJ9.2.1.2.1.1 (by rw [hK9 7 (by omega)]; exact h7X7) (by omega) (by omega) (by omega)))) dL_law_818 rfl rfl (Nat.le_of_ble_eq_true rfl) (Nat.le_of_ble_eq_true rfl) (Nat.le_of_ble_eq_true rfl) ⟨by show _ ≤ 668764; omega, by show _ ≤ 7095478; omega⟩ (fun v11 X11 q11 => ?_)
    obtain ⟨er11, hJ11, eX11⟩ := U_on0n (e := ((y / 32) % 9)) hJ9 (by omega) (by rw [hK9 7 (by omega)]; exact h7X7) (by omega) (by omega) (by omega) q11
    have h7X11 : X11 7 ko = nI kq := by rw [eX11, ma_ne (by decide)]; exact (by rw [hK9 7 (by omega)]; exact h7X7)
    have hw11 : X9 12 ko = nI e0 := by rw [hK9 12 (by omega), eX7, ma_eq, upd_eq]
    refine V_eqi (er11.trans hw11) ?_
    have hKX11 : Kp X11 X11 := Kp.rf
    have kx11 : ∀ p, (p < 18 ∨ (19 < p ∧ p < 63) ∨ 84 < p) → p ≠ 12 → X11 p = X p := fun p g1 g2 => by rw [eX11, ma_ne g2, hK9 p g1]; exact kx7 p g1 g2
    have ky11 : X11 12 = upd (X 12) ko (nI ((y / 32) % 9)) := by rw [eX11, ma_eq, hK9 12 (by omega), ky7, upd_uu]
    refine V_iload C dL_law_821 rfl ?_
    refine V_icmp_neN (a := e0) (b := e0) (tgt := 830) C dL_law_823 (by decide) (by omega) (by omega) (fun h823_12 => False.elim (h823_12 rfl)) (fun h823_12 => ?_)
    refine V_iconst (v := (1 : Int32)) C dL_law_826 (by decide) ?_
    refine V_goto (tgt := 831) C dL_law_827 (by decide) ?_
    refine V_istore (ls1 := [some (.ref b), some (.ref (w.2.1 0)), some (.ref (w.2.1 85)), some (.ref (w.2.1 86)), some (.ref (w.2.1 87)), some (.ref (w.2.1 88)), some (.ref (w.2.1 89)), some (.ref (w.2.1 90)), some (.ref (w.2.1 91)), some (.int (nI h)), some (.int (nI n)), some (.int (nI R)), some (.int (1 : Int32)), some (.int (nI tu)), some (.int (nI t)), none, some (.int (nI y)), some (.int (nI d)), some (.int (nI who)), some (.int (nI ko)), some (.int (nI net)), some (.int (nI mz)), some (.int (nI va)), some (.int (nI ((y / 32) % 9))), some (.int (nI c1)), some (.int (nI e0)), none, none, none]) C dL_law_831 (by decide) rfl ?_
    refine V_aload C dL_law_833 rfl ?_
    refine V_iload C dL_law_835 rfl ?_
    refine V_iload C dL_law_837 rfl ?_
    refine V_if_geN (a := e0) (tgt := 850) C dL_law_839 (by decide) (by omega) ?_
    refine V_iload C dL_law_850 rfl ?_
    refine V_iastN (p0 := 89) (o := ko) (X1 := (ma X11 89 (upd (X11 89) ko (nI ((y / 32) % 9))))) C dL_law_852 sh_89 (by decide) (by omega) (by decide) rfl ?_
    obtain ⟨Y9, eY9⟩ : ∃ Y : Mem, Y = (ma X11 89 (upd (X11 89) ko (nI ((y / 32) % 9)))) := ⟨_, rfl⟩
    rw [← eY9]
    have hJY9 : JP Y9 h D n 0 R dr PP Z Th := by rw [eY9]; exact JP_l (by decide) hJ11
    have hLY9 : LA Y9 h n R PP Z Th := by rw [eY9]; exact LA_ext (X := X) hL (fun k0 hk0 => by rw [ky11]; by_cases z : k0 = ko; subst z; rw [if_pos rfl, upd_eq]; rw [if_neg z, upd_ne z]) (fun p hp => kx11 p (by omega) (by omega)) (by omega)
    have hKY9 : Kp Y9 Y9 := Kp.rf
    refine V_goto (tgt := 1630) C dL_law_853 (by decide) ?_
    refine V_kill (i := 17) (ls1 := [some (.ref b), some (.ref (w.2.1 0)), some (.ref (w.2.1 85)), some (.ref (w.2.1 86)), some (.ref (w.2.1 87)), some (.ref (w.2.1 88)), some (.ref (w.2.1 89)), some (.ref (w.2.1 90)), some (.ref (w.2.1 91)), some (.int (nI h)), some (.int (nI n)), some (.int (nI R)), some (.int (1 : Int32)), some (.int (nI tu)), some (.int (nI t)), none, some (.int (nI y)), none, some (.int (nI who)), some (.int (nI ko)), some (.int (nI net)), some (.int (nI mz)), some (.int (nI va)), some (.int (nI ((y / 32) % 9))), some (.int (nI c1)), some (.int (nI e0)), none, none, none]) rfl ?_
    refine V_kill (i := 19) (ls1 := [some (.ref b), some (.ref (w.2.1 0)), some (.ref (w.2.1 85)), some (.ref (w.2.1 86)), some (.ref (w.2.1 87)), some (.ref (w.2.1 88)), some (.ref (w.2.1 89)), some (.ref (w.2.1 90)), some (.ref (w.2.1 91)), some (.int (nI h)), some (.int (nI n)), some (.int (nI R)), some (.int (1 : Int32)), some (.int (nI tu)), some (.int (nI t)), none, some (.int (nI y)), none, some (.int (nI who)), none, some (.int (nI net)), some (.int (nI mz)), some (.int (nI va)), some (.int (nI ((y / 32) % 9))), some (.int (nI c1)), some (.int (nI e0)), none, none, none]) rfl ?_
    refine V_kill (i := 23) (ls1 := [some (.ref b), some (.ref (w.2.1 0)), some (.ref (w.2.1 85)), some (.ref (w.2.1 86)), some (.ref (w.2.1 87)), some (.ref (w.2.1 88)), some (.ref (w.2.1 89)), some (.ref (w.2.1 90)), some (.ref (w.2.1 91)), some (.int (nI h)), some (.int (nI n)), some (.int (nI R)), some (.int (1 : Int32)), some (.int (nI tu)), some (.int (nI t)), none, some (.int (nI y)), none, some (.int (nI who)), none, some (.int (nI net)), some (.int (nI mz)), some (.int (nI va)), none, some (.int (nI c1)), some (.int (nI e0)), none, none, none]) rfl ?_
    refine V_kill (i := 24) (ls1 := [some (.ref b), some (.ref (w.2.1 0)), some (.ref (w.2.1 85)), some (.ref (w.2.1 86)), some (.ref (w.2.1 87)), some (.ref (w.2.1 88)), some (.ref (w.2.1 89)), some (.ref (w.2.1 90)), some (.ref (w.2.1 91)), some (.int (nI h)), some (.int (nI n)), some (.int (nI R)), some (.int (1 : Int32)), some (.int (nI tu)), some (.int (nI t)), none, some (.int (nI y)), none, some (.int (nI who)), none, some (.int (nI net)), some (.int (nI mz)), some (.int (nI va)), none, none, some (.int (nI e0)), none, none, none]) rfl ?_
    refine V_kill (i := 25) (ls1 := [some (.ref b), some (.ref (w.2.1 0)), some (.ref (w.2.1 85)), some (.ref (w.2.1 86)), some (.ref (w.2.1 87)), some (.ref (w.2.1 88)), some (.ref (w.2.1 89)), some (.ref (w.2.1 90)), some (.ref (w.2.1 91)), some (.int (nI h)), some (.int (nI n)), some (.int (nI R)), some (.int (1 : Int32)), some (.int (nI tu)), some (.int (nI t)), none, some (.int (nI y)), none, some (.int (nI who)), none, some (.int (nI net)), some (.int (nI mz)), some (.int (nI va)), none, none, none, none, none, none]) rfl ?_
    exact V_widen (by omega) (by omega) (kk Y9 h D n R mz va (LSt.mk hJY9 hLY9) (by omega) (by omega) (by omega) (by omega) (by omega) (by omega) (by omega) (by omega))
  · refine V_aload_n C dL_law_779 rfl ?_
    refine V_iload C dL_law_780 rfl ?_
    refine V_ialdN (p0 := 85) (o := ko) (v := X2 85 ko) C dL_law_782 sh_85 (by decide) (by omega) (by decide) rfl ?_
    refine V_eqi (y := nI kq) ((congrFun (kx2 85 (by omega) (by decide)) _).trans ((hL.1 ko (by omega)).1.trans hk7)) ?_
    refine V_iconst (v := (1 : Int32)) C dL_law_783 (by decide) ?_
    refine V_icmp_eqN (a := kq) (b := 1) (tgt := 826) C dL_law_784 (by decide) (by omega) (by omega) (fun h784_14 => ?_) (fun h784_14 => ?_)
    · refine V_iconst (v := (1 : Int32)) C dL_law_826 (by decide) ?_
      refine V_goto (tgt := 831) C dL_law_827 (by decide) ?_
      refine V_istore (ls1 := [some (.ref b), some (.ref (w.2.1 0)), some (.ref (w.2.1 85)), some (.ref (w.2.1 86)), some (.ref (w.2.1 87)), some (.ref (w.2.1 88)), some (.ref (w.2.1 89)), some (.ref (w.2.1 90)), some (.ref (w.2.1 91)), some (.int (nI h)), some (.int (nI n)), some (.int (nI R)), some (.int (1 : Int32)), some (.int (nI tu)), some (.int (nI t)), none, some (.int (nI y)), some (.int (nI d)), some (.int (nI who)), some (.int (nI ko)), some (.int (nI net)), some (.int (nI mz)), some (.int (nI va)), some (.int (nI ((y / 32) % 9))), some (.int (nI c1)), some (.int (nI e0)), none, none, none]) C dL_law_831 (by decide) rfl ?_
      refine V_aload C dL_law_833 rfl ?_
      refine V_iload C dL_law_835 rfl ?_
      refine V_iload C dL_law_837 rfl ?_
      refine V_if_geN (a := e0) (tgt := 850) C dL_law_839 (by decide) (by omega) ?_
      refine V_iload C dL_law_850 rfl ?_
      refine V_iastN (p0 := 89) (o := ko) (X1 := (ma X2 89 (upd (X2 89) ko (nI ((y / 32) % 9))))) C dL_law_852 sh_89 (by decide) (by omega) (by decide) rfl ?_
      obtain ⟨Y9, eY9⟩ : ∃ Y : Mem, Y = (ma X2 89 (upd (X2 89) ko (nI ((y / 32) % 9)))) := ⟨_, rfl⟩
      rw [← eY9]
      have hJY9 : JP Y9 h D n 0 R dr PP Z Th := by rw [eY9]; exact JP_l (by decide) hJ2
      have hLY9 : LA Y9 h n R PP Z Th := by rw [eY9]; exact LA_ext (X := X) hL (fun k0 hk0 => by rw [ky2]; by_cases z : k0 = ko; subst z; rw [if_pos rfl, upd_eq]; rw [if_neg z, upd_ne z]) (fun p hp => kx2 p (by omega) (by omega)) (by omega)
      have hKY9 : Kp Y9 Y9 := Kp.rf
      refine V_goto (tgt := 1630) C dL_law_853 (by decide) ?_
      refine V_kill (i := 17) (ls1 := [some (.ref b), some (.ref (w.2.1 0)), some (.ref (w.2.1 85)), some (.ref (w.2.1 86)), some (.ref (w.2.1 87)), some (.ref (w.2.1 88)), some (.ref (w.2.1 89)), some (.ref (w.2.1 90)), some (.ref (w.2.1 91)), some (.int (nI h)), some (.int (nI n)), some (.int (nI R)), some (.int (1 : Int32)), some (.int (nI tu)), some (.int (nI t)), none, some (.int (nI y)), none, some (.int (nI who)), some (.int (nI ko)), some (.int (nI net)), some (.int (nI mz)), some (.int (nI va)), some (.int (nI ((y / 32) % 9))), some (.int (nI c1)), some (.int (nI e0)), none, none, none]) rfl ?_
      refine V_kill (i := 19) (ls1 := [some (.ref b), some (.ref (w.2.1 0)), some (.ref (w.2.1 85)), some (.ref (w.2.1 86)), some (.ref (w.2.1 87)), some (.ref (w.2.1 88)), some (.ref (w.2.1 89)), some (.ref (w.2.1 90)), some (.ref (w.2.1 91)), some (.int (nI h)), some (.int (nI n)), some (.int (nI R)), some (.int (1 : Int32)), some (.int (nI tu)), some (.int (nI t)), none, some (.int (nI y)), none, some (.int (nI who)), none, some (.int (nI net)), some (.int (nI mz)), some (.int (nI va)), some (.int (nI ((y / 32) % 9))), some (.int (nI c1)), some (.int (nI e0)), none, none, none]) rfl ?_
      refine V_kill (i := 23) (ls1 := [some (.ref b), some (.ref (w.2.1 0)), some (.ref (w.2.1 85)), some (.ref (w.2.1 86)), some (.ref (w.2.1 87)), some (.ref (w.2.1 88)), some (.ref (w.2.1 89)), some (.ref (w.2.1 90)), some (.ref (w.2.1 91)), some (.int (nI h)), some (.int (nI n)), some (.int (nI R)), some (.int (1 : Int32)), some (.int (nI tu)), some (.int (nI t)), none, some (.int (nI y)), none, some (.int (nI who)), none, some (.int (nI net)), some (.int (nI mz)), some (.int (nI va)), none, some (.int (nI c1)), some (.int (nI e0)), none, none, none]) rfl ?_
      refine V_kill (i := 24) (ls1 := [some (.ref b), some (.ref (w.2.1 0)), some (.ref (w.2.1 85)), some (.ref (w.2.1 86)), some (.ref (w.2.1 87)), some (.ref (w.2.1 88)), some (.ref (w.2.1 89)), some (.ref (w.2.1 90)), some (.ref (w.2.1 91)), some (.int (nI h)), some (.int (nI n)), some (.int (nI R)), some (.int (1 : Int32)), some (.int (nI tu)), some (.int (nI t)), none, some (.int (nI y)), none, some (.int (nI who)), none, some (.int (nI net)), some (.int (nI mz)), some (.int (nI va)), none, none, some (.int (nI e0)), none, none, none]) rfl ?_
      refine V_kill (i := 25) (ls1 := [some (.ref b), some (.ref (w.2.1 0)), some (.ref (w.2.1 85)), some (.ref (w.2.1 86)), some (.ref (w.2.1 87)), some (.ref (w.2.1 88)), some (.ref (w.2.1 89)), some (.ref (w.2.1 90)), some (.ref (w.2.1 91)), some (.int (nI h)), some (.int (nI n)), some (.int (nI R)), some (.int (1 : Int32)), some (.int (nI tu)), some (.int (nI t)), none, some (.int (nI y)), none, some (.int (nI who)), none, some (.int (nI net)), some (.int (nI mz)), some (.int (nI va)), none, none, none, none, none, none]) rfl ?_
      exact V_widen (by omega) (by omega) (kk Y9 h D n R mz va (LSt.mk hJY9 hLY9) (by omega) (by omega) (by omega) (by omega) (by omega) (by omega) (by omega) (by omega))
    · refine V_aload_n C dL_law_787 rfl ?_
      refine V_iconst (v := (0 : Int32)) C dL_law_788 (by decide) ?_
      refine V_iload C dL_law_789 rfl ?_
      refine V_iload C dL_law_791 rfl ?_
      refine V_lcallS (na := 4) C hD hN [.ref (w.2.1 0), .int (0 : Int32), .int (nI ko), .int (nI e0)] pl_L_54 (tb_i 738 (by decide +kernel) (by decide +kernel)) (tb_i 31 (by decide +kernel) (by decide +kernel)) (by decide +kernel) (tb_i 737 (by decide +kernel) (by decide +kernel)) (k_L_on_0 w l (nI ko) (nI e0) X2 h n hJ2.2.1.2.1 hJ2.2.1.1 (fun E X1 h => al_e h.2 (fun _ _ => al_C (by omega) hJ2.2.1.2.1.1 h7X2 (by omega) (by omega) (by omega)))) dL_law_793 rfl rfl (Nat.le_of_ble_eq_true rfl) (Nat.le_of_ble_eq_true rfl) (Nat.le_of_ble_eq_true rfl) ⟨by show _ ≤ 668764; omega, by show _ ≤ 7095478; omega⟩ (fun v16 X16 q16 => ?_)
      obtain ⟨er16, hJ16, eX16⟩ := U_on0n (e := e0) hJ2 (by omega) h7X2 (by omega) (by omega) (by omega) q16
      have h7X16 : X16 7 ko = nI kq := by rw [eX16, ma_ne (by decide)]; exact h7X2
      have hw16 : X2 12 ko = nI ((y / 32) % 9) := by rw [hKX2 12 (by omega), eX2, ma_eq, upd_eq]
      refine V_eqi (er16.trans hw16) ?_
      have hKX16 : Kp X16 X16 := Kp.rf
      have kx16 : ∀ p, (p < 18 ∨ (19 < p ∧ p < 63) ∨ 84 < p) → p ≠ 12 → X16 p = X p := fun p g1 g2 => by rw [eX16, ma_ne g2, hKX2 p g1]; exact kx2 p g1 g2
      have ky16 : X16 12 = upd (X 12) ko (nI e0) := by rw [eX16, ma_eq, hKX2 12 (by omega), ky2, upd_uu]
      refine V_iload C dL_law_796 rfl ?_
      refine V_icmp_neN (a := ((y / 32) % 9)) (b := (y / 32) % 9) (tgt := 830) C dL_law_798 (by decide) (by omega) (by omega) (fun h798_17 => False.elim (h798_17 rfl)) (fun h798_17 => ?_)
      refine V_aload_n C dL_law_801 rfl ?_
      refine V_iload C dL_law_802 rfl ?_
      refine V_hcallV C hD [.int (nI ko)] mi_L_47 pl_L_47 (k_X9_judged w l (nI ko) X16 h n hJ16.2.1.2.1 hJ16.1.2.2.2 hJ16.2.1.1 hJ16.1.2.2.1) dL_law_804 sh_0 (by decide) rfl rfl rfl (Nat.le_of_ble_eq_true rfl) (Nat.le_of_ble_eq_true rfl) (Nat.le_of_ble_eq_true rfl) ⟨by show _ ≤ 668764; omega, by show _ ≤ 7095478; omega⟩ (fun E X1 hx => False.elim (hx.2.2 (obj_b (by omega) hJ16.2.1.2.1.1))) (fun v18 X18 q18 => ?_)
      obtain ⟨-, o18, ho18, eo18, V18, eX18, hV18, er18⟩ := q18
      have hj18 : JgX X16 n ko v18 := (JgX_k hKX16).mp ⟨V18, hV18, by rw [(nI_eq (by omega) (by omega)).mp eo18]; exact er18⟩
      have hK18 : Kp X16 X18 := by rw [eX18]; exact hKX16.put (Or.inl rfl)
      have hJ18 := JP_k hK18 hJ16
      obtain ⟨c18, hc18, ec18⟩ := JgX_lt (by omega) hj18
      rw [ec18] at hj18
      refine V_eqi ec18 ?_
      refine V_iload C dL_law_807 rfl ?_
      refine V_icmp_neN (a := c18) (b := c1) (tgt := 830) C dL_law_809 (by decide) (by omega) (by omega) (fun h809_19 => False.elim (h809_19 (nIu (m := 6) (by decide) (by omega) (by omega) (JgX_one hJ.1.2.2.2 hJ.2.1.2.1 (by omega) (JgX_r (fun p hp => by by_cases z : p = 12; subst z; rw [ky16, ← he12]; exact upd_self _ _; exact kx16 p (by omega) z) hj18) hj1)))) (fun h809_19 => ?_)
      refine V_aload_n C dL_law_812 rfl ?_
      refine V_iconst (v := (0 : Int32)) C dL_law_813 (by decide) ?_
      refine V_iload C dL_law_814 rfl ?_
      refine V_iload C dL_law_816 rfl ?_
      refine V_lcallS (na := 4) C hD hN [.ref (w.2.1 0), .int (0 : Int32), .int (nI ko), .int (nI ((y / 32) % 9))] pl_L_54 (tb_i 738 (by decide +kernel) (by decide +kernel)) (tb_i 31 (by decide +kernel) (by decide +kernel)) (by decide +kernel) (tb_i 737 (by decide +kernel) (by decide +kernel)) (k_L_on_0 w l (nI ko) (nI ((y / 32) % 9)) X18 h n hJ18.2.1.2.1 hJ18.2.1.1 (fun E X1 h => al_e h.2 (fun _ _ => al_C (by omega) hJ18.2.1.2.1.1 (by rw [hK18 7 (by omega)]; exact h7X16) (by omega) (by omega) (by omega)))) dL_law_818 rfl rfl (Nat.le_of_ble_eq_true rfl) (Nat.le_of_ble_eq_true rfl) (Nat.le_of_ble_eq_true rfl) ⟨by show _ ≤ 668764; omega, by show _ ≤ 7095478; omega⟩ (fun v20 X20 q20 => ?_)
      obtain ⟨er20, hJ20, eX20⟩ := U_on0n (e := ((y / 32) % 9)) hJ18 (by omega) (by rw [hK18 7 (by omega)]; exact h7X16) (by omega) (by omega) (by omega) q20
      have h7X20 : X20 7 ko = nI kq := by rw [eX20, ma_ne (by decide)]; exact (by rw [hK18 7 (by omega)]; exact h7X16)
      have hw20 : X18 12 ko = nI e0 := by rw [hK18 12 (by omega), eX16, ma_eq, upd_eq]
      refine V_eqi (er20.trans hw20) ?_
      have hKX20 : Kp X20 X20 := Kp.rf
      have kx20 : ∀ p, (p < 18 ∨ (19 < p ∧ p < 63) ∨ 84 < p) → p ≠ 12 → X20 p = X p := fun p g1 g2 => by rw [eX20, ma_ne g2, hK18 p g1]; exact kx16 p g1 g2
      have ky20 : X20 12 = upd (X 12) ko (nI ((y / 32) % 9)) := by rw [eX20, ma_eq, hK18 12 (by omega), ky16, upd_uu]
      refine V_iload C dL_law_821 rfl ?_
      refine V_icmp_neN (a := e0) (b := e0) (tgt := 830) C dL_law_823 (by decide) (by omega) (by omega) (fun h823_21 => False.elim (h823_21 rfl)) (fun h823_21 => ?_)
      refine V_iconst (v := (1 : Int32)) C dL_law_826 (by decide) ?_
      refine V_goto (tgt := 831) C dL_law_827 (by decide) ?_
      refine V_istore (ls1 := [some (.ref b), some (.ref (w.2.1 0)), some (.ref (w.2.1 85)), some (.ref (w.2.1 86)), some (.ref (w.2.1 87)), some (.ref (w.2.1 88)), some (.ref (w.2.1 89)), some (.ref (w.2.1 90)), some (.ref (w.2.1 91)), some (.int (nI h)), some (.int (nI n)), some (.int (nI R)), some (.int (1 : Int32)), some (.int (nI tu)), some (.int (nI t)), none, some (.int (nI y)), some (.int (nI d)), some (.int (nI who)), some (.int (nI ko)), some (.int (nI net)), some (.int (nI mz)), some (.int (nI va)), some (.int (nI ((y / 32) % 9))), some (.int (nI c1)), some (.int (nI e0)), none, none, none]) C dL_law_831 (by decide) rfl ?_
      refine V_aload C dL_law_833 rfl ?_
      refine V_iload C dL_law_835 rfl ?_
      refine V_iload C dL_law_837 rfl ?_
      refine V_if_geN (a := e0) (tgt := 850) C dL_law_839 (by decide) (by omega) ?_
      refine V_iload C dL_law_850 rfl ?_
      refine V_iastN (p0 := 89) (o := ko) (X1 := (ma X20 89 (upd (X20 89) ko (nI ((y / 32) % 9))))) C dL_law_852 sh_89 (by decide) (by omega) (by decide) rfl ?_
      obtain ⟨Y9, eY9⟩ : ∃ Y : Mem, Y = (ma X20 89 (upd (X20 89) ko (nI ((y / 32) % 9)))) := ⟨_, rfl⟩
      rw [← eY9]
      have hJY9 : JP Y9 h D n 0 R dr PP Z Th := by rw [eY9]; exact JP_l (by decide) hJ20
      have hLY9 : LA Y9 h n R PP Z Th := by rw [eY9]; exact LA_ext (X := X) hL (fun k0 hk0 => by rw [ky20]; by_cases z : k0 = ko; subst z; rw [if_pos rfl, upd_eq]; rw [if_neg z, upd_ne z]) (fun p hp => kx20 p (by omega) (by omega)) (by omega)
      have hKY9 : Kp Y9 Y9 := Kp.rf
      refine V_goto (tgt := 1630) C dL_law_853 (by decide) ?_
      refine V_kill (i := 17) (ls1 := [some (.ref b), some (.ref (w.2.1 0)), some (.ref (w.2.1 85)), some (.ref (w.2.1 86)), some (.ref (w.2.1 87)), some (.ref (w.2.1 88)), some (.ref (w.2.1 89)), some (.ref (w.2.1 90)), some (.ref (w.2.1 91)), some (.int (nI h)), some (.int (nI n)), some (.int (nI R)), some (.int (1 : Int32)), some (.int (nI tu)), some (.int (nI t)), none, some (.int (nI y)), none, some (.int (nI who)), some (.int (nI ko)), some (.int (nI net)), some (.int (nI mz)), some (.int (nI va)), some (.int (nI ((y / 32) % 9))), some (.int (nI c1)), some (.int (nI e0)), none, none, none]) rfl ?_
      refine V_kill (i := 19) (ls1 := [some (.ref b), some (.ref (w.2.1 0)), some (.ref (w.2.1 85)), some (.ref (w.2.1 86)), some (.ref (w.2.1 87)), some (.ref (w.2.1 88)), some (.ref (w.2.1 89)), some (.ref (w.2.1 90)), some (.ref (w.2.1 91)), some (.int (nI h)), some (.int (nI n)), some (.int (nI R)), some (.int (1 : Int32)), some (.int (nI tu)), some (.int (nI t)), none, some (.int (nI y)), none, some (.int (nI who)), none, some (.int (nI net)), some (.int (nI mz)), some (.int (nI va)), some (.int (nI ((y / 32) % 9))), some (.int (nI c1)), some (.int (nI e0)), none, none, none]) rfl ?_
      refine V_kill (i := 23) (ls1 := [some (.ref b), some (.ref (w.2.1 0)), some (.ref (w.2.1 85)), some (.ref (w.2.1 86)), some (.ref (w.2.1 87)), some (.ref (w.2.1 88)), some (.ref (w.2.1 89)), some (.ref (w.2.1 90)), some (.ref (w.2.1 91)), some (.int (nI h)), some (.int (nI n)), some (.int (nI R)), some (.int (1 : Int32)), some (.int (nI tu)), some (.int (nI t)), none, some (.int (nI y)), none, some (.int (nI who)), none, some (.int (nI net)), some (.int (nI mz)), some (.int (nI va)), none, some (.int (nI c1)), some (.int (nI e0)), none, none, none]) rfl ?_
      refine V_kill (i := 24) (ls1 := [some (.ref b), some (.ref (w.2.1 0)), some (.ref (w.2.1 85)), some (.ref (w.2.1 86)), some (.ref (w.2.1 87)), some (.ref (w.2.1 88)), some (.ref (w.2.1 89)), some (.ref (w.2.1 90)), some (.ref (w.2.1 91)), some (.int (nI h)), some (.int (nI n)), some (.int (nI R)), some (.int (1 : Int32)), some (.int (nI tu)), some (.int (nI t)), none, some (.int (nI y)), none, some (.int (nI who)), none, some (.int (nI net)), some (.int (nI mz)), some (.int (nI va)), none, none, some (.int (nI e0)), none, none, none]) rfl ?_
      refine V_kill (i := 25) (ls1 := [some (.ref b), some (.ref (w.2.1 0)), some (.ref (w.2.1 85)), some (.ref (w.2.1 86)), some (.ref (w.2.1 87)), some (.ref (w.2.1 88)), some (.ref (w.2.1 89)), some (.ref (w.2.1 90)), some (.ref (w.2.1 91)), some (.int (nI h)), some (.int (nI n)), some (.int (nI R)), some (.int (1 : Int32)), some (.int (nI tu)), some (.int (nI t)), none, some (.int (nI y)), none, some (.int (nI who)), none, some (.int (nI net)), some (.int (nI mz)), some (.int (nI va)), none, none, none, none, none, none]) rfl ?_
      exact V_widen (by omega) (by omega) (kk Y9 h D n R mz va (LSt.mk hJY9 hLY9) (by omega) (by omega) (by omega) (by omega) (by omega) (by omega) (by omega) (by omega))
