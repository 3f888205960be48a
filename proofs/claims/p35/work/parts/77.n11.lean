set_option maxHeartbeats 4000000 in
set_option maxRecDepth 100000 in
theorem law_chk {p : Program} {l : Launch} {e : Env} {s : State} {m : MethodId} {args : Array Value} {below : List Frame} {meth : Method} {c : Code} {w : Wt} {cn ck b L0 : Nat} {xs : Nat → Int32} {Q : State → Prop} {X : Mem} (K : LawC p l s m args meth c w b L0 xs) (hnk : cn + 240 ≤ 668764 ∧ ck + 1440 ≤ 7095478) {h D n R tu t y who net mz va : Nat} (hS : LSt X h D n R) (hh6 : h ≤ 6) (hn16 : n ≤ 16) (hR8 : R ≤ 8) (hyb : y < 268435456) (htt : t < 190) (hwho : who < h) (hnet : net < 7) (hma : mz ≤ 8) (hva : va < 256) (hvb : va % 2 ^ (8 - mz) = 0) (kk : ∀ (X' : Mem), LSt X' h D n R → V p l e room_1 s m args below meth c w 29 (cn + 240) (ck + 1440) Q 1777 [some (.ref b), some (.ref (w.2.1 0)), some (.ref (w.2.1 85)), some (.ref (w.2.1 86)), some (.ref (w.2.1 87)), some (.ref (w.2.1 88)), some (.ref (w.2.1 89)), some (.ref (w.2.1 90)), some (.ref (w.2.1 91)), some (.int (nI h)), some (.int (nI n)), some (.int (nI R)), some (.int (1 : Int32)), some (.int (nI tu)), some (.int (nI t)), none, none, none, none, none, none, none, none, none, none, none, none, none, none] [] X') : V p l e room_1 s m args below meth c w 29 cn ck Q 1630 [some (.ref b), some (.ref (w.2.1 0)), some (.ref (w.2.1 85)), some (.ref (w.2.1 86)), some (.ref (w.2.1 87)), some (.ref (w.2.1 88)), some (.ref (w.2.1 89)), some (.ref (w.2.1 90)), some (.ref (w.2.1 91)), some (.int (nI h)), some (.int (nI n)), some (.int (nI R)), some (.int (1 : Int32)), some (.int (nI tu)), some (.int (nI t)), none, some (.int (nI y)), none, some (.int (nI who)), none, some (.int (nI net)), some (.int (nI mz)), some (.int (nI va)), none, none, none, none, none, none] [] X := by
  obtain ⟨C, hD, hN, hX, hbl, hfar, hL0⟩ := K
  obtain ⟨dr, PP, Z, Th, hJ, hL⟩ := hS
  have hK0 : Kp X X := Kp.rf
  have h1 := hJ.1.2.2.2.1
  have hR24 : R ≤ 24 := by omega
  refine V_iload C dL_law_1630 rfl ?_
  refine V_if_eq (x := (1 : Int32)) (tgt := 1732) C dL_law_1632 (by decide) (fun h => absurd h (by decide)) (fun _ => ?_)
  have L1728 : ∀ (Yc : Mem), (Kp X Yc) → V p l e room_1 s m args below meth c w 29 (cn + 144) (ck + 864) Q 1728 [some (.ref b), some (.ref (w.2.1 0)), some (.ref (w.2.1 85)), some (.ref (w.2.1 86)), some (.ref (w.2.1 87)), some (.ref (w.2.1 88)), some (.ref (w.2.1 89)), some (.ref (w.2.1 90)), some (.ref (w.2.1 91)), some (.int (nI h)), some (.int (nI n)), some (.int (nI R)), some (.int (1 : Int32)), some (.int (nI tu)), some (.int (nI t)), none, some (.int (nI y)), none, some (.int (nI who)), none, some (.int (nI net)), some (.int (nI mz)), some (.int (nI va)), none, none, none, none, none, none] [] Yc := by
    intro Yc hKYc
    have hJYc := JP_k hKYc hJ
    refine V_iconst (v := (1 : Int32)) C dL_law_1728 (by decide) ?_
    refine V_goto (tgt := 1733) C dL_law_1729 (by decide) ?_
    refine V_istore (ls1 := [some (.ref b), some (.ref (w.2.1 0)), some (.ref (w.2.1 85)), some (.ref (w.2.1 86)), some (.ref (w.2.1 87)), some (.ref (w.2.1 88)), some (.ref (w.2.1 89)), some (.ref (w.2.1 90)), some (.ref (w.2.1 91)), some (.int (nI h)), some (.int (nI n)), some (.int (nI R)), some (.int (1 : Int32)), some (.int (nI tu)), some (.int (nI t)), none, some (.int (nI y)), none, some (.int (nI who)), none, some (.int (nI net)), some (.int (nI mz)), some (.int (nI va)), none, none, none, none, none, none]) C dL_law_1733 (by decide) rfl ?_
    refine V_iload C dL_law_1735 rfl ?_
    refine V_iconst (v := (3 : Int32)) C dL_law_1737 (by decide) ?_
    refine V_irem C dL_law_1738 (by decide) ?_
    refine V_eqi (y := nI (t % 3)) (pk_rem (d := 3) (by omega) (by decide) (by decide)) ?_
    refine V_istore (ls1 := [some (.ref b), some (.ref (w.2.1 0)), some (.ref (w.2.1 85)), some (.ref (w.2.1 86)), some (.ref (w.2.1 87)), some (.ref (w.2.1 88)), some (.ref (w.2.1 89)), some (.ref (w.2.1 90)), some (.ref (w.2.1 91)), some (.int (nI h)), some (.int (nI n)), some (.int (nI R)), some (.int (1 : Int32)), some (.int (nI tu)), some (.int (nI t)), none, some (.int (nI y)), none, some (.int (nI who)), none, some (.int (nI net)), some (.int (nI mz)), some (.int (nI va)), some (.int (nI (t % 3))), none, none, none, none, none]) C dL_law_1739 (by decide) rfl ?_
    have L1741 : ∀ (fu : Nat) (r : Nat) (Yd : Mem), 11 - r < fu → (r ≤ 10) → (Kp X Yd) → V p l e room_1 s m args below meth c w 29 (cn + 12 * (r / 3) + 144) (ck + 72 * (r / 3) + 864) Q 1741 [some (.ref b), some (.ref (w.2.1 0)), some (.ref (w.2.1 85)), some (.ref (w.2.1 86)), some (.ref (w.2.1 87)), some (.ref (w.2.1 88)), some (.ref (w.2.1 89)), some (.ref (w.2.1 90)), some (.ref (w.2.1 91)), some (.int (nI h)), some (.int (nI n)), some (.int (nI R)), some (.int (1 : Int32)), some (.int (nI tu)), some (.int (nI t)), none, some (.int (nI y)), none, some (.int (nI who)), none, some (.int (nI net)), some (.int (nI mz)), some (.int (nI va)), some (.int (nI r)), none, none, none, none, none] [] Yd := by
      intro fu
      induction fu with
      | zero => intro r Yd hm; exact absurd hm (Nat.not_lt_zero _)
      | succ fu ih1741 =>
        intro r Yd hm1741 hr hKYd
        have hJYd := JP_k hKYd hJ
        refine V_iload C dL_law_1741 rfl ?_
        refine V_iload C dL_law_1743 rfl ?_
        refine V_icmp_geN (a := r) (b := R) (tgt := 1777) C dL_law_1745 (by decide) (by omega) (by omega) (fun h1745_2 => ?_) (fun h1745_2 => ?_)
        · refine V_kill (i := 16) (ls1 := [some (.ref b), some (.ref (w.2.1 0)), some (.ref (w.2.1 85)), some (.ref (w.2.1 86)), some (.ref (w.2.1 87)), some (.ref (w.2.1 88)), some (.ref (w.2.1 89)), some (.ref (w.2.1 90)), some (.ref (w.2.1 91)), some (.int (nI h)), some (.int (nI n)), some (.int (nI R)), some (.int (1 : Int32)), some (.int (nI tu)), some (.int (nI t)), none, none, none, some (.int (nI who)), none, some (.int (nI net)), some (.int (nI mz)), some (.int (nI va)), some (.int (nI r)), none, none, none, none, none]) rfl ?_
          refine V_kill (i := 18) (ls1 := [some (.ref b), some (.ref (w.2.1 0)), some (.ref (w.2.1 85)), some (.ref (w.2.1 86)), some (.ref (w.2.1 87)), some (.ref (w.2.1 88)), some (.ref (w.2.1 89)), some (.ref (w.2.1 90)), some (.ref (w.2.1 91)), some (.int (nI h)), some (.int (nI n)), some (.int (nI R)), some (.int (1 : Int32)), some (.int (nI tu)), some (.int (nI t)), none, none, none, none, none, some (.int (nI net)), some (.int (nI mz)), some (.int (nI va)), some (.int (nI r)), none, none, none, none, none]) rfl ?_
          refine V_kill (i := 20) (ls1 := [some (.ref b), some (.ref (w.2.1 0)), some (.ref (w.2.1 85)), some (.ref (w.2.1 86)), some (.ref (w.2.1 87)), some (.ref (w.2.1 88)), some (.ref (w.2.1 89)), some (.ref (w.2.1 90)), some (.ref (w.2.1 91)), some (.int (nI h)), some (.int (nI n)), some (.int (nI R)), some (.int (1 : Int32)), some (.int (nI tu)), some (.int (nI t)), none, none, none, none, none, none, some (.int (nI mz)), some (.int (nI va)), some (.int (nI r)), none, none, none, none, none]) rfl ?_
          refine V_kill (i := 21) (ls1 := [some (.ref b), some (.ref (w.2.1 0)), some (.ref (w.2.1 85)), some (.ref (w.2.1 86)), some (.ref (w.2.1 87)), some (.ref (w.2.1 88)), some (.ref (w.2.1 89)), some (.ref (w.2.1 90)), some (.ref (w.2.1 91)), some (.int (nI h)), some (.int (nI n)), some (.int (nI R)), some (.int (1 : Int32)), some (.int (nI tu)), some (.int (nI t)), none, none, none, none, none, none, none, some (.int (nI va)), some (.int (nI r)), none, none, none, none, none]) rfl ?_
          refine V_kill (i := 22) (ls1 := [some (.ref b), some (.ref (w.2.1 0)), some (.ref (w.2.1 85)), some (.ref (w.2.1 86)), some (.ref (w.2.1 87)), some (.ref (w.2.1 88)), some (.ref (w.2.1 89)), some (.ref (w.2.1 90)), some (.ref (w.2.1 91)), some (.int (nI h)), some (.int (nI n)), some (.int (nI R)), some (.int (1 : Int32)), some (.int (nI tu)), some (.int (nI t)), none, none, none, none, none, none, none, none, some (.int (nI r)), none, none, none, none, none]) rfl ?_
          refine V_kill (i := 23) (ls1 := [some (.ref b), some (.ref (w.2.1 0)), some (.ref (w.2.1 85)), some (.ref (w.2.1 86)), some (.ref (w.2.1 87)), some (.ref (w.2.1 88)), some (.ref (w.2.1 89)), some (.ref (w.2.1 90)), some (.ref (w.2.1 91)), some (.int (nI h)), some (.int (nI n)), some (.int (nI R)), some (.int (1 : Int32)), some (.int (nI tu)), some (.int (nI t)), none, none, none, none, none, none, none, none, none, none, none, none, none, none]) rfl ?_
          exact V_widen (by omega) (by omega) (kk Yd (LSt.mk hJYd (LA_k hKYd hL)))
        · refine V_iload C dL_law_1748 rfl ?_
          refine V_if_eq (x := (1 : Int32)) (tgt := 1777) C dL_law_1750 (by decide) (fun h => absurd h (by decide)) (fun _ => ?_)
          refine V_aload_n C dL_law_1753 rfl ?_
          refine V_aload C dL_law_1754 rfl ?_
          refine V_iload C dL_law_1756 rfl ?_
          refine V_iload C dL_law_1758 rfl ?_
          refine V_iconst (v := (3 : Int32)) C dL_law_1760 (by decide) ?_
          refine V_ishr C dL_law_1761 ?_
          refine V_eqi (y := nI (y / 8)) (pk_shrN (by omega) _ 3 (s_l31 3 (by decide))) ?_
          refine V_sipush (v := (1023 : Int32)) C dL_law_1762 (by decide) ?_
          refine V_iand C dL_law_1765 ?_
          refine V_eqi (y := nI ((y / 8) % 1024)) (pk_andN (by omega) 10 (by decide)) ?_
          refine V_ncallS C hD hN [.ref (w.2.1 0), .ref (w.2.1 91), .int (nI r), .int (nI ((y / 8) % 1024))] ms_L_135 pl_L_135 (k_L_isRoute w l r ((y / 8) % 1024) Yd h D n 0 R dr PP Z Th hJYd (LA_k hKYd hL) (by omega) (by omega) (by omega)) dL_law_1766 rfl rfl (Nat.le_of_ble_eq_true rfl) (Nat.le_of_ble_eq_true rfl) (Nat.le_of_ble_eq_true rfl) ⟨by show _ ≤ 668764; omega, by show _ ≤ 7095478; omega⟩ (fun v4 X4 q4 => ?_)
          obtain ⟨er4, kp4⟩ := q4
          have hK4 : Kp X X4 := hKYd.tr kp4
          have hJ4 := JP_k hK4 hJ
          refine V_eqi er4 ?_
          refine V_istore (ls1 := [some (.ref b), some (.ref (w.2.1 0)), some (.ref (w.2.1 85)), some (.ref (w.2.1 86)), some (.ref (w.2.1 87)), some (.ref (w.2.1 88)), some (.ref (w.2.1 89)), some (.ref (w.2.1 90)), some (.ref (w.2.1 91)), some (.int (nI h)), some (.int (nI n)), some (.int (nI R)), some (.int (1 : Int32)), some (.int (nI tu)), some (.int (nI t)), none, some (.int (nI y)), none, some (.int (nI who)), none, some (.int (nI net)), some (.int (nI mz)), some (.int (nI va)), some (.int (nI r)), none, none, none, none, none]) C dL_law_1769 (by decide) rfl ?_
          refine V_iinc (v := nI (r + 3)) (ls1 := [some (.ref b), some (.ref (w.2.1 0)), some (.ref (w.2.1 85)), some (.ref (w.2.1 86)), some (.ref (w.2.1 87)), some (.ref (w.2.1 88)), some (.ref (w.2.1 89)), some (.ref (w.2.1 90)), some (.ref (w.2.1 91)), some (.int (nI h)), some (.int (nI n)), some (.int (nI R)), some (.int (1 : Int32)), some (.int (nI tu)), some (.int (nI t)), none, some (.int (nI y)), none, some (.int (nI who)), none, some (.int (nI net)), some (.int (nI mz)), some (.int (nI va)), some (.int (nI (r + 3))), none, none, none, none, none]) C dL_law_1771 rfl (nI_add _ 3) (by decide) rfl ?_
          refine V_goto (tgt := 1741) C dL_law_1774 (by decide) ?_
          refine V_widen (n' := (cn + 12 * ((r + 3) / 3) + 144)) (k' := (ck + 72 * ((r + 3) / 3) + 864)) (by omega) (by omega) ?_
          exact ih1741 (r + 3) X4 (by omega) (by omega) hK4
    refine V_widen (n' := (cn + 12 * ((t % 3) / 3) + 144)) (k' := (ck + 72 * ((t % 3) / 3) + 864)) (by omega) (by omega) ?_
    exact L1741 _ (t % 3) Yc (Nat.lt_succ_self _) (by omega) hKYc
  have L1694 : ∀ (Yb : Mem), (Kp X Yb) → V p l e room_1 s m args below meth c w 29 (cn + 140) (ck + 840) Q 1694 [some (.ref b), some (.ref (w.2.1 0)), some (.ref (w.2.1 85)), some (.ref (w.2.1 86)), some (.ref (w.2.1 87)), some (.ref (w.2.1 88)), some (.ref (w.2.1 89)), some (.ref (w.2.1 90)), some (.ref (w.2.1 91)), some (.int (nI h)), some (.int (nI n)), some (.int (nI R)), some (.int (1 : Int32)), some (.int (nI tu)), some (.int (nI t)), none, some (.int (nI y)), none, some (.int (nI who)), none, some (.int (nI net)), some (.int (nI mz)), some (.int (nI va)), none, none, none, none, none, none] [] Yb := by
    intro Yb hKYb
    have hJYb := JP_k hKYb hJ
    refine V_iload C dL_law_1694 rfl ?_
    refine V_bipush (v := (8 : Int32)) C dL_law_1696 (by decide) ?_
    refine V_irem C dL_law_1698 (by decide) ?_
    refine V_eqi (y := nI (t % 8)) (pk_rem (d := 8) (by omega) (by decide) (by decide)) ?_
    refine V_iconst (v := (3 : Int32)) C dL_law_1699 (by decide) ?_
    refine V_icmp_neN (a := t % 8) (b := 3) (tgt := 1728) C dL_law_1700 (by decide) (by omega) (by omega) (fun h1700_5 => ?_) (fun h1700_5 => ?_)
    · refine V_widen (n' := (cn + 144)) (k' := (ck + 864)) (by omega) (by omega) ?_
      exact L1728 Yb hKYb
    · refine V_aload_n C dL_law_1703 rfl ?_
      refine V_iload C dL_law_1704 rfl ?_
      refine V_iload C dL_law_1706 rfl ?_
      refine V_bipush (v := (7 : Int32)) C dL_law_1708 (by decide) ?_
      refine V_irem C dL_law_1710 (by decide) ?_
      refine V_eqi (y := nI (y % 7)) (pk_rem (d := 7) (by omega) (by decide) (by decide)) ?_
      refine V_hcallV C hD [.int (nI net), .int (nI (y % 7))] mi_L_124 pl_L_124 (k_X9_allowed w l (nI net) (nI (y % 7)) Yb  ) dL_law_1711 sh_0 (by decide) rfl rfl rfl (Nat.le_of_ble_eq_true rfl) (Nat.le_of_ble_eq_true rfl) (Nat.le_of_ble_eq_true rfl) ⟨by show _ ≤ 668764; omega, by show _ ≤ 7095478; omega⟩ (fun E X1 hx => False.elim (hx.2.2 ⟨(btw_n (a := net) (m := 9) (by omega) (by omega)), (btw_n (a := y % 7) (m := 9) (by omega) (by omega))⟩)) (fun v6 X6 q6 => ?_)
      obtain ⟨⟨c6, hc6, ec6, ha6⟩, T6, eX6⟩ := q_allowed (a := net) (b := (y % 7)) (by omega) (by omega) q6
      rw [hKYb.t] at ha6
      have hK6 : Kp X X6 := by rw [eX6]; exact hKYb.put (by omega)
      have hJ6 := JP_k hK6 hJ
      refine V_eqi ec6 ?_
      refine V_aload_n C dL_law_1714 rfl ?_
      refine V_iload C dL_law_1715 rfl ?_
      refine V_bipush (v := (7 : Int32)) C dL_law_1717 (by decide) ?_
      refine V_irem C dL_law_1719 (by decide) ?_
      refine V_eqi (y := nI (y % 7)) (pk_rem (d := 7) (by omega) (by decide) (by decide)) ?_
      refine V_iload C dL_law_1720 rfl ?_
      refine V_hcallV C hD [.int (nI (y % 7)), .int (nI net)] mi_L_124 pl_L_124 (k_X9_allowed w l (nI (y % 7)) (nI net) X6  ) dL_law_1722 sh_0 (by decide) rfl rfl rfl (Nat.le_of_ble_eq_true rfl) (Nat.le_of_ble_eq_true rfl) (Nat.le_of_ble_eq_true rfl) ⟨by show _ ≤ 668764; omega, by show _ ≤ 7095478; omega⟩ (fun E X1 hx => False.elim (hx.2.2 ⟨(btw_n (a := y % 7) (m := 9) (by omega) (by omega)), (btw_n (a := net) (m := 9) (by omega) (by omega))⟩)) (fun v7 X7 q7 => ?_)
      obtain ⟨⟨c7, hc7, ec7, ha7⟩, T7, eX7⟩ := q_allowed (a := (y % 7)) (b := net) (by omega) (by omega) q7
      rw [hK6.t] at ha7
      have hK7 : Kp X X7 := by rw [eX7]; exact hK6.put (by omega)
      have hJ7 := JP_k hK7 hJ
      refine V_eqi ec7 ?_
      refine V_icmp_neN (a := c6) (b := c7) (tgt := 1732) C dL_law_1725 (by decide) (by omega) (by omega) (fun h1725_8 => False.elim (h1725_8 (AlX_sym hJ.2.2.2.2.sy (by omega) (by omega) ha6 ha7))) (fun h1725_8 => ?_)
      exact L1728 X7 hK7
  have L1665 : ∀ (Ya : Mem), (Kp X Ya) → V p l e room_1 s m args below meth c w 29 (cn + 120) (ck + 720) Q 1665 [some (.ref b), some (.ref (w.2.1 0)), some (.ref (w.2.1 85)), some (.ref (w.2.1 86)), some (.ref (w.2.1 87)), some (.ref (w.2.1 88)), some (.ref (w.2.1 89)), some (.ref (w.2.1 90)), some (.ref (w.2.1 91)), some (.int (nI h)), some (.int (nI n)), some (.int (nI R)), some (.int (1 : Int32)), some (.int (nI tu)), some (.int (nI t)), none, some (.int (nI y)), none, some (.int (nI who)), none, some (.int (nI net)), some (.int (nI mz)), some (.int (nI va)), none, none, none, none, none, none] [] Ya := by
    intro Ya hKYa
    have hJYa := JP_k hKYa hJ
    refine V_iload C dL_law_1665 rfl ?_
    refine V_iconst (v := (4 : Int32)) C dL_law_1667 (by decide) ?_
    refine V_irem C dL_law_1668 (by decide) ?_
    refine V_eqi (y := nI (t % 4)) (pk_rem (d := 4) (by omega) (by decide) (by decide)) ?_
    refine V_iconst (v := (1 : Int32)) C dL_law_1669 (by decide) ?_
    refine V_icmp_neN (a := t % 4) (b := 1) (tgt := 1694) C dL_law_1670 (by decide) (by omega) (by omega) (fun h1670_9 => ?_) (fun h1670_9 => ?_)
    · refine V_widen (n' := (cn + 140)) (k' := (ck + 840)) (by omega) (by omega) ?_
      exact L1694 Ya hKYa
    · refine V_aload_n C dL_law_1673 rfl ?_
      refine V_iload C dL_law_1674 rfl ?_
      refine V_iload C dL_law_1676 rfl ?_
      refine V_bipush (v := (9 : Int32)) C dL_law_1678 (by decide) ?_
      refine V_ishr C dL_law_1680 ?_
      refine V_eqi (y := nI (y / 512)) (pk_shrN (by omega) _ 9 (s_l31 9 (by decide))) ?_
      refine V_bipush (v := (7 : Int32)) C dL_law_1681 (by decide) ?_
      refine V_irem C dL_law_1683 (by decide) ?_
      refine V_eqi (y := nI ((y / 512) % 7)) (pk_rem (d := 7) (by omega) (by decide) (by decide)) ?_
      refine V_iload C dL_law_1684 rfl ?_
      refine V_iconst (v := (3 : Int32)) C dL_law_1686 (by decide) ?_
      refine V_irem C dL_law_1687 (by decide) ?_
      refine V_eqi (y := nI (y % 3)) (pk_rem (d := 3) (by omega) (by decide) (by decide)) ?_
      refine V_ncallS C hD hN [.ref (w.2.1 0), .int (nI net), .int (nI ((y / 512) % 7)), .int (nI (y % 3))] ms_L_131 pl_L_131 (k_L_areCones w l net ((y / 512) % 7) (y % 3) Ya h D n 0 R dr PP Z Th hJYa (by omega) (by omega) (by omega)) dL_law_1688 rfl rfl (Nat.le_of_ble_eq_true rfl) (Nat.le_of_ble_eq_true rfl) (Nat.le_of_ble_eq_true rfl) ⟨by show _ ≤ 668764; omega, by show _ ≤ 7095478; omega⟩ (fun v10 X10 q10 => ?_)
      obtain ⟨er10, kp10⟩ := q10
      have hK10 : Kp X X10 := hKYa.tr kp10
      have hJ10 := JP_k hK10 hJ
      refine V_eqi er10 ?_
      refine V_if_eq (x := (1 : Int32)) (tgt := 1732) C dL_law_1691 (by decide) (fun h => absurd h (by decide)) (fun _ => ?_)
      exact L1694 X10 hK10
  refine V_iload C dL_law_1635 rfl ?_
  refine V_iconst (v := (2 : Int32)) C dL_law_1637 (by decide) ?_
  refine V_irem C dL_law_1638 (by decide) ?_
  refine V_eqi (y := nI (t % 2)) (pk_rem (d := 2) (by omega) (by decide) (by decide)) ?_
  refine V_if_gtN (a := t % 2) (tgt := 1665) C dL_law_1639 (by decide) (by omega) (fun h1639_12 => ?_) (fun h1639_12 => ?_)
  · refine V_widen (n' := (cn + 120)) (k' := (ck + 720)) (by omega) (by omega) ?_
    exact L1665 X hK0
  · refine V_aload_n C dL_law_1642 rfl ?_
    refine V_aload_n C dL_law_1643 rfl ?_
    refine V_aload_n C dL_law_1644 rfl ?_
    refine V_aload C dL_law_1645 rfl ?_
    refine V_aload C dL_law_1647 rfl ?_
    refine V_iload C dL_law_1649 rfl ?_
    refine V_iload C dL_law_1651 rfl ?_
    refine V_iload C dL_law_1653 rfl ?_
    refine V_iload C dL_law_1655 rfl ?_
    refine V_iload C dL_law_1657 rfl ?_
    refine V_ncallS C hD hN [.ref (w.2.1 0), .ref (w.2.1 85), .ref (w.2.1 86), .ref (w.2.1 87), .ref (w.2.1 88), .int (nI n), .int (nI who), .int (nI net), .int (nI va), .int (nI mz)] ms_L_127 pl_L_127 (k_L_areBlocks w l n who net va mz X h D 0 R dr PP Z Th hJ hL (by omega) (by omega) (by omega) (by omega) hvb (by omega)) dL_law_1659 rfl rfl (Nat.le_of_ble_eq_true rfl) (Nat.le_of_ble_eq_true rfl) (Nat.le_of_ble_eq_true rfl) ⟨by show _ ≤ 668764; omega, by show _ ≤ 7095478; omega⟩ (fun v13 X13 q13 => ?_)
    obtain ⟨er13, kp13⟩ := q13
    have hK13 : Kp X X13 := hK0.tr kp13
    have hJ13 := JP_k hK13 hJ
    refine V_eqi er13 ?_
    refine V_if_eq (x := (1 : Int32)) (tgt := 1732) C dL_law_1662 (by decide) (fun h => absurd h (by decide)) (fun _ => ?_)
    exact L1665 X13 hK13
