def q_X5_voteAlong (a : Nat) (z : Nat) (rd : Nat) (X : Mem) (N : Nat) (P : Nat → Nat) (K : Nat) (vt : Nat → Nat → Nat) : Mem → Prop := fun X' => OutV X X' ∧ VRc X' (fun a b => vt a b + crC K P (tpF K (rkc X rd) P z) z a b)
set_option maxHeartbeats 4000000 in
set_option maxRecDepth 100000 in
theorem k_X5_voteAlong (w : Wt) (l : Launch) (a : Nat) (z : Nat) (rd : Nat) (X : Mem) (N : Nat) (P : Nat → Nat) (K : Nat) (vt : Nat → Nat → Nat) (hsh : sh a = .inl (0, N)) (hN : N ≤ 256) (ha : a < 92) (hP : PA X a P z) (hzN : z ≤ N) (hn : ∀ a, a < 10 → CoreIs (X 69 a)) (hrd : rd < 3) (hcr : ∀ a, a < 10 → rd ≠ 0 → CoreIs (X (82 + (rd - 1)) a)) (hC : X 68 1 = nI K) (hC1 : K < 1024) (hz : 1 ≤ z) (ha69 : a < 69) (hV : VRc X vt) : CtU w l yX5_voteAlong cX5_voteAlong 8 none 4 87 [.ref (w.2.1 68), .ref (w.2.1 a), .int (nI z), .int (nI rd)] X (q_X5_voteAlong a z rd X N P K vt) := by
  refine CtU_of (by decide +kernel) (Nat.le_of_ble_eq_true rfl) (List.forall_mem_cons.mpr ⟨rfl, (List.forall_mem_cons.mpr ⟨rfl, (List.forall_mem_cons.mpr ⟨rfl, (List.forall_mem_cons.mpr ⟨rfl, (fun _ h => nomatch h)⟩)⟩)⟩)⟩) (ls := [some (.ref (w.2.1 68)), some (.ref (w.2.1 a)), some (.int (nI z)), some (.int (nI rd)), none, none, none, none]) rfl (args := (#[.ref (w.2.1 68), .ref (w.2.1 a), .int (nI z), .int (nI rd)] : Array Value)) rfl (own := RX5) rfl ?_
  intro p e s m below meth c C
  refine V_aload_n C dX5_voteAlong_0 rfl ?_
  refine V_aload_n C dX5_voteAlong_1 rfl ?_
  refine V_iload_n C dX5_voteAlong_2 rfl ?_
  refine V_iload_n C dX5_voteAlong_3 rfl ?_
  refine V_callVI C [.ref (w.2.1 a), .int (nI z), .int (nI rd)] mi_X5_73 (k_X5_topOf w l a z rd X N P K hsh hN ha hP hzN hn hrd hcr hC hC1 hz) dX5_voteAlong_4 sh_68 (by decide) rfl rfl rfl (Nat.le_of_ble_eq_true rfl) (Nat.le_of_ble_eq_true rfl) (Nat.le_of_ble_eq_true rfl) ⟨Nat.le_refl _, Nat.le_refl _⟩ (fun v1 X1 q1 => ?_)
  obtain ⟨⟨a1, ev1, ha1⟩, eX1⟩ := q1; subst v1; subst X1
  refine V_istore (ls1 := [some (.ref (w.2.1 68)), some (.ref (w.2.1 a)), some (.int (nI z)), some (.int (nI rd)), some (.int (nI a1)), none, none, none]) C dX5_voteAlong_7 (by decide) rfl ?_
  have ha1l := Top_lt ha1
  refine V_iconst (v := (1 : Int32)) C dX5_voteAlong_9 (by decide) ?_
  refine V_istore (ls1 := [some (.ref (w.2.1 68)), some (.ref (w.2.1 a)), some (.int (nI z)), some (.int (nI rd)), some (.int (nI a1)), some (.int (1 : Int32)), none, none]) C dX5_voteAlong_10 (by decide) rfl ?_
  have L12 : ∀ (fu : Nat) (i : Nat) (Y : Mem), z - i < fu → (1 ≤ i) → (i ≤ z) → (OutV X Y) → (VRc Y (fun a b => vt a b + crC K P a1 i a b)) → V p l e ({ frames := 4, cells := 0, slots := 0, locals := 87 } : Room) s m (#[.ref (w.2.1 68), .ref (w.2.1 a), .int (nI z), .int (nI rd)] : Array Value) below meth c w 8 0 0 (EU w below s (#[.ref (w.2.1 68), .ref (w.2.1 a), .int (nI z), .int (nI rd)] : Array Value) 0 0 (q_X5_voteAlong a z rd X N P K vt)) 12 [some (.ref (w.2.1 68)), some (.ref (w.2.1 a)), some (.int (nI z)), some (.int (nI rd)), some (.int (nI a1)), some (.int (nI i)), none, none] [] Y := by
    intro fu
    induction fu with
    | zero => intro i Y hm; exact absurd hm (Nat.not_lt_zero _)
    | succ fu ih12 =>
      intro i Y hm12 h1 h2 hO hVv
      have ha1l := Top_lt ha1
      refine V_iload C dX5_voteAlong_12 rfl ?_
      refine V_iload_n C dX5_voteAlong_14 rfl ?_
      refine V_icmp_geN (a := i) (b := z) (tgt := 103) C dX5_voteAlong_15 (by decide) (by omega) (by omega) (fun h15_2 => ?_) (fun h15_2 => ?_)
      · exact V_returnU C dX5_voteAlong_103 ⟨hO, VRc_congr hVv (fun a b _ _ => by rw [tpF_is ha1, show i = z by omega])⟩
      · refine V_aload_n C dX5_voteAlong_18 rfl ?_
        refine V_iload C dX5_voteAlong_19 rfl ?_
        refine V_iconst (v := (1 : Int32)) C dX5_voteAlong_21 (by decide) ?_
        refine V_isubN (a := i) (b := 1) C dX5_voteAlong_22 (by omega) ?_
        refine V_ialdN (p0 := a) (o := i - 1) (v := Y a (i - 1)) C dX5_voteAlong_23 hsh ha (by omega) hN rfl ?_
        have hq3 : P (i - 1) < 10 := (hP (i - 1) (by omega)).2
        refine V_eqi (y := nI (P (i - 1))) ((congrFun (hO a (by omega)) _).trans (hP (i - 1) (by omega)).1) ?_
        refine V_istore (ls1 := [some (.ref (w.2.1 68)), some (.ref (w.2.1 a)), some (.int (nI z)), some (.int (nI rd)), some (.int (nI a1)), some (.int (nI i)), some (.int (nI (P (i - 1)))), none]) C dX5_voteAlong_24 (by decide) rfl ?_
        refine V_aload_n C dX5_voteAlong_26 rfl ?_
        refine V_iload C dX5_voteAlong_27 rfl ?_
        refine V_ialdN (p0 := a) (o := i) (v := Y a i) C dX5_voteAlong_29 hsh ha (by omega) hN rfl ?_
        have hq4 : P i < 10 := (hP i (by omega)).2
        refine V_eqi (y := nI (P i)) ((congrFun (hO a (by omega)) _).trans (hP i (by omega)).1) ?_
        refine V_istore (ls1 := [some (.ref (w.2.1 68)), some (.ref (w.2.1 a)), some (.int (nI z)), some (.int (nI rd)), some (.int (nI a1)), some (.int (nI i)), some (.int (nI (P (i - 1)))), some (.int (nI (P i)))]) C dX5_voteAlong_30 (by decide) rfl ?_
        refine V_aload_n C dX5_voteAlong_32 rfl ?_
        refine V_geti C fl_X5_9 dX5_voteAlong_33 (by decide) sh_68 rfl ?_
        refine V_eqi (y := nI K) ((congrFun (hO 68 (by omega)) 1).trans hC) ?_
        refine V_iload C dX5_voteAlong_36 rfl ?_
        refine V_callSI C [.int (nI K), .int (nI (P (i - 1)))] ms_X5_77 (k_X9_isIn w l K (P (i - 1)) Y (by omega) (by omega)) dX5_voteAlong_38 rfl rfl (Nat.le_of_ble_eq_true rfl) (Nat.le_of_ble_eq_true rfl) (Nat.le_of_ble_eq_true rfl) ⟨Nat.le_refl _, Nat.le_refl _⟩ (fun v5 X5 q5 => ?_)
        obtain ⟨hb5, eX5⟩ := q5; subst X5
        refine V_if_eqB (tgt := 59) C hb5 dX5_voteAlong_41 (by decide) (fun h41_6 => ?_) (fun h41_6 => ?_)
        · refine V_iload C dX5_voteAlong_59 rfl ?_
          refine V_iload C dX5_voteAlong_61 rfl ?_
          refine V_icmp_gtN (a := i) (b := a1) (tgt := 83) C dX5_voteAlong_63 (by decide) (by omega) (by omega) (fun h63_7 => ?_) (fun h63_7 => ?_)
          · refine V_aload_n C dX5_voteAlong_83 rfl ?_
            refine V_getr C fl_X5_21 dX5_voteAlong_84 (by decide) sh_68 rfl ?_
            refine V_iload C dX5_voteAlong_87 rfl ?_
            refine V_aaldN (o := P i) (q := 71 + P i) C dX5_voteAlong_89 sh_70 (by decide) (by omega) (by decide) rfl ?_
            refine V_iload C dX5_voteAlong_90 rfl ?_
            refine V_dup2 C dX5_voteAlong_92 rfl rfl ?_
            refine V_ialdN (p0 := 71 + P i) (o := P (i - 1)) (v := Y (71 + P i) (P (i - 1))) C dX5_voteAlong_93 (sh_votes (by omega)) (by omega) (by omega) (by decide) rfl ?_
            refine V_eqi (y := nI (vt (P i) (P (i - 1)) + crC K P a1 i (P i) (P (i - 1)))) (hVv (P i) (P (i - 1)) (by omega) (by omega)) ?_
            refine V_iconst (v := (1 : Int32)) C dX5_voteAlong_94 (by decide) ?_
            refine V_iaddN (a := vt (P i) (P (i - 1)) + crC K P a1 i (P i) (P (i - 1))) (b := 1) C dX5_voteAlong_95 ?_
            refine V_iastN (p0 := 71 + P i) (o := P (i - 1)) (X1 := (ma Y (71 + P i) (upd (Y (71 + P i)) (P (i - 1)) (nI (vt (P i) (P (i - 1)) + crC K P a1 i (P i) (P (i - 1)) + 1))))) C dX5_voteAlong_96 (sh_votes (by omega)) (by omega) (by omega) (by decide) rfl ?_
            refine V_iincN (a := i) (ls1 := [some (.ref (w.2.1 68)), some (.ref (w.2.1 a)), some (.int (nI z)), some (.int (nI rd)), some (.int (nI a1)), some (.int (nI (i + 1))), some (.int (nI (P (i - 1)))), some (.int (nI (P i)))]) C dX5_voteAlong_97 rfl (by decide) rfl ?_
            refine V_goto (tgt := 12) C dX5_voteAlong_100 (by decide) ?_
            refine V_kill (i := 6) (ls1 := [some (.ref (w.2.1 68)), some (.ref (w.2.1 a)), some (.int (nI z)), some (.int (nI rd)), some (.int (nI a1)), some (.int (nI (i + 1))), none, some (.int (nI (P i)))]) rfl ?_
            refine V_kill (i := 7) (ls1 := [some (.ref (w.2.1 68)), some (.ref (w.2.1 a)), some (.int (nI z)), some (.int (nI rd)), some (.int (nI a1)), some (.int (nI (i + 1))), none, none]) rfl ?_
            exact ih12 (i + 1) (ma Y (71 + P i) (upd (Y (71 + P i)) (P (i - 1)) (nI (vt (P i) (P (i - 1)) + crC K P a1 i (P i) (P (i - 1)) + 1)))) (by omega) (by omega) (by omega) (OutV_put (by omega) hO) (VRc_congr (VRc_add (by omega) (by omega) hVv) (fun a b _ _ => by rw [vote_dn h1 (by omega) (by first | exact fun q => absurd q.1 (by assumption) | exact fun q => absurd q.2 (by assumption)), Nat.add_assoc]))
          · refine V_aload_n C dX5_voteAlong_66 rfl ?_
            refine V_getr C fl_X5_21 dX5_voteAlong_67 (by decide) sh_68 rfl ?_
            refine V_iload C dX5_voteAlong_70 rfl ?_
            refine V_aaldN (o := P (i - 1)) (q := 71 + P (i - 1)) C dX5_voteAlong_72 sh_70 (by decide) (by omega) (by decide) rfl ?_
            refine V_iload C dX5_voteAlong_73 rfl ?_
            refine V_dup2 C dX5_voteAlong_75 rfl rfl ?_
            refine V_ialdN (p0 := 71 + P (i - 1)) (o := P i) (v := Y (71 + P (i - 1)) (P i)) C dX5_voteAlong_76 (sh_votes (by omega)) (by omega) (by omega) (by decide) rfl ?_
            refine V_eqi (y := nI (vt (P (i - 1)) (P i) + crC K P a1 i (P (i - 1)) (P i))) (hVv (P (i - 1)) (P i) (by omega) (by omega)) ?_
            refine V_iconst (v := (1 : Int32)) C dX5_voteAlong_77 (by decide) ?_
            refine V_iaddN (a := vt (P (i - 1)) (P i) + crC K P a1 i (P (i - 1)) (P i)) (b := 1) C dX5_voteAlong_78 ?_
            refine V_iastN (p0 := 71 + P (i - 1)) (o := P i) (X1 := (ma Y (71 + P (i - 1)) (upd (Y (71 + P (i - 1))) (P i) (nI (vt (P (i - 1)) (P i) + crC K P a1 i (P (i - 1)) (P i) + 1))))) C dX5_voteAlong_79 (sh_votes (by omega)) (by omega) (by omega) (by decide) rfl ?_
            refine V_goto (tgt := 97) C dX5_voteAlong_80 (by decide) ?_
            refine V_iincN (a := i) (ls1 := [some (.ref (w.2.1 68)), some (.ref (w.2.1 a)), some (.int (nI z)), some (.int (nI rd)), some (.int (nI a1)), some (.int (nI (i + 1))), some (.int (nI (P (i - 1)))), some (.int (nI (P i)))]) C dX5_voteAlong_97 rfl (by decide) rfl ?_
            refine V_goto (tgt := 12) C dX5_voteAlong_100 (by decide) ?_
            refine V_kill (i := 6) (ls1 := [some (.ref (w.2.1 68)), some (.ref (w.2.1 a)), some (.int (nI z)), some (.int (nI rd)), some (.int (nI a1)), some (.int (nI (i + 1))), none, some (.int (nI (P i)))]) rfl ?_
            refine V_kill (i := 7) (ls1 := [some (.ref (w.2.1 68)), some (.ref (w.2.1 a)), some (.int (nI z)), some (.int (nI rd)), some (.int (nI a1)), some (.int (nI (i + 1))), none, none]) rfl ?_
            exact ih12 (i + 1) (ma Y (71 + P (i - 1)) (upd (Y (71 + P (i - 1))) (P i) (nI (vt (P (i - 1)) (P i) + crC K P a1 i (P (i - 1)) (P i) + 1)))) (by omega) (by omega) (by omega) (OutV_put (by omega) hO) (VRc_congr (VRc_add (by omega) (by omega) hVv) (fun a b _ _ => by rw [vote_up h1 (by omega) (by first | exact fun q => absurd q.1 (by assumption) | exact fun q => absurd q.2 (by assumption)), Nat.add_assoc]))
        · refine V_aload_n C dX5_voteAlong_44 rfl ?_
          refine V_geti C fl_X5_9 dX5_voteAlong_45 (by decide) sh_68 rfl ?_
          refine V_eqi (y := nI K) ((congrFun (hO 68 (by omega)) 1).trans hC) ?_
          refine V_iload C dX5_voteAlong_48 rfl ?_
          refine V_callSI C [.int (nI K), .int (nI (P i))] ms_X5_77 (k_X9_isIn w l K (P i) Y (by omega) (by omega)) dX5_voteAlong_50 rfl rfl (Nat.le_of_ble_eq_true rfl) (Nat.le_of_ble_eq_true rfl) (Nat.le_of_ble_eq_true rfl) ⟨Nat.le_refl _, Nat.le_refl _⟩ (fun v8 X8 q8 => ?_)
          obtain ⟨hb8, eX8⟩ := q8; subst X8
          refine V_if_eqB (tgt := 59) C hb8 dX5_voteAlong_53 (by decide) (fun h53_9 => ?_) (fun h53_9 => ?_)
          · refine V_iload C dX5_voteAlong_59 rfl ?_
            refine V_iload C dX5_voteAlong_61 rfl ?_
            refine V_icmp_gtN (a := i) (b := a1) (tgt := 83) C dX5_voteAlong_63 (by decide) (by omega) (by omega) (fun h63_10 => ?_) (fun h63_10 => ?_)
            · refine V_aload_n C dX5_voteAlong_83 rfl ?_
              refine V_getr C fl_X5_21 dX5_voteAlong_84 (by decide) sh_68 rfl ?_
              refine V_iload C dX5_voteAlong_87 rfl ?_
              refine V_aaldN (o := P i) (q := 71 + P i) C dX5_voteAlong_89 sh_70 (by decide) (by omega) (by decide) rfl ?_
              refine V_iload C dX5_voteAlong_90 rfl ?_
              refine V_dup2 C dX5_voteAlong_92 rfl rfl ?_
              refine V_ialdN (p0 := 71 + P i) (o := P (i - 1)) (v := Y (71 + P i) (P (i - 1))) C dX5_voteAlong_93 (sh_votes (by omega)) (by omega) (by omega) (by decide) rfl ?_
              refine V_eqi (y := nI (vt (P i) (P (i - 1)) + crC K P a1 i (P i) (P (i - 1)))) (hVv (P i) (P (i - 1)) (by omega) (by omega)) ?_
              refine V_iconst (v := (1 : Int32)) C dX5_voteAlong_94 (by decide) ?_
              refine V_iaddN (a := vt (P i) (P (i - 1)) + crC K P a1 i (P i) (P (i - 1))) (b := 1) C dX5_voteAlong_95 ?_
              refine V_iastN (p0 := 71 + P i) (o := P (i - 1)) (X1 := (ma Y (71 + P i) (upd (Y (71 + P i)) (P (i - 1)) (nI (vt (P i) (P (i - 1)) + crC K P a1 i (P i) (P (i - 1)) + 1))))) C dX5_voteAlong_96 (sh_votes (by omega)) (by omega) (by omega) (by decide) rfl ?_
              refine V_iincN (a := i) (ls1 := [some (.ref (w.2.1 68)), some (.ref (w.2.1 a)), some (.int (nI z)), some (.int (nI rd)), some (.int (nI a1)), some (.int (nI (i + 1))), some (.int (nI (P (i - 1)))), some (.int (nI (P i)))]) C dX5_voteAlong_97 rfl (by decide) rfl ?_
              refine V_goto (tgt := 12) C dX5_voteAlong_100 (by decide) ?_
              refine V_kill (i := 6) (ls1 := [some (.ref (w.2.1 68)), some (.ref (w.2.1 a)), some (.int (nI z)), some (.int (nI rd)), some (.int (nI a1)), some (.int (nI (i + 1))), none, some (.int (nI (P i)))]) rfl ?_
              refine V_kill (i := 7) (ls1 := [some (.ref (w.2.1 68)), some (.ref (w.2.1 a)), some (.int (nI z)), some (.int (nI rd)), some (.int (nI a1)), some (.int (nI (i + 1))), none, none]) rfl ?_
              exact ih12 (i + 1) (ma Y (71 + P i) (upd (Y (71 + P i)) (P (i - 1)) (nI (vt (P i) (P (i - 1)) + crC K P a1 i (P i) (P (i - 1)) + 1)))) (by omega) (by omega) (by omega) (OutV_put (by omega) hO) (VRc_congr (VRc_add (by omega) (by omega) hVv) (fun a b _ _ => by rw [vote_dn h1 (by omega) (by first | exact fun q => absurd q.1 (by assumption) | exact fun q => absurd q.2 (by assumption)), Nat.add_assoc]))
            · refine V_aload_n C dX5_voteAlong_66 rfl ?_
              refine V_getr C fl_X5_21 dX5_voteAlong_67 (by decide) sh_68 rfl ?_
              refine V_iload C dX5_voteAlong_70 rfl ?_
              refine V_aaldN (o := P (i - 1)) (q := 71 + P (i - 1)) C dX5_voteAlong_72 sh_70 (by decide) (by omega) (by decide) rfl ?_
              refine V_iload C dX5_voteAlong_73 rfl ?_
              refine V_dup2 C dX5_voteAlong_75 rfl rfl ?_
              refine V_ialdN (p0 := 71 + P (i - 1)) (o := P i) (v := Y (71 + P (i - 1)) (P i)) C dX5_voteAlong_76 (sh_votes (by omega)) (by omega) (by omega) (by decide) rfl ?_
              refine V_eqi (y := nI (vt (P (i - 1)) (P i) + crC K P a1 i (P (i - 1)) (P i))) (hVv (P (i - 1)) (P i) (by omega) (by omega)) ?_
              refine V_iconst (v := (1 : Int32)) C dX5_voteAlong_77 (by decide) ?_
              refine V_iaddN (a := vt (P (i - 1)) (P i) + crC K P a1 i (P (i - 1)) (P i)) (b := 1) C dX5_voteAlong_78 ?_
              refine V_iastN (p0 := 71 + P (i - 1)) (o := P i) (X1 := (ma Y (71 + P (i - 1)) (upd (Y (71 + P (i - 1))) (P i) (nI (vt (P (i - 1)) (P i) + crC K P a1 i (P (i - 1)) (P i) + 1))))) C dX5_voteAlong_79 (sh_votes (by omega)) (by omega) (by omega) (by decide) rfl ?_
              refine V_goto (tgt := 97) C dX5_voteAlong_80 (by decide) ?_
              refine V_iincN (a := i) (ls1 := [some (.ref (w.2.1 68)), some (.ref (w.2.1 a)), some (.int (nI z)), some (.int (nI rd)), some (.int (nI a1)), some (.int (nI (i + 1))), some (.int (nI (P (i - 1)))), some (.int (nI (P i)))]) C dX5_voteAlong_97 rfl (by decide) rfl ?_
              refine V_goto (tgt := 12) C dX5_voteAlong_100 (by decide) ?_
              refine V_kill (i := 6) (ls1 := [some (.ref (w.2.1 68)), some (.ref (w.2.1 a)), some (.int (nI z)), some (.int (nI rd)), some (.int (nI a1)), some (.int (nI (i + 1))), none, some (.int (nI (P i)))]) rfl ?_
              refine V_kill (i := 7) (ls1 := [some (.ref (w.2.1 68)), some (.ref (w.2.1 a)), some (.int (nI z)), some (.int (nI rd)), some (.int (nI a1)), some (.int (nI (i + 1))), none, none]) rfl ?_
              exact ih12 (i + 1) (ma Y (71 + P (i - 1)) (upd (Y (71 + P (i - 1))) (P i) (nI (vt (P (i - 1)) (P i) + crC K P a1 i (P (i - 1)) (P i) + 1)))) (by omega) (by omega) (by omega) (OutV_put (by omega) hO) (VRc_congr (VRc_add (by omega) (by omega) hVv) (fun a b _ _ => by rw [vote_up h1 (by omega) (by first | exact fun q => absurd q.1 (by assumption) | exact fun q => absurd q.2 (by assumption)), Nat.add_assoc]))
          · refine V_goto (tgt := 97) C dX5_voteAlong_56 (by decide) ?_
            refine V_iincN (a := i) (ls1 := [some (.ref (w.2.1 68)), some (.ref (w.2.1 a)), some (.int (nI z)), some (.int (nI rd)), some (.int (nI a1)), some (.int (nI (i + 1))), some (.int (nI (P (i - 1)))), some (.int (nI (P i)))]) C dX5_voteAlong_97 rfl (by decide) rfl ?_
            refine V_goto (tgt := 12) C dX5_voteAlong_100 (by decide) ?_
            refine V_kill (i := 6) (ls1 := [some (.ref (w.2.1 68)), some (.ref (w.2.1 a)), some (.int (nI z)), some (.int (nI rd)), some (.int (nI a1)), some (.int (nI (i + 1))), none, some (.int (nI (P i)))]) rfl ?_
            refine V_kill (i := 7) (ls1 := [some (.ref (w.2.1 68)), some (.ref (w.2.1 a)), some (.int (nI z)), some (.int (nI rd)), some (.int (nI a1)), some (.int (nI (i + 1))), none, none]) rfl ?_
            exact ih12 (i + 1) Y (by omega) (by omega) (by omega) hO (VRc_congr hVv (fun a b _ _ => by rw [vote_bo h1 ⟨by assumption, by assumption⟩]))
  exact L12 _ 1 X (Nat.lt_succ_self _) (by omega) (by omega) (OutV_rf X) hV
def q_X5_vote (rd : Nat) (X : Mem) (K : Nat) (R : Nat) (PP : Nat → Nat → Nat) (Z : Nat → Nat) (Th : Nat → Prop) : Mem → Prop := fun X' => OutV X X' ∧ VRc X' (vC K (rkc X rd) PP Z Th R)
set_option maxHeartbeats 4000000 in
set_option maxRecDepth 100000 in
theorem k_X5_vote (w : Wt) (l : Launch) (rd : Nat) (X : Mem) (K : Nat) (R : Nat) (PP : Nat → Nat → Nat) (Z : Nat → Nat) (Th : Nat → Prop) (hB : RBc X R PP Z Th) (hn : ∀ a, a < 10 → CoreIs (X 69 a)) (hrd : rd < 3) (hcr : ∀ a, a < 10 → rd ≠ 0 → CoreIs (X (82 + (rd - 1)) a)) (hC : X 68 1 = nI K) (hC1 : K < 1024) : CtU w l yX5_vote cX5_vote 4 none 5 114 [.ref (w.2.1 68), .int (nI rd)] X (q_X5_vote rd X K R PP Z Th) := by
  have hR24 := hB.1
  refine CtU_of (by decide +kernel) (Nat.le_of_ble_eq_true rfl) (List.forall_mem_cons.mpr ⟨rfl, (List.forall_mem_cons.mpr ⟨rfl, (fun _ h => nomatch h)⟩)⟩) (ls := [some (.ref (w.2.1 68)), some (.int (nI rd)), none, none]) rfl (args := (#[.ref (w.2.1 68), .int (nI rd)] : Array Value)) rfl (own := RX5) rfl ?_
  intro p e s m below meth c C
  refine V_iconst (v := (0 : Int32)) C dX5_vote_0 (by decide) ?_
  refine V_istore_n (ls1 := [some (.ref (w.2.1 68)), some (.int (nI rd)), some (.int (0 : Int32)), none]) C dX5_vote_1 (by decide) rfl ?_
  have L2 : ∀ (fu : Nat) (i : Nat) (Y : Mem), 10 - i < fu → (i ≤ 10) → (OutV X Y) → (∀ a b, a < i → b < 10 → Y (71 + a) b = 0) → V p l e ({ frames := 5, cells := 0, slots := 0, locals := 114 } : Room) s m (#[.ref (w.2.1 68), .int (nI rd)] : Array Value) below meth c w 4 0 0 (EU w below s (#[.ref (w.2.1 68), .int (nI rd)] : Array Value) 0 0 (q_X5_vote rd X K R PP Z Th)) 2 [some (.ref (w.2.1 68)), some (.int (nI rd)), some (.int (nI i)), none] [] Y := by
    intro fu
    induction fu with
    | zero => intro i Y hm; exact absurd hm (Nat.not_lt_zero _)
    | succ fu ih2 =>
      intro i Y hm2 hi hO hz
      refine V_iload_n C dX5_vote_2 rfl ?_
      refine V_bipush (v := (10 : Int32)) C dX5_vote_3 (by decide) ?_
      refine V_icmp_geN (a := i) (b := 10) (tgt := 37) C dX5_vote_5 (by decide) (by omega) (by omega) (fun h5_1 => ?_) (fun h5_1 => ?_)
      · refine V_iconst (v := (0 : Int32)) C dX5_vote_37 (by decide) ?_
        refine V_istore_n (ls1 := [some (.ref (w.2.1 68)), some (.int (nI rd)), some (.int (0 : Int32)), none]) C dX5_vote_38 (by decide) rfl ?_
        have L39 : ∀ (fu : Nat) (r : Nat) (Y3 : Mem), R - r < fu → (r ≤ R) → (OutV X Y3) → (VRc Y3 (vC K (rkc X rd) PP Z Th r)) → V p l e ({ frames := 5, cells := 0, slots := 0, locals := 114 } : Room) s m (#[.ref (w.2.1 68), .int (nI rd)] : Array Value) below meth c w 4 0 0 (EU w below s (#[.ref (w.2.1 68), .int (nI rd)] : Array Value) 0 0 (q_X5_vote rd X K R PP Z Th)) 39 [some (.ref (w.2.1 68)), some (.int (nI rd)), some (.int (nI r)), none] [] Y3 := by
          intro fu
          induction fu with
          | zero => intro r Y3 hm; exact absurd hm (Nat.not_lt_zero _)
          | succ fu ih39 =>
            intro r Y3 hm39 hr hO3 hv
            have hO := hO3
            refine V_iload_n C dX5_vote_39 rfl ?_
            refine V_aload_n C dX5_vote_40 rfl ?_
            refine V_getr C fl_X5_27 dX5_vote_41 (by decide) sh_68 rfl ?_
            refine V_geti C fl_X5_44 dX5_vote_44 (by decide) sh_20 rfl ?_
            refine V_eqi (y := nI R) ((RBc_out hO hB).2.1) ?_
            refine V_icmp_geN (a := r) (b := R) (tgt := 90) C dX5_vote_47 (by decide) (by omega) (by omega) (fun h47_2 => ?_) (fun h47_2 => ?_)
            · exact V_returnU C dX5_vote_90 ⟨hO3, (show r = R from by omega) ▸ hv⟩
            · refine V_aload_n C dX5_vote_50 rfl ?_
              refine V_getr C fl_X5_27 dX5_vote_51 (by decide) sh_68 rfl ?_
              refine V_iload_n C dX5_vote_54 rfl ?_
              refine V_callVI C [.int (nI r)] mi_X5_49 (k_X6_tellsRelations w l r Y3 R PP Z Th (RBc_out hO3 hB) (by omega)) dX5_vote_55 sh_20 (by decide) rfl rfl rfl (Nat.le_of_ble_eq_true rfl) (Nat.le_of_ble_eq_true rfl) (Nat.le_of_ble_eq_true rfl) ⟨Nat.le_refl _, Nat.le_refl _⟩ (fun v3 X3 q3 => ?_)
              obtain ⟨hb3, eX3⟩ := q3; subst X3
              refine V_if_eqB (tgt := 84) C hb3 dX5_vote_58 (by decide) (fun h58_4 => ?_) (fun h58_4 => ?_)
              · refine V_iincN (a := r) (ls1 := [some (.ref (w.2.1 68)), some (.int (nI rd)), some (.int (nI (r + 1))), none]) C dX5_vote_84 rfl (by decide) rfl ?_
                refine V_goto (tgt := 39) C dX5_vote_87 (by decide) ?_
                exact ih39 (r + 1) Y3 (by omega) (by omega) hO3 (VRc_congr hv (fun a b _ _ => (vC_s0 (by assumption)).symm))
              · refine V_aload_n C dX5_vote_61 rfl ?_
                refine V_aload_n C dX5_vote_62 rfl ?_
                refine V_getr C fl_X5_27 dX5_vote_63 (by decide) sh_68 rfl ?_
                refine V_getr C fl_X5_53 dX5_vote_66 (by decide) sh_20 rfl ?_
                refine V_iload_n C dX5_vote_69 rfl ?_
                refine V_aaldN (o := r) (q := 23 + r) C dX5_vote_70 sh_22 (by decide) (by omega) (by decide) rfl ?_
                refine V_aload_n C dX5_vote_71 rfl ?_
                refine V_getr C fl_X5_27 dX5_vote_72 (by decide) sh_68 rfl ?_
                refine V_getr C fl_X5_56 dX5_vote_75 (by decide) sh_20 rfl ?_
                refine V_iload_n C dX5_vote_78 rfl ?_
                refine V_ialdN (p0 := 47) (o := r) (v := Y3 47 r) C dX5_vote_79 sh_47 (by decide) (by omega) (by decide) rfl ?_
                have hq5 : 1 ≤ Z r ∧ Z r ≤ 6 := ⟨(hB.2.2 r (by omega)).1, (hB.2.2 r (by omega)).2.1⟩
                refine V_eqi (y := nI (Z r)) (((RBc_out hO hB).2.2 r (by omega)).2.2.1) ?_
                refine V_iload_n C dX5_vote_80 rfl ?_
                refine V_callVU C [.ref (w.2.1 (23 + r)), .int (nI (Z r)), .int (nI rd)] mi_X5_69 (k_X5_voteAlong w l (23 + r) (Z r) rd Y3 6 (PP r) K (vC K (rkc X rd) PP Z Th r) (sh_nets (by omega)) (by decide) (by omega) ((RBc_out hO3 hB).2.2 r (by omega)).2.2.2.1 (by omega) (fun a h => by rw [hO3 69 (by omega)]; exact hn a h) hrd (fun a h h2 => by rw [hO3 (82 + (rd - 1)) (by omega)]; exact hcr a h h2) (by rw [hO3 68 (by omega)]; exact hC) hC1 (by omega) (by omega) hv) dX5_vote_81 sh_68 (by decide) rfl rfl rfl (Nat.le_of_ble_eq_true rfl) (Nat.le_of_ble_eq_true rfl) (Nat.le_of_ble_eq_true rfl) ⟨Nat.le_refl _, Nat.le_refl _⟩ (fun X6 q6 => ?_)
                obtain ⟨hO6, hV6⟩ := q6
                refine V_iincN (a := r) (ls1 := [some (.ref (w.2.1 68)), some (.int (nI rd)), some (.int (nI (r + 1))), none]) C dX5_vote_84 rfl (by decide) rfl ?_
                refine V_goto (tgt := 39) C dX5_vote_87 (by decide) ?_
                exact ih39 (r + 1) X6 (by omega) (by omega) (OutV_tr hO3 hO6) (VRc_congr hV6 (fun a b _ _ => by rw [vC_s1 (by assumption), rkc_out hO3]))
        exact L39 _ 0 Y (Nat.lt_succ_self _) (by omega) hO (fun a b ha hb => hz a b (by omega) hb)
      · refine V_iconst (v := (0 : Int32)) C dX5_vote_8 (by decide) ?_
        refine V_istore_n (ls1 := [some (.ref (w.2.1 68)), some (.int (nI rd)), some (.int (nI i)), some (.int (0 : Int32))]) C dX5_vote_9 (by decide) rfl ?_
        have L10 : ∀ (fu : Nat) (j : Nat) (Y2 : Mem), 10 - j < fu → (j ≤ 10) → (OutV X Y2) → (∀ a b, a < i → b < 10 → Y2 (71 + a) b = 0) → (∀ b, b < j → Y2 (71 + i) b = 0) → V p l e ({ frames := 5, cells := 0, slots := 0, locals := 114 } : Room) s m (#[.ref (w.2.1 68), .int (nI rd)] : Array Value) below meth c w 4 0 0 (EU w below s (#[.ref (w.2.1 68), .int (nI rd)] : Array Value) 0 0 (q_X5_vote rd X K R PP Z Th)) 10 [some (.ref (w.2.1 68)), some (.int (nI rd)), some (.int (nI i)), some (.int (nI j))] [] Y2 := by
          intro fu
          induction fu with
          | zero => intro j Y2 hm; exact absurd hm (Nat.not_lt_zero _)
          | succ fu ih10 =>
            intro j Y2 hm10 hj hO2 hz2 hz3
            refine V_iload_n C dX5_vote_10 rfl ?_
            refine V_bipush (v := (10 : Int32)) C dX5_vote_11 (by decide) ?_
            refine V_icmp_geN (a := j) (b := 10) (tgt := 31) C dX5_vote_13 (by decide) (by omega) (by omega) (fun h13_7 => ?_) (fun h13_7 => ?_)
            · refine V_iincN (a := i) (ls1 := [some (.ref (w.2.1 68)), some (.int (nI rd)), some (.int (nI (i + 1))), some (.int (nI j))]) C dX5_vote_31 rfl (by decide) rfl ?_
              refine V_goto (tgt := 2) C dX5_vote_34 (by decide) ?_
              refine V_kill (i := 3) (ls1 := [some (.ref (w.2.1 68)), some (.int (nI rd)), some (.int (nI (i + 1))), none]) rfl ?_
              exact ih2 (i + 1) Y2 (by omega) (by omega) hO2 (by intro a b h1 h2; rcases lt_succ_or.mp h1 with h1 | rfl; exact hz2 a b h1 h2; exact hz3 b (by omega))
            · refine V_aload_n C dX5_vote_16 rfl ?_
              refine V_getr C fl_X5_21 dX5_vote_17 (by decide) sh_68 rfl ?_
              refine V_iload_n C dX5_vote_20 rfl ?_
              refine V_aaldN (o := i) (q := 71 + i) C dX5_vote_21 sh_70 (by decide) (by omega) (by decide) rfl ?_
              refine V_iload_n C dX5_vote_22 rfl ?_
              refine V_iconst (v := (0 : Int32)) C dX5_vote_23 (by decide) ?_
              refine V_iastN (p0 := 71 + i) (o := j) (X1 := (ma Y2 (71 + i) (upd (Y2 (71 + i)) j (0 : Int32)))) C dX5_vote_24 (sh_votes (by omega)) (by omega) (by omega) (by decide) rfl ?_
              refine V_iincN (a := j) (ls1 := [some (.ref (w.2.1 68)), some (.int (nI rd)), some (.int (nI i)), some (.int (nI (j + 1)))]) C dX5_vote_25 rfl (by decide) rfl ?_
              refine V_goto (tgt := 10) C dX5_vote_28 (by decide) ?_
              exact ih10 (j + 1) (ma Y2 (71 + i) (upd (Y2 (71 + i)) j (0 : Int32))) (by omega) (by omega) (OutV_put (by omega) hO2) (by intro a b h1 h2; rw [ma_ne (by omega)]; exact hz2 a b h1 h2) (by intro b h1; rw [ma_eq]; rcases lt_succ_or.mp h1 with h1 | rfl; rw [upd_ne (by omega)]; exact hz3 b h1; exact upd_eq _ _ _)
        exact L10 _ 0 Y (Nat.lt_succ_self _) (by omega) hO hz (fun b h => absurd h (Nat.not_lt_zero _))
  exact L2 _ 0 X (Nat.lt_succ_self _) (by omega) (OutV_rf X) (fun a b h => absurd h (Nat.not_lt_zero _))
def q_X5_findCustomers (rd : Nat) (X : Mem) (v : Nat → Nat → Nat) : Mem → Prop := fun X' => ∃ cu, X' = ma X (82 + rd) cu ∧ SetRow cu (CuV v)
set_option maxHeartbeats 4000000 in
set_option maxRecDepth 100000 in
theorem k_X5_findCustomers (w : Wt) (l : Launch) (rd : Nat) (X : Mem) (v : Nat → Nat → Nat) (hrd : rd < 3) (hV : VRc X v) (hvb : ∀ a b, v a b ≤ 1000) : CtU w l yX5_findCustomers cX5_findCustomers 4 none 1 20 [.ref (w.2.1 68), .int (nI rd)] X (q_X5_findCustomers rd X v) := by
  refine CtU_of (by decide +kernel) (Nat.le_of_ble_eq_true rfl) (List.forall_mem_cons.mpr ⟨rfl, (List.forall_mem_cons.mpr ⟨rfl, (fun _ h => nomatch h)⟩)⟩) (ls := [some (.ref (w.2.1 68)), some (.int (nI rd)), none, none]) rfl (args := (#[.ref (w.2.1 68), .int (nI rd)] : Array Value)) rfl (own := RX5) rfl ?_
  intro p e s m below meth c C
  refine V_iconst (v := (0 : Int32)) C dX5_findCustomers_0 (by decide) ?_
  refine V_istore_n (ls1 := [some (.ref (w.2.1 68)), some (.int (nI rd)), some (.int (0 : Int32)), none]) C dX5_findCustomers_1 (by decide) rfl ?_
  have L2 : ∀ (fu : Nat) (n : Nat) (cu : Nat → Int32), 10 - n < fu → (n ≤ 10) → (∀ a, a < n → SetIs (cu a) (CuV v a)) → V p l e ({ frames := 1, cells := 0, slots := 0, locals := 20 } : Room) s m (#[.ref (w.2.1 68), .int (nI rd)] : Array Value) below meth c w 4 0 0 (EU w below s (#[.ref (w.2.1 68), .int (nI rd)] : Array Value) 0 0 (q_X5_findCustomers rd X v)) 2 [some (.ref (w.2.1 68)), some (.int (nI rd)), some (.int (nI n)), none] [] (ma X (82 + rd) cu) := by
    intro fu
    induction fu with
    | zero => intro n cu hm; exact absurd hm (Nat.not_lt_zero _)
    | succ fu ih2 =>
      intro n cu hm2 hn hcu
      refine V_iload_n C dX5_findCustomers_2 rfl ?_
      refine V_bipush (v := (10 : Int32)) C dX5_findCustomers_3 (by decide) ?_
      refine V_icmp_geN (a := n) (b := 10) (tgt := 72) C dX5_findCustomers_5 (by decide) (by omega) (by omega) (fun h5_1 => ?_) (fun h5_1 => ?_)
      · exact V_returnU C dX5_findCustomers_72 ⟨cu, rfl, fun a h => hcu a (by omega)⟩
      · refine V_aload_n C dX5_findCustomers_8 rfl ?_
        refine V_getr C fl_X5_24 dX5_findCustomers_9 (by decide) sh_68 rfl ?_
        refine V_iload_n C dX5_findCustomers_12 rfl ?_
        refine V_aaldN (o := rd) (q := 82 + rd) C dX5_findCustomers_13 sh_81 (by decide) (by omega) (by decide) rfl ?_
        refine V_iload_n C dX5_findCustomers_14 rfl ?_
        refine V_iconst (v := (0 : Int32)) C dX5_findCustomers_15 (by decide) ?_
        refine V_iastN (p0 := 82 + rd) (o := n) (X1 := (ma X (82 + rd) (upd (cu) n (0 : Int32)))) C dX5_findCustomers_16 (sh_cust (by omega)) (by omega) (by omega) (by decide) (by rw [ma_ma, ma_eq]) ?_
        refine V_iconst (v := (0 : Int32)) C dX5_findCustomers_17 (by decide) ?_
        refine V_istore_n (ls1 := [some (.ref (w.2.1 68)), some (.int (nI rd)), some (.int (nI n)), some (.int (0 : Int32))]) C dX5_findCustomers_18 (by decide) rfl ?_
        have L19 : ∀ (fu : Nat) (o : Nat) (cu2 : Nat → Int32), 10 - o < fu → (o ≤ 10) → (∀ a, a < n → SetIs (cu2 a) (CuV v a)) → (SetIs (cu2 n) (fun b => b < o ∧ 2 * v n b < v b n)) → V p l e ({ frames := 1, cells := 0, slots := 0, locals := 20 } : Room) s m (#[.ref (w.2.1 68), .int (nI rd)] : Array Value) below meth c w 4 0 0 (EU w below s (#[.ref (w.2.1 68), .int (nI rd)] : Array Value) 0 0 (q_X5_findCustomers rd X v)) 19 [some (.ref (w.2.1 68)), some (.int (nI rd)), some (.int (nI n)), some (.int (nI o))] [] (ma X (82 + rd) cu2) := by
          intro fu
          induction fu with
          | zero => intro o cu2 hm; exact absurd hm (Nat.not_lt_zero _)
          | succ fu ih19 =>
            intro o cu2 hm19 ho hcu2 hcn
            refine V_iload_n C dX5_findCustomers_19 rfl ?_
            refine V_bipush (v := (10 : Int32)) C dX5_findCustomers_20 (by decide) ?_
            refine V_icmp_geN (a := o) (b := 10) (tgt := 66) C dX5_findCustomers_22 (by decide) (by omega) (by omega) (fun h22_2 => ?_) (fun h22_2 => ?_)
            · refine V_iincN (a := n) (ls1 := [some (.ref (w.2.1 68)), some (.int (nI rd)), some (.int (nI (n + 1))), some (.int (nI o))]) C dX5_findCustomers_66 rfl (by decide) rfl ?_
              refine V_goto (tgt := 2) C dX5_findCustomers_69 (by decide) ?_
              refine V_kill (i := 3) (ls1 := [some (.ref (w.2.1 68)), some (.int (nI rd)), some (.int (nI (n + 1))), none]) rfl ?_
              exact ih2 (n + 1) cu2 (by omega) (by omega) (all_succ hcu2 (SetIs_congr hcn (fun b => ⟨fun q => ⟨by omega, q.2⟩, fun q => ⟨by have := q.1; omega, q.2⟩⟩)))
            · refine V_aload_n C dX5_findCustomers_25 rfl ?_
              refine V_getr C fl_X5_21 dX5_findCustomers_26 (by decide) sh_68 rfl ?_
              refine V_iload_n C dX5_findCustomers_29 rfl ?_
              refine V_aaldN (o := o) (q := 71 + o) C dX5_findCustomers_30 sh_70 (by decide) (by omega) (by decide) rfl ?_
              refine V_iload_n C dX5_findCustomers_31 rfl ?_
              refine V_ialdN (p0 := 71 + o) (o := n) (v := X (71 + o) n) C dX5_findCustomers_32 (sh_votes (by omega)) (by omega) (by omega) (by decide) (by rw [ma_ne (show 71 + o ≠ 82 + rd by omega)]) ?_
              have hq3 : v o n ≤ 1000 := hvb _ _
              refine V_eqi (y := nI (v o n)) (hV o n (by omega) (by omega)) ?_
              refine V_iconst (v := (2 : Int32)) C dX5_findCustomers_33 (by decide) ?_
              refine V_aload_n C dX5_findCustomers_34 rfl ?_
              refine V_getr C fl_X5_21 dX5_findCustomers_35 (by decide) sh_68 rfl ?_
              refine V_iload_n C dX5_findCustomers_38 rfl ?_
              refine V_aaldN (o := n) (q := 71 + n) C dX5_findCustomers_39 sh_70 (by decide) (by omega) (by decide) rfl ?_
              refine V_iload_n C dX5_findCustomers_40 rfl ?_
              refine V_ialdN (p0 := 71 + n) (o := o) (v := X (71 + n) o) C dX5_findCustomers_41 (sh_votes (by omega)) (by omega) (by omega) (by decide) (by rw [ma_ne (show 71 + n ≠ 82 + rd by omega)]) ?_
              have hq4 : v n o ≤ 1000 := hvb _ _
              refine V_eqi (y := nI (v n o)) (hV n o (by omega) (by omega)) ?_
              refine V_imulN (a := 2) (b := v n o) C dX5_findCustomers_42 ?_
              refine V_icmp_leN (a := v o n) (b := 2 * (v n o)) (tgt := 60) C dX5_findCustomers_43 (by decide) (by omega) (by omega) (fun h43_5 => ?_) (fun h43_5 => ?_)
              · refine V_iincN (a := o) (ls1 := [some (.ref (w.2.1 68)), some (.int (nI rd)), some (.int (nI n)), some (.int (nI (o + 1)))]) C dX5_findCustomers_60 rfl (by decide) rfl ?_
                refine V_goto (tgt := 19) C dX5_findCustomers_63 (by decide) ?_
                exact ih19 (o + 1) cu2 (by omega) (by omega) hcu2 (SetIs_congr hcn (fun b => ⟨fun q => ⟨by omega, q.2⟩, fun q => ⟨(lt_succ_or.mp q.1).elim id (fun e => by subst e; exact absurd q.2 (by omega)), q.2⟩⟩))
              · refine V_aload_n C dX5_findCustomers_46 rfl ?_
                refine V_getr C fl_X5_24 dX5_findCustomers_47 (by decide) sh_68 rfl ?_
                refine V_iload_n C dX5_findCustomers_50 rfl ?_
                refine V_aaldN (o := rd) (q := 82 + rd) C dX5_findCustomers_51 sh_81 (by decide) (by omega) (by decide) rfl ?_
                refine V_iload_n C dX5_findCustomers_52 rfl ?_
                refine V_dup2 C dX5_findCustomers_53 rfl rfl ?_
                refine V_ialdN (p0 := 82 + rd) (o := n) (v := cu2 n) C dX5_findCustomers_54 (sh_cust (by omega)) (by omega) (by omega) (by decide) (by rw [ma_eq]) ?_
                obtain ⟨a6, ha6, ea6⟩ := (id hcn)
                have ia6 : ix (nI a6) = a6 := ix_nI (by omega)
                refine V_eqi ea6 ?_
                refine V_iconst (v := (1 : Int32)) C dX5_findCustomers_55 (by decide) ?_
                refine V_iload_n C dX5_findCustomers_56 rfl ?_
                refine V_ishl C dX5_findCustomers_57 ?_
                refine V_eqi (y := nI (2 ^ o)) (shl1 (by omega)) ?_
                refine V_ior C dX5_findCustomers_58 ?_
                refine V_eqi (y := nI (a6 ||| (2 ^ o))) (nI_or _ _) ?_
                refine V_iastN (p0 := 82 + rd) (o := n) (X1 := (ma X (82 + rd) (upd (cu2) n (nI (a6 ||| (2 ^ o)))))) C dX5_findCustomers_59 (sh_cust (by omega)) (by omega) (by omega) (by decide) (by rw [ma_ma, ma_eq]) ?_
                refine V_iincN (a := o) (ls1 := [some (.ref (w.2.1 68)), some (.int (nI rd)), some (.int (nI n)), some (.int (nI (o + 1)))]) C dX5_findCustomers_60 rfl (by decide) rfl ?_
                refine V_goto (tgt := 19) C dX5_findCustomers_63 (by decide) ?_
                exact ih19 (o + 1) (upd (cu2) n (nI (a6 ||| (2 ^ o)))) (by omega) (by omega) (fun a h => by rw [upd_ne (by omega)]; exact hcu2 a h) (SetIs_congr (Cu_put hcn (by omega) ea6) (fun b => ⟨fun q => q.elim (fun q => ⟨by omega, q.2⟩) (fun e => by subst e; exact ⟨by omega, by omega⟩), fun q => (lt_succ_or.mp q.1).elim (fun h => Or.inl ⟨h, q.2⟩) Or.inr⟩))
        exact L19 _ 0 (upd (cu) n (0 : Int32)) (Nat.lt_succ_self _) (by omega) (fun a h => by rw [upd_ne (by omega)]; exact hcu a h) (by rw [upd_eq]; exact SetIs_congr SetIs_0 (fun b => ⟨False.elim, fun q => absurd q.1 (Nat.not_lt_zero _)⟩))
  refine V_eqX (X1 := (ma X (82 + rd) (X (82 + rd)))) (ma_id rfl) ?_
  exact L2 _ 0 (X (82 + rd)) (Nat.lt_succ_self _) (by omega) (fun a h => absurd h (Nat.not_lt_zero _))
