def q_X5_voteAlong (a : Nat) (z : Nat) (rd : Nat) (X : Mem) (N : Nat) (P : Nat → Nat) (K : Nat) (vt : Nat → Nat → Nat) : Mem → Prop := fun X' => OutV X X' ∧ VRc X' (fun a b => vt a b + crC K P (tpF K (rkc X rd) P z) z a b)
set_option maxHeartbeats 4000000 in
set_option maxRecDepth 100000 in
theorem k_X5_voteAlong (w : Wt) (l : Launch) (a : Nat) (z : Nat) (rd : Nat) (X : Mem) (N : Nat) (P : Nat → Nat) (K : Nat) (vt : Nat → Nat → Nat) (hsh : sh a = .inl (0, N)) (hN : N ≤ 256) (ha : a < 117) (hP : PA X a P z) (hzN : z ≤ N) (hn : ∀ a, a < 10 → CoreIs (X 69 a)) (hrd : rd < 3) (hcr : ∀ a, a < 10 → rd ≠ 0 → CoreIs (X (82 + (rd - 1)) a)) (hC : X 68 1 = nI K) (hC1 : K < 1024) (hz : 1 ≤ z) (ha69 : a < 69) (hV : VRc X vt) : CtU w l yX5_voteAlong cX5_voteAlong 8 none 4 87 [.ref (w.2.1 68), .ref (w.2.1 a), .int (nI z), .int (nI rd)] X (q_X5_voteAlong a z rd X N P K vt) := by
  refine CtU_of (by decide +kernel) (Nat.le_of_ble_eq_true rfl) (List.forall_mem_cons.mpr ⟨rfl, (List.forall_mem_cons.mpr ⟨rfl, (List.forall_mem_cons.mpr ⟨rfl, (List.forall_mem_cons.mpr ⟨rfl, (fun _ h => nomatch h)⟩)⟩)⟩)⟩) (ls := [some (.ref (w.2.1 68)), some (.ref (w.2.1 a)), some (.int (nI z)), some (.int (nI rd)), none, none, none, none]) rfl (args := (#[.ref (w.2.1 68), .ref (w.2.1 a), .int (nI z), .int (nI rd)] : Array Value)) rfl (own := RX5) rfl ?_
  intro p e s m below meth c C
  refine V_aload_n C dX5_voteAlong_0 rfl ?_
  refine V_aload_n C dX5_voteAlong_1 rfl ?_
  refine V_iload_n C dX5_voteAlong_2 rfl ?_
  refine V_iload_n C dX5_voteAlong_3 rfl ?_
  refine V_callVI C [.ref (w.2.1 a), .int (nI z), .int (nI rd)] mi_X5_73 (k_X5_topOf w l a z rd X N P K hsh hN ha hP hzN hn hrd hcr hC hC1 hz) dX5_voteAlong_4 sh_68 (by decide) rfl rfl rfl (Nat.le_of_ble_eq_true rfl) (Nat.le_of_ble_eq_true rfl) (Nat.le_of_ble_eq_true rfl) ⟨Nat.le_refl _, Nat.le_refl _⟩ (fun v1 X1 q1 => ?_)
  obtain ⟨⟨a1, ev1, ha1⟩, eX1⟩ := q1; subst v1; subst X1
  refine V_istore (ls1 := [some (.ref (w.2.1 68)), some (.ref (w.2.1 a)), some (.int (nI z)), some (.int (nI rd)), some (.int (nI a1)), none, none, none]) C dX5_voteAlong_7 (by decide) rfl ?_
  have ha1l := Top_lt ha1
  refine V_iconst (v := (1 : Int32)) C dX5_voteAlong_9 (by decide) ?_
  refine V_istore (ls1 := [some (.ref (w.2.1 68)), some (.ref (w.2.1 a)), some (.int (nI z)), some (.int (nI rd)), some (.int (nI a1)), some (.int (1 : Int32)), none, none]) C dX5_voteAlong_10 (by decide) rfl ?_
  have L12 : ∀ (fu : Nat) (i : Nat) (Y : Mem), z - i < fu → (1 ≤ i) → (i ≤ z) → (OutV X Y) → (VRc Y (fun a b => vt a b + crC K P a1 i a b)) → V p l e ({ frames := 4, cells := 0, slots := 0, locals := 87 } : Room) s m (#[.ref (w.2.1 68), .ref (w.2.1 a), .int (nI z), .int (nI rd)] : Array Value) below meth c w 8 0 0 (EU w below s (#[.ref (w.2.1 68), .ref (w.2.1 a), .int (nI z), .int (nI rd)] : Array Value) 0 0 (q_X5_voteAlong a z rd X N P K vt)) 12 [some (.ref (w.2.1 68)), some (.ref (w.2.1 a)), some (.int (nI z)), some (.int (nI rd)), some (.int (nI a1)), some (.int (nI i)), none, none] [] Y := by
    intro fu
    induction fu with
    | zero => intro i Y hm; exact absurd hm (Nat.not_lt_zero _)
    | succ fu ih12 =>
      intro i Y hm12 h1 h2 hO hVv
      have ha1l := Top_lt ha1
      refine V_iload C dX5_voteAlong_12 rfl ?_
      refine V_iload_n C dX5_voteAlong_14 rfl ?_
      refine V_icmp_geN (a := i) (b := z) (tgt := 103) C dX5_voteAlong_15 (by decide) (by omega) (by omega) (fun h15_2 => ?_) (fun h15_2 => ?_)
      · exact V_returnU C dX5_voteAlong_103 ⟨hO, VRc_congr hVv (fun a b _ _ => by rw [tpF_is ha1, show i = z by omega])⟩
      · refine V_aload_n C dX5_voteAlong_18 rfl ?_
        refine V_iload C dX5_voteAlong_19 rfl ?_
        refine V_iconst (v := (1 : Int32)) C dX5_voteAlong_21 (by decide) ?_
        refine V_isubN (a := i) (b := 1) C dX5_voteAlong_22 (by omega) ?_
        refine V_ialdN (p0 := a) (o := i - 1) (v := Y a (i - 1)) C dX5_voteAlong_23 hsh ha (by omega) hN rfl ?_
        have hq3 : P (i - 1) < 10 := (hP (i - 1) (by omega)).2
        refine V_eqi (y := nI (P (i - 1))) ((congrFun (hO a (by omega)) _).trans (hP (i - 1) (by omega)).1) ?_
        refine V_istore (ls1 := [some (.ref (w.2.1 68)), some (.ref (w.2.1 a)), some (.int (nI z)), some (.int (nI rd)), some (.int (nI a1)), some (.int (nI i)), some (.int (nI (P (i - 1)))), none]) C dX5_voteAlong_24 (by decide) rfl ?_
        refine V_aload_n C dX5_voteAlong_26 rfl ?_
        refine V_iload C dX5_voteAlong_27 rfl ?_
        refine V_ialdN (p0 := a) (o := i) (v := Y a i) C dX5_voteAlong_29 hsh ha (by omega) hN rfl ?_
        have hq4 : P i < 10 := (hP i (by omega)).2
        refine V_eqi (y := nI (P i)) ((congrFun (hO a (by omega)) _).trans (hP i (by omega)).1) ?_
        refine V_istore (ls1 := [some (.ref (w.2.1 68)), some (.ref (w.2.1 a)), some (.int (nI z)), some (.int (nI rd)), some (.int (nI a1)), some (.int (nI i)), some (.int (nI (P (i - 1)))), some (.int (nI (P i)))]) C dX5_voteAlong_30 (by decide) rfl ?_
        refine V_aload_n C dX5_voteAlong_32 rfl ?_
        refine V_geti C fl_X5_9 dX5_voteAlong_33 (by decide) sh_68 rfl ?_
        refine V_eqi (y := nI K) ((congrFun (hO 68 (by omega)) 1).trans hC) ?_
        refine V_iload C dX5_voteAlong_36 rfl ?_
        refine V_callSI C [.int (nI K), .int (nI (P (i - 1)))] ms_X5_77 (k_X9_isIn w l K (P (i - 1)) Y (by omega) (by omega)) dX5_voteAlong_38 rfl rfl (Nat.le_of_ble_eq_true rfl) (Nat.le_of_ble_eq_true rfl) (Nat.le_of_ble_eq_true rfl) ⟨Nat.le_refl _, Nat.le_refl _⟩ (fun v5 X5 q5 => ?_)
        obtain ⟨hb5, eX5⟩ := q5; subst X5
        refine V_if_eqB (tgt := 59) C hb5 dX5_voteAlong_41 (by decide) (fun h41_6 => ?_) (fun h41_6 => ?_)
        · refine V_iload C dX5_voteAlong_59 rfl ?_
          refine V_iload C dX5_voteAlong_61 rfl ?_
          refine V_icmp_gtN (a := i) (b := a1) (tgt := 83) C dX5_voteAlong_63 (by decide) (by omega) (by omega) (fun h63_7 => ?_) (fun h63_7 => ?_)
          · refine V_aload_n C dX5_voteAlong_83 rfl ?_
            refine V_getr C fl_X5_21 dX5_voteAlong_84 (by decide) sh_68 rfl ?_
            refine V_iload C dX5_voteAlong_87 rfl ?_
            refine V_aaldN (o := P i) (q := 71 + P i) C dX5_voteAlong_89 sh_70 (by decide) (by omega) (by decide) rfl ?_
            refine V_iload C dX5_voteAlong_90 rfl ?_
            refine V_dup2 C dX5_voteAlong_92 rfl rfl ?_
            refine V_ialdN (p0 := 71 + P i) (o := P (i - 1)) (v := Y (71 + P i) (P (i - 1))) C dX5_voteAlong_93 (sh_votes (by omega)) (by omega) (by omega) (by decide) rfl ?_
            refine V_eqi (y := nI (vt (P i) (P (i - 1)) + crC K P a1 i (P i) (P (i - 1)))) (hVv (P i) (P (i - 1)) (by omega) (by omega)) ?_
            refine V_iconst (v := (1 : Int32)) C dX5_voteAlong_94 (by decide) ?_
            refine V_iaddN (a := vt (P i) (P (i - 1)) + crC K P a1 i (P i) (P (i - 1))) (b := 1) C dX5_voteAlong_95 ?_
            refine V_iastN (p0 := 71 + P i) (o := P (i - 1)) (X1 := (ma Y (71 + P i) (upd (Y (71 + P i)) (P (i - 1)) (nI (vt (P i) (P (i - 1)) + crC K P a1 i (P i) (P (i - 1)) + 1))))) C dX5_voteAlong_96 (sh_votes (by omega)) (by omega) (by omega) (by decide) rfl ?_
            refine V_iincN (a := i) (ls1 := [some (.ref (w.2.1 68)), some (.ref (w.2.1 a)), some (.int (nI z)), some (.int (nI rd)), some (.int (nI a1)), some (.int (nI (i + 1))), some (.int (nI (P (i - 1)))), some (.int (nI (P i)))]) C dX5_voteAlong_97 rfl (by decide) rfl ?_
            refine V_goto (tgt := 12) C dX5_voteAlong_100 (by decide) ?_
            refine V_kill (i := 6) (ls1 := [some (.ref (w.2.1 68)), some (.ref (w.2.1 a)), some (.int (nI z)), some (.int (nI rd)), some (.int (nI a1)), some (.int (nI (i + 1))), none, some (.int (nI (P i)))]) rfl ?_
            refine V_kill (i := 7) (ls1 := [some (.ref (w.2.1 68)), some (.ref (w.2.1 a)), some (.int (nI z)), some (.int (nI rd)), some (.int (nI a1)), some (.int (nI (i + 1))), none, none]) rfl ?_
            exact ih12 (i + 1) (ma Y (71 + P i) (upd (Y (71 + P i)) (P (i - 1)) (nI (vt (P i) (P (i - 1)) + crC K P a1 i (P i) (P (i - 1)) + 1)))) (by omega) (by omega) (by omega) (OutV_put (by omega) hO) (VRc_congr (VRc_add (by omega) (by omega) hVv) (fun a b _ _ => by rw [vote_dn h1 (by omega) (by first | exact fun q => absurd q.1 (by assumption) | exact fun q => absurd q.2 (by assumption)), Nat.add_assoc]))
          · refine V_aload_n C dX5_voteAlong_66 rfl ?_
            refine V_getr C fl_X5_21 dX5_voteAlong_67 (by decide) sh_68 rfl ?_
            refine V_iload C dX5_voteAlong_70 rfl ?_
            refine V_aaldN (o := P (i - 1)) (q := 71 + P (i - 1)) C dX5_voteAlong_72 sh_70 (by decide) (by omega) (by decide) rfl ?_
            refine V_iload C dX5_voteAlong_73 rfl ?_
            refine V_dup2 C dX5_voteAlong_75 rfl rfl ?_
            refine V_ialdN (p0 := 71 + P (i - 1)) (o := P i) (v := Y (71 + P (i - 1)) (P i)) C dX5_voteAlong_76 (sh_votes (by omega)) (by omega) (by omega) (by decide) rfl ?_
            refine V_eqi (y := nI (vt (P (i - 1)) (P i) + crC K P a1 i (P (i - 1)) (P i))) (hVv (P (i - 1)) (P i) (by omega) (by omega)) ?_
            refine V_iconst (v := (1 : Int32)) C dX5_voteAlong_77 (by decide) ?_
            refine V_iaddN (a := vt (P (i - 1)) (P i) + crC K P a1 i (P (i - 1)) (P i)) (b := 1) C dX5_voteAlong_78 ?_
            refine V_iastN (p0 := 71 + P (i - 1)) (o := P i) (X1 := (ma Y (71 + P (i - 1)) (upd (Y (71 + P (i - 1))) (P i) (nI (vt (P (i - 1)) (P i) + crC K P a1 i (P (i - 1)) (P i) + 1))))) C dX5_voteAlong_79 (sh_votes (by omega)) (by omega) (by omega) (by decide) rfl ?_
            refine V_goto (tgt := 97) C dX5_voteAlong_80 (by decide) ?_
            refine V_iincN (a := i) (ls1 := [some (.ref (w.2.1 68)), some (.ref (w.2.1 a)), some (.int (nI z)), some (.int (nI rd)), some (.int (nI a1)), some (.int (nI (i + 1))), some (.int (nI (P (i - 1)))), some (.int (nI (P i)))]) C dX5_voteAlong_97 rfl (by decide) rfl ?_
            refine V_goto (tgt := 12) C dX5_voteAlong_100 (by decide) ?_
            refine V_kill (i := 6) (ls1 := [some (.ref (w.2.1 68)), some (.ref (w.2.1 a)), some (.int (nI z)), some (.int (nI rd)), some (.int (nI a1)), some (.int (nI (i + 1))), none, some (.int (nI (P i)))]) rfl ?_
            refine V_kill (i := 7) (ls1 := [some (.ref (w.2.1 68)), some (.ref (w.2.1 a)), some (.int (nI z)), some (.int (nI rd)), some (.int (nI a1)), some (.int (nI (i + 1))), none, none]) rfl ?_
            exact ih12 (i + 1) (ma Y (71 + P (i - 1)) (upd (Y (71 + P (i - 1))) (P i) (nI (vt (P (i - 1)) (P i) + crC K P a1 i (P (i - 1)) (P i) + 1)))) (by omega) (by omega) (by omega) (OutV_put (by omega) hO) (VRc_congr (VRc_add (by omega) (by omega) hVv) (fun a b _ _ => by rw [vote_up h1 (by omega) (by first | exact fun q => absurd q.1 (by assumption) | exact fun q => absurd q.2 (by assumption)), Nat.add_assoc]))
        · refine V_aload_n C dX5_voteAlong_44 rfl ?_
          refine V_geti C fl_X5_9 dX5_voteAlong_45 (by decide) sh_68 rfl ?_
          refine V_eqi (y := nI K) ((congrFun (hO 68 (by omega)) 1).trans hC) ?_
          refine V_iload C dX5_voteAlong_48 rfl ?_
          refine V_callSI C [.int (nI K), .int (nI (P i))] ms_X5_77 (k_X9_isIn w l K (P i) Y (by omega) (by omega)) dX5_voteAlong_50 rfl rfl (Nat.le_of_ble_eq_true rfl) (Nat.le_of_ble_eq_true rfl) (Nat.le_of_ble_eq_true rfl) ⟨Nat.le_refl _, Nat.le_refl _⟩ (fun v8 X8 q8 => ?_)
          obtain ⟨hb8, eX8⟩ := q8; subst X8
          refine V_if_eqB (tgt := 59) C hb8 dX5_voteAlong_53 (by decide) (fun h53_9 => ?_) (fun h53_9 => ?_)
          · refine V_iload C dX5_voteAlong_59 rfl ?_
            refine V_iload C dX5_voteAlong_61 rfl ?_
            refine V_icmp_gtN (a := i) (b := a1) (tgt := 83) C dX5_voteAlong_63 (by decide) (by omega) (by omega) (fun h63_10 => ?_) (fun h63_10 => ?_)
            · refine V_aload_n C dX5_voteAlong_83 rfl ?_
              refine V_getr C fl_X5_21 dX5_voteAlong_84 (by decide) sh_68 rfl ?_
              refine V_iload C dX5_voteAlong_87 rfl ?_
              refine V_aaldN (o := P i) (q := 71 + P i) C dX5_voteAlong_89 sh_70 (by decide) (by omega) (by decide) rfl ?_
              refine V_iload C dX5_voteAlong_90 rfl ?_
              refine V_dup2 C dX5_voteAlong_92 rfl rfl ?_
              refine V_ialdN (p0 := 71 + P i) (o := P (i - 1)) (v := Y (71 + P i) (P (i - 1))) C dX5_voteAlong_93 (sh_votes (by omega)) (by omega) (by omega) (by decide) rfl ?_
              refine V_eqi (y := nI (vt (P i) (P (i - 1)) + crC K P a1 i (P i) (P (i - 1)))) (hVv (P i) (P (i - 1)) (by omega) (by omega)) ?_
              refine V_iconst (v := (1 : Int32)) C dX5_voteAlong_94 (by decide) ?_
              refine V_iaddN (a := vt (P i) (P (i - 1)) + crC K P a1 i (P i) (P (i - 1))) (b := 1) C dX5_voteAlong_95 ?_
              refine V_iastN (p0 := 71 + P i) (o := P (i - 1)) (X1 := (ma Y (71 + P i) (upd (Y (71 + P i)) (P (i - 1)) (nI (vt (P i) (P (i - 1)) + crC K P a1 i (P i) (P (i - 1)) + 1))))) C dX5_voteAlong_96 (sh_votes (by omega)) (by omega) (by omega) (by decide) rfl ?_
              refine V_iincN (a := i) (ls1 := [some (.ref (w.2.1 68)), some (.ref (w.2.1 a)), some (.int (nI z)), some (.int (nI rd)), some (.int (nI a1)), some (.int (nI (i + 1))), some (.int (nI (P (i - 1)))), some (.int (nI (P i)))]) C dX5_voteAlong_97 rfl (by decide) rfl ?_
              refine V_goto (tgt := 12) C dX5_voteAlong_100 (by decide) ?_
              refine V_kill (i := 6) (ls1 := [some (.ref (w.2.1 68)), some (.ref (w.2.1 a)), some (.int (nI z)), some (.int (nI rd)), some (.int (nI a1)), some (.int (nI (i + 1))), none, some (.int (nI (P i)))]) rfl ?_
              refine V_kill (i := 7) (ls1 := [some (.ref (w.2.1 68)), some (.ref (w.2.1 a)), some (.int (nI z)), some (.int (nI rd)), some (.int (nI a1)), some (.int (nI (i + 1))), none, none]) rfl ?_
              exact ih12 (i + 1) (ma Y (71 + P i) (upd (Y (71 + P i)) (P (i - 1)) (nI (vt (P i) (P (i - 1)) + crC K P a1 i (P i) (P (i - 1)) + 1)))) (by omega) (by omega) (by omega) (OutV_put (by omega) hO) (VRc_congr (VRc_add (by omega) (by omega) hVv) (fun a b _ _ => by rw [vote_dn h1 (by omega) (by first | exact fun q => absurd q.1 (by assumption) | exact fun q => absurd q.2 (by assumption)), Nat.add_assoc]))
            · refine V_aload_n C dX5_voteAlong_66 rfl ?_
              refine V_getr C fl_X5_21 dX5_voteAlong_67 (by decide) sh_68 rfl ?_
              refine V_iload C dX5_voteAlong_70 rfl ?_
              refine V_aaldN (o := P (i - 1)) (q := 71 + P (i - 1)) C dX5_voteAlong_72 sh_70 (by decide) (by omega) (by decide) rfl ?_
              refine V_iload C dX5_voteAlong_73 rfl ?_
              refine V_dup2 C dX5_voteAlong_75 rfl rfl ?_
              refine V_ialdN (p0 := 71 + P (i - 1)) (o := P i) (v := Y (71 + P (i - 1)) (P i)) C dX5_voteAlong_76 (sh_votes (by omega)) (by omega) (by omega) (by decide) rfl ?_
              refine V_eqi (y := nI (vt (P (i - 1)) (P i) + crC K P a1 i (P (i - 1)) (P i))) (hVv (P (i - 1)) (P i) (by omega) (by omega)) ?_
              refine V_iconst (v := (1 : Int32)) C dX5_voteAlong_77 (by decide) ?_
              refine V_iaddN (a := vt (P (i - 1)) (P i) + crC K P a1 i (P (i - 1)) (P i)) (b := 1) C dX5_voteAlong_78 ?_
              refine V_iastN (p0 := 71 + P (i - 1)) (o := P i) (X1 := (ma Y (71 + P (i - 1)) (upd (Y (71 + P (i - 1))) (P i) (nI (vt (P (i - 1)) (P i) + crC K P a1 i (P (i - 1)) (P i) + 1))))) C dX5_voteAlong_79 (sh_votes (by omega)) (by omega) (by omega) (by decide) rfl ?_
              refine V_goto (tgt := 97) C dX5_voteAlong_80 (by decide) ?_
              refine V_iincN (a := i) (ls1 := [some (.ref (w.2.1 68)), some (.ref (w.2.1 a)), some (.int (nI z)), some (.int (nI rd)), some (.int (nI a1)), some (.int (nI (i + 1))), some (.int (nI (P (i - 1)))), some (.int (nI (P i)))]) C dX5_voteAlong_97 rfl (by decide) rfl ?_
              refine V_goto (tgt := 12) C dX5_voteAlong_100 (by decide) ?_
              refine V_kill (i := 6) (ls1 := [some (.ref (w.2.1 68)), some (.ref (w.2.1 a)), some (.int (nI z)), some (.int (nI rd)), some (.int (nI a1)), some (.int (nI (i + 1))), none, some (.int (nI (P i)))]) rfl ?_
              refine V_kill (i := 7) (ls1 := [some (.ref (w.2.1 68)), some (.ref (w.2.1 a)), some (.int (nI z)), some (.int (nI rd)), some (.int (nI a1)), some (.int (nI (i + 1))), none, none]) rfl ?_
              exact ih12 (i + 1) (ma Y (71 + P (i - 1)) (upd (Y (71 + P (i - 1))) (P i) (nI (vt (P (i - 1)) (P i) + crC K P a1 i (P (i - 1)) (P i) + 1)))) (by omega) (by omega) (by omega) (OutV_put (by omega) hO) (VRc_congr (VRc_add (by omega) (by omega) hVv) (fun a b _ _ => by rw [vote_up h1 (by omega) (by first | exact fun q => absurd q.1 (by assumption) | exact fun q => absurd q.2 (by assumption)), Nat.add_assoc]))
          · refine V_goto (tgt := 97) C dX5_voteAlong_56 (by decide) ?_
            refine V_iincN (a := i) (ls1 := [some (.ref (w.2.1 68)), some (.ref (w.2.1 a)), some (.int (nI z)), some (.int (nI rd)), some (.int (nI a1)), some (.int (nI (i + 1))), some (.int (nI (P (i - 1)))), some (.int (nI (P i)))]) C dX5_voteAlong_97 rfl (by decide) rfl ?_
            refine V_goto (tgt := 12) C dX5_voteAlong_100 (by decide) ?_
            refine V_kill (i := 6) (ls1 := [some (.ref (w.2.1 68)), some (.ref (w.2.1 a)), some (.int (nI z)), some (.int (nI rd)), some (.int (nI a1)), some (.int (nI (i + 1))), none, some (.int (nI (P i)))]) rfl ?_
            refine V_kill (i := 7) (ls1 := [some (.ref (w.2.1 68)), some (.ref (w.2.1 a)), some (.int (nI z)), some (.int (nI rd)), some (.int (nI a1)), some (.int (nI (i + 1))), none, none]) rfl ?_
            exact ih12 (i + 1) Y (by omega) (by omega) (by omega) hO (VRc_congr hVv (fun a b _ _ => by rw [vote_bo h1 ⟨by assumption, by assumption⟩]))
  exact L12 _ 1 X (Nat.lt_succ_self _) (by omega) (by omega) (OutV_rf X) hV
