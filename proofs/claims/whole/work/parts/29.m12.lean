def q_X10_count (s0 : Nat) (X : Mem) : Int32 → Mem → Prop := fun r X' => r = nI (cntB s0) ∧ X' = X
set_option maxHeartbeats 4000000 in
set_option maxRecDepth 100000 in
theorem k_X10_count (w : Wt) (l : Launch) (s0 : Nat) (X : Mem) (hs : s0 < 1024) : CtI w l yX10_count cX10_count 3 (some .int) 1 20 [.int (nI s0)] X (q_X10_count s0 X) := by
  refine CtI_of (by decide +kernel) (Nat.le_of_ble_eq_true rfl) (List.forall_mem_cons.mpr ⟨rfl, (fun _ h => nomatch h)⟩) (ls := [some (.int (nI s0)), none, none]) rfl (args := (#[.int (nI s0)] : Array Value)) rfl (own := RX10) rfl ?_
  intro p e s m below meth c C
  refine V_iconst (v := (0 : Int32)) C dX10_count_0 (by decide) ?_
  refine V_istore_n (ls1 := [some (.int (nI s0)), some (.int (0 : Int32)), none]) C dX10_count_1 (by decide) rfl ?_
  refine V_iconst (v := (0 : Int32)) C dX10_count_2 (by decide) ?_
  refine V_istore_n (ls1 := [some (.int (nI s0)), some (.int (0 : Int32)), some (.int (0 : Int32))]) C dX10_count_3 (by decide) rfl ?_
  have L4 : ∀ (fu : Nat) (k : Nat) (n0 : Nat), 10 - k < fu → (k ≤ 10) → (n0 = sumN (fun k => s0 / 2 ^ k % 2) k) → V p l e ({ frames := 1, cells := 0, slots := 0, locals := 20 } : Room) s m (#[.int (nI s0)] : Array Value) below meth c w 3 0 0 (EI w below s (#[.int (nI s0)] : Array Value) 0 0 (q_X10_count s0 X)) 4 [some (.int (nI s0)), some (.int (nI n0)), some (.int (nI k))] [] X := by
    intro fu
    induction fu with
    | zero => intro k n0 hm; exact absurd hm (Nat.not_lt_zero _)
    | succ fu ih4 =>
      intro k n0 hm4 hk hn
      refine V_iload_n C dX10_count_4 rfl ?_
      refine V_bipush (v := (10 : Int32)) C dX10_count_5 (by decide) ?_
      refine V_icmp_geN (a := k) (b := 10) (tgt := 24) C dX10_count_7 (by decide) (by omega) (by omega) (fun h7_1 => ?_) (fun h7_1 => ?_)
      · refine V_iload_n C dX10_count_24 rfl ?_
        exact V_ireturnI C dX10_count_25 ⟨by rw [hn, show k = 10 by omega]; rfl, rfl⟩
      · refine V_iload_n C dX10_count_10 rfl ?_
        refine V_iload_n C dX10_count_11 rfl ?_
        refine V_iload_n C dX10_count_12 rfl ?_
        refine V_ishr C dX10_count_13 ?_
        refine V_iconst (v := (1 : Int32)) C dX10_count_14 (by decide) ?_
        refine V_iand C dX10_count_15 ?_
        refine V_eqi (y := nI (s0 / 2 ^ k % 2)) (bit_val (by omega) (by omega)) ?_
        refine V_iaddN (a := n0) (b := s0 / 2 ^ k % 2) C dX10_count_16 ?_
        refine V_istore_n (ls1 := [some (.int (nI s0)), some (.int (nI (n0 + (s0 / 2 ^ k % 2)))), some (.int (nI k))]) C dX10_count_17 (by decide) rfl ?_
        refine V_iincN (a := k) (ls1 := [some (.int (nI s0)), some (.int (nI (n0 + (s0 / 2 ^ k % 2)))), some (.int (nI (k + 1)))]) C dX10_count_18 rfl (by decide) rfl ?_
        refine V_goto (tgt := 4) C dX10_count_21 (by decide) ?_
        exact ih4 (k + 1) (n0 + (s0 / 2 ^ k % 2)) (by omega) (by omega) (by rw [hn]; rfl)
  exact L4 _ 0 0 (Nat.lt_succ_self _) (by omega) rfl
def q_X10_isUsed (r : Nat) (X : Mem) (R : Nat) (PP : Nat → Nat → Nat) (Z : Nat → Nat) (Th : Nat → Prop) : Int32 → Mem → Prop := fun v X' => bI (Us PP Z Th r) v ∧ X' = X
set_option maxHeartbeats 4000000 in
set_option maxRecDepth 100000 in
theorem k_X10_isUsed (w : Wt) (l : Launch) (r : Nat) (X : Mem) (R : Nat) (PP : Nat → Nat → Nat) (Z : Nat → Nat) (Th : Nat → Prop) (hB : RBm X R PP Z Th) (hr : r < R) : CtI w l yX10_isUsed cX10_isUsed 2 (some .boolean) 2 45 [.ref (w.2.1 85), .int (nI r)] X (q_X10_isUsed r X R PP Z Th) := by
  have hR24 := hB.1
  refine CtI_of (by decide +kernel) (Nat.le_of_ble_eq_true rfl) (List.forall_mem_cons.mpr ⟨rfl, (List.forall_mem_cons.mpr ⟨rfl, (fun _ h => nomatch h)⟩)⟩) (ls := [some (.ref (w.2.1 85)), some (.int (nI r))]) rfl (args := (#[.ref (w.2.1 85), .int (nI r)] : Array Value)) rfl (own := RX10) rfl ?_
  intro p e s m below meth c C
  refine V_aload_n C dX10_isUsed_0 rfl ?_
  refine V_getr C fl_X10_72 dX10_isUsed_1 (by decide) sh_85 rfl ?_
  refine V_iload_n C dX10_isUsed_4 rfl ?_
  refine V_baldN (p0 := 105) (o := r) (v := X 105 r) C dX10_isUsed_5 sh_105 (by decide) (by omega) (by decide) rfl ?_
  refine V_if_eq (x := X 105 r) (tgt := 33) C dX10_isUsed_6 (by decide) (fun h6_1 => ?_) (fun h6_1 => ?_)
  · refine V_iconst (v := (0 : Int32)) C dX10_isUsed_33 (by decide) ?_
    exact V_zreturnI C dX10_isUsed_34 (Or.inl rfl) (by first | exact ⟨bI.f (fun q => absurd (by assumption) ((hB.2.2 r hr).2.2.2.2.mpr q.1)), rfl⟩ | exact ⟨bI.f (fun q => absurd (by assumption) q.2), rfl⟩)
  · refine V_aload_n C dX10_isUsed_9 rfl ?_
    refine V_getr C fl_X10_60 dX10_isUsed_10 (by decide) sh_85 rfl ?_
    refine V_bipush (v := (6 : Int32)) C dX10_isUsed_13 (by decide) ?_
    refine V_iload_n C dX10_isUsed_15 rfl ?_
    refine V_imulN (a := 6) (b := r) C dX10_isUsed_16 ?_
    refine V_aload_n C dX10_isUsed_17 rfl ?_
    refine V_getr C fl_X10_63 dX10_isUsed_18 (by decide) sh_85 rfl ?_
    refine V_iload_n C dX10_isUsed_21 rfl ?_
    refine V_ialdN (p0 := 102) (o := r) (v := X 102 r) C dX10_isUsed_22 sh_102 (by decide) (by omega) (by decide) rfl ?_
    have hq2 : 1 ≤ Z r ∧ Z r ≤ 6 := ⟨(hB.2.2 r (by omega)).1, (hB.2.2 r (by omega)).2.1⟩
    refine V_eqi (y := nI (Z r)) ((hB.2.2 r (by omega)).2.2.1) ?_
    refine V_callSI C [.ref (w.2.1 101), .int (nI (6 * r)), .int (nI (Z r))] ms_X10_192 (k_X10_runsRound w l 101 (6 * r) (Z r) X 144 (PP r) sh_101 (by decide) (by decide) (hB.2.2 r hr).2.2.2.1 (by omega)) dX10_isUsed_23 rfl rfl (Nat.le_of_ble_eq_true rfl) (Nat.le_of_ble_eq_true rfl) (Nat.le_of_ble_eq_true rfl) ⟨Nat.le_refl _, Nat.le_refl _⟩ (fun v3 X3 q3 => ?_)
    obtain ⟨hb3, eX3⟩ := q3; subst X3
    refine V_if_neB (tgt := 33) C hb3 dX10_isUsed_26 (by decide) (fun h26_4 => ?_) (fun h26_4 => ?_)
    · refine V_iconst (v := (0 : Int32)) C dX10_isUsed_33 (by decide) ?_
      exact V_zreturnI C dX10_isUsed_34 (Or.inl rfl) (by first | exact ⟨bI.f (fun q => absurd (by assumption) ((hB.2.2 r hr).2.2.2.2.mpr q.1)), rfl⟩ | exact ⟨bI.f (fun q => absurd (by assumption) q.2), rfl⟩)
    · refine V_iconst (v := (1 : Int32)) C dX10_isUsed_29 (by decide) ?_
      refine V_goto (tgt := 34) C dX10_isUsed_30 (by decide) ?_
      exact V_zreturnI C dX10_isUsed_34 (Or.inr rfl) ⟨bI.t ⟨(hB.2.2 r hr).2.2.2.2.mp (by assumption), by assumption⟩, rfl⟩
def q_X10_nears (X : Mem) (R : Nat) (PP : Nat → Nat → Nat) (Z : Nat → Nat) (Th : Nat → Prop) : Mem → Prop := fun X' => ∃ nb, X' = ma (ma X 111 nb) 85 (upd (X 85) 35 (coreO nb 10 0)) ∧ SetRow nb (Nb R PP Z Th)
set_option maxHeartbeats 4000000 in
set_option maxRecDepth 100000 in
theorem k_X10_nears (w : Wt) (l : Launch) (X : Mem) (R : Nat) (PP : Nat → Nat → Nat) (Z : Nat → Nat) (Th : Nat → Prop) (hB : RBm X R PP Z Th) : CtU w l yX10_nears cX10_nears 3 none 3 66 [.ref (w.2.1 85)] X (q_X10_nears X R PP Z Th) := by
  have hR24 := hB.1
  refine CtU_of (by decide +kernel) (Nat.le_of_ble_eq_true rfl) (List.forall_mem_cons.mpr ⟨rfl, (fun _ h => nomatch h)⟩) (ls := [some (.ref (w.2.1 85)), none, none]) rfl (args := (#[.ref (w.2.1 85)] : Array Value)) rfl (own := RX10) rfl ?_
  intro p e s m below meth c C
  refine V_iconst (v := (0 : Int32)) C dX10_nears_0 (by decide) ?_
  refine V_istore_n (ls1 := [some (.ref (w.2.1 85)), some (.int (0 : Int32)), none]) C dX10_nears_1 (by decide) rfl ?_
  have L2 : ∀ (fu : Nat) (q0 : Nat) (n0 : Nat → Int32), 10 - q0 < fu → (q0 ≤ 10) → (∀ a, a < q0 → n0 a = 0) → V p l e ({ frames := 3, cells := 0, slots := 0, locals := 66 } : Room) s m (#[.ref (w.2.1 85)] : Array Value) below meth c w 3 0 0 (EU w below s (#[.ref (w.2.1 85)] : Array Value) 0 0 (q_X10_nears X R PP Z Th)) 2 [some (.ref (w.2.1 85)), some (.int (nI q0)), none] [] (ma X 111 n0) := by
    intro fu
    induction fu with
    | zero => intro q0 n0 hm; exact absurd hm (Nat.not_lt_zero _)
    | succ fu ih2 =>
      intro q0 n0 hm2 hq hz
      refine V_iload_n C dX10_nears_2 rfl ?_
      refine V_bipush (v := (10 : Int32)) C dX10_nears_3 (by decide) ?_
      refine V_icmp_geN (a := q0) (b := 10) (tgt := 21) C dX10_nears_5 (by decide) (by omega) (by omega) (fun h5_1 => ?_) (fun h5_1 => ?_)
      · refine V_iconst (v := (0 : Int32)) C dX10_nears_21 (by decide) ?_
        refine V_istore_n (ls1 := [some (.ref (w.2.1 85)), some (.int (0 : Int32)), none]) C dX10_nears_22 (by decide) rfl ?_
        have L23 : ∀ (fu : Nat) (r : Nat) (nb : Nat → Int32), R - r < fu → (r ≤ R) → (SetRow nb (Nb r PP Z Th)) → V p l e ({ frames := 3, cells := 0, slots := 0, locals := 66 } : Room) s m (#[.ref (w.2.1 85)] : Array Value) below meth c w 3 0 0 (EU w below s (#[.ref (w.2.1 85)] : Array Value) 0 0 (q_X10_nears X R PP Z Th)) 23 [some (.ref (w.2.1 85)), some (.int (nI r)), none] [] (ma X 111 nb) := by
          intro fu
          induction fu with
          | zero => intro r nb hm; exact absurd hm (Nat.not_lt_zero _)
          | succ fu ih23 =>
            intro r nb hm23 hr hnb
            refine V_iload_n C dX10_nears_23 rfl ?_
            refine V_aload_n C dX10_nears_24 rfl ?_
            refine V_geti C fl_X10_154 dX10_nears_25 (by decide) sh_85 rfl ?_
            refine V_eqi (y := X 85 25) rfl ?_
            refine V_eqi (y := nI R) hB.2.1 ?_
            refine V_icmp_geN (a := r) (b := R) (tgt := 121) C dX10_nears_28 (by decide) (by omega) (by omega) (fun h28_2 => ?_) (fun h28_2 => ?_)
            · have hnb : SetRow nb (Nb R PP Z Th) := (show r = R from by omega) ▸ hnb
              refine V_aload_n C dX10_nears_121 rfl ?_
              refine V_iconst (v := (0 : Int32)) C dX10_nears_122 (by decide) ?_
              refine V_put C fp_X10_223 dX10_nears_123 (by decide) sh_85 rfl ?_
              refine V_eqX (X1 := (ma (ma X 111 nb) 85 (upd (X 85) 35 (0 : Int32)))) rfl ?_
              refine V_bipush (v := (10 : Int32)) C dX10_nears_126 (by decide) ?_
              refine V_istore_n (ls1 := [some (.ref (w.2.1 85)), some (.int (10 : Int32)), none]) C dX10_nears_128 (by decide) rfl ?_
              have L129 : ∀ (fu : Nat) (d : Nat) (co : Int32), d < fu → (d ≤ 10) → (coreO nb d co = coreO nb 10 0) → V p l e ({ frames := 3, cells := 0, slots := 0, locals := 66 } : Room) s m (#[.ref (w.2.1 85)] : Array Value) below meth c w 3 0 0 (EU w below s (#[.ref (w.2.1 85)] : Array Value) 0 0 (q_X10_nears X R PP Z Th)) 129 [some (.ref (w.2.1 85)), some (.int (nI d)), none] [] (ma (ma X 111 nb) 85 (upd (X 85) 35 co)) := by
                intro fu
                induction fu with
                | zero => intro d co hm; exact absurd hm (Nat.not_lt_zero _)
                | succ fu ih129 =>
                  intro d co hm129 hd hC
                  refine V_iload_n C dX10_nears_129 rfl ?_
                  refine V_if_leN (a := d) (tgt := 198) C dX10_nears_130 (by decide) (by omega) (fun h130_3 => ?_) (fun h130_3 => ?_)
                  · exact V_returnU C dX10_nears_198 ⟨nb, by rw [core_fin hC (by omega)], hnb⟩
                  · refine V_iconst (v := (0 : Int32)) C dX10_nears_133 (by decide) ?_
                    refine V_istore_n (ls1 := [some (.ref (w.2.1 85)), some (.int (nI d)), some (.int (0 : Int32))]) C dX10_nears_134 (by decide) rfl ?_
                    have L135 : ∀ (fu : Nat) (n2 : Nat) (co2 : Int32), 10 - n2 < fu → (n2 ≤ 10) → (coreI nb d co n2 = co2) → V p l e ({ frames := 3, cells := 0, slots := 0, locals := 66 } : Room) s m (#[.ref (w.2.1 85)] : Array Value) below meth c w 3 0 0 (EU w below s (#[.ref (w.2.1 85)] : Array Value) 0 0 (q_X10_nears X R PP Z Th)) 135 [some (.ref (w.2.1 85)), some (.int (nI d)), some (.int (nI n2))] [] (ma (ma X 111 nb) 85 (upd (X 85) 35 co2)) := by
                      intro fu
                      induction fu with
                      | zero => intro n2 co2 hm; exact absurd hm (Nat.not_lt_zero _)
                      | succ fu ih135 =>
                        intro n2 co2 hm135 hn2 hI
                        refine V_iload_n C dX10_nears_135 rfl ?_
                        refine V_bipush (v := (10 : Int32)) C dX10_nears_136 (by decide) ?_
                        refine V_icmp_geN (a := n2) (b := 10) (tgt := 192) C dX10_nears_138 (by decide) (by omega) (by omega) (fun h138_4 => ?_) (fun h138_4 => ?_)
                        · refine V_iincD (a := d) (ls1 := [some (.ref (w.2.1 85)), some (.int (nI (d - 1))), some (.int (nI n2))]) C dX10_nears_192 rfl (by omega) (by decide) rfl ?_
                          refine V_goto (tgt := 129) C dX10_nears_195 (by decide) ?_
                          refine V_kill (i := 2) (ls1 := [some (.ref (w.2.1 85)), some (.int (nI (d - 1))), none]) rfl ?_
                          exact ih129 (d - 1) co2 (by omega) (by omega) (by rw [← hC, ← hI]; obtain ⟨e, rfl⟩ : ∃ e, d = e + 1 := ⟨d - 1, by omega⟩; rw [show n2 = 10 by omega]; rfl)
                        · refine V_aload_n C dX10_nears_141 rfl ?_
                          refine V_dup C dX10_nears_142 rfl ?_
                          refine V_geti C fl_X10_223 dX10_nears_143 (by decide) sh_85 rfl ?_
                          refine V_eqi (y := co2) rfl ?_
                          refine V_aload_n C dX10_nears_146 rfl ?_
                          refine V_getr C fl_X10_90 dX10_nears_147 (by decide) sh_85 rfl ?_
                          refine V_iload_n C dX10_nears_150 rfl ?_
                          refine V_ialdN (p0 := 111) (o := n2) (v := nb n2) C dX10_nears_151 sh_111 (by decide) (by omega) (by decide) rfl ?_
                          obtain ⟨a5, ha5, ea5⟩ := hnb n2 (by omega)
                          have ia5 : ix (nI a5) = a5 := ix_nI (by omega)
                          refine V_eqi ea5 ?_
                          refine V_callSI C [.int (nI a5)] ms_X10_226 (k_X10_count w l a5 (ma (ma X 111 nb) 85 (upd (X 85) 35 co2)) (by omega)) dX10_nears_152 rfl rfl (Nat.le_of_ble_eq_true rfl) (Nat.le_of_ble_eq_true rfl) (Nat.le_of_ble_eq_true rfl) ⟨Nat.le_refl _, Nat.le_refl _⟩ (fun v6 X6 q6 => ?_)
                          obtain ⟨ev6, eX6⟩ := q6; subst X6; subst v6
                          have hle6 := cntB_le a5
                          refine V_iload_n C dX10_nears_155 rfl ?_
                          refine V_icmp_neN (a := cntB a5) (b := d) (tgt := 181) C dX10_nears_156 (by decide) (by omega) (by omega) (fun h156_7 => ?_) (fun h156_7 => ?_)
                          · refine V_iconst (v := (0 : Int32)) C dX10_nears_181 (by decide) ?_
                            refine V_ior C dX10_nears_182 ?_
                            refine V_eqi (y := co2) (or_zero _) ?_
                            refine V_put C fp_X10_223 dX10_nears_183 (by decide) sh_85 rfl ?_
                            refine V_eqX (X1 := (ma (ma X 111 nb) 85 (upd (X 85) 35 co2))) ma_uu ?_
                            refine V_iincN (a := n2) (ls1 := [some (.ref (w.2.1 85)), some (.int (nI d)), some (.int (nI (n2 + 1)))]) C dX10_nears_186 rfl (by decide) rfl ?_
                            refine V_goto (tgt := 135) C dX10_nears_189 (by decide) ?_
                            exact ih135 (n2 + 1) co2 (by omega) (by omega) ((coreI_f ea5 ha5.1 (by first | exact fun q => absurd q.1 (by assumption) | exact fun q => (by assumption : ¬ co2 &&& (nI a5 ^^^ (-1)) = 0) (by rw [← hI]; exact q.2))).trans hI)
                          · refine V_aload_n C dX10_nears_159 rfl ?_
                            refine V_geti C fl_X10_223 dX10_nears_160 (by decide) sh_85 rfl ?_
                            refine V_eqi (y := co2) rfl ?_
                            refine V_aload_n C dX10_nears_163 rfl ?_
                            refine V_getr C fl_X10_90 dX10_nears_164 (by decide) sh_85 rfl ?_
                            refine V_iload_n C dX10_nears_167 rfl ?_
                            refine V_ialdN (p0 := 111) (o := n2) (v := nb n2) C dX10_nears_168 sh_111 (by decide) (by omega) (by decide) rfl ?_
                            refine V_eqi ea5 ?_
                            refine V_iconst (v := (-1 : Int32)) C dX10_nears_169 (by decide) ?_
                            refine V_ixor C dX10_nears_170 ?_
                            refine V_iand C dX10_nears_171 ?_
                            refine V_if_ne (x := co2 &&& ((nI a5) ^^^ (-1 : Int32))) (tgt := 181) C dX10_nears_172 (by decide) (fun h172_8 => ?_) (fun h172_8 => ?_)
                            · refine V_iconst (v := (0 : Int32)) C dX10_nears_181 (by decide) ?_
                              refine V_ior C dX10_nears_182 ?_
                              refine V_eqi (y := co2) (or_zero _) ?_
                              refine V_put C fp_X10_223 dX10_nears_183 (by decide) sh_85 rfl ?_
                              refine V_eqX (X1 := (ma (ma X 111 nb) 85 (upd (X 85) 35 co2))) ma_uu ?_
                              refine V_iincN (a := n2) (ls1 := [some (.ref (w.2.1 85)), some (.int (nI d)), some (.int (nI (n2 + 1)))]) C dX10_nears_186 rfl (by decide) rfl ?_
                              refine V_goto (tgt := 135) C dX10_nears_189 (by decide) ?_
                              exact ih135 (n2 + 1) co2 (by omega) (by omega) ((coreI_f ea5 ha5.1 (by first | exact fun q => absurd q.1 (by assumption) | exact fun q => (by assumption : ¬ co2 &&& (nI a5 ^^^ (-1)) = 0) (by rw [← hI]; exact q.2))).trans hI)
                            · refine V_iconst (v := (1 : Int32)) C dX10_nears_175 (by decide) ?_
                              refine V_iload_n C dX10_nears_176 rfl ?_
                              refine V_ishl C dX10_nears_177 ?_
                              refine V_eqi (y := nI (2 ^ n2)) (shl1 (by omega)) ?_
                              refine V_goto (tgt := 182) C dX10_nears_178 (by decide) ?_
                              refine V_ior C dX10_nears_182 ?_
                              refine V_put C fp_X10_223 dX10_nears_183 (by decide) sh_85 rfl ?_
                              refine V_eqX (X1 := (ma (ma X 111 nb) 85 (upd (X 85) 35 (co2 ||| (nI (2 ^ n2)))))) ma_uu ?_
                              refine V_iincN (a := n2) (ls1 := [some (.ref (w.2.1 85)), some (.int (nI d)), some (.int (nI (n2 + 1)))]) C dX10_nears_186 rfl (by decide) rfl ?_
                              refine V_goto (tgt := 135) C dX10_nears_189 (by decide) ?_
                              exact ih135 (n2 + 1) (co2 ||| (nI (2 ^ n2))) (by omega) (by omega) (by rw [coreI_t ea5 ha5.1 (by omega) (by rw [hI]; assumption), hI])
                    exact L135 _ 0 co (Nat.lt_succ_self _) (by omega) rfl
              exact L129 _ 10 (0 : Int32) (Nat.lt_succ_self _) (by omega) rfl
            · refine V_bipush (v := (6 : Int32)) C dX10_nears_31 (by decide) ?_
              refine V_iload_n C dX10_nears_33 rfl ?_
              refine V_imulN (a := 6) (b := r) C dX10_nears_34 ?_
              refine V_istore_n (ls1 := [some (.ref (w.2.1 85)), some (.int (nI r)), some (.int (nI (6 * r)))]) C dX10_nears_35 (by decide) rfl ?_
              have L36 : ∀ (fu : Nat) (j : Nat) (nb2 : Nat → Int32), Z r - j < fu → (j + 1 ≤ Z r) → (SetRow nb2 (fun a b => Nb r PP Z Th a b ∨ (Us PP Z Th r ∧ Adj (PP r) (j + 1) a b))) → V p l e ({ frames := 3, cells := 0, slots := 0, locals := 66 } : Room) s m (#[.ref (w.2.1 85)] : Array Value) below meth c w 3 0 0 (EU w below s (#[.ref (w.2.1 85)] : Array Value) 0 0 (q_X10_nears X R PP Z Th)) 36 [some (.ref (w.2.1 85)), some (.int (nI r)), some (.int (nI (6 * r + j)))] [] (ma X 111 nb2) := by
                intro fu
                induction fu with
                | zero => intro j nb2 hm; exact absurd hm (Nat.not_lt_zero _)
                | succ fu ih36 =>
                  intro j nb2 hm36 hj hnb2
                  have hZ6 := (hB.2.2 r (by omega)).2.1
                  refine V_aload_n C dX10_nears_36 rfl ?_
                  refine V_iload_n C dX10_nears_37 rfl ?_
                  refine V_callVI C [.int (nI r)] mi_X10_220 (k_X10_isUsed w l r (ma X 111 nb2) R PP Z Th (RBm_ma (by decide) hB) (by omega)) dX10_nears_38 sh_85 (by decide) rfl rfl rfl (Nat.le_of_ble_eq_true rfl) (Nat.le_of_ble_eq_true rfl) (Nat.le_of_ble_eq_true rfl) ⟨Nat.le_refl _, Nat.le_refl _⟩ (fun v9 X9 q9 => ?_)
                  obtain ⟨hb9, eX9⟩ := q9; subst X9
                  try simp (disch := decide) only [oC_ma, gC_ma, oM_ma, gM_ma, tC_ma, tM_ma, ma_eq, ma_ne] at hb9
                  refine V_if_eqB (tgt := 115) C hb9 dX10_nears_41 (by decide) (fun h41_10 => ?_) (fun h41_10 => ?_)
                  · refine V_iincN (a := r) (ls1 := [some (.ref (w.2.1 85)), some (.int (nI (r + 1))), some (.int (nI (6 * r + j)))]) C dX10_nears_115 rfl (by decide) rfl ?_
                    refine V_goto (tgt := 23) C dX10_nears_118 (by decide) ?_
                    refine V_kill (i := 2) (ls1 := [some (.ref (w.2.1 85)), some (.int (nI (r + 1))), none]) rfl ?_
                    exact ih23 (r + 1) nb2 (by omega) (by omega) (by first | exact Nb_skip2 hnb2 (by assumption) | exact Nb_add2 (by assumption) (show j + 1 = Z r from by omega) hnb2)
                  · refine V_iload_n C dX10_nears_44 rfl ?_
                    refine V_iconst (v := (1 : Int32)) C dX10_nears_45 (by decide) ?_
                    refine V_iaddN (a := 6 * r + j) (b := 1) C dX10_nears_46 ?_
                    refine V_bipush (v := (6 : Int32)) C dX10_nears_47 (by decide) ?_
                    refine V_iload_n C dX10_nears_49 rfl ?_
                    refine V_imulN (a := 6) (b := r) C dX10_nears_50 ?_
                    refine V_aload_n C dX10_nears_51 rfl ?_
                    refine V_getr C fl_X10_63 dX10_nears_52 (by decide) sh_85 rfl ?_
                    refine V_iload_n C dX10_nears_55 rfl ?_
                    refine V_ialdN (p0 := 102) (o := r) (v := X 102 r) C dX10_nears_56 sh_102 (by decide) (by omega) (by decide) rfl ?_
                    have hq11 : 1 ≤ Z r ∧ Z r ≤ 6 := ⟨(hB.2.2 r (by omega)).1, (hB.2.2 r (by omega)).2.1⟩
                    refine V_eqi (y := nI (Z r)) ((hB.2.2 r (by omega)).2.2.1) ?_
                    refine V_iaddN (a := 6 * r) (b := Z r) C dX10_nears_57 ?_
                    refine V_icmp_geN (a := 6 * r + j + 1) (b := 6 * r + (Z r)) (tgt := 115) C dX10_nears_58 (by decide) (by omega) (by omega) (fun h58_12 => ?_) (fun h58_12 => ?_)
                    · refine V_iincN (a := r) (ls1 := [some (.ref (w.2.1 85)), some (.int (nI (r + 1))), some (.int (nI (6 * r + j)))]) C dX10_nears_115 rfl (by decide) rfl ?_
                      refine V_goto (tgt := 23) C dX10_nears_118 (by decide) ?_
                      refine V_kill (i := 2) (ls1 := [some (.ref (w.2.1 85)), some (.int (nI (r + 1))), none]) rfl ?_
                      exact ih23 (r + 1) nb2 (by omega) (by omega) (by first | exact Nb_skip2 hnb2 (by assumption) | exact Nb_add2 (by assumption) (show j + 1 = Z r from by omega) hnb2)
                    · refine V_aload_n C dX10_nears_61 rfl ?_
                      refine V_getr C fl_X10_90 dX10_nears_62 (by decide) sh_85 rfl ?_
                      refine V_aload_n C dX10_nears_65 rfl ?_
                      refine V_getr C fl_X10_60 dX10_nears_66 (by decide) sh_85 rfl ?_
                      refine V_iload_n C dX10_nears_69 rfl ?_
                      refine V_ialdN (p0 := 101) (o := 6 * r + j) (v := X 101 (6 * r + j)) C dX10_nears_70 sh_101 (by decide) (by omega) (by decide) rfl ?_
                      have hq13 : PP r j < 10 := (PAt_i (hB.2.2 r (by omega)).2.2.2.1 (k := 6 * r + j) (i := j) (by omega) (by omega)).2
                      refine V_eqi (y := nI (PP r j)) ((PAt_i (hB.2.2 r (by omega)).2.2.2.1 (k := 6 * r + j) (i := j) (by omega) (by omega)).1) ?_
                      refine V_dup2 C dX10_nears_71 rfl rfl ?_
                      refine V_ialdN (p0 := 111) (o := PP r j) (v := nb2 (PP r j)) C dX10_nears_72 sh_111 (by decide) (by omega) (by decide) rfl ?_
                      obtain ⟨a14, ha14, ea14⟩ := hnb2 (PP r j) (by omega)
                      have ia14 : ix (nI a14) = a14 := ix_nI (by omega)
                      refine V_eqi ea14 ?_
                      refine V_iconst (v := (1 : Int32)) C dX10_nears_73 (by decide) ?_
                      refine V_aload_n C dX10_nears_74 rfl ?_
                      refine V_getr C fl_X10_60 dX10_nears_75 (by decide) sh_85 rfl ?_
                      refine V_iload_n C dX10_nears_78 rfl ?_
                      refine V_iconst (v := (1 : Int32)) C dX10_nears_79 (by decide) ?_
                      refine V_iaddN (a := 6 * r + j) (b := 1) C dX10_nears_80 ?_
                      refine V_ialdN (p0 := 101) (o := 6 * r + j + 1) (v := X 101 (6 * r + j + 1)) C dX10_nears_81 sh_101 (by decide) (by omega) (by decide) rfl ?_
                      have hq15 : PP r (j + 1) < 10 := (PAt_i (hB.2.2 r (by omega)).2.2.2.1 (k := 6 * r + j + 1) (i := j + 1) (by omega) (by omega)).2
                      refine V_eqi (y := nI (PP r (j + 1))) ((PAt_i (hB.2.2 r (by omega)).2.2.2.1 (k := 6 * r + j + 1) (i := j + 1) (by omega) (by omega)).1) ?_
                      refine V_ishl C dX10_nears_82 ?_
                      refine V_eqi (y := nI (2 ^ (PP r (j + 1)))) (shl1 (by omega)) ?_
                      refine V_ior C dX10_nears_83 ?_
                      refine V_eqi (y := nI (a14 ||| (2 ^ (PP r (j + 1))))) (nI_or _ _) ?_
                      refine V_iastN (p0 := 111) (o := PP r j) (X1 := (ma X 111 (upd (nb2) (PP r j) (nI (a14 ||| (2 ^ (PP r (j + 1)))))))) C dX10_nears_84 sh_111 (by decide) (by omega) (by decide) (ma_ma _ _ _ _) ?_
                      have hnb3 := SetRow_add hnb2 (show PP r j < 10 by omega) (show PP r (j + 1) < 10 by omega) ea14
                      refine V_aload_n C dX10_nears_85 rfl ?_
                      refine V_getr C fl_X10_90 dX10_nears_86 (by decide) sh_85 rfl ?_
                      refine V_aload_n C dX10_nears_89 rfl ?_
                      refine V_getr C fl_X10_60 dX10_nears_90 (by decide) sh_85 rfl ?_
                      refine V_iload_n C dX10_nears_93 rfl ?_
                      refine V_iconst (v := (1 : Int32)) C dX10_nears_94 (by decide) ?_
                      refine V_iaddN (a := 6 * r + j) (b := 1) C dX10_nears_95 ?_
                      refine V_ialdN (p0 := 101) (o := 6 * r + j + 1) (v := X 101 (6 * r + j + 1)) C dX10_nears_96 sh_101 (by decide) (by omega) (by decide) rfl ?_
                      have hq16 : PP r (j + 1) < 10 := (PAt_i (hB.2.2 r (by omega)).2.2.2.1 (k := 6 * r + j + 1) (i := j + 1) (by omega) (by omega)).2
                      refine V_eqi (y := nI (PP r (j + 1))) ((PAt_i (hB.2.2 r (by omega)).2.2.2.1 (k := 6 * r + j + 1) (i := j + 1) (by omega) (by omega)).1) ?_
                      refine V_dup2 C dX10_nears_97 rfl rfl ?_
                      refine V_ialdN (p0 := 111) (o := PP r (j + 1)) (v := (upd (nb2) (PP r j) (nI (a14 ||| (2 ^ (PP r (j + 1)))))) (PP r (j + 1))) C dX10_nears_98 sh_111 (by decide) (by omega) (by decide) rfl ?_
                      obtain ⟨a17, ha17, ea17⟩ := hnb3 (PP r (j + 1)) (by omega)
                      have ia17 : ix (nI a17) = a17 := ix_nI (by omega)
                      refine V_eqi ea17 ?_
                      refine V_iconst (v := (1 : Int32)) C dX10_nears_99 (by decide) ?_
                      refine V_aload_n C dX10_nears_100 rfl ?_
                      refine V_getr C fl_X10_60 dX10_nears_101 (by decide) sh_85 rfl ?_
                      refine V_iload_n C dX10_nears_104 rfl ?_
                      refine V_ialdN (p0 := 101) (o := 6 * r + j) (v := X 101 (6 * r + j)) C dX10_nears_105 sh_101 (by decide) (by omega) (by decide) rfl ?_
                      have hq18 : PP r j < 10 := (PAt_i (hB.2.2 r (by omega)).2.2.2.1 (k := 6 * r + j) (i := j) (by omega) (by omega)).2
                      refine V_eqi (y := nI (PP r j)) ((PAt_i (hB.2.2 r (by omega)).2.2.2.1 (k := 6 * r + j) (i := j) (by omega) (by omega)).1) ?_
                      refine V_ishl C dX10_nears_106 ?_
                      refine V_eqi (y := nI (2 ^ (PP r j))) (shl1 (by omega)) ?_
                      refine V_ior C dX10_nears_107 ?_
                      refine V_eqi (y := nI (a17 ||| (2 ^ (PP r j)))) (nI_or _ _) ?_
                      refine V_iastN (p0 := 111) (o := PP r (j + 1)) (X1 := (ma X 111 (upd (upd (nb2) (PP r j) (nI (a14 ||| (2 ^ (PP r (j + 1)))))) (PP r (j + 1)) (nI (a17 ||| (2 ^ (PP r j))))))) C dX10_nears_108 sh_111 (by decide) (by omega) (by decide) (ma_ma _ _ _ _) ?_
                      refine V_iincN (a := 6 * r + j) (ls1 := [some (.ref (w.2.1 85)), some (.int (nI r)), some (.int (nI (6 * r + j + 1)))]) C dX10_nears_109 rfl (by decide) rfl ?_
                      refine V_goto (tgt := 36) C dX10_nears_112 (by decide) ?_
                      exact ih36 (j + 1) (upd (upd (nb2) (PP r j) (nI (a14 ||| (2 ^ (PP r (j + 1)))))) (PP r (j + 1)) (nI (a17 ||| (2 ^ (PP r j))))) (by omega) (by omega) (Nb_pair (by assumption) (SetRow_add hnb3 (by assumption) (by assumption) ea17))
              exact L36 _ 0 nb (Nat.lt_succ_self _) ((hB.2.2 r (by omega)).1) (SetRow_congr hnb (fun a b _ => ⟨Or.inl, fun q => q.elim id (fun q => absurd q.2 (Adj_1 (Nat.le_refl _)))⟩))
        exact L23 _ 0 n0 (Nat.lt_succ_self _) (by omega) (fun a ha => by rw [hz a (by omega)]; exact SetIs_congr SetIs_0 (fun b => ⟨False.elim, fun ⟨_, h, _⟩ => absurd h (Nat.not_lt_zero _)⟩))
      · refine V_aload_n C dX10_nears_8 rfl ?_
        refine V_getr C fl_X10_90 dX10_nears_9 (by decide) sh_85 rfl ?_
        refine V_iload_n C dX10_nears_12 rfl ?_
        refine V_iconst (v := (0 : Int32)) C dX10_nears_13 (by decide) ?_
        refine V_iastN (p0 := 111) (o := q0) (X1 := (ma X 111 (upd (n0) q0 (0 : Int32)))) C dX10_nears_14 sh_111 (by decide) (by omega) (by decide) (ma_ma _ _ _ _) ?_
        refine V_iincN (a := q0) (ls1 := [some (.ref (w.2.1 85)), some (.int (nI (q0 + 1))), none]) C dX10_nears_15 rfl (by decide) rfl ?_
        refine V_goto (tgt := 2) C dX10_nears_18 (by decide) ?_
        exact ih2 (q0 + 1) (upd (n0) q0 (0 : Int32)) (by omega) (by omega) (by intro a h1; rcases lt_succ_or.mp h1 with h1 | rfl; rw [upd_ne (by omega)]; exact hz a h1; exact upd_eq _ _ _)
  refine V_eqX (X1 := (ma X 111 (X 111))) (ma_id rfl) ?_
  exact L2 _ 0 (X 111) (Nat.lt_succ_self _) (by omega) (fun a h => absurd h (Nat.not_lt_zero _))
