/-! the law: its start and its loop -/
theorem cl_ok : ∀ (c : Nat) (q : vw_C), vwCl[c]? = some q → (∀ x ∈ u_ws q.1 q.2.1 q.2.2, x ∈ TB) ∧ Cond.instantiable q.1 q.2.2 ∈ TB := by
  intro c q hq
  match c, hq with
  | 0, hq => cases hq; exact ⟨tc_0, (tb_i 248 (by decide +kernel) (by decide +kernel))⟩
  | 1, hq => cases hq; exact ⟨tc_1, (tb_i 153 (by decide +kernel) (by decide +kernel))⟩
  | 2, hq => cases hq; exact ⟨tc_2, (tb_i 232 (by decide +kernel) (by decide +kernel))⟩
  | 3, hq => cases hq; exact ⟨tc_3, (tb_i 58 (by decide +kernel) (by decide +kernel))⟩
  | 4, hq => cases hq; exact ⟨tc_4, (tb_i 264 (by decide +kernel) (by decide +kernel))⟩
  | 5, hq => cases hq; exact ⟨tc_5, (tb_i 173 (by decide +kernel) (by decide +kernel))⟩
  | 6, hq => cases hq; exact ⟨tc_6, (tb_i 95 (by decide +kernel) (by decide +kernel))⟩
  | 7, hq => cases hq; exact ⟨tc_7, (tb_i 221 (by decide +kernel) (by decide +kernel))⟩
  | 8, hq => cases hq; exact ⟨tc_8, (tb_i 50 (by decide +kernel) (by decide +kernel))⟩
  | k + 9, hq => simp [vwCl] at hq
theorem arr_K {s : State} {ty : FieldType} (h : (Cond.arrayClass ty).before #[] s = true) : ∃ cA, ArrOfT s cA ty ∧ s.vm.findClass ("[" ++ ty.toString) = some cA := by
  obtain ⟨cA, kA, comp, h1, h2, h3⟩ := Cond.arrayClass_spec h
  exact ⟨cA, fun n z => ⟨(fun k h => by cases h), kA, h2, comp, h3⟩, h1⟩
theorem arr_O {s : State} (h : va_AOA .int s) : ∃ cA, ArrOfT s cA (.array .int) ∧ s.vm.findClass ("[" ++ (FieldType.array .int).toString) = some cA := by
  obtain ⟨comp, cA, kA, -, h2, h3, h4⟩ := Cond.arrayOver_specA h
  exact ⟨cA, fun n z => ⟨(fun k h => by cases h), kA, h2, comp, h3⟩, h4⟩
theorem start_A {b : Nat} {s : State} (hts : ∀ w ∈ lw_tbl, w.before #[Value.ref b] s = true) : Aw s := ⟨ac_use (hts (.arrayClass .int) (List.mem_of_getElem? (i := 93) (by decide +kernel))), ac_use (hts (.arrayClass .boolean) (List.mem_of_getElem? (i := 151) (by decide +kernel))), ac_use (hts (.arrayClass .int) (List.mem_of_getElem? (i := 93) (by decide +kernel))), va_AOA.of (hts (.arrayOver (.array .int)) (List.mem_of_getElem? (i := 179) (by decide +kernel)))⟩
theorem start_T {b : Nat} {s : State} (hts : ∀ w ∈ lw_tbl, w.before #[Value.ref b] s = true) : TW s := fun w hw => by
  have h1 := (List.mem_filter.mp hw).2
  unfold okT at h1
  rw [Bool.and_eq_true] at h1
  exact va_tabs h1.1 rfl (hts w (tb_in w hw))
theorem start_K {b : Nat} {s : State} (hts : ∀ w ∈ lw_tbl, w.before #[Value.ref b] s = true) : ∃ w : Wt, (∀ i, w.2.1 i = s.heap.size + i) ∧ Kw w s := by
  have h : ∀ c : Nat, ∃ (cC : ClassId) (iS : Nat → Nat), ∀ q : vw_C, vwCl[c]? = some q → u_Kn s q.1 q.2.1 q.2.2 cC iS := by
    intro c
    cases e : vwCl[c]? with
    | none => exact ⟨0, fun _ => 0, fun q hq => by cases hq⟩
    | some q =>
      obtain ⟨h1, h2⟩ := cl_ok c q e
      obtain ⟨cC, iS, h3⟩ := u_known (C := q.1) (T := q.2.1) (N := q.2.2) (ws := TB) (args := #[Value.ref b]) (s := s) (fun w hw => hts w (tb_in w hw)) h1 (hts _ (tb_in _ h2))
      exact ⟨cC, iS, fun q' hq' => by cases hq'; exact h3⟩
  have hA := start_A hts
  obtain ⟨cI, i1, i2⟩ := arr_K hA.1
  obtain ⟨cZ, z1, z2⟩ := arr_K hA.2.1
  obtain ⟨cL, l1, l2⟩ := arr_K hA.2.2.1
  obtain ⟨cR, r1, r2⟩ := arr_O hA.2.2.2
  refine ⟨((fun c => (h c).choose, fun c => (h c).choose_spec.choose), fun i => s.heap.size + i, cI, cZ, cL, cR), fun _ => rfl, ⟨fun c q hq => (h c).choose_spec.choose_spec q hq, fun k q hk => ?_⟩, fun i j _ _ h => Nat.add_left_cancel h, start_T hts⟩
  match k, hk with
  | 0, hk => cases hk; exact ⟨i1, i2⟩
  | 1, hk => cases hk; exact ⟨z1, z2⟩
  | 2, hk => cases hk; exact ⟨l1, l2⟩
  | 3, hk => cases hk; exact ⟨r1, r2⟩
  | k + 4, hk => simp [tysW] at hk
theorem start_S {b : Nat} {s : State} (hts : ∀ w ∈ lw_tbl, w.before #[Value.ref b] s = true) (hgv : (Jvm.Cond.and given_1 narrow_1).before #[Value.ref b] s = true) : KS s := by
  have hs := flat_of_before _ hgv
  have key : ∀ (k : Nat) (tx : String), Cond.stringRef "Pathwarden" k tx ∈ lw_tbl → (Cond.exactly (.string "Pathwarden" k) "java/lang/String").before #[Value.ref b] s = true → ∃ sa, vk_R "Pathwarden" k tx sa s := fun k tx h1 h2 => by
    obtain ⟨a, -, -, -, q1, -⟩ := Cond.exactly_spec h2
    exact ⟨a, vk_R.of (hts _ h1) q1⟩
  unfold KS xStr
  exact (List.forall_mem_cons.mpr ⟨key _ _ (List.mem_of_getElem? (i := 397) (by decide +kernel)) (hs _ (by decide +kernel)), (List.forall_mem_cons.mpr ⟨key _ _ (List.mem_of_getElem? (i := 794) (by decide +kernel)) (hs _ (by decide +kernel)), (List.forall_mem_cons.mpr ⟨key _ _ (List.mem_of_getElem? (i := 447) (by decide +kernel)) (hs _ (by decide +kernel)), (List.forall_mem_cons.mpr ⟨key _ _ (List.mem_of_getElem? (i := 748) (by decide +kernel)) (hs _ (by decide +kernel)), (List.forall_mem_cons.mpr ⟨key _ _ (List.mem_of_getElem? (i := 509) (by decide +kernel)) (hs _ (by decide +kernel)), (List.forall_mem_cons.mpr ⟨key _ _ (List.mem_of_getElem? (i := 514) (by decide +kernel)) (hs _ (by decide +kernel)), (List.forall_mem_cons.mpr ⟨key _ _ (List.mem_of_getElem? (i := 753) (by decide +kernel)) (hs _ (by decide +kernel)), (List.forall_mem_cons.mpr ⟨key _ _ (List.mem_of_getElem? (i := 754) (by decide +kernel)) (hs _ (by decide +kernel)), (List.forall_mem_cons.mpr ⟨key _ _ (List.mem_of_getElem? (i := 523) (by decide +kernel)) (hs _ (by decide +kernel)), (List.forall_mem_cons.mpr ⟨key _ _ (List.mem_of_getElem? (i := 832) (by decide +kernel)) (hs _ (by decide +kernel)), (List.forall_mem_cons.mpr ⟨key _ _ (List.mem_of_getElem? (i := 361) (by decide +kernel)) (hs _ (by decide +kernel)), (List.forall_mem_cons.mpr ⟨key _ _ (List.mem_of_getElem? (i := 415) (by decide +kernel)) (hs _ (by decide +kernel)), (List.forall_mem_cons.mpr ⟨key _ _ (List.mem_of_getElem? (i := 500) (by decide +kernel)) (hs _ (by decide +kernel)), (List.forall_mem_cons.mpr ⟨key _ _ (List.mem_of_getElem? (i := 763) (by decide +kernel)) (hs _ (by decide +kernel)), (List.forall_mem_cons.mpr ⟨key _ _ (List.mem_of_getElem? (i := 432) (by decide +kernel)) (hs _ (by decide +kernel)), (List.forall_mem_cons.mpr ⟨key _ _ (List.mem_of_getElem? (i := 458) (by decide +kernel)) (hs _ (by decide +kernel)), (List.forall_mem_cons.mpr ⟨key _ _ (List.mem_of_getElem? (i := 463) (by decide +kernel)) (hs _ (by decide +kernel)), (fun _ h => nomatch h)⟩)⟩)⟩)⟩)⟩)⟩)⟩)⟩)⟩)⟩)⟩)⟩)⟩)⟩)⟩)⟩)⟩)
theorem start_D {b : Nat} {s : State} {l : Launch} {w : Wt} (hflags : l.flags = flags0) (hw : ∀ i, w.2.1 i = s.heap.size + i) (hts : ∀ w ∈ lw_tbl, w.before #[Value.ref b] s = true) (hgv : (Jvm.Cond.and given_1 narrow_1).before #[Value.ref b] s = true) : DX l w s.heap.size s s.heap := by
  have hs := flat_of_before _ hgv
  have hA : ∀ a : Nat, a < s.heap.size → ¬ AA w s.heap.size a := fun a ha => AA_no (fun k _ => by rw [hw]; exact Nat.le_add_right _ _) ha
  refine ⟨?_, start_S hts hgv, vx_Zqof (hts _ (List.mem_of_getElem? (i := 347) (by decide +kernel))) (hts _ (List.mem_of_getElem? (i := 41) (by decide +kernel))) (hs _ (by decide +kernel)) hA, vx_Zqof (hts _ (List.mem_of_getElem? (i := 349) (by decide +kernel))) (hts _ (List.mem_of_getElem? (i := 41) (by decide +kernel))) (hs _ (by decide +kernel)) hA⟩
  unfold Launch.stackTraces
  rw [hflags]
  decide +kernel
theorem start_N {b : Nat} {s : State} (hgv : (Jvm.Cond.and given_1 narrow_1).before #[Value.ref b] s = true) : NCX s := by
  have hs := flat_of_before _ hgv
  exact ⟨va_Nc.of (hs _ (by decide +kernel)), va_Nc.of (hs _ (by decide +kernel)), va_Nc.of (hs _ (by decide +kernel)), va_Nc.of (hs _ (by decide +kernel))⟩
theorem tc_z : tC Zr3 = fun _ _ => 0 := by
  funext a b
  unfold tC
  by_cases q : a < 10
  · rw [if_pos q]
    exact z_hi (by omega) b
  · rw [if_neg q]
theorem start_L : LSt Zr3 1 0 0 0 := by
  refine ⟨fun _ => 0, fun _ _ => 0, fun _ => 0, fun _ => False, ⟨⟨rfl, by decide, rfl, ?_⟩, ⟨z_hi (by decide) 0, ⟨by decide, fun o h => absurd h (Nat.not_lt_zero _)⟩, fun o _ => ⟨z_hi (by decide) o, z_hi (by decide) o⟩⟩, ⟨z_hi (by decide) 2, by decide, fun k h => absurd h (Nat.not_lt_zero _)⟩, ⟨⟨by decide, z_hi (by decide) 0, fun r h => absurd h (Nat.not_lt_zero _)⟩, z_hi (by decide) 1, fun r _ => z_hi (by decide) r⟩, ?_⟩, ⟨fun k h => absurd h (Nat.not_lt_zero _), fun i _ => ⟨0, by decide, z_hi (by decide) i⟩, fun r h => absurd h (Nat.not_lt_zero _), fun r _ _ => z_hi (by decide) _⟩⟩
  · exact ⟨by decide, by decide, rfl, fun b h1 h2 => absurd h2 (by omega), fun b _ => ⟨0, by decide, rfl⟩, fun b _ => ⟨0, by decide, (z_hi (by decide : 4 < 5) b : Zr3 5 b = 0)⟩⟩
  · rw [tc_z]
    exact fun a b _ _ => ⟨⟨0, by decide, rfl⟩, rfl⟩
section LAW
variable {p : Program} {l : Launch} {e : Env} {s : State} {m : MethodId} {args : Array Value} {below : List Frame} {meth : Method} {c : Code} {w : Wt} {n k cn ck b L0 : Nat} {xs : Nat → Int32} {Q : State → Prop} {pc : Nat} {ls : List (Option Value)} {st : List Value} {X : Mem}
theorem Vn_V {R : Room} {b0 nL : Nat} {D : List (Nat × Nat)} (h : allW D = true) (kk : V p l e R s m args below meth c w nL n k Q pc ls st X) : Vn p l e R s m args below meth c w b0 nL n k Q pc ls st 92 X D :=
  fun H locs L hz hP hS hL => kk H locs L (by rw [wlp_end h] at hP; exact hP) hS hL
/-- the end: true -/
theorem law_ret (K : LawC p l s m #[Value.ref b] meth c w b L0 xs) (hnk : cn ≤ 668764 ∧ ck ≤ 7095478) : V p l e room_1 s m #[Value.ref b] below meth c w 29 cn ck (lw_Z below #[Value.ref b] s) 1800 ls [.int (1 : Int32)] X := by
  obtain ⟨C, -, -, -, -, hfar, -⟩ := K
  intro H locs L hP hS hL
  refine va_forget (fun q hq => ?_) ?_
  · rcases hS.2.2 q hq with ⟨k, h1, h2⟩ | h
    · rw [h2]
      exact hfar k h1
    · exact h
  refine W.widen (k := 668764) (n := 7095478) hnk.1 hnk.2 ?_
  exact lw_ret C.1 C.2.1 C.2.2.2.2.2.1 C.2.2.2.2.2.2.1 dL_law_1800
theorem law_loop (K : LawC p l s m #[Value.ref b] meth c w b L0 xs) {tu : Nat} (htu : tu ≤ 190) : ∀ (f t : Nat) (X : Mem) (h D n R : Nat), tu < t + f → t ≤ tu → LSt X h D n R → h ≤ 6 → n ≤ 16 → R ≤ 8 → D ≤ 12 * t → V p l e room_1 s m #[Value.ref b] below meth c w 29 (1000 + 300 * t) (5000 + 1800 * t) (lw_Z below #[Value.ref b] s) 116 [some (.ref b), some (.ref (w.2.1 0)), some (.ref (w.2.1 85)), some (.ref (w.2.1 86)), some (.ref (w.2.1 87)), some (.ref (w.2.1 88)), some (.ref (w.2.1 89)), some (.ref (w.2.1 90)), some (.ref (w.2.1 91)), some (.int (nI h)), some (.int (nI n)), some (.int (nI R)), some (.int (1 : Int32)), some (.int (nI tu)), some (.int (nI t)), none, none, none, none, none, none, none, none, none, none, none, none, none, none] [] X := by
  intro f
  induction f with
  | zero => intro t X h D n R h1 h2; exact absurd h1 (by omega)
  | succ f ih =>
    intro t X h D n R h1 h2 hS hh hn hR hDt
    have C := K.1
    refine V_iload C dL_law_116 rfl ?_
    refine V_iload C dL_law_118 rfl ?_
    refine V_icmp_geN (a := t) (b := tu) (tgt := 1783) C dL_law_120 (by decide) (by omega) (by omega) (fun _ => ?_) (fun h120 => ?_)
    · exact law_fin K ⟨by omega, by omega⟩ hS hh hn hR (fun X' ls' => law_ret K ⟨by omega, by omega⟩)
    refine V_iload C dL_law_123 rfl ?_
    refine V_if_eq (x := (1 : Int32)) (tgt := 1783) C dL_law_125 (by decide) (fun q => absurd q (by decide)) (fun _ => ?_)
    refine law_turn K ⟨by omega, by omega⟩ hS hh hn hR (by omega) (by omega) (fun X' h' D' n' R' g1 g2 g3 g4 g5 => ?_)
    refine V_iincN (a := t) (ls1 := [some (.ref b), some (.ref (w.2.1 0)), some (.ref (w.2.1 85)), some (.ref (w.2.1 86)), some (.ref (w.2.1 87)), some (.ref (w.2.1 88)), some (.ref (w.2.1 89)), some (.ref (w.2.1 90)), some (.ref (w.2.1 91)), some (.int (nI h')), some (.int (nI n')), some (.int (nI R')), some (.int (1 : Int32)), some (.int (nI tu)), some (.int (nI (t + 1))), none, none, none, none, none, none, none, none, none, none, none, none, none, none]) C dL_law_1777 rfl (by decide) rfl ?_
    refine V_goto (tgt := 116) C dL_law_1780 (by decide) ?_
    exact V_widen (by omega) (by omega) (ih (t + 1) X' h' D' n' R' (by omega) (by omega) g1 g2 g3 g4 (by omega))
end LAW
theorem whole_start {p : Program} {e : Env} {s : State} {m : MethodId} {below : List Frame} {meth : Method} {c : Code} (l : Launch) (hflags : l.flags = flags0) {b L : Nat} {xs : Nat → Int32} (hL : L ≤ 260) (C0 : lw_At p s m meth c b L xs) : W p l e room_1 s m #[Value.ref b] below meth c s.heap [] 0 0 (lw_Z below #[Value.ref b] s) (entryFrame m ([Value.ref b] : List Value).toArray 29) := by
  obtain ⟨hx, hb, hr, hml, hown, hts, hX, hbl, hlocks, hgv⟩ := C0
  obtain ⟨w, hw, hKw⟩ := start_K hts
  have hA := start_A hts
  have C : CX p s m #[Value.ref b] meth c w cL_law 29 RL ret := ⟨hx, hb, hml, hown, hKw, hr, hlocks, fun x h => hts x (tb_in x h)⟩
  have K : LawC p l s m #[Value.ref b] meth c w b L xs := ⟨C, start_D hflags hw hts hgv, start_N hgv, hX, hbl, fun j _ => by rw [hw]; exact Nat.le_add_right _ _, hL⟩
  obtain ⟨Lo, hF, hLo⟩ := LH_start (m := m) (as := [Value.ref b]) (nL := 29) (Nat.le_of_ble_eq_true rfl) (List.forall_mem_cons.mpr ⟨rfl, fun _ h => nomatch h⟩)
  rw [hF]
  refine (?_ : Vn p l e room_1 s m #[Value.ref b] below meth c w s.heap.size 29 0 0 (lw_Z below #[Value.ref b] s) 0 [some (.ref b), none, none, none, none, none, none, none, none, none, none, none, none, none, none, none, none, none, none, none, none, none, none, none, none, none, none, none, none] [] 0 Z0 []) s.heap [] Lo rfl (fun k q h => by cases h) va_S.rf hLo
  refine Vn_new C hw (n1 := 1) (k1 := 8) nw_L_8 dL_law_0 rfl (by decide) (fun _ => rfl) (by decide +kernel) rfl rfl (by decide +kernel) (by decide +kernel) ?_
  refine Vn_to (pc1 := 3) (N1 := 1) rfl rfl ?_
  refine Vn_dup C dL_law_3 rfl ?_
  refine Vn_init (As := []) (rest := [.ref (w.2.1 0)]) (n1 := 85) (k1 := 1242) C mn_L_73 hA (n_X9 hw) dL_law_4 rfl rfl (Nat.le_of_ble_eq_true rfl) (by decide) (by decide) rfl rfl (by decide +kernel) (by decide +kernel) ?_
  refine Vn_to (pc1 := 7) (N1 := 85) rfl rfl ?_
  refine Vn_astore_n (i := 1) C dL_law_7 (by decide) rfl ?_
  refine Vn_bipush (v := 16) C dL_law_8 (by decide) ?_
  refine Vn_newi C hw hA (n1 := 86) (k1 := 1258) dL_law_10 rfl (fun _ => rfl) (by decide) (by decide) rfl rfl (by decide +kernel) (by decide +kernel) ?_
  refine Vn_to (pc1 := 12) (N1 := 86) rfl rfl ?_
  refine Vn_astore_n (i := 2) C dL_law_12 (by decide) rfl ?_
  refine Vn_bipush (v := 16) C dL_law_13 (by decide) ?_
  refine Vn_newi C hw hA (n1 := 87) (k1 := 1274) dL_law_15 rfl (fun _ => rfl) (by decide) (by decide) rfl rfl (by decide +kernel) (by decide +kernel) ?_
  refine Vn_to (pc1 := 17) (N1 := 87) rfl rfl ?_
  refine Vn_astore_n (i := 3) C dL_law_17 (by decide) rfl ?_
  refine Vn_bipush (v := 16) C dL_law_18 (by decide) ?_
  refine Vn_newi C hw hA (n1 := 88) (k1 := 1290) dL_law_20 rfl (fun _ => rfl) (by decide) (by decide) rfl rfl (by decide +kernel) (by decide +kernel) ?_
  refine Vn_to (pc1 := 22) (N1 := 88) rfl rfl ?_
  refine Vn_astore (i := 4) C dL_law_22 (by decide) rfl ?_
  refine Vn_bipush (v := 16) C dL_law_24 (by decide) ?_
  refine Vn_newi C hw hA (n1 := 89) (k1 := 1306) dL_law_26 rfl (fun _ => rfl) (by decide) (by decide) rfl rfl (by decide +kernel) (by decide +kernel) ?_
  refine Vn_to (pc1 := 28) (N1 := 89) rfl rfl ?_
  refine Vn_astore (i := 5) C dL_law_28 (by decide) rfl ?_
  refine Vn_bipush (v := 16) C dL_law_30 (by decide) ?_
  refine Vn_newi C hw hA (n1 := 90) (k1 := 1322) dL_law_32 rfl (fun _ => rfl) (by decide) (by decide) rfl rfl (by decide +kernel) (by decide +kernel) ?_
  refine Vn_to (pc1 := 34) (N1 := 90) rfl rfl ?_
  refine Vn_astore (i := 6) C dL_law_34 (by decide) rfl ?_
  refine Vn_bipush (v := 8) C dL_law_36 (by decide) ?_
  refine Vn_newi C hw hA (n1 := 91) (k1 := 1330) dL_law_38 rfl (fun _ => rfl) (by decide) (by decide) rfl rfl (by decide +kernel) (by decide +kernel) ?_
  refine Vn_to (pc1 := 40) (N1 := 91) rfl rfl ?_
  refine Vn_astore (i := 7) C dL_law_40 (by decide) rfl ?_
  refine Vn_bipush (v := 56) C dL_law_42 (by decide) ?_
  refine Vn_newi C hw hA (n1 := 92) (k1 := 1386) dL_law_44 rfl (fun _ => rfl) (by decide) (by decide) rfl rfl (by decide +kernel) (by decide +kernel) ?_
  refine Vn_to (pc1 := 46) (N1 := 92) rfl rfl ?_
  refine Vn_astore (i := 8) C dL_law_46 (by decide) rfl ?_
  refine Vn_V (by decide +kernel) ?_
  refine law_begin (h := 1) (D := 0) (n := 0) (R := 0) K ⟨by decide, by decide⟩ start_L rfl rfl rfl rfl (fun X' tu g1 g2 => ?_)
  exact V_widen (by decide) (by decide) (law_loop K g1 (tu + 1) 0 X' 1 0 0 0 (by omega) (Nat.zero_le _) g2 (by decide) (by decide) (by decide) (Nat.zero_le _))
