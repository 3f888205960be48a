/-! the law: its start and its loop -/
theorem cl_ok : ∀ (c : Nat) (q : vw_C), vwCl[c]? = some q → (∀ x ∈ u_ws q.1 q.2.1 q.2.2, x ∈ TB) ∧ Cond.instantiable q.1 q.2.2 ∈ TB := by
  intro c q hq
  match c, hq with
  | 0, hq => cases hq; exact ⟨tc_0, (tb_i 277 (by decide +kernel) (by decide +kernel))⟩
  | 1, hq => cases hq; exact ⟨tc_1, (tb_i 182 (by decide +kernel) (by decide +kernel))⟩
  | 2, hq => cases hq; exact ⟨tc_2, (tb_i 261 (by decide +kernel) (by decide +kernel))⟩
  | 3, hq => cases hq; exact ⟨tc_3, (tb_i 87 (by decide +kernel) (by decide +kernel))⟩
  | 4, hq => cases hq; exact ⟨tc_4, (tb_i 293 (by decide +kernel) (by decide +kernel))⟩
  | 5, hq => cases hq; exact ⟨tc_5, (tb_i 202 (by decide +kernel) (by decide +kernel))⟩
  | 6, hq => cases hq; exact ⟨tc_6, (tb_i 124 (by decide +kernel) (by decide +kernel))⟩
  | 7, hq => cases hq; exact ⟨tc_7, (tb_i 250 (by decide +kernel) (by decide +kernel))⟩
  | 8, hq => cases hq; exact ⟨tc_8, (tb_i 79 (by decide +kernel) (by decide +kernel))⟩
  | 9, hq => cases hq; exact ⟨tc_9, (tb_i 954 (by decide +kernel) (by decide +kernel))⟩
  | k + 10, hq => simp [vwCl] at hq
theorem arr_K {s : State} {ty : FieldType} (h : (Cond.arrayClass ty).before #[] s = true) : ∃ cA, ArrOfT s cA ty ∧ s.vm.findClass ("[" ++ ty.toString) = some cA := by
  obtain ⟨cA, kA, comp, h1, h2, h3⟩ := Cond.arrayClass_spec h
  exact ⟨cA, fun n z => ⟨(fun k h => by cases h), kA, h2, comp, h3⟩, h1⟩
theorem arr_O {s : State} (h : va_AOA .int s) : ∃ cA, ArrOfT s cA (.array .int) ∧ s.vm.findClass ("[" ++ (FieldType.array .int).toString) = some cA := by
  obtain ⟨comp, cA, kA, -, h2, h3, h4⟩ := Cond.arrayOver_specA h
  exact ⟨cA, fun n z => ⟨(fun k h => by cases h), kA, h2, comp, h3⟩, h4⟩
theorem start_A {b : Nat} {s : State} (hts : ∀ w ∈ lw_tbl, w.before #[Value.ref b] s = true) : Aw s := ⟨ac_use (hts (.arrayClass .int) (List.mem_of_getElem? (i := 122) (by decide +kernel))), ac_use (hts (.arrayClass .boolean) (List.mem_of_getElem? (i := 180) (by decide +kernel))), ac_use (hts (.arrayClass .long) (List.mem_of_getElem? (i := 1346) (by decide +kernel))), va_AOA.of (hts (.arrayOver (.array .int)) (List.mem_of_getElem? (i := 208) (by decide +kernel)))⟩
theorem start_T {b : Nat} {s : State} (hts : ∀ w ∈ lw_tbl, w.before #[Value.ref b] s = true) : TW s := fun w hw => by
  have h1 := (List.mem_filter.mp hw).2
  unfold okT at h1
  rw [Bool.and_eq_true] at h1
  exact va_tabs h1.1 rfl (hts w (tb_in w hw))
theorem start_K {b : Nat} {s : State} (hts : ∀ w ∈ lw_tbl, w.before #[Value.ref b] s = true) : ∃ w : Wt, (∀ i, w.2.1 i = s.heap.size + i) ∧ Kw w s := by
  have h : ∀ c : Nat, ∃ (cC : ClassId) (iS : Nat → Nat), ∀ q : vw_C, vwCl[c]? = some q → u_Kn s q.1 q.2.1 q.2.2 cC iS := by
    intro c
    cases e : vwCl[c]? with
    | none => exact ⟨0, fun _ => 0, fun q hq => by cases hq⟩
    | some q =>
      obtain ⟨h1, h2⟩ := cl_ok c q e
      obtain ⟨cC, iS, h3⟩ := u_known (C := q.1) (T := q.2.1) (N := q.2.2) (ws := TB) (args := #[Value.ref b]) (s := s) (fun w hw => hts w (tb_in w hw)) h1 (hts _ (tb_in _ h2))
      exact ⟨cC, iS, fun q' hq' => by cases hq'; exact h3⟩
  have hA := start_A hts
  obtain ⟨cI, i1, i2⟩ := arr_K hA.1
  obtain ⟨cZ, z1, z2⟩ := arr_K hA.2.1
  obtain ⟨cL, l1, l2⟩ := arr_K hA.2.2.1
  obtain ⟨cR, r1, r2⟩ := arr_O hA.2.2.2
  refine ⟨((fun c => (h c).choose, fun c => (h c).choose_spec.choose), fun i => s.heap.size + i, cI, cZ, cL, cR), fun _ => rfl, ⟨fun c q hq => (h c).choose_spec.choose_spec q hq, fun k q hk => ?_⟩, fun i j _ _ h => Nat.add_left_cancel h, start_T hts⟩
  match k, hk with
  | 0, hk => cases hk; exact ⟨i1, i2⟩
  | 1, hk => cases hk; exact ⟨z1, z2⟩
  | 2, hk => cases hk; exact ⟨l1, l2⟩
  | 3, hk => cases hk; exact ⟨r1, r2⟩
  | k + 4, hk => simp [tysW] at hk
theorem start_S {b : Nat} {s : State} (hts : ∀ w ∈ lw_tbl, w.before #[Value.ref b] s = true) (hgv : (Jvm.Cond.and given_1 narrow_1).before #[Value.ref b] s = true) : KS s := by
  have hs := flat_of_before _ hgv
  have key : ∀ (k : Nat) (tx : String), Cond.stringRef "Pathwarden" k tx ∈ lw_tbl → (Cond.exactly (.string "Pathwarden" k) "java/lang/String").before #[Value.ref b] s = true → ∃ sa, vk_R "Pathwarden" k tx sa s := fun k tx h1 h2 => by
    obtain ⟨a, -, -, -, q1, -⟩ := Cond.exactly_spec h2
    exact ⟨a, vk_R.of (hts _ h1) q1⟩
  unfold KS xStr
  exact (List.forall_mem_cons.mpr ⟨key _ _ (List.mem_of_getElem? (i := 612) (by decide +kernel)) (hs _ (by decide +kernel)), (List.forall_mem_cons.mpr ⟨key _ _ (List.mem_of_getElem? (i := 641) (by decide +kernel)) (hs _ (by decide +kernel)), (List.forall_mem_cons.mpr ⟨key _ _ (List.mem_of_getElem? (i := 680) (by decide +kernel)) (hs _ (by decide +kernel)), (List.forall_mem_cons.mpr ⟨key _ _ (List.mem_of_getElem? (i := 746) (by decide +kernel)) (hs _ (by decide +kernel)), (List.forall_mem_cons.mpr ⟨key _ _ (List.mem_of_getElem? (i := 761) (by decide +kernel)) (hs _ (by decide +kernel)), (List.forall_mem_cons.mpr ⟨key _ _ (List.mem_of_getElem? (i := 769) (by decide +kernel)) (hs _ (by decide +kernel)), (List.forall_mem_cons.mpr ⟨key _ _ (List.mem_of_getElem? (i := 781) (by decide +kernel)) (hs _ (by decide +kernel)), (List.forall_mem_cons.mpr ⟨key _ _ (List.mem_of_getElem? (i := 782) (by decide +kernel)) (hs _ (by decide +kernel)), (List.forall_mem_cons.mpr ⟨key _ _ (List.mem_of_getElem? (i := 790) (by decide +kernel)) (hs _ (by decide +kernel)), (List.forall_mem_cons.mpr ⟨key _ _ (List.mem_of_getElem? (i := 906) (by decide +kernel)) (hs _ (by decide +kernel)), (List.forall_mem_cons.mpr ⟨key _ _ (List.mem_of_getElem? (i := 576) (by decide +kernel)) (hs _ (by decide +kernel)), (List.forall_mem_cons.mpr ⟨key _ _ (List.mem_of_getElem? (i := 633) (by decide +kernel)) (hs _ (by decide +kernel)), (List.forall_mem_cons.mpr ⟨key _ _ (List.mem_of_getElem? (i := 738) (by decide +kernel)) (hs _ (by decide +kernel)), (List.forall_mem_cons.mpr ⟨key _ _ (List.mem_of_getElem? (i := 863) (by decide +kernel)) (hs _ (by decide +kernel)), (List.forall_mem_cons.mpr ⟨key _ _ (List.mem_of_getElem? (i := 662) (by decide +kernel)) (hs _ (by decide +kernel)), (List.forall_mem_cons.mpr ⟨key _ _ (List.mem_of_getElem? (i := 694) (by decide +kernel)) (hs _ (by decide +kernel)), (List.forall_mem_cons.mpr ⟨key _ _ (List.mem_of_getElem? (i := 699) (by decide +kernel)) (hs _ (by decide +kernel)), (fun _ h => nomatch h)⟩)⟩)⟩)⟩)⟩)⟩)⟩)⟩)⟩)⟩)⟩)⟩)⟩)⟩)⟩)⟩)⟩)
theorem start_D {b : Nat} {s : State} {l : Launch} {w : Wt} (hflags : l.flags = flags0) (hw : ∀ i, w.2.1 i = s.heap.size + i) (hts : ∀ w ∈ lw_tbl, w.before #[Value.ref b] s = true) (hgv : (Jvm.Cond.and given_1 narrow_1).before #[Value.ref b] s = true) : DX l w s.heap.size s s.heap := by
  have hs := flat_of_before _ hgv
  have hA : ∀ a : Nat, a < s.heap.size → ¬ AA w s.heap.size a := fun a ha => AA_no (fun k _ => by rw [hw]; exact Nat.le_add_right _ _) ha
  refine ⟨?_, start_S hts hgv, vx_Zqof (hts _ (List.mem_of_getElem? (i := 562) (by decide +kernel))) (hts _ (List.mem_of_getElem? (i := 70) (by decide +kernel))) (hs _ (by decide +kernel)) hA, vx_Zqof (hts _ (List.mem_of_getElem? (i := 564) (by decide +kernel))) (hts _ (List.mem_of_getElem? (i := 70) (by decide +kernel))) (hs _ (by decide +kernel)) hA⟩
  unfold Launch.stackTraces
  rw [hflags]
  decide +kernel
theorem start_N {b : Nat} {s : State} (hgv : (Jvm.Cond.and given_1 narrow_1).before #[Value.ref b] s = true) : NCX s := by
  have hs := flat_of_before _ hgv
  exact ⟨va_Nc.of (hs _ (by decide +kernel)), va_Nc.of (hs _ (by decide +kernel)), va_Nc.of (hs _ (by decide +kernel)), va_Nc.of (hs _ (by decide +kernel))⟩
theorem start_J : JJ Zm3 := by
  refine ⟨1, 0, 0, 0, 0, fun _ => 0, fun _ _ => 0, fun _ => 0, fun _ => False, ⟨rfl, by decide, rfl, ?_, rfl, rfl, rfl⟩, ⟨rfl, ⟨by decide, fun o h => absurd h (Nat.not_lt_zero _)⟩, rfl, rfl, fun o _ => ⟨rfl, rfl⟩⟩, ⟨rfl, by decide, fun k h => absurd h (Nat.not_lt_zero _), rfl, fun k h => absurd h (Nat.not_lt_zero _)⟩, ⟨⟨by decide, rfl, fun r h => absurd h (Nat.not_lt_zero _)⟩, ⟨by decide, rfl, fun r h => absurd h (Nat.not_lt_zero _)⟩, ?_, fun r h => absurd h (Nat.not_lt_zero _), fun r h => absurd h (Nat.not_lt_zero _), fun r _ => rfl⟩, ?_⟩
  · exact ⟨by decide, by decide, rfl, fun b h1 h2 => absurd h2 (by omega), fun b _ => ⟨0, by decide, rfl⟩, fun b _ => ⟨0, by decide, rfl⟩⟩
  · unfold cntT
    rfl
  · intro a b ha hb
    unfold tM tC
    rw [if_pos ha]
    unfold Zm3 Zm2 Zm1 Zr3 Zr2 Zr1
    rw [ma_ne (by decide), ma_ne (by decide), ma_ne (by decide), ma_ne (by decide), ma_ne (by decide), ma_ne (by decide), ma_ne (by omega), ma_ne (by omega), ma_ne (by omega), ma_ne (by omega), ma_ne (by omega), ma_ne (by omega)]
    rfl
theorem i32_and31 (x : Int32) : ∃ c : Nat, c < 32 ∧ x &&& 31 = nI c := by
  refine ⟨(x &&& 31).toBitVec.toNat, ?_, ?_⟩
  · have h : (x &&& 31).toBitVec = x.toBitVec &&& 31#32 := rfl
    rw [h, BitVec.toNat_and]
    exact Nat.lt_succ_of_le Nat.and_le_right
  · apply Int32.toBitVec_inj.mp
    show (x &&& 31).toBitVec = BitVec.ofNat 32 (x &&& 31).toBitVec.toNat
    rw [BitVec.ofNat_toNat, BitVec.setWidth_eq]
section LAW
variable {p : Program} {l : Launch} {e : Env} {s : State} {m : MethodId} {args : Array Value} {below : List Frame} {meth : Method} {c : Code} {w : Wt} {n k b L0 i : Nat} {xs : Nat → Int32} {Q : State → Prop} {pc : Nat} {ls : List (Option Value)} {st : List Value} {X : Mem}
theorem Vn_V {R : Room} {b0 nL : Nat} {D : List (Nat × Nat)} (h : allW D = true) (kk : V p l e R s m args below meth c w nL n k Q pc ls st X) : Vn p l e R s m args below meth c w b0 nL n k Q pc ls st 117 X D :=
  fun H locs L hz hP hS hL => kk H locs L (by rw [wlp_end h] at hP; exact hP) hS hL
/-- the end: true -/
theorem law_end (K : LawC p l s m #[Value.ref b] meth c w b L0 xs) (hnk : n ≤ 601024 ∧ k ≤ 7293034) : V p l e room_1 s m #[Value.ref b] below meth c w 7 n k (lw_Z below #[Value.ref b] s) 2154 ls [] X := by
  obtain ⟨C, -, -, -, -, hfar, -⟩ := K
  refine V_iconst (v := 1) C dL_law_2154 (by decide) ?_
  intro H locs L hP hS hL
  refine va_forget (fun q hq => ?_) ?_
  · rcases hS.2.2 q hq with ⟨k, h1, h2⟩ | h
    · rw [h2]
      exact hfar k h1
    · exact h
  refine W.widen (k := 601024) (n := 7293034) hnk.1 hnk.2 ?_
  exact lw_ret C.1 C.2.1 C.2.2.2.2.2.1 C.2.2.2.2.2.2.1 dL_law_2155
/-- one call of the script -/
theorem law_one (K : LawC p l s m args meth c w b L0 xs) (hi : i + 7 ≤ L0) (hnk : n + 8 ≤ 601024 ∧ k + 48 ≤ 7293034) (hJ : JJ X) (kk : ∀ X2, JJ X2 → V p l e room_1 s m args below meth c w 7 (n + 8) (k + 48) Q 2148 [some (.ref b), some (.ref (w.2.1 0)), some (.ref (w.2.1 85)), some (.ref (w.2.1 116)), some (.int (nI i)), none, none] [] X2) : V p l e room_1 s m args below meth c w 7 n k Q 33 [some (.ref b), some (.ref (w.2.1 0)), some (.ref (w.2.1 85)), some (.ref (w.2.1 116)), some (.int (nI i)), none, none] [] X := by
  obtain ⟨C, hD, hN, hX, hbl, hfar, hL⟩ := id K
  refine V_aload_n (i := 0) C dL_law_33 rfl ?_
  refine V_iload C dL_law_34 rfl ?_
  refine V_sld C hX hbl hfar (vin_n (by omega) hL) dL_law_36 ?_
  refine V_bipush (v := 31) C dL_law_37 (by decide) ?_
  refine V_iand C dL_law_39 ?_
  obtain ⟨z, hz, ez⟩ := i32_and31 (xs (nI i).toNatClampNeg)
  refine V_eqi ez ?_
  match z, hz with
  | 0, _ => exact V_tab (off := 144) (tgt := 184) C dL_law_40 (by decide) (by decide) (by decide) (by decide) (law_holder K hi hnk hJ kk)
  | 1, _ => exact V_tab (off := 200) (tgt := 240) C dL_law_40 (by decide) (by decide) (by decide) (by decide) (law_belong K hi hnk hJ kk)
  | 2, _ => exact V_tab (off := 268) (tgt := 308) C dL_law_40 (by decide) (by decide) (by decide) (by decide) (law_roll K hi hnk hJ kk)
  | 3, _ => exact V_tab (off := 324) (tgt := 364) C dL_law_40 (by decide) (by decide) (by decide) (by decide) (law_publish K hi hnk hJ kk)
  | 4, _ => exact V_tab (off := 392) (tgt := 432) C dL_law_40 (by decide) (by decide) (by decide) (by decide) (law_pass K hi hnk hJ kk)
  | 5, _ => exact V_tab (off := 448) (tgt := 488) C dL_law_40 (by decide) (by decide) (by decide) (by decide) (law_grant K hi hnk hJ kk)
  | 6, _ => exact V_tab (off := 552) (tgt := 592) C dL_law_40 (by decide) (by decide) (by decide) (by decide) (law_origin K hi hnk hJ kk)
  | 7, _ => exact V_tab (off := 670) (tgt := 710) C dL_law_40 (by decide) (by decide) (by decide) (by decide) (law_vouch K hi hnk hJ kk)
  | 8, _ => exact V_tab (off := 762) (tgt := 802) C dL_law_40 (by decide) (by decide) (by decide) (by decide) (law_revoke K hi hnk hJ kk)
  | 9, _ => exact V_tab (off := 825) (tgt := 865) C dL_law_40 (by decide) (by decide) (by decide) (by decide) (law_alter K hi hnk hJ kk)
  | 10, _ => exact V_tab (off := 893) (tgt := 933) C dL_law_40 (by decide) (by decide) (by decide) (by decide) (law_sign K hi hnk hJ kk)
  | 11, _ => exact V_tab (off := 949) (tgt := 989) C dL_law_40 (by decide) (by decide) (by decide) (by decide) (law_hop K hi hnk hJ kk)
  | 12, _ => exact V_tab (off := 1005) (tgt := 1045) C dL_law_40 (by decide) (by decide) (by decide) (by decide) (law_hear K hi hnk hJ kk)
  | 13, _ => exact V_tab (off := 1073) (tgt := 1113) C dL_law_40 (by decide) (by decide) (by decide) (by decide) (law_withdraw K hi hnk hJ kk)
  | 14, _ => exact V_tab (off := 1129) (tgt := 1169) C dL_law_40 (by decide) (by decide) (by decide) (by decide) (law_tie K hi hnk hJ kk)
  | 15, _ => exact V_tab (off := 1209) (tgt := 1249) C dL_law_40 (by decide) (by decide) (by decide) (by decide) (law_today K hi hnk hJ kk)
  | 16, _ => exact V_tab (off := 1222) (tgt := 1262) C dL_law_40 (by decide) (by decide) (by decide) (by decide) (law_objects K hi hnk hJ kk)
  | 17, _ => exact V_tab (off := 1235) (tgt := 1275) C dL_law_40 (by decide) (by decide) (by decide) (by decide) (law_judged K hi hnk hJ kk)
  | 18, _ => exact V_tab (off := 1291) (tgt := 1331) C dL_law_40 (by decide) (by decide) (by decide) (by decide) (law_has K hi hnk hJ kk)
  | 19, _ => exact V_tab (off := 1378) (tgt := 1418) C dL_law_40 (by decide) (by decide) (by decide) (by decide) (law_hasByChains K hi hnk hJ kk)
  | 20, _ => exact V_tab (off := 1465) (tgt := 1505) C dL_law_40 (by decide) (by decide) (by decide) (by decide) (law_state K hi hnk hJ kk)
  | 21, _ => exact V_tab (off := 1545) (tgt := 1585) C dL_law_40 (by decide) (by decide) (by decide) (by decide) (law_routes K hi hnk hJ kk)
  | 22, _ => exact V_tab (off := 1558) (tgt := 1598) C dL_law_40 (by decide) (by decide) (by decide) (by decide) (law_path K hi hnk hJ kk)
  | 23, _ => exact V_tab (off := 1642) (tgt := 1682) C dL_law_40 (by decide) (by decide) (by decide) (by decide) (law_leak K hi hnk hJ kk)
  | 24, _ => exact V_tab (off := 1698) (tgt := 1738) C dL_law_40 (by decide) (by decide) (by decide) (by decide) (law_stopped K hi hnk hJ kk)
  | 25, _ => exact V_tab (off := 1766) (tgt := 1806) C dL_law_40 (by decide) (by decide) (by decide) (by decide) (law_allowed K hi hnk hJ kk)
  | 26, _ => exact V_tab (off := 1834) (tgt := 1874) C dL_law_40 (by decide) (by decide) (by decide) (by decide) (law_falseAlarms K hi hnk hJ kk)
  | 27, _ => exact V_tab (off := 1847) (tgt := 1887) C dL_law_40 (by decide) (by decide) (by decide) (by decide) (law_clique K hi hnk hJ kk)
  | 28, _ => exact V_tab (off := 1860) (tgt := 1900) C dL_law_40 (by decide) (by decide) (by decide) (by decide) (law_inferred K hi hnk hJ kk)
  | 29, _ => exact V_tab (off := 1940) (tgt := 1980) C dL_law_40 (by decide) (by decide) (by decide) (by decide) (law_cone K hi hnk hJ kk)
  | 30, _ => exact V_tab (off := 1996) (tgt := 2036) C dL_law_40 (by decide) (by decide) (by decide) (by decide) (law_coneByPaths K hi hnk hJ kk)
  | 31, _ => exact V_tab (off := 2052) (tgt := 2092) C dL_law_40 (by decide) (by decide) (by decide) (by decide) (law_addresses K hi hnk hJ kk)
  | z + 32, h => exact absurd h (by omega)
theorem law_loop (K : LawC p l s m #[Value.ref b] meth c w b L0 xs) : ∀ (f j : Nat) (X : Mem), 7 * j ≤ L0 → L0 < 7 * (j + f) → JJ X → V p l e room_1 s m #[Value.ref b] below meth c w 7 (117 + 8 * j) (2712 + 48 * j) (lw_Z below #[Value.ref b] s) 23 [some (.ref b), some (.ref (w.2.1 0)), some (.ref (w.2.1 85)), some (.ref (w.2.1 116)), some (.int (nI (7 * j))), none, none] [] X := by
  obtain ⟨C, hD, hN, hX, hbl, hfar, hL⟩ := id K
  intro f
  induction f with
  | zero => intro j X h1 h2; exact absurd h2 (by omega)
  | succ f ih =>
    intro j X h1 h2 hJ
    refine V_iload C dL_law_23 rfl ?_
    refine V_aload_n (i := 0) C dL_law_25 rfl ?_
    refine V_slen C hX hbl hfar dL_law_26 ?_
    refine V_bipush (v := nI 7) C dL_law_27 (by decide) ?_
    have hend : V p l e room_1 s m #[Value.ref b] below meth c w 7 (117 + 8 * j) (2712 + 48 * j) (lw_Z below #[Value.ref b] s) 2154 [some (.ref b), some (.ref (w.2.1 0)), some (.ref (w.2.1 85)), some (.ref (w.2.1 116)), some (.int (nI (7 * j))), none, none] [] X := law_end K ⟨by omega, by omega⟩
    by_cases h7 : 7 ≤ L0
    · refine V_isubN C dL_law_29 h7 ?_
      refine V_icmp_gtN (tgt := 2154) C dL_law_30 (by decide) (by omega) (by omega) (fun _ => hend) (fun h => ?_)
      refine law_one K (by omega) ⟨by omega, by omega⟩ hJ (fun X2 hJ2 => ?_)
      refine V_iinc (v := nI (7 * (j + 1))) C dL_law_2148 rfl (by rw [show 7 * (j + 1) = 7 * j + 7 by omega, ← nI_add]; rfl) (by decide) rfl ?_
      refine V_goto (tgt := 23) C dL_law_2151 (by decide) ?_
      have h9 := ih (j + 1) X2 (by omega) (by omega) hJ2
      rw [show 117 + 8 * (j + 1) = 117 + 8 * j + 8 by omega, show 2712 + 48 * (j + 1) = 2712 + 48 * j + 48 by omega] at h9
      exact h9
    · have hj : j = 0 := by omega
      subst hj
      refine V_isub C dL_law_29 ?_
      refine V_icmp_gt (tgt := 2154) C dL_law_30 (by decide) (fun _ => hend) (fun h => ?_)
      exact absurd (show nI L0 - nI 7 < nI (7 * 0) by
        rcases (show L0 = 0 ∨ L0 = 1 ∨ L0 = 2 ∨ L0 = 3 ∨ L0 = 4 ∨ L0 = 5 ∨ L0 = 6 by omega) with rfl | rfl | rfl | rfl | rfl | rfl | rfl <;> decide) h
end LAW
theorem whole_start {p : Program} {e : Env} {s : State} {m : MethodId} {below : List Frame} {meth : Method} {c : Code} (l : Launch) (hflags : l.flags = flags0) {b L : Nat} {xs : Nat → Int32} (hL : L ≤ 3584) (C0 : lw_At p s m meth c b L xs) : W p l e room_1 s m #[Value.ref b] below meth c s.heap [] 0 0 (lw_Z below #[Value.ref b] s) (entryFrame m ([Value.ref b] : List Value).toArray 7) := by
  obtain ⟨hx, hb, hr, hml, hown, hts, hX, hbl, hlocks, hgv⟩ := C0
  obtain ⟨w, hw, hKw⟩ := start_K hts
  have hA := start_A hts
  have C : CX p s m #[Value.ref b] meth c w cL_law 7 RL ret := ⟨hx, hb, hml, hown, hKw, hr, hlocks, fun x h => hts x (tb_in x h)⟩
  have K : LawC p l s m #[Value.ref b] meth c w b L xs := ⟨C, start_D hflags hw hts hgv, start_N hgv, hX, hbl, fun j _ => by rw [hw]; exact Nat.le_add_right _ _, hL⟩
  obtain ⟨Lo, hF, hLo⟩ := LH_start (m := m) (as := [Value.ref b]) (nL := 7) (Nat.le_of_ble_eq_true rfl) (List.forall_mem_cons.mpr ⟨rfl, fun _ h => nomatch h⟩)
  rw [hF]
  refine (?_ : Vn p l e room_1 s m #[Value.ref b] below meth c w s.heap.size 7 0 0 (lw_Z below #[Value.ref b] s) 0 [some (.ref b), none, none, none, none, none, none] [] 0 Z0 []) s.heap [] Lo rfl (fun k q h => by cases h) va_S.rf hLo
  refine Vn_new C hw (n1 := 1) (k1 := 8) nw_L_8 dL_law_0 rfl (by decide) (fun _ => rfl) (by decide +kernel) rfl rfl (by decide +kernel) (by decide +kernel) ?_
  refine Vn_to (pc1 := 3) (N1 := 1) rfl rfl ?_
  refine Vn_dup C dL_law_3 rfl ?_
  refine Vn_init (As := []) (rest := [.ref (w.2.1 0)]) (n1 := 85) (k1 := 1242) C mn_L_105 hA (n_X9 hw) dL_law_4 rfl rfl (Nat.le_of_ble_eq_true rfl) (by decide) (by decide) rfl rfl (by decide +kernel) (by decide +kernel) ?_
  refine Vn_to (pc1 := 7) (N1 := 85) rfl rfl ?_
  refine Vn_astore_n (i := 1) C dL_law_7 (by decide) rfl ?_
  refine Vn_new C hw (n1 := 86) (k1 := 1279) nw_L_106 dL_law_8 rfl (by decide) (fun _ => rfl) (by decide +kernel) rfl rfl (by decide +kernel) (by decide +kernel) ?_
  refine Vn_to (pc1 := 11) (N1 := 86) rfl rfl ?_
  refine Vn_dup C dL_law_11 rfl ?_
  refine Vn_init (As := []) (rest := [.ref (w.2.1 85)]) (n1 := 116) (k1 := 2711) C mn_L_108 hA (n_X10 hw) dL_law_12 rfl rfl (Nat.le_of_ble_eq_true rfl) (by decide) (by decide) rfl rfl (by decide +kernel) (by decide +kernel) ?_
  refine Vn_to (pc1 := 15) (N1 := 116) rfl rfl ?_
  refine Vn_astore_n (i := 2) C dL_law_15 (by decide) rfl ?_
  refine Vn_iconst (v := 1) C dL_law_16 (by decide) ?_
  refine Vn_newl C hw hA (n1 := 117) (k1 := 2712) dL_law_17 rfl (fun _ => rfl) (by decide) (by decide) rfl rfl (by decide +kernel) (by decide +kernel) ?_
  refine Vn_to (pc1 := 19) (N1 := 117) rfl rfl ?_
  refine Vn_astore_n (i := 3) C dL_law_19 (by decide) rfl ?_
  refine Vn_V (by decide +kernel) ?_
  refine V_iconst (v := nI 0) C dL_law_20 (by decide) ?_
  refine V_istore C dL_law_21 (by decide) rfl ?_
  exact law_loop K (L + 1) 0 Zm3 (Nat.zero_le _) (by omega) start_J
