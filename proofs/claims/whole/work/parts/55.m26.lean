theorem cl_13 : Cond.classLink RL 13 eIO ∈ TB := (tb_i 525 (by decide +kernel) (by decide +kernel))
theorem cl_15 : Cond.classLink RL 15 eIS ∈ TB := (tb_i 526 (by decide +kernel) (by decide +kernel))
theorem cl_27 : Cond.classLink RL 27 eIA ∈ TB := (tb_i 645 (by decide +kernel) (by decide +kernel))
/-- the place of an exception among those that a call may throw -/
def ECd (es : List String) (E : String) (r : Int32) : Prop := ∃ i, es[i]? = some E ∧ r = nI (i + 1)
def q_L_holder (v : Int32) (X : Mem) (h : Nat) : Int32 → Mem → Prop := fun r X' => (r = 0 ∧ ∃ rv X1, (q_X9_holder v X h) rv X1 ∧ X' = ma X1 116 (upd (X1 116) 0 rv)) ∨ ∃ E, (r_X9_holder v X h) E X' ∧ ECd [eIO, eIS] E r
set_option maxHeartbeats 4000000 in
set_option maxRecDepth 100000 in
theorem k_L_holder (w : Wt) (l : Launch) (v : Int32) (X : Mem) (h : Nat) (hh : X 1 1 = nI h) (h1 : 1 ≤ h) (h8 : h ≤ 8) : CtH w l yL_holder cL_holder 4 [(0, 9, 12, 13), (0, 9, 15, 15)] 8 124 2 [.ref (w.2.1 0), .int v, .ref (w.2.1 116)] X (q_L_holder v X h) := by
  refine CtH_of (by decide +kernel) (Nat.le_of_ble_eq_true rfl) (List.forall_mem_cons.mpr ⟨rfl, (List.forall_mem_cons.mpr ⟨rfl, (List.forall_mem_cons.mpr ⟨rfl, (fun _ h => nomatch h)⟩)⟩)⟩) (ls := [some (.ref (w.2.1 0)), some (.int v), some (.ref (w.2.1 116)), none]) rfl (args := (#[.ref (w.2.1 0), .int v, .ref (w.2.1 116)] : Array Value)) rfl (own := RL) rfl ?_
  intro p e s m below meth c C ht hD hN
  refine V_aload_n C dL_holder_0 rfl ?_
  refine V_iconst (v := (0 : Int32)) C dL_holder_1 (by decide) ?_
  refine V_aload_n C dL_holder_2 rfl ?_
  refine V_iload_n C dL_holder_3 rfl ?_
  refine V_hcallV C hD [.int v] mi_L_7 (tb_i 527 (by decide +kernel) (by decide +kernel)) (k_X9_holder w l v X h hh h1 h8) dL_holder_4 sh_0 (by decide) rfl rfl rfl (Nat.le_of_ble_eq_true rfl) (Nat.le_of_ble_eq_true rfl) (Nat.le_of_ble_eq_true rfl) ⟨by decide, by decide⟩ (fun E X1 hx => ?_) (fun rv X1 hq => ?_)
  · have hE : E = eIO ∨ E = eIS := hx.2.elim (fun g => Or.inl g.1) (fun g => Or.inr g.1)
    rcases hE with rfl | rfl
    · refine ⟨12, HC_1 ht rfl ⟨by decide, by decide⟩ (by decide) (C.2.2.2.2.2.2.2 _ cl_13) (C.2.2.2.2.2.2.2 _ cc_IO), fun q => ?_⟩
      refine V_astore_n (ls1 := [some (.ref (w.2.1 0)), some (.int v), some (.ref (w.2.1 116)), some (.ref q)]) C dL_holder_12 (by decide) rfl ?_
      refine V_iconst (v := (1 : Int32)) C dL_holder_13 (by decide) ?_
      exact V_ireturnX C dL_holder_14 (by decide) (by decide) (Or.inr ⟨_, hx, 0, rfl, rfl⟩)
    · refine ⟨15, HC_2 ht rfl (by decide) (C.2.2.2.2.2.2.2 _ cl_13) hN.1 ⟨by decide, by decide⟩ (by decide) (C.2.2.2.2.2.2.2 _ cl_15) (C.2.2.2.2.2.2.2 _ cc_IS), fun q => ?_⟩
      refine V_astore_n (ls1 := [some (.ref (w.2.1 0)), some (.int v), some (.ref (w.2.1 116)), some (.ref q)]) C dL_holder_15 (by decide) rfl ?_
      refine V_iconst (v := (2 : Int32)) C dL_holder_16 (by decide) ?_
      exact V_ireturnX C dL_holder_17 (by decide) (by decide) (Or.inr ⟨_, hx, 1, rfl, rfl⟩)
  · refine V_i2l C dL_holder_7 ?_
    refine V_lastore0 C dL_holder_8 ?_
    refine V_goto (tgt := 18) C dL_holder_9 (by decide) ?_
    refine V_iconst (v := (0 : Int32)) C dL_holder_18 (by decide) ?_
    exact V_ireturnX C dL_holder_19 (by decide) (by decide) (Or.inl ⟨rfl, rv, X1, hq, rfl⟩)
def q_L_belong (nt : Int32) (v : Int32) (X : Mem) (h : Nat) : Int32 → Mem → Prop := fun r X' => (r = 0 ∧ ∃ rv X1, (q_X9_belong nt v X h) rv X1 ∧ X' = ma X1 116 (upd (X1 116) 0 rv)) ∨ ∃ E, (r_X9_belong nt v X h) E X' ∧ ECd [eIO] E r
set_option maxHeartbeats 4000000 in
set_option maxRecDepth 100000 in
theorem k_L_belong (w : Wt) (l : Launch) (nt : Int32) (v : Int32) (X : Mem) (h : Nat) (hh : X 1 1 = nI h) (h1 : 1 ≤ h) (h8 : h ≤ 8) : CtH w l yL_belong cL_belong 5 [(0, 10, 13, 13)] 8 126 2 [.ref (w.2.1 0), .int nt, .int v, .ref (w.2.1 116)] X (q_L_belong nt v X h) := by
  refine CtH_of (by decide +kernel) (Nat.le_of_ble_eq_true rfl) (List.forall_mem_cons.mpr ⟨rfl, (List.forall_mem_cons.mpr ⟨rfl, (List.forall_mem_cons.mpr ⟨rfl, (List.forall_mem_cons.mpr ⟨rfl, (fun _ h => nomatch h)⟩)⟩)⟩)⟩) (ls := [some (.ref (w.2.1 0)), some (.int nt), some (.int v), some (.ref (w.2.1 116)), none]) rfl (args := (#[.ref (w.2.1 0), .int nt, .int v, .ref (w.2.1 116)] : Array Value)) rfl (own := RL) rfl ?_
  intro p e s m below meth c C ht hD hN
  refine V_aload_n C dL_belong_0 rfl ?_
  refine V_iconst (v := (0 : Int32)) C dL_belong_1 (by decide) ?_
  refine V_aload_n C dL_belong_2 rfl ?_
  refine V_iload_n C dL_belong_3 rfl ?_
  refine V_iload_n C dL_belong_4 rfl ?_
  refine V_hcallV C hD [.int nt, .int v] mi_L_17 (tb_i 626 (by decide +kernel) (by decide +kernel)) (k_X9_belong w l nt v X h hh h1 h8) dL_belong_5 sh_0 (by decide) rfl rfl rfl (Nat.le_of_ble_eq_true rfl) (Nat.le_of_ble_eq_true rfl) (Nat.le_of_ble_eq_true rfl) ⟨by decide, by decide⟩ (fun E X1 hx => ?_) (fun rv X1 hq => ?_)
  · have hE : E = eIO := hx.2.1
    rcases hE with rfl
    · refine ⟨13, HC_1 ht rfl ⟨by decide, by decide⟩ (by decide) (C.2.2.2.2.2.2.2 _ cl_13) (C.2.2.2.2.2.2.2 _ cc_IO), fun q => ?_⟩
      refine V_astore (ls1 := [some (.ref (w.2.1 0)), some (.int nt), some (.int v), some (.ref (w.2.1 116)), some (.ref q)]) C dL_belong_13 (by decide) rfl ?_
      refine V_iconst (v := (1 : Int32)) C dL_belong_15 (by decide) ?_
      exact V_ireturnX C dL_belong_16 (by decide) (by decide) (Or.inr ⟨_, hx, 0, rfl, rfl⟩)
  · refine V_i2l C dL_belong_8 ?_
    refine V_lastore0 C dL_belong_9 ?_
    refine V_goto (tgt := 17) C dL_belong_10 (by decide) ?_
    refine V_iconst (v := (0 : Int32)) C dL_belong_17 (by decide) ?_
    exact V_ireturnX C dL_belong_18 (by decide) (by decide) (Or.inl ⟨rfl, rv, X1, hq, rfl⟩)
def q_L_roll (v : Int32) (X : Mem) (h : Nat) : Int32 → Mem → Prop := fun r X' => (r = 0 ∧ ∃ rv X1, (q_X9_roll v X h) rv X1 ∧ X' = ma X1 116 (upd (X1 116) 0 rv)) ∨ ∃ E, (r_X9_roll v X h) E X' ∧ ECd [eIO, eIS] E r
set_option maxHeartbeats 4000000 in
set_option maxRecDepth 100000 in
theorem k_L_roll (w : Wt) (l : Launch) (v : Int32) (X : Mem) (h : Nat) (hh : X 1 1 = nI h) (h1 : 1 ≤ h) (h8 : h ≤ 8) (hk : ∀ b, b < 8 → ∃ a, a ≤ 100 ∧ X 3 b = nI a) : CtH w l yL_roll cL_roll 4 [(0, 9, 12, 13), (0, 9, 15, 15)] 8 124 2 [.ref (w.2.1 0), .int v, .ref (w.2.1 116)] X (q_L_roll v X h) := by
  refine CtH_of (by decide +kernel) (Nat.le_of_ble_eq_true rfl) (List.forall_mem_cons.mpr ⟨rfl, (List.forall_mem_cons.mpr ⟨rfl, (List.forall_mem_cons.mpr ⟨rfl, (fun _ h => nomatch h)⟩)⟩)⟩) (ls := [some (.ref (w.2.1 0)), some (.int v), some (.ref (w.2.1 116)), none]) rfl (args := (#[.ref (w.2.1 0), .int v, .ref (w.2.1 116)] : Array Value)) rfl (own := RL) rfl ?_
  intro p e s m below meth c C ht hD hN
  refine V_aload_n C dL_roll_0 rfl ?_
  refine V_iconst (v := (0 : Int32)) C dL_roll_1 (by decide) ?_
  refine V_aload_n C dL_roll_2 rfl ?_
  refine V_iload_n C dL_roll_3 rfl ?_
  refine V_hcallV C hD [.int v] mi_L_21 (tb_i 637 (by decide +kernel) (by decide +kernel)) (k_X9_roll w l v X h hh h1 h8 hk) dL_roll_4 sh_0 (by decide) rfl rfl rfl (Nat.le_of_ble_eq_true rfl) (Nat.le_of_ble_eq_true rfl) (Nat.le_of_ble_eq_true rfl) ⟨by decide, by decide⟩ (fun E X1 hx => ?_) (fun rv X1 hq => ?_)
  · have hE : E = eIO ∨ E = eIS := hx.2.elim (fun g => Or.inl g.1) (fun g => Or.inr g.1)
    rcases hE with rfl | rfl
    · refine ⟨12, HC_1 ht rfl ⟨by decide, by decide⟩ (by decide) (C.2.2.2.2.2.2.2 _ cl_13) (C.2.2.2.2.2.2.2 _ cc_IO), fun q => ?_⟩
      refine V_astore_n (ls1 := [some (.ref (w.2.1 0)), some (.int v), some (.ref (w.2.1 116)), some (.ref q)]) C dL_roll_12 (by decide) rfl ?_
      refine V_iconst (v := (1 : Int32)) C dL_roll_13 (by decide) ?_
      exact V_ireturnX C dL_roll_14 (by decide) (by decide) (Or.inr ⟨_, hx, 0, rfl, rfl⟩)
    · refine ⟨15, HC_2 ht rfl (by decide) (C.2.2.2.2.2.2.2 _ cl_13) hN.1 ⟨by decide, by decide⟩ (by decide) (C.2.2.2.2.2.2.2 _ cl_15) (C.2.2.2.2.2.2.2 _ cc_IS), fun q => ?_⟩
      refine V_astore_n (ls1 := [some (.ref (w.2.1 0)), some (.int v), some (.ref (w.2.1 116)), some (.ref q)]) C dL_roll_15 (by decide) rfl ?_
      refine V_iconst (v := (2 : Int32)) C dL_roll_16 (by decide) ?_
      exact V_ireturnX C dL_roll_17 (by decide) (by decide) (Or.inr ⟨_, hx, 1, rfl, rfl⟩)
  · refine V_i2l C dL_roll_7 ?_
    refine V_lastore0 C dL_roll_8 ?_
    refine V_goto (tgt := 18) C dL_roll_9 (by decide) ?_
    refine V_iconst (v := (0 : Int32)) C dL_roll_18 (by decide) ?_
    exact V_ireturnX C dL_roll_19 (by decide) (by decide) (Or.inl ⟨rfl, rv, X1, hq, rfl⟩)
def q_L_publish (v : Int32) (dy : Int32) (X : Mem) (h n : Nat) : Int32 → Mem → Prop := fun r X' => (r = 0 ∧ ∃ rv X1, (q_X9_publish v dy X h n) rv X1 ∧ X' = ma X1 116 (upd (X1 116) 0 rv)) ∨ ∃ E, (r_X9_publish v dy X h n) E X' ∧ ECd [eIO, eIA] E r
set_option maxHeartbeats 4000000 in
set_option maxRecDepth 100000 in
theorem k_L_publish (w : Wt) (l : Launch) (v : Int32) (dy : Int32) (X : Mem) (h n : Nat) (hh : X 1 1 = nI h) (h1 : 1 ≤ h) (h8 : h ≤ 8) (hn : X 6 0 = nI n) (n50 : n ≤ 50) : CtH w l yL_publish cL_publish 5 [(0, 10, 13, 13), (0, 10, 17, 27)] 8 126 2 [.ref (w.2.1 0), .int v, .int dy, .ref (w.2.1 116)] X (q_L_publish v dy X h n) := by
  refine CtH_of (by decide +kernel) (Nat.le_of_ble_eq_true rfl) (List.forall_mem_cons.mpr ⟨rfl, (List.forall_mem_cons.mpr ⟨rfl, (List.forall_mem_cons.mpr ⟨rfl, (List.forall_mem_cons.mpr ⟨rfl, (fun _ h => nomatch h)⟩)⟩)⟩)⟩) (ls := [some (.ref (w.2.1 0)), some (.int v), some (.int dy), some (.ref (w.2.1 116)), none]) rfl (args := (#[.ref (w.2.1 0), .int v, .int dy, .ref (w.2.1 116)] : Array Value)) rfl (own := RL) rfl ?_
  intro p e s m below meth c C ht hD hN
  refine V_aload_n C dL_publish_0 rfl ?_
  refine V_iconst (v := (0 : Int32)) C dL_publish_1 (by decide) ?_
  refine V_aload_n C dL_publish_2 rfl ?_
  refine V_iload_n C dL_publish_3 rfl ?_
  refine V_iload_n C dL_publish_4 rfl ?_
  refine V_hcallV C hD [.int v, .int dy] mi_L_24 (tb_i 646 (by decide +kernel) (by decide +kernel)) (k_X9_publish w l v dy X h n hh h1 h8 hn n50) dL_publish_5 sh_0 (by decide) rfl rfl rfl (Nat.le_of_ble_eq_true rfl) (Nat.le_of_ble_eq_true rfl) (Nat.le_of_ble_eq_true rfl) ⟨by decide, by decide⟩ (fun E X1 hx => ?_) (fun rv X1 hq => ?_)
  · have hE : E = eIO ∨ E = eIA := hx.2.elim (fun g => Or.inl g.1) (fun g => Or.inr g.1)
    rcases hE with rfl | rfl
    · refine ⟨13, HC_1 ht rfl ⟨by decide, by decide⟩ (by decide) (C.2.2.2.2.2.2.2 _ cl_13) (C.2.2.2.2.2.2.2 _ cc_IO), fun q => ?_⟩
      refine V_astore (ls1 := [some (.ref (w.2.1 0)), some (.int v), some (.int dy), some (.ref (w.2.1 116)), some (.ref q)]) C dL_publish_13 (by decide) rfl ?_
      refine V_iconst (v := (1 : Int32)) C dL_publish_15 (by decide) ?_
      exact V_ireturnX C dL_publish_16 (by decide) (by decide) (Or.inr ⟨_, hx, 0, rfl, rfl⟩)
    · refine ⟨17, HC_2 ht rfl (by decide) (C.2.2.2.2.2.2.2 _ cl_13) hN.2.1 ⟨by decide, by decide⟩ (by decide) (C.2.2.2.2.2.2.2 _ cl_27) (C.2.2.2.2.2.2.2 _ cc_IA), fun q => ?_⟩
      refine V_astore (ls1 := [some (.ref (w.2.1 0)), some (.int v), some (.int dy), some (.ref (w.2.1 116)), some (.ref q)]) C dL_publish_17 (by decide) rfl ?_
      refine V_iconst (v := (2 : Int32)) C dL_publish_19 (by decide) ?_
      exact V_ireturnX C dL_publish_20 (by decide) (by decide) (Or.inr ⟨_, hx, 1, rfl, rfl⟩)
  · refine V_i2l C dL_publish_8 ?_
    refine V_lastore0 C dL_publish_9 ?_
    refine V_goto (tgt := 21) C dL_publish_10 (by decide) ?_
    refine V_iconst (v := (0 : Int32)) C dL_publish_21 (by decide) ?_
    exact V_ireturnX C dL_publish_22 (by decide) (by decide) (Or.inl ⟨rfl, rv, X1, hq, rfl⟩)
def q_L_pass (v : Int32) (X : Mem) (D : Nat) : Int32 → Mem → Prop := fun r X' => (r = 0 ∧ ∃ rv X1, (q_X9_pass v X D) rv X1 ∧ X' = ma X1 116 (upd (X1 116) 0 rv)) ∨ ∃ E, (r_X9_pass v X D) E X' ∧ ECd [eIA, eIS] E r
set_option maxHeartbeats 4000000 in
set_option maxRecDepth 100000 in
theorem k_L_pass (w : Wt) (l : Launch) (v : Int32) (X : Mem) (D : Nat) (hday : X 1 0 = nI D) (hd1 : D ≤ 10000) : CtH w l yL_pass cL_pass 4 [(0, 9, 12, 27), (0, 9, 15, 15)] 8 125 2 [.ref (w.2.1 0), .int v, .ref (w.2.1 116)] X (q_L_pass v X D) := by
  refine CtH_of (by decide +kernel) (Nat.le_of_ble_eq_true rfl) (List.forall_mem_cons.mpr ⟨rfl, (List.forall_mem_cons.mpr ⟨rfl, (List.forall_mem_cons.mpr ⟨rfl, (fun _ h => nomatch h)⟩)⟩)⟩) (ls := [some (.ref (w.2.1 0)), some (.int v), some (.ref (w.2.1 116)), none]) rfl (args := (#[.ref (w.2.1 0), .int v, .ref (w.2.1 116)] : Array Value)) rfl (own := RL) rfl ?_
  intro p e s m below meth c C ht hD hN
  refine V_aload_n C dL_pass_0 rfl ?_
  refine V_iconst (v := (0 : Int32)) C dL_pass_1 (by decide) ?_
  refine V_aload_n C dL_pass_2 rfl ?_
  refine V_iload_n C dL_pass_3 rfl ?_
  refine V_hcallV C hD [.int v] mi_L_29 (tb_i 676 (by decide +kernel) (by decide +kernel)) (k_X9_pass w l v X D hday hd1) dL_pass_4 sh_0 (by decide) rfl rfl rfl (Nat.le_of_ble_eq_true rfl) (Nat.le_of_ble_eq_true rfl) (Nat.le_of_ble_eq_true rfl) ⟨by decide, by decide⟩ (fun E X1 hx => ?_) (fun rv X1 hq => ?_)
  · have hE : E = eIA ∨ E = eIS := hx.2.elim (fun g => Or.inl g.1) (fun g => Or.inr g.1)
    rcases hE with rfl | rfl
    · refine ⟨12, HC_1 ht rfl ⟨by decide, by decide⟩ (by decide) (C.2.2.2.2.2.2.2 _ cl_27) (C.2.2.2.2.2.2.2 _ cc_IA), fun q => ?_⟩
      refine V_astore_n (ls1 := [some (.ref (w.2.1 0)), some (.int v), some (.ref (w.2.1 116)), some (.ref q)]) C dL_pass_12 (by decide) rfl ?_
      refine V_iconst (v := (1 : Int32)) C dL_pass_13 (by decide) ?_
      exact V_ireturnX C dL_pass_14 (by decide) (by decide) (Or.inr ⟨_, hx, 0, rfl, rfl⟩)
    · refine ⟨15, HC_2 ht rfl (by decide) (C.2.2.2.2.2.2.2 _ cl_27) hN.2.2.1 ⟨by decide, by decide⟩ (by decide) (C.2.2.2.2.2.2.2 _ cl_15) (C.2.2.2.2.2.2.2 _ cc_IS), fun q => ?_⟩
      refine V_astore_n (ls1 := [some (.ref (w.2.1 0)), some (.int v), some (.ref (w.2.1 116)), some (.ref q)]) C dL_pass_15 (by decide) rfl ?_
      refine V_iconst (v := (2 : Int32)) C dL_pass_16 (by decide) ?_
      exact V_ireturnX C dL_pass_17 (by decide) (by decide) (Or.inr ⟨_, hx, 1, rfl, rfl⟩)
  · refine V_i2l C dL_pass_7 ?_
    refine V_lastore0 C dL_pass_8 ?_
    refine V_goto (tgt := 18) C dL_pass_9 (by decide) ?_
    refine V_iconst (v := (0 : Int32)) C dL_pass_18 (by decide) ?_
    exact V_ireturnX C dL_pass_19 (by decide) (by decide) (Or.inl ⟨rfl, rv, X1, hq, rfl⟩)
def q_L_grant (is : Int32) (wm : Int32) (vl : Int32) (ln : Int32) (dd : Int32) (X : Mem) (h n : Nat) : Int32 → Mem → Prop := fun r X' => (r = 0 ∧ ∃ rv X1, (q_X9_grant is wm vl ln dd X h n) rv X1 ∧ X' = ma X1 116 (upd (X1 116) 0 rv)) ∨ ∃ E, (r_X9_grant is wm vl ln dd X h n) E X' ∧ ECd [eIO, eIA, eIS] E r
set_option maxHeartbeats 4000000 in
set_option maxRecDepth 100000 in
theorem k_L_grant (w : Wt) (l : Launch) (is : Int32) (wm : Int32) (vl : Int32) (ln : Int32) (dd : Int32) (X : Mem) (h n : Nat) (hh : X 1 1 = nI h) (h1 : 1 ≤ h) (h8 : h ≤ 8) (hn : X 6 0 = nI n) (n50 : n ≤ 50) : CtH w l yL_grant cL_grant 8 [(0, 16, 19, 13), (0, 16, 23, 27), (0, 16, 27, 15)] 9 150 7 [.ref (w.2.1 0), .int is, .int wm, .int vl, .int ln, .int dd, .ref (w.2.1 116)] X (q_L_grant is wm vl ln dd X h n) := by
  refine CtH_of (by decide +kernel) (Nat.le_of_ble_eq_true rfl) (List.forall_mem_cons.mpr ⟨rfl, (List.forall_mem_cons.mpr ⟨rfl, (List.forall_mem_cons.mpr ⟨rfl, (List.forall_mem_cons.mpr ⟨rfl, (List.forall_mem_cons.mpr ⟨rfl, (List.forall_mem_cons.mpr ⟨rfl, (List.forall_mem_cons.mpr ⟨rfl, (fun _ h => nomatch h)⟩)⟩)⟩)⟩)⟩)⟩)⟩) (ls := [some (.ref (w.2.1 0)), some (.int is), some (.int wm), some (.int vl), some (.int ln), some (.int dd), some (.ref (w.2.1 116)), none]) rfl (args := (#[.ref (w.2.1 0), .int is, .int wm, .int vl, .int ln, .int dd, .ref (w.2.1 116)] : Array Value)) rfl (own := RL) rfl ?_
  intro p e s m below meth c C ht hD hN
  refine V_aload C dL_grant_0 rfl ?_
  refine V_iconst (v := (0 : Int32)) C dL_grant_2 (by decide) ?_
  refine V_aload_n C dL_grant_3 rfl ?_
  refine V_iload_n C dL_grant_4 rfl ?_
  refine V_iload_n C dL_grant_5 rfl ?_
  refine V_iload_n C dL_grant_6 rfl ?_
  refine V_iload C dL_grant_7 rfl ?_
  refine V_iload C dL_grant_9 rfl ?_
  refine V_hcallV C hD [.int is, .int wm, .int vl, .int ln, .int dd] mi_L_32 (tb_i 684 (by decide +kernel) (by decide +kernel)) (k_X9_grant w l is wm vl ln dd X h n hh h1 h8 hn n50) dL_grant_11 sh_0 (by decide) rfl rfl rfl (Nat.le_of_ble_eq_true rfl) (Nat.le_of_ble_eq_true rfl) (Nat.le_of_ble_eq_true rfl) ⟨by decide, by decide⟩ (fun E X1 hx => ?_) (fun rv X1 hq => ?_)
  · have hE : E = eIO ∨ E = eIA ∨ E = eIS := hx.2.elim (fun g => Or.inl g.1) (fun g => g.elim (fun g => Or.inr (Or.inl g.1)) (fun g => Or.inr (Or.inr g.1)))
    rcases hE with rfl | rfl | rfl
    · refine ⟨19, HC_1 ht rfl ⟨by decide, by decide⟩ (by decide) (C.2.2.2.2.2.2.2 _ cl_13) (C.2.2.2.2.2.2.2 _ cc_IO), fun q => ?_⟩
      refine V_astore (ls1 := [some (.ref (w.2.1 0)), some (.int is), some (.int wm), some (.int vl), some (.int ln), some (.int dd), some (.ref (w.2.1 116)), some (.ref q)]) C dL_grant_19 (by decide) rfl ?_
      refine V_iconst (v := (1 : Int32)) C dL_grant_21 (by decide) ?_
      exact V_ireturnX C dL_grant_22 (by decide) (by decide) (Or.inr ⟨_, hx, 0, rfl, rfl⟩)
    · refine ⟨23, HC_2 ht rfl (by decide) (C.2.2.2.2.2.2.2 _ cl_13) hN.2.1 ⟨by decide, by decide⟩ (by decide) (C.2.2.2.2.2.2.2 _ cl_27) (C.2.2.2.2.2.2.2 _ cc_IA), fun q => ?_⟩
      refine V_astore (ls1 := [some (.ref (w.2.1 0)), some (.int is), some (.int wm), some (.int vl), some (.int ln), some (.int dd), some (.ref (w.2.1 116)), some (.ref q)]) C dL_grant_23 (by decide) rfl ?_
      refine V_iconst (v := (2 : Int32)) C dL_grant_25 (by decide) ?_
      exact V_ireturnX C dL_grant_26 (by decide) (by decide) (Or.inr ⟨_, hx, 1, rfl, rfl⟩)
    · refine ⟨27, HC_3 ht rfl (by decide) (C.2.2.2.2.2.2.2 _ cl_13) hN.1 (by decide) (C.2.2.2.2.2.2.2 _ cl_27) hN.2.2.1 ⟨by decide, by decide⟩ (by decide) (C.2.2.2.2.2.2.2 _ cl_15) (C.2.2.2.2.2.2.2 _ cc_IS), fun q => ?_⟩
      refine V_astore (ls1 := [some (.ref (w.2.1 0)), some (.int is), some (.int wm), some (.int vl), some (.int ln), some (.int dd), some (.ref (w.2.1 116)), some (.ref q)]) C dL_grant_27 (by decide) rfl ?_
      refine V_iconst (v := (3 : Int32)) C dL_grant_29 (by decide) ?_
      exact V_ireturnX C dL_grant_30 (by decide) (by decide) (Or.inr ⟨_, hx, 2, rfl, rfl⟩)
  · refine V_i2l C dL_grant_14 ?_
    refine V_lastore0 C dL_grant_15 ?_
    refine V_goto (tgt := 31) C dL_grant_16 (by decide) ?_
    refine V_iconst (v := (0 : Int32)) C dL_grant_31 (by decide) ?_
    exact V_ireturnX C dL_grant_32 (by decide) (by decide) (Or.inl ⟨rfl, rv, X1, hq, rfl⟩)
def q_L_origin (is : Int32) (wm : Int32) (vl : Int32) (ln : Int32) (mo : Int32) (dd : Int32) (X : Mem) (h n : Nat) : Int32 → Mem → Prop := fun r X' => (r = 0 ∧ ∃ rv X1, (q_X9_origin is wm vl ln mo dd X h n) rv X1 ∧ X' = ma X1 116 (upd (X1 116) 0 rv)) ∨ ∃ E, (r_X9_origin is wm vl ln mo dd X h n) E X' ∧ ECd [eIO, eIA, eIS] E r
set_option maxHeartbeats 4000000 in
set_option maxRecDepth 100000 in
theorem k_L_origin (w : Wt) (l : Launch) (is : Int32) (wm : Int32) (vl : Int32) (ln : Int32) (mo : Int32) (dd : Int32) (X : Mem) (h n : Nat) (hh : X 1 1 = nI h) (h1 : 1 ≤ h) (h8 : h ≤ 8) (hn : X 6 0 = nI n) (n50 : n ≤ 50) : CtH w l yL_origin cL_origin 9 [(0, 18, 21, 13), (0, 18, 25, 27), (0, 18, 29, 15)] 9 151 8 [.ref (w.2.1 0), .int is, .int wm, .int vl, .int ln, .int mo, .int dd, .ref (w.2.1 116)] X (q_L_origin is wm vl ln mo dd X h n) := by
  refine CtH_of (by decide +kernel) (Nat.le_of_ble_eq_true rfl) (List.forall_mem_cons.mpr ⟨rfl, (List.forall_mem_cons.mpr ⟨rfl, (List.forall_mem_cons.mpr ⟨rfl, (List.forall_mem_cons.mpr ⟨rfl, (List.forall_mem_cons.mpr ⟨rfl, (List.forall_mem_cons.mpr ⟨rfl, (List.forall_mem_cons.mpr ⟨rfl, (List.forall_mem_cons.mpr ⟨rfl, (fun _ h => nomatch h)⟩)⟩)⟩)⟩)⟩)⟩)⟩)⟩) (ls := [some (.ref (w.2.1 0)), some (.int is), some (.int wm), some (.int vl), some (.int ln), some (.int mo), some (.int dd), some (.ref (w.2.1 116)), none]) rfl (args := (#[.ref (w.2.1 0), .int is, .int wm, .int vl, .int ln, .int mo, .int dd, .ref (w.2.1 116)] : Array Value)) rfl (own := RL) rfl ?_
  intro p e s m below meth c C ht hD hN
  refine V_aload C dL_origin_0 rfl ?_
  refine V_iconst (v := (0 : Int32)) C dL_origin_2 (by decide) ?_
  refine V_aload_n C dL_origin_3 rfl ?_
  refine V_iload_n C dL_origin_4 rfl ?_
  refine V_iload_n C dL_origin_5 rfl ?_
  refine V_iload_n C dL_origin_6 rfl ?_
  refine V_iload C dL_origin_7 rfl ?_
  refine V_iload C dL_origin_9 rfl ?_
  refine V_iload C dL_origin_11 rfl ?_
  refine V_hcallV C hD [.int is, .int wm, .int vl, .int ln, .int mo, .int dd] mi_L_36 (tb_i 716 (by decide +kernel) (by decide +kernel)) (k_X9_origin w l is wm vl ln mo dd X h n hh h1 h8 hn n50) dL_origin_13 sh_0 (by decide) rfl rfl rfl (Nat.le_of_ble_eq_true rfl) (Nat.le_of_ble_eq_true rfl) (Nat.le_of_ble_eq_true rfl) ⟨by decide, by decide⟩ (fun E X1 hx => ?_) (fun rv X1 hq => ?_)
  · have hE : E = eIO ∨ E = eIA ∨ E = eIS := hx.2.elim (fun g => Or.inl g.1) (fun g => g.elim (fun g => Or.inr (Or.inl g.1)) (fun g => Or.inr (Or.inr g.1)))
    rcases hE with rfl | rfl | rfl
    · refine ⟨21, HC_1 ht rfl ⟨by decide, by decide⟩ (by decide) (C.2.2.2.2.2.2.2 _ cl_13) (C.2.2.2.2.2.2.2 _ cc_IO), fun q => ?_⟩
      refine V_astore (ls1 := [some (.ref (w.2.1 0)), some (.int is), some (.int wm), some (.int vl), some (.int ln), some (.int mo), some (.int dd), some (.ref (w.2.1 116)), some (.ref q)]) C dL_origin_21 (by decide) rfl ?_
      refine V_iconst (v := (1 : Int32)) C dL_origin_23 (by decide) ?_
      exact V_ireturnX C dL_origin_24 (by decide) (by decide) (Or.inr ⟨_, hx, 0, rfl, rfl⟩)
    · refine ⟨25, HC_2 ht rfl (by decide) (C.2.2.2.2.2.2.2 _ cl_13) hN.2.1 ⟨by decide, by decide⟩ (by decide) (C.2.2.2.2.2.2.2 _ cl_27) (C.2.2.2.2.2.2.2 _ cc_IA), fun q => ?_⟩
      refine V_astore (ls1 := [some (.ref (w.2.1 0)), some (.int is), some (.int wm), some (.int vl), some (.int ln), some (.int mo), some (.int dd), some (.ref (w.2.1 116)), some (.ref q)]) C dL_origin_25 (by decide) rfl ?_
      refine V_iconst (v := (2 : Int32)) C dL_origin_27 (by decide) ?_
      exact V_ireturnX C dL_origin_28 (by decide) (by decide) (Or.inr ⟨_, hx, 1, rfl, rfl⟩)
    · refine ⟨29, HC_3 ht rfl (by decide) (C.2.2.2.2.2.2.2 _ cl_13) hN.1 (by decide) (C.2.2.2.2.2.2.2 _ cl_27) hN.2.2.1 ⟨by decide, by decide⟩ (by decide) (C.2.2.2.2.2.2.2 _ cl_15) (C.2.2.2.2.2.2.2 _ cc_IS), fun q => ?_⟩
      refine V_astore (ls1 := [some (.ref (w.2.1 0)), some (.int is), some (.int wm), some (.int vl), some (.int ln), some (.int mo), some (.int dd), some (.ref (w.2.1 116)), some (.ref q)]) C dL_origin_29 (by decide) rfl ?_
      refine V_iconst (v := (3 : Int32)) C dL_origin_31 (by decide) ?_
      exact V_ireturnX C dL_origin_32 (by decide) (by decide) (Or.inr ⟨_, hx, 2, rfl, rfl⟩)
  · refine V_i2l C dL_origin_16 ?_
    refine V_lastore0 C dL_origin_17 ?_
    refine V_goto (tgt := 33) C dL_origin_18 (by decide) ?_
    refine V_iconst (v := (0 : Int32)) C dL_origin_33 (by decide) ?_
    exact V_ireturnX C dL_origin_34 (by decide) (by decide) (Or.inl ⟨rfl, rv, X1, hq, rfl⟩)
def q_L_vouch (is : Int32) (wm : Int32) (pv : Int32) (dd : Int32) (X : Mem) (h n : Nat) : Int32 → Mem → Prop := fun r X' => (r = 0 ∧ ∃ rv X1, (q_X9_vouch is wm pv dd X h n) rv X1 ∧ X' = ma X1 116 (upd (X1 116) 0 rv)) ∨ ∃ E, (r_X9_vouch is wm pv dd X h n) E X' ∧ ECd [eIO, eIA, eIS] E r
set_option maxHeartbeats 4000000 in
set_option maxRecDepth 100000 in
theorem k_L_vouch (w : Wt) (l : Launch) (is : Int32) (wm : Int32) (pv : Int32) (dd : Int32) (X : Mem) (h n : Nat) (hh : X 1 1 = nI h) (h1 : 1 ≤ h) (h8 : h ≤ 8) (hn : X 6 0 = nI n) (n50 : n ≤ 50) : CtH w l yL_vouch cL_vouch 7 [(0, 14, 17, 13), (0, 14, 21, 27), (0, 14, 25, 15)] 8 132 5 [.ref (w.2.1 0), .int is, .int wm, .int pv, .int dd, .ref (w.2.1 116)] X (q_L_vouch is wm pv dd X h n) := by
  refine CtH_of (by decide +kernel) (Nat.le_of_ble_eq_true rfl) (List.forall_mem_cons.mpr ⟨rfl, (List.forall_mem_cons.mpr ⟨rfl, (List.forall_mem_cons.mpr ⟨rfl, (List.forall_mem_cons.mpr ⟨rfl, (List.forall_mem_cons.mpr ⟨rfl, (List.forall_mem_cons.mpr ⟨rfl, (fun _ h => nomatch h)⟩)⟩)⟩)⟩)⟩)⟩) (ls := [some (.ref (w.2.1 0)), some (.int is), some (.int wm), some (.int pv), some (.int dd), some (.ref (w.2.1 116)), none]) rfl (args := (#[.ref (w.2.1 0), .int is, .int wm, .int pv, .int dd, .ref (w.2.1 116)] : Array Value)) rfl (own := RL) rfl ?_
  intro p e s m below meth c C ht hD hN
  refine V_aload C dL_vouch_0 rfl ?_
  refine V_iconst (v := (0 : Int32)) C dL_vouch_2 (by decide) ?_
  refine V_aload_n C dL_vouch_3 rfl ?_
  refine V_iload_n C dL_vouch_4 rfl ?_
  refine V_iload_n C dL_vouch_5 rfl ?_
  refine V_iload_n C dL_vouch_6 rfl ?_
  refine V_iload C dL_vouch_7 rfl ?_
  refine V_hcallV C hD [.int is, .int wm, .int pv, .int dd] mi_L_40 (tb_i 723 (by decide +kernel) (by decide +kernel)) (k_X9_vouch w l is wm pv dd X h n hh h1 h8 hn n50) dL_vouch_9 sh_0 (by decide) rfl rfl rfl (Nat.le_of_ble_eq_true rfl) (Nat.le_of_ble_eq_true rfl) (Nat.le_of_ble_eq_true rfl) ⟨by decide, by decide⟩ (fun E X1 hx => ?_) (fun rv X1 hq => ?_)
  · have hE : E = eIO ∨ E = eIA ∨ E = eIS := hx.2.elim (fun g => Or.inl g.1) (fun g => g.elim (fun g => Or.inr (Or.inl g.1)) (fun g => Or.inr (Or.inr g.1)))
    rcases hE with rfl | rfl | rfl
    · refine ⟨17, HC_1 ht rfl ⟨by decide, by decide⟩ (by decide) (C.2.2.2.2.2.2.2 _ cl_13) (C.2.2.2.2.2.2.2 _ cc_IO), fun q => ?_⟩
      refine V_astore (ls1 := [some (.ref (w.2.1 0)), some (.int is), some (.int wm), some (.int pv), some (.int dd), some (.ref (w.2.1 116)), some (.ref q)]) C dL_vouch_17 (by decide) rfl ?_
      refine V_iconst (v := (1 : Int32)) C dL_vouch_19 (by decide) ?_
      exact V_ireturnX C dL_vouch_20 (by decide) (by decide) (Or.inr ⟨_, hx, 0, rfl, rfl⟩)
    · refine ⟨21, HC_2 ht rfl (by decide) (C.2.2.2.2.2.2.2 _ cl_13) hN.2.1 ⟨by decide, by decide⟩ (by decide) (C.2.2.2.2.2.2.2 _ cl_27) (C.2.2.2.2.2.2.2 _ cc_IA), fun q => ?_⟩
      refine V_astore (ls1 := [some (.ref (w.2.1 0)), some (.int is), some (.int wm), some (.int pv), some (.int dd), some (.ref (w.2.1 116)), some (.ref q)]) C dL_vouch_21 (by decide) rfl ?_
      refine V_iconst (v := (2 : Int32)) C dL_vouch_23 (by decide) ?_
      exact V_ireturnX C dL_vouch_24 (by decide) (by decide) (Or.inr ⟨_, hx, 1, rfl, rfl⟩)
    · refine ⟨25, HC_3 ht rfl (by decide) (C.2.2.2.2.2.2.2 _ cl_13) hN.1 (by decide) (C.2.2.2.2.2.2.2 _ cl_27) hN.2.2.1 ⟨by decide, by decide⟩ (by decide) (C.2.2.2.2.2.2.2 _ cl_15) (C.2.2.2.2.2.2.2 _ cc_IS), fun q => ?_⟩
      refine V_astore (ls1 := [some (.ref (w.2.1 0)), some (.int is), some (.int wm), some (.int pv), some (.int dd), some (.ref (w.2.1 116)), some (.ref q)]) C dL_vouch_25 (by decide) rfl ?_
      refine V_iconst (v := (3 : Int32)) C dL_vouch_27 (by decide) ?_
      exact V_ireturnX C dL_vouch_28 (by decide) (by decide) (Or.inr ⟨_, hx, 2, rfl, rfl⟩)
  · refine V_i2l C dL_vouch_12 ?_
    refine V_lastore0 C dL_vouch_13 ?_
    refine V_goto (tgt := 29) C dL_vouch_14 (by decide) ?_
    refine V_iconst (v := (0 : Int32)) C dL_vouch_29 (by decide) ?_
    exact V_ireturnX C dL_vouch_30 (by decide) (by decide) (Or.inl ⟨rfl, rv, X1, hq, rfl⟩)
def q_L_revoke (v : Int32) (X : Mem) (n : Nat) : Int32 → Mem → Prop := fun r X' => (r = 0 ∧ ∃ rv X1, (q_X9_revoke v X n) rv X1 ∧ X' = ma X1 116 (upd (X1 116) 0 (if rv = 0 then 0 else 1))) ∨ ∃ E, (r_X9_revoke v X n) E X' ∧ ECd [eIO] E r
set_option maxHeartbeats 4000000 in
set_option maxRecDepth 100000 in
theorem k_L_revoke (w : Wt) (l : Launch) (v : Int32) (X : Mem) (n : Nat) (hn : X 6 0 = nI n) (n50 : n ≤ 50) : CtH w l yL_revoke cL_revoke 4 [(0, 16, 19, 13)] 8 125 1 [.ref (w.2.1 0), .int v, .ref (w.2.1 116)] X (q_L_revoke v X n) := by
  refine CtH_of (by decide +kernel) (Nat.le_of_ble_eq_true rfl) (List.forall_mem_cons.mpr ⟨rfl, (List.forall_mem_cons.mpr ⟨rfl, (List.forall_mem_cons.mpr ⟨rfl, (fun _ h => nomatch h)⟩)⟩)⟩) (ls := [some (.ref (w.2.1 0)), some (.int v), some (.ref (w.2.1 116)), none]) rfl (args := (#[.ref (w.2.1 0), .int v, .ref (w.2.1 116)] : Array Value)) rfl (own := RL) rfl ?_
  intro p e s m below meth c C ht hD hN
  refine V_aload_n C dL_revoke_0 rfl ?_
  refine V_iconst (v := (0 : Int32)) C dL_revoke_1 (by decide) ?_
  refine V_aload_n C dL_revoke_2 rfl ?_
  refine V_iload_n C dL_revoke_3 rfl ?_
  refine V_hcallV C hD [.int v] mi_L_44 (tb_i 730 (by decide +kernel) (by decide +kernel)) (k_X9_revoke w l v X n hn n50) dL_revoke_4 sh_0 (by decide) rfl rfl rfl (Nat.le_of_ble_eq_true rfl) (Nat.le_of_ble_eq_true rfl) (Nat.le_of_ble_eq_true rfl) ⟨by decide, by decide⟩ (fun E X1 hx => ?_) (fun rv X1 hq => ?_)
  · have hE : E = eIO := hx.2.1
    rcases hE with rfl
    · refine ⟨19, HC_1 ht rfl ⟨by decide, by decide⟩ (by decide) (C.2.2.2.2.2.2.2 _ cl_13) (C.2.2.2.2.2.2.2 _ cc_IO), fun q => ?_⟩
      refine V_astore_n (ls1 := [some (.ref (w.2.1 0)), some (.int v), some (.ref (w.2.1 116)), some (.ref q)]) C dL_revoke_19 (by decide) rfl ?_
      refine V_iconst (v := (1 : Int32)) C dL_revoke_20 (by decide) ?_
      exact V_ireturnX C dL_revoke_21 (by decide) (by decide) (Or.inr ⟨_, hx, 0, rfl, rfl⟩)
  · refine V_if_eq (x := rv) (tgt := 14) C dL_revoke_7 (by decide) (fun hv => ?_) (fun hv => ?_)
    · refine V_lconst C (0 : Int32) dL_revoke_14 (by decide) ?_
      refine V_lastore0 C dL_revoke_15 ?_
      refine V_goto (tgt := 22) C dL_revoke_16 (by decide) ?_
      refine V_iconst (v := (0 : Int32)) C dL_revoke_22 (by decide) ?_
      exact V_ireturnX C dL_revoke_23 (by decide) (by decide) (Or.inl ⟨rfl, rv, X1, hq, by rw [if_pos hv]⟩)
    · refine V_lconst C (1 : Int32) dL_revoke_10 (by decide) ?_
      refine V_goto (tgt := 15) C dL_revoke_11 (by decide) ?_
      refine V_lastore0 C dL_revoke_15 ?_
      refine V_goto (tgt := 22) C dL_revoke_16 (by decide) ?_
      refine V_iconst (v := (0 : Int32)) C dL_revoke_22 (by decide) ?_
      exact V_ireturnX C dL_revoke_23 (by decide) (by decide) (Or.inl ⟨rfl, rv, X1, hq, by rw [if_neg hv]⟩)
def q_L_alter (v : Int32) (ex : Int32) (X : Mem) (h n : Nat) : Int32 → Mem → Prop := fun r X' => (r = 0 ∧ ∃ rv X1, (q_X9_alter v ex X h n) rv X1 ∧ X' = ma X1 116 (upd (X1 116) 0 rv)) ∨ ∃ E, (r_X9_alter v ex X h n) E X' ∧ ECd [eIO, eIS, eIA] E r
set_option maxHeartbeats 4000000 in
set_option maxRecDepth 100000 in
theorem k_L_alter (w : Wt) (l : Launch) (v : Int32) (ex : Int32) (X : Mem) (h n : Nat) (hO : OInv (oC X) h n) (hn : X 6 0 = nI n) : CtH w l yL_alter cL_alter 5 [(0, 10, 13, 13), (0, 10, 17, 15), (0, 10, 21, 27)] 8 127 3 [.ref (w.2.1 0), .int v, .int ex, .ref (w.2.1 116)] X (q_L_alter v ex X h n) := by
  refine CtH_of (by decide +kernel) (Nat.le_of_ble_eq_true rfl) (List.forall_mem_cons.mpr ⟨rfl, (List.forall_mem_cons.mpr ⟨rfl, (List.forall_mem_cons.mpr ⟨rfl, (List.forall_mem_cons.mpr ⟨rfl, (fun _ h => nomatch h)⟩)⟩)⟩)⟩) (ls := [some (.ref (w.2.1 0)), some (.int v), some (.int ex), some (.ref (w.2.1 116)), none]) rfl (args := (#[.ref (w.2.1 0), .int v, .int ex, .ref (w.2.1 116)] : Array Value)) rfl (own := RL) rfl ?_
  intro p e s m below meth c C ht hD hN
  refine V_aload_n C dL_alter_0 rfl ?_
  refine V_iconst (v := (0 : Int32)) C dL_alter_1 (by decide) ?_
  refine V_aload_n C dL_alter_2 rfl ?_
  refine V_iload_n C dL_alter_3 rfl ?_
  refine V_iload_n C dL_alter_4 rfl ?_
  refine V_hcallV C hD [.int v, .int ex] mi_L_48 (tb_i 742 (by decide +kernel) (by decide +kernel)) (k_X9_alter w l v ex X h n hO hn) dL_alter_5 sh_0 (by decide) rfl rfl rfl (Nat.le_of_ble_eq_true rfl) (Nat.le_of_ble_eq_true rfl) (Nat.le_of_ble_eq_true rfl) ⟨by decide, by decide⟩ (fun E X1 hx => ?_) (fun rv X1 hq => ?_)
  · have hE : E = eIO ∨ E = eIS ∨ E = eIA := hx.2.elim (fun g => Or.inl g.1) (fun g => g.elim (fun g => Or.inr (Or.inl g.1)) (fun g => Or.inr (Or.inr g.1)))
    rcases hE with rfl | rfl | rfl
    · refine ⟨13, HC_1 ht rfl ⟨by decide, by decide⟩ (by decide) (C.2.2.2.2.2.2.2 _ cl_13) (C.2.2.2.2.2.2.2 _ cc_IO), fun q => ?_⟩
      refine V_astore (ls1 := [some (.ref (w.2.1 0)), some (.int v), some (.int ex), some (.ref (w.2.1 116)), some (.ref q)]) C dL_alter_13 (by decide) rfl ?_
      refine V_iconst (v := (1 : Int32)) C dL_alter_15 (by decide) ?_
      exact V_ireturnX C dL_alter_16 (by decide) (by decide) (Or.inr ⟨_, hx, 0, rfl, rfl⟩)
    · refine ⟨17, HC_2 ht rfl (by decide) (C.2.2.2.2.2.2.2 _ cl_13) hN.1 ⟨by decide, by decide⟩ (by decide) (C.2.2.2.2.2.2.2 _ cl_15) (C.2.2.2.2.2.2.2 _ cc_IS), fun q => ?_⟩
      refine V_astore (ls1 := [some (.ref (w.2.1 0)), some (.int v), some (.int ex), some (.ref (w.2.1 116)), some (.ref q)]) C dL_alter_17 (by decide) rfl ?_
      refine V_iconst (v := (2 : Int32)) C dL_alter_19 (by decide) ?_
      exact V_ireturnX C dL_alter_20 (by decide) (by decide) (Or.inr ⟨_, hx, 1, rfl, rfl⟩)
    · refine ⟨21, HC_3 ht rfl (by decide) (C.2.2.2.2.2.2.2 _ cl_13) hN.2.1 (by decide) (C.2.2.2.2.2.2.2 _ cl_15) hN.2.2.2 ⟨by decide, by decide⟩ (by decide) (C.2.2.2.2.2.2.2 _ cl_27) (C.2.2.2.2.2.2.2 _ cc_IA), fun q => ?_⟩
      refine V_astore (ls1 := [some (.ref (w.2.1 0)), some (.int v), some (.int ex), some (.ref (w.2.1 116)), some (.ref q)]) C dL_alter_21 (by decide) rfl ?_
      refine V_iconst (v := (3 : Int32)) C dL_alter_23 (by decide) ?_
      exact V_ireturnX C dL_alter_24 (by decide) (by decide) (Or.inr ⟨_, hx, 2, rfl, rfl⟩)
  · refine V_i2l C dL_alter_8 ?_
    refine V_lastore0 C dL_alter_9 ?_
    refine V_goto (tgt := 25) C dL_alter_10 (by decide) ?_
    refine V_iconst (v := (0 : Int32)) C dL_alter_25 (by decide) ?_
    exact V_ireturnX C dL_alter_26 (by decide) (by decide) (Or.inl ⟨rfl, rv, X1, hq, rfl⟩)
def q_L_sign (v : Int32) (X : Mem) (h n : Nat) : Int32 → Mem → Prop := fun r X' => (r = 0 ∧ ∃ rv X1, (q_X9_sign v X h n) rv X1 ∧ X' = ma X1 116 (upd (X1 116) 0 rv)) ∨ ∃ E, (r_X9_sign v X h n) E X' ∧ ECd [eIO] E r
set_option maxHeartbeats 4000000 in
set_option maxRecDepth 100000 in
theorem k_L_sign (w : Wt) (l : Launch) (v : Int32) (X : Mem) (h n : Nat) (hO : OInv (oC X) h n) (h8 : h ≤ 8) (hn : X 6 0 = nI n) (n50 : n ≤ 50) : CtH w l yL_sign cL_sign 4 [(0, 9, 12, 13)] 8 124 1 [.ref (w.2.1 0), .int v, .ref (w.2.1 116)] X (q_L_sign v X h n) := by
  refine CtH_of (by decide +kernel) (Nat.le_of_ble_eq_true rfl) (List.forall_mem_cons.mpr ⟨rfl, (List.forall_mem_cons.mpr ⟨rfl, (List.forall_mem_cons.mpr ⟨rfl, (fun _ h => nomatch h)⟩)⟩)⟩) (ls := [some (.ref (w.2.1 0)), some (.int v), some (.ref (w.2.1 116)), none]) rfl (args := (#[.ref (w.2.1 0), .int v, .ref (w.2.1 116)] : Array Value)) rfl (own := RL) rfl ?_
  intro p e s m below meth c C ht hD hN
  refine V_aload_n C dL_sign_0 rfl ?_
  refine V_iconst (v := (0 : Int32)) C dL_sign_1 (by decide) ?_
  refine V_aload_n C dL_sign_2 rfl ?_
  refine V_iload_n C dL_sign_3 rfl ?_
  refine V_hcallV C hD [.int v] mi_L_51 (tb_i 750 (by decide +kernel) (by decide +kernel)) (k_X9_sign w l v X h n hO h8 hn n50) dL_sign_4 sh_0 (by decide) rfl rfl rfl (Nat.le_of_ble_eq_true rfl) (Nat.le_of_ble_eq_true rfl) (Nat.le_of_ble_eq_true rfl) ⟨by decide, by decide⟩ (fun E X1 hx => ?_) (fun rv X1 hq => ?_)
  · have hE : E = eIO := hx.2.1
    rcases hE with rfl
    · refine ⟨12, HC_1 ht rfl ⟨by decide, by decide⟩ (by decide) (C.2.2.2.2.2.2.2 _ cl_13) (C.2.2.2.2.2.2.2 _ cc_IO), fun q => ?_⟩
      refine V_astore_n (ls1 := [some (.ref (w.2.1 0)), some (.int v), some (.ref (w.2.1 116)), some (.ref q)]) C dL_sign_12 (by decide) rfl ?_
      refine V_iconst (v := (1 : Int32)) C dL_sign_13 (by decide) ?_
      exact V_ireturnX C dL_sign_14 (by decide) (by decide) (Or.inr ⟨_, hx, 0, rfl, rfl⟩)
  · refine V_i2l C dL_sign_7 ?_
    refine V_lastore0 C dL_sign_8 ?_
    refine V_goto (tgt := 15) C dL_sign_9 (by decide) ?_
    refine V_iconst (v := (0 : Int32)) C dL_sign_15 (by decide) ?_
    exact V_ireturnX C dL_sign_16 (by decide) (by decide) (Or.inl ⟨rfl, rv, X1, hq, rfl⟩)
def q_L_hop (v : Int32) (X : Mem) (D : Nat) : Int32 → Mem → Prop := fun r X' => (r = 0 ∧ ∃ rv X1, (q_X9_hop v X D) rv X1 ∧ X' = ma X1 116 (upd (X1 116) 0 rv)) ∨ ∃ E, (r_X9_hop v X D) E X' ∧ ECd [eIO, eIS] E r
set_option maxHeartbeats 4000000 in
set_option maxRecDepth 100000 in
theorem k_L_hop (w : Wt) (l : Launch) (v : Int32) (X : Mem) (D : Nat) (hd : X 20 2 = nI D) (hd6 : D ≤ 6) : CtH w l yL_hop cL_hop 4 [(0, 9, 12, 13), (0, 9, 15, 15)] 8 123 2 [.ref (w.2.1 0), .int v, .ref (w.2.1 116)] X (q_L_hop v X D) := by
  refine CtH_of (by decide +kernel) (Nat.le_of_ble_eq_true rfl) (List.forall_mem_cons.mpr ⟨rfl, (List.forall_mem_cons.mpr ⟨rfl, (List.forall_mem_cons.mpr ⟨rfl, (fun _ h => nomatch h)⟩)⟩)⟩) (ls := [some (.ref (w.2.1 0)), some (.int v), some (.ref (w.2.1 116)), none]) rfl (args := (#[.ref (w.2.1 0), .int v, .ref (w.2.1 116)] : Array Value)) rfl (own := RL) rfl ?_
  intro p e s m below meth c C ht hD hN
  refine V_aload_n C dL_hop_0 rfl ?_
  refine V_iconst (v := (0 : Int32)) C dL_hop_1 (by decide) ?_
  refine V_aload_n C dL_hop_2 rfl ?_
  refine V_iload_n C dL_hop_3 rfl ?_
  refine V_hcallV C hD [.int v] mi_L_54 (tb_i 757 (by decide +kernel) (by decide +kernel)) (k_X9_hop w l v X D hd hd6) dL_hop_4 sh_0 (by decide) rfl rfl rfl (Nat.le_of_ble_eq_true rfl) (Nat.le_of_ble_eq_true rfl) (Nat.le_of_ble_eq_true rfl) ⟨by decide, by decide⟩ (fun E X1 hx => ?_) (fun rv X1 hq => ?_)
  · have hE : E = eIO ∨ E = eIS := hx.2.elim (fun g => Or.inl g.1) (fun g => Or.inr g.1)
    rcases hE with rfl | rfl
    · refine ⟨12, HC_1 ht rfl ⟨by decide, by decide⟩ (by decide) (C.2.2.2.2.2.2.2 _ cl_13) (C.2.2.2.2.2.2.2 _ cc_IO), fun q => ?_⟩
      refine V_astore_n (ls1 := [some (.ref (w.2.1 0)), some (.int v), some (.ref (w.2.1 116)), some (.ref q)]) C dL_hop_12 (by decide) rfl ?_
      refine V_iconst (v := (1 : Int32)) C dL_hop_13 (by decide) ?_
      exact V_ireturnX C dL_hop_14 (by decide) (by decide) (Or.inr ⟨_, hx, 0, rfl, rfl⟩)
    · refine ⟨15, HC_2 ht rfl (by decide) (C.2.2.2.2.2.2.2 _ cl_13) hN.1 ⟨by decide, by decide⟩ (by decide) (C.2.2.2.2.2.2.2 _ cl_15) (C.2.2.2.2.2.2.2 _ cc_IS), fun q => ?_⟩
      refine V_astore_n (ls1 := [some (.ref (w.2.1 0)), some (.int v), some (.ref (w.2.1 116)), some (.ref q)]) C dL_hop_15 (by decide) rfl ?_
      refine V_iconst (v := (2 : Int32)) C dL_hop_16 (by decide) ?_
      exact V_ireturnX C dL_hop_17 (by decide) (by decide) (Or.inr ⟨_, hx, 1, rfl, rfl⟩)
  · refine V_i2l C dL_hop_7 ?_
    refine V_lastore0 C dL_hop_8 ?_
    refine V_goto (tgt := 18) C dL_hop_9 (by decide) ?_
    refine V_iconst (v := (0 : Int32)) C dL_hop_18 (by decide) ?_
    exact V_ireturnX C dL_hop_19 (by decide) (by decide) (Or.inl ⟨rfl, rv, X1, hq, rfl⟩)
def q_L_hear (v : Int32) (ln : Int32) (X : Mem) (R N1 D : Nat) (dr : Nat → Nat) : Int32 → Mem → Prop := fun r X' => (r = 0 ∧ ∃ rv X1, (q_X9_hear v ln X R N1 D dr) rv X1 ∧ X' = ma X1 116 (upd (X1 116) 0 rv)) ∨ ∃ E, (r_X9_hear v ln X R N1 D dr) E X' ∧ ECd [eIA, eIS] E r
set_option maxHeartbeats 4000000 in
set_option maxRecDepth 100000 in
theorem k_L_hear (w : Wt) (l : Launch) (v : Int32) (ln : Int32) (X : Mem) (R N1 D : Nat) (dr : Nat → Nat) (hr0 : X 20 0 = nI R) (R24 : R ≤ 24) (hth : X 20 1 = nI N1) (hd : X 20 2 = nI D) (hd6 : D ≤ 6) (hP : PA X 21 dr D) : CtH w l yL_hear cL_hear 5 [(0, 10, 13, 27), (0, 10, 17, 15)] 9 147 4 [.ref (w.2.1 0), .int v, .int ln, .ref (w.2.1 116)] X (q_L_hear v ln X R N1 D dr) := by
  refine CtH_of (by decide +kernel) (Nat.le_of_ble_eq_true rfl) (List.forall_mem_cons.mpr ⟨rfl, (List.forall_mem_cons.mpr ⟨rfl, (List.forall_mem_cons.mpr ⟨rfl, (List.forall_mem_cons.mpr ⟨rfl, (fun _ h => nomatch h)⟩)⟩)⟩)⟩) (ls := [some (.ref (w.2.1 0)), some (.int v), some (.int ln), some (.ref (w.2.1 116)), none]) rfl (args := (#[.ref (w.2.1 0), .int v, .int ln, .ref (w.2.1 116)] : Array Value)) rfl (own := RL) rfl ?_
  intro p e s m below meth c C ht hD hN
  refine V_aload_n C dL_hear_0 rfl ?_
  refine V_iconst (v := (0 : Int32)) C dL_hear_1 (by decide) ?_
  refine V_aload_n C dL_hear_2 rfl ?_
  refine V_iload_n C dL_hear_3 rfl ?_
  refine V_iload_n C dL_hear_4 rfl ?_
  refine V_hcallV C hD [.int v, .int ln] mi_L_57 (tb_i 765 (by decide +kernel) (by decide +kernel)) (k_X9_hear w l v ln X R N1 D dr hr0 R24 hth hd hd6 hP) dL_hear_5 sh_0 (by decide) rfl rfl rfl (Nat.le_of_ble_eq_true rfl) (Nat.le_of_ble_eq_true rfl) (Nat.le_of_ble_eq_true rfl) ⟨by decide, by decide⟩ (fun E X1 hx => ?_) (fun rv X1 hq => ?_)
  · have hE : E = eIA ∨ E = eIS := hx.2.elim (fun g => Or.inl g.1) (fun g => Or.inr g.1)
    rcases hE with rfl | rfl
    · refine ⟨13, HC_1 ht rfl ⟨by decide, by decide⟩ (by decide) (C.2.2.2.2.2.2.2 _ cl_27) (C.2.2.2.2.2.2.2 _ cc_IA), fun q => ?_⟩
      refine V_astore (ls1 := [some (.ref (w.2.1 0)), some (.int v), some (.int ln), some (.ref (w.2.1 116)), some (.ref q)]) C dL_hear_13 (by decide) rfl ?_
      refine V_iconst (v := (1 : Int32)) C dL_hear_15 (by decide) ?_
      exact V_ireturnX C dL_hear_16 (by decide) (by decide) (Or.inr ⟨_, hx, 0, rfl, rfl⟩)
    · refine ⟨17, HC_2 ht rfl (by decide) (C.2.2.2.2.2.2.2 _ cl_27) hN.2.2.1 ⟨by decide, by decide⟩ (by decide) (C.2.2.2.2.2.2.2 _ cl_15) (C.2.2.2.2.2.2.2 _ cc_IS), fun q => ?_⟩
      refine V_astore (ls1 := [some (.ref (w.2.1 0)), some (.int v), some (.int ln), some (.ref (w.2.1 116)), some (.ref q)]) C dL_hear_17 (by decide) rfl ?_
      refine V_iconst (v := (2 : Int32)) C dL_hear_19 (by decide) ?_
      exact V_ireturnX C dL_hear_20 (by decide) (by decide) (Or.inr ⟨_, hx, 1, rfl, rfl⟩)
  · refine V_i2l C dL_hear_8 ?_
    refine V_lastore0 C dL_hear_9 ?_
    refine V_goto (tgt := 21) C dL_hear_10 (by decide) ?_
    refine V_iconst (v := (0 : Int32)) C dL_hear_21 (by decide) ?_
    exact V_ireturnX C dL_hear_22 (by decide) (by decide) (Or.inl ⟨rfl, rv, X1, hq, rfl⟩)
def q_L_withdraw (v : Int32) (X : Mem) (R N1 : Nat) : Int32 → Mem → Prop := fun r X' => (r = 0 ∧ ∃ rv X1, (q_X9_withdraw v X R N1) rv X1 ∧ X' = ma X1 116 (upd (X1 116) 0 rv)) ∨ ∃ E, (r_X9_withdraw v X R N1) E X' ∧ ECd [eIO, eIS] E r
set_option maxHeartbeats 4000000 in
set_option maxRecDepth 100000 in
theorem k_L_withdraw (w : Wt) (l : Launch) (v : Int32) (X : Mem) (R N1 : Nat) (hr0 : X 20 0 = nI R) (R24 : R ≤ 24) (hth : X 20 1 = nI N1) : CtH w l yL_withdraw cL_withdraw 4 [(0, 9, 12, 13), (0, 9, 15, 15)] 7 103 1 [.ref (w.2.1 0), .int v, .ref (w.2.1 116)] X (q_L_withdraw v X R N1) := by
  refine CtH_of (by decide +kernel) (Nat.le_of_ble_eq_true rfl) (List.forall_mem_cons.mpr ⟨rfl, (List.forall_mem_cons.mpr ⟨rfl, (List.forall_mem_cons.mpr ⟨rfl, (fun _ h => nomatch h)⟩)⟩)⟩) (ls := [some (.ref (w.2.1 0)), some (.int v), some (.ref (w.2.1 116)), none]) rfl (args := (#[.ref (w.2.1 0), .int v, .ref (w.2.1 116)] : Array Value)) rfl (own := RL) rfl ?_
  intro p e s m below meth c C ht hD hN
  refine V_aload_n C dL_withdraw_0 rfl ?_
  refine V_iconst (v := (0 : Int32)) C dL_withdraw_1 (by decide) ?_
  refine V_aload_n C dL_withdraw_2 rfl ?_
  refine V_iload_n C dL_withdraw_3 rfl ?_
  refine V_hcallV C hD [.int v] mi_L_60 (tb_i 777 (by decide +kernel) (by decide +kernel)) (k_X9_withdraw w l v X R N1 hr0 R24 hth) dL_withdraw_4 sh_0 (by decide) rfl rfl rfl (Nat.le_of_ble_eq_true rfl) (Nat.le_of_ble_eq_true rfl) (Nat.le_of_ble_eq_true rfl) ⟨by decide, by decide⟩ (fun E X1 hx => ?_) (fun rv X1 hq => ?_)
  · have hE : E = eIO ∨ E = eIS := hx.2.elim (fun g => Or.inl g.1) (fun g => Or.inr g.1)
    rcases hE with rfl | rfl
    · refine ⟨12, HC_1 ht rfl ⟨by decide, by decide⟩ (by decide) (C.2.2.2.2.2.2.2 _ cl_13) (C.2.2.2.2.2.2.2 _ cc_IO), fun q => ?_⟩
      refine V_astore_n (ls1 := [some (.ref (w.2.1 0)), some (.int v), some (.ref (w.2.1 116)), some (.ref q)]) C dL_withdraw_12 (by decide) rfl ?_
      refine V_iconst (v := (1 : Int32)) C dL_withdraw_13 (by decide) ?_
      exact V_ireturnX C dL_withdraw_14 (by decide) (by decide) (Or.inr ⟨_, hx, 0, rfl, rfl⟩)
    · refine ⟨15, HC_2 ht rfl (by decide) (C.2.2.2.2.2.2.2 _ cl_13) hN.1 ⟨by decide, by decide⟩ (by decide) (C.2.2.2.2.2.2.2 _ cl_15) (C.2.2.2.2.2.2.2 _ cc_IS), fun q => ?_⟩
      refine V_astore_n (ls1 := [some (.ref (w.2.1 0)), some (.int v), some (.ref (w.2.1 116)), some (.ref q)]) C dL_withdraw_15 (by decide) rfl ?_
      refine V_iconst (v := (2 : Int32)) C dL_withdraw_16 (by decide) ?_
      exact V_ireturnX C dL_withdraw_17 (by decide) (by decide) (Or.inr ⟨_, hx, 1, rfl, rfl⟩)
  · refine V_i2l C dL_withdraw_7 ?_
    refine V_lastore0 C dL_withdraw_8 ?_
    refine V_goto (tgt := 18) C dL_withdraw_9 (by decide) ?_
    refine V_iconst (v := (0 : Int32)) C dL_withdraw_18 (by decide) ?_
    exact V_ireturnX C dL_withdraw_19 (by decide) (by decide) (Or.inl ⟨rfl, rv, X1, hq, rfl⟩)
def q_L_tie (v : Int32) (u : Int32) (wt : Int32) (X : Mem) : Int32 → Mem → Prop := fun r X' => (r = 0 ∧ ∃ rv X1, (q_X9_tie v u wt X) rv X1 ∧ X' = ma X1 116 (upd (X1 116) 0 rv)) ∨ ∃ E, (r_X9_tie v u wt X) E X' ∧ ECd [eIO, eIA] E r
set_option maxHeartbeats 4000000 in
set_option maxRecDepth 100000 in
theorem k_L_tie (w : Wt) (l : Launch) (v : Int32) (u : Int32) (wt : Int32) (X : Mem) : CtH w l yL_tie cL_tie 6 [(0, 12, 15, 13), (0, 12, 19, 27)] 8 128 3 [.ref (w.2.1 0), .int v, .int u, .int wt, .ref (w.2.1 116)] X (q_L_tie v u wt X) := by
  refine CtH_of (by decide +kernel) (Nat.le_of_ble_eq_true rfl) (List.forall_mem_cons.mpr ⟨rfl, (List.forall_mem_cons.mpr ⟨rfl, (List.forall_mem_cons.mpr ⟨rfl, (List.forall_mem_cons.mpr ⟨rfl, (List.forall_mem_cons.mpr ⟨rfl, (fun _ h => nomatch h)⟩)⟩)⟩)⟩)⟩) (ls := [some (.ref (w.2.1 0)), some (.int v), some (.int u), some (.int wt), some (.ref (w.2.1 116)), none]) rfl (args := (#[.ref (w.2.1 0), .int v, .int u, .int wt, .ref (w.2.1 116)] : Array Value)) rfl (own := RL) rfl ?_
  intro p e s m below meth c C ht hD hN
  refine V_aload C dL_tie_0 rfl ?_
  refine V_iconst (v := (0 : Int32)) C dL_tie_2 (by decide) ?_
  refine V_aload_n C dL_tie_3 rfl ?_
  refine V_iload_n C dL_tie_4 rfl ?_
  refine V_iload_n C dL_tie_5 rfl ?_
  refine V_iload_n C dL_tie_6 rfl ?_
  refine V_hcallV C hD [.int v, .int u, .int wt] mi_L_63 (tb_i 786 (by decide +kernel) (by decide +kernel)) (k_X9_tie w l v u wt X) dL_tie_7 sh_0 (by decide) rfl rfl rfl (Nat.le_of_ble_eq_true rfl) (Nat.le_of_ble_eq_true rfl) (Nat.le_of_ble_eq_true rfl) ⟨by decide, by decide⟩ (fun E X1 hx => ?_) (fun rv X1 hq => ?_)
  · have hE : E = eIO ∨ E = eIA := hx.2.elim (fun g => Or.inl g.1) (fun g => Or.inr g.1)
    rcases hE with rfl | rfl
    · refine ⟨15, HC_1 ht rfl ⟨by decide, by decide⟩ (by decide) (C.2.2.2.2.2.2.2 _ cl_13) (C.2.2.2.2.2.2.2 _ cc_IO), fun q => ?_⟩
      refine V_astore (ls1 := [some (.ref (w.2.1 0)), some (.int v), some (.int u), some (.int wt), some (.ref (w.2.1 116)), some (.ref q)]) C dL_tie_15 (by decide) rfl ?_
      refine V_iconst (v := (1 : Int32)) C dL_tie_17 (by decide) ?_
      exact V_ireturnX C dL_tie_18 (by decide) (by decide) (Or.inr ⟨_, hx, 0, rfl, rfl⟩)
    · refine ⟨19, HC_2 ht rfl (by decide) (C.2.2.2.2.2.2.2 _ cl_13) hN.2.1 ⟨by decide, by decide⟩ (by decide) (C.2.2.2.2.2.2.2 _ cl_27) (C.2.2.2.2.2.2.2 _ cc_IA), fun q => ?_⟩
      refine V_astore (ls1 := [some (.ref (w.2.1 0)), some (.int v), some (.int u), some (.int wt), some (.ref (w.2.1 116)), some (.ref q)]) C dL_tie_19 (by decide) rfl ?_
      refine V_iconst (v := (2 : Int32)) C dL_tie_21 (by decide) ?_
      exact V_ireturnX C dL_tie_22 (by decide) (by decide) (Or.inr ⟨_, hx, 1, rfl, rfl⟩)
  · refine V_i2l C dL_tie_10 ?_
    refine V_lastore0 C dL_tie_11 ?_
    refine V_goto (tgt := 23) C dL_tie_12 (by decide) ?_
    refine V_iconst (v := (0 : Int32)) C dL_tie_23 (by decide) ?_
    exact V_ireturnX C dL_tie_24 (by decide) (by decide) (Or.inl ⟨rfl, rv, X1, hq, rfl⟩)
def q_L_judged (v : Int32) (X : Mem) (h n : Nat) : Int32 → Mem → Prop := fun r X' => (r = 0 ∧ ∃ rv X1, (q_X9_judged v X h n) rv X1 ∧ X' = ma X1 116 (upd (X1 116) 0 rv)) ∨ ∃ E, (r_X9_judged v X h n) E X' ∧ ECd [eIO] E r
set_option maxHeartbeats 4000000 in
set_option maxRecDepth 100000 in
theorem k_L_judged (w : Wt) (l : Launch) (v : Int32) (X : Mem) (h n : Nat) (hO : OInv (oC X) h n) (hG : GInv (gC X) h) (hn : X 6 0 = nI n) (hh : X 1 1 = nI h) : CtH w l yL_judged cL_judged 4 [(0, 9, 12, 13)] 8 180 1 [.ref (w.2.1 0), .int v, .ref (w.2.1 116)] X (q_L_judged v X h n) := by
  refine CtH_of (by decide +kernel) (Nat.le_of_ble_eq_true rfl) (List.forall_mem_cons.mpr ⟨rfl, (List.forall_mem_cons.mpr ⟨rfl, (List.forall_mem_cons.mpr ⟨rfl, (fun _ h => nomatch h)⟩)⟩)⟩) (ls := [some (.ref (w.2.1 0)), some (.int v), some (.ref (w.2.1 116)), none]) rfl (args := (#[.ref (w.2.1 0), .int v, .ref (w.2.1 116)] : Array Value)) rfl (own := RL) rfl ?_
  intro p e s m below meth c C ht hD hN
  refine V_aload_n C dL_judged_0 rfl ?_
  refine V_iconst (v := (0 : Int32)) C dL_judged_1 (by decide) ?_
  refine V_aload_n C dL_judged_2 rfl ?_
  refine V_iload_n C dL_judged_3 rfl ?_
  refine V_hcallV C hD [.int v] mi_L_67 (tb_i 802 (by decide +kernel) (by decide +kernel)) (k_X9_judged w l v X h n hO hG hn hh) dL_judged_4 sh_0 (by decide) rfl rfl rfl (Nat.le_of_ble_eq_true rfl) (Nat.le_of_ble_eq_true rfl) (Nat.le_of_ble_eq_true rfl) ⟨by decide, by decide⟩ (fun E X1 hx => ?_) (fun rv X1 hq => ?_)
  · have hE : E = eIO := hx.2.1
    rcases hE with rfl
    · refine ⟨12, HC_1 ht rfl ⟨by decide, by decide⟩ (by decide) (C.2.2.2.2.2.2.2 _ cl_13) (C.2.2.2.2.2.2.2 _ cc_IO), fun q => ?_⟩
      refine V_astore_n (ls1 := [some (.ref (w.2.1 0)), some (.int v), some (.ref (w.2.1 116)), some (.ref q)]) C dL_judged_12 (by decide) rfl ?_
      refine V_iconst (v := (1 : Int32)) C dL_judged_13 (by decide) ?_
      exact V_ireturnX C dL_judged_14 (by decide) (by decide) (Or.inr ⟨_, hx, 0, rfl, rfl⟩)
  · refine V_i2l C dL_judged_7 ?_
    refine V_lastore0 C dL_judged_8 ?_
    refine V_goto (tgt := 15) C dL_judged_9 (by decide) ?_
    refine V_iconst (v := (0 : Int32)) C dL_judged_15 (by decide) ?_
    exact V_ireturnX C dL_judged_16 (by decide) (by decide) (Or.inl ⟨rfl, rv, X1, hq, rfl⟩)
def q_L_has (hd : Int32) (v : Int32) (b : Int32) (X : Mem) (h n : Nat) : Int32 → Mem → Prop := fun r X' => (r = 0 ∧ ∃ rv X1, (q_X9_has hd v b X h n) rv X1 ∧ X' = ma X1 116 (upd (X1 116) 0 (if rv = 0 then 0 else 1))) ∨ ∃ E, (r_X9_has hd v b X h n) E X' ∧ ECd [eIO, eIA] E r
set_option maxHeartbeats 4000000 in
set_option maxRecDepth 100000 in
theorem k_L_has (w : Wt) (l : Launch) (hd : Int32) (v : Int32) (b : Int32) (X : Mem) (h n : Nat) (hO : OInv (oC X) h n) (hG : GInv (gC X) h) (hn : X 6 0 = nI n) (hh : X 1 1 = nI h) : CtH w l yL_has cL_has 6 [(0, 19, 22, 13), (0, 19, 26, 27)] 9 182 4 [.ref (w.2.1 0), .int hd, .int v, .int b, .ref (w.2.1 116)] X (q_L_has hd v b X h n) := by
  refine CtH_of (by decide +kernel) (Nat.le_of_ble_eq_true rfl) (List.forall_mem_cons.mpr ⟨rfl, (List.forall_mem_cons.mpr ⟨rfl, (List.forall_mem_cons.mpr ⟨rfl, (List.forall_mem_cons.mpr ⟨rfl, (List.forall_mem_cons.mpr ⟨rfl, (fun _ h => nomatch h)⟩)⟩)⟩)⟩)⟩) (ls := [some (.ref (w.2.1 0)), some (.int hd), some (.int v), some (.int b), some (.ref (w.2.1 116)), none]) rfl (args := (#[.ref (w.2.1 0), .int hd, .int v, .int b, .ref (w.2.1 116)] : Array Value)) rfl (own := RL) rfl ?_
  intro p e s m below meth c C ht hD hN
  refine V_aload C dL_has_0 rfl ?_
  refine V_iconst (v := (0 : Int32)) C dL_has_2 (by decide) ?_
  refine V_aload_n C dL_has_3 rfl ?_
  refine V_iload_n C dL_has_4 rfl ?_
  refine V_iload_n C dL_has_5 rfl ?_
  refine V_iload_n C dL_has_6 rfl ?_
  refine V_hcallV C hD [.int hd, .int v, .int b] mi_L_70 (tb_i 809 (by decide +kernel) (by decide +kernel)) (k_X9_has w l hd v b X h n hO hG hn hh) dL_has_7 sh_0 (by decide) rfl rfl rfl (Nat.le_of_ble_eq_true rfl) (Nat.le_of_ble_eq_true rfl) (Nat.le_of_ble_eq_true rfl) ⟨by decide, by decide⟩ (fun E X1 hx => ?_) (fun rv X1 hq => ?_)
  · have hE : E = eIO ∨ E = eIA := hx.2.elim (fun g => Or.inl g.1) (fun g => Or.inr g.1)
    rcases hE with rfl | rfl
    · refine ⟨22, HC_1 ht rfl ⟨by decide, by decide⟩ (by decide) (C.2.2.2.2.2.2.2 _ cl_13) (C.2.2.2.2.2.2.2 _ cc_IO), fun q => ?_⟩
      refine V_astore (ls1 := [some (.ref (w.2.1 0)), some (.int hd), some (.int v), some (.int b), some (.ref (w.2.1 116)), some (.ref q)]) C dL_has_22 (by decide) rfl ?_
      refine V_iconst (v := (1 : Int32)) C dL_has_24 (by decide) ?_
      exact V_ireturnX C dL_has_25 (by decide) (by decide) (Or.inr ⟨_, hx, 0, rfl, rfl⟩)
    · refine ⟨26, HC_2 ht rfl (by decide) (C.2.2.2.2.2.2.2 _ cl_13) hN.2.1 ⟨by decide, by decide⟩ (by decide) (C.2.2.2.2.2.2.2 _ cl_27) (C.2.2.2.2.2.2.2 _ cc_IA), fun q => ?_⟩
      refine V_astore (ls1 := [some (.ref (w.2.1 0)), some (.int hd), some (.int v), some (.int b), some (.ref (w.2.1 116)), some (.ref q)]) C dL_has_26 (by decide) rfl ?_
      refine V_iconst (v := (2 : Int32)) C dL_has_28 (by decide) ?_
      exact V_ireturnX C dL_has_29 (by decide) (by decide) (Or.inr ⟨_, hx, 1, rfl, rfl⟩)
  · refine V_if_eq (x := rv) (tgt := 17) C dL_has_10 (by decide) (fun hv => ?_) (fun hv => ?_)
    · refine V_lconst C (0 : Int32) dL_has_17 (by decide) ?_
      refine V_lastore0 C dL_has_18 ?_
      refine V_goto (tgt := 30) C dL_has_19 (by decide) ?_
      refine V_iconst (v := (0 : Int32)) C dL_has_30 (by decide) ?_
      exact V_ireturnX C dL_has_31 (by decide) (by decide) (Or.inl ⟨rfl, rv, X1, hq, by rw [if_pos hv]⟩)
    · refine V_lconst C (1 : Int32) dL_has_13 (by decide) ?_
      refine V_goto (tgt := 18) C dL_has_14 (by decide) ?_
      refine V_lastore0 C dL_has_18 ?_
      refine V_goto (tgt := 30) C dL_has_19 (by decide) ?_
      refine V_iconst (v := (0 : Int32)) C dL_has_30 (by decide) ?_
      exact V_ireturnX C dL_has_31 (by decide) (by decide) (Or.inl ⟨rfl, rv, X1, hq, by rw [if_neg hv]⟩)
def q_L_hasByChains (hd : Int32) (v : Int32) (b : Int32) (X : Mem) (h n : Nat) : Int32 → Mem → Prop := fun r X' => (r = 0 ∧ ∃ rv X1, (q_X9_hasByChains hd v b X h n) rv X1 ∧ X' = ma X1 116 (upd (X1 116) 0 (if rv = 0 then 0 else 1))) ∨ ∃ E, (r_X9_hasByChains hd v b X h n) E X' ∧ ECd [eIO, eIA] E r
set_option maxHeartbeats 4000000 in
set_option maxRecDepth 100000 in
theorem k_L_hasByChains (w : Wt) (l : Launch) (hd : Int32) (v : Int32) (b : Int32) (X : Mem) (h n : Nat) (hO : OInv (oC X) h n) (hG : GInv (gC X) h) (hn : X 6 0 = nI n) (hh : X 1 1 = nI h) : CtH w l yL_hasByChains cL_hasByChains 6 [(0, 19, 22, 13), (0, 19, 26, 27)] 26 709 4 [.ref (w.2.1 0), .int hd, .int v, .int b, .ref (w.2.1 116)] X (q_L_hasByChains hd v b X h n) := by
  refine CtH_of (by decide +kernel) (Nat.le_of_ble_eq_true rfl) (List.forall_mem_cons.mpr ⟨rfl, (List.forall_mem_cons.mpr ⟨rfl, (List.forall_mem_cons.mpr ⟨rfl, (List.forall_mem_cons.mpr ⟨rfl, (List.forall_mem_cons.mpr ⟨rfl, (fun _ h => nomatch h)⟩)⟩)⟩)⟩)⟩) (ls := [some (.ref (w.2.1 0)), some (.int hd), some (.int v), some (.int b), some (.ref (w.2.1 116)), none]) rfl (args := (#[.ref (w.2.1 0), .int hd, .int v, .int b, .ref (w.2.1 116)] : Array Value)) rfl (own := RL) rfl ?_
  intro p e s m below meth c C ht hD hN
  refine V_aload C dL_hasByChains_0 rfl ?_
  refine V_iconst (v := (0 : Int32)) C dL_hasByChains_2 (by decide) ?_
  refine V_aload_n C dL_hasByChains_3 rfl ?_
  refine V_iload_n C dL_hasByChains_4 rfl ?_
  refine V_iload_n C dL_hasByChains_5 rfl ?_
  refine V_iload_n C dL_hasByChains_6 rfl ?_
  refine V_hcallV C hD [.int hd, .int v, .int b] mi_L_74 (tb_i 817 (by decide +kernel) (by decide +kernel)) (k_X9_hasByChains w l hd v b X h n hO hG hn hh) dL_hasByChains_7 sh_0 (by decide) rfl rfl rfl (Nat.le_of_ble_eq_true rfl) (Nat.le_of_ble_eq_true rfl) (Nat.le_of_ble_eq_true rfl) ⟨by decide, by decide⟩ (fun E X1 hx => ?_) (fun rv X1 hq => ?_)
  · have hE : E = eIO ∨ E = eIA := hx.2.elim (fun g => Or.inl g.1) (fun g => Or.inr g.1)
    rcases hE with rfl | rfl
    · refine ⟨22, HC_1 ht rfl ⟨by decide, by decide⟩ (by decide) (C.2.2.2.2.2.2.2 _ cl_13) (C.2.2.2.2.2.2.2 _ cc_IO), fun q => ?_⟩
      refine V_astore (ls1 := [some (.ref (w.2.1 0)), some (.int hd), some (.int v), some (.int b), some (.ref (w.2.1 116)), some (.ref q)]) C dL_hasByChains_22 (by decide) rfl ?_
      refine V_iconst (v := (1 : Int32)) C dL_hasByChains_24 (by decide) ?_
      exact V_ireturnX C dL_hasByChains_25 (by decide) (by decide) (Or.inr ⟨_, hx, 0, rfl, rfl⟩)
    · refine ⟨26, HC_2 ht rfl (by decide) (C.2.2.2.2.2.2.2 _ cl_13) hN.2.1 ⟨by decide, by decide⟩ (by decide) (C.2.2.2.2.2.2.2 _ cl_27) (C.2.2.2.2.2.2.2 _ cc_IA), fun q => ?_⟩
      refine V_astore (ls1 := [some (.ref (w.2.1 0)), some (.int hd), some (.int v), some (.int b), some (.ref (w.2.1 116)), some (.ref q)]) C dL_hasByChains_26 (by decide) rfl ?_
      refine V_iconst (v := (2 : Int32)) C dL_hasByChains_28 (by decide) ?_
      exact V_ireturnX C dL_hasByChains_29 (by decide) (by decide) (Or.inr ⟨_, hx, 1, rfl, rfl⟩)
  · refine V_if_eq (x := rv) (tgt := 17) C dL_hasByChains_10 (by decide) (fun hv => ?_) (fun hv => ?_)
    · refine V_lconst C (0 : Int32) dL_hasByChains_17 (by decide) ?_
      refine V_lastore0 C dL_hasByChains_18 ?_
      refine V_goto (tgt := 30) C dL_hasByChains_19 (by decide) ?_
      refine V_iconst (v := (0 : Int32)) C dL_hasByChains_30 (by decide) ?_
      exact V_ireturnX C dL_hasByChains_31 (by decide) (by decide) (Or.inl ⟨rfl, rv, X1, hq, by rw [if_pos hv]⟩)
    · refine V_lconst C (1 : Int32) dL_hasByChains_13 (by decide) ?_
      refine V_goto (tgt := 18) C dL_hasByChains_14 (by decide) ?_
      refine V_lastore0 C dL_hasByChains_18 ?_
      refine V_goto (tgt := 30) C dL_hasByChains_19 (by decide) ?_
      refine V_iconst (v := (0 : Int32)) C dL_hasByChains_30 (by decide) ?_
      exact V_ireturnX C dL_hasByChains_31 (by decide) (by decide) (Or.inl ⟨rfl, rv, X1, hq, by rw [if_neg hv]⟩)
def q_L_state (nt : Int32) (v : Int32) (b : Int32) (X : Mem) (h n : Nat) : Int32 → Mem → Prop := fun r X' => (r = 0 ∧ ∃ rv X1, (q_X9_state nt v b X h n) rv X1 ∧ X' = ma X1 116 (upd (X1 116) 0 rv)) ∨ ∃ E, (r_X9_state nt v b X h n) E X' ∧ ECd [eIO, eIA] E r
set_option maxHeartbeats 4000000 in
set_option maxRecDepth 100000 in
theorem k_L_state (w : Wt) (l : Launch) (nt : Int32) (v : Int32) (b : Int32) (X : Mem) (h n : Nat) (hO : OInv (oC X) h n) (hG : GInv (gC X) h) (hn : X 6 0 = nI n) (hh : X 1 1 = nI h) : CtH w l yL_state cL_state 6 [(0, 12, 15, 13), (0, 12, 19, 27)] 9 182 4 [.ref (w.2.1 0), .int nt, .int v, .int b, .ref (w.2.1 116)] X (q_L_state nt v b X h n) := by
  refine CtH_of (by decide +kernel) (Nat.le_of_ble_eq_true rfl) (List.forall_mem_cons.mpr ⟨rfl, (List.forall_mem_cons.mpr ⟨rfl, (List.forall_mem_cons.mpr ⟨rfl, (List.forall_mem_cons.mpr ⟨rfl, (List.forall_mem_cons.mpr ⟨rfl, (fun _ h => nomatch h)⟩)⟩)⟩)⟩)⟩) (ls := [some (.ref (w.2.1 0)), some (.int nt), some (.int v), some (.int b), some (.ref (w.2.1 116)), none]) rfl (args := (#[.ref (w.2.1 0), .int nt, .int v, .int b, .ref (w.2.1 116)] : Array Value)) rfl (own := RL) rfl ?_
  intro p e s m below meth c C ht hD hN
  refine V_aload C dL_state_0 rfl ?_
  refine V_iconst (v := (0 : Int32)) C dL_state_2 (by decide) ?_
  refine V_aload_n C dL_state_3 rfl ?_
  refine V_iload_n C dL_state_4 rfl ?_
  refine V_iload_n C dL_state_5 rfl ?_
  refine V_iload_n C dL_state_6 rfl ?_
  refine V_hcallV C hD [.int nt, .int v, .int b] mi_L_77 (tb_i 840 (by decide +kernel) (by decide +kernel)) (k_X9_state w l nt v b X h n hO hG hn hh) dL_state_7 sh_0 (by decide) rfl rfl rfl (Nat.le_of_ble_eq_true rfl) (Nat.le_of_ble_eq_true rfl) (Nat.le_of_ble_eq_true rfl) ⟨by decide, by decide⟩ (fun E X1 hx => ?_) (fun rv X1 hq => ?_)
  · have hE : E = eIO ∨ E = eIA := hx.2.elim (fun g => Or.inl g.1) (fun g => Or.inr g.1)
    rcases hE with rfl | rfl
    · refine ⟨15, HC_1 ht rfl ⟨by decide, by decide⟩ (by decide) (C.2.2.2.2.2.2.2 _ cl_13) (C.2.2.2.2.2.2.2 _ cc_IO), fun q => ?_⟩
      refine V_astore (ls1 := [some (.ref (w.2.1 0)), some (.int nt), some (.int v), some (.int b), some (.ref (w.2.1 116)), some (.ref q)]) C dL_state_15 (by decide) rfl ?_
      refine V_iconst (v := (1 : Int32)) C dL_state_17 (by decide) ?_
      exact V_ireturnX C dL_state_18 (by decide) (by decide) (Or.inr ⟨_, hx, 0, rfl, rfl⟩)
    · refine ⟨19, HC_2 ht rfl (by decide) (C.2.2.2.2.2.2.2 _ cl_13) hN.2.1 ⟨by decide, by decide⟩ (by decide) (C.2.2.2.2.2.2.2 _ cl_27) (C.2.2.2.2.2.2.2 _ cc_IA), fun q => ?_⟩
      refine V_astore (ls1 := [some (.ref (w.2.1 0)), some (.int nt), some (.int v), some (.int b), some (.ref (w.2.1 116)), some (.ref q)]) C dL_state_19 (by decide) rfl ?_
      refine V_iconst (v := (2 : Int32)) C dL_state_21 (by decide) ?_
      exact V_ireturnX C dL_state_22 (by decide) (by decide) (Or.inr ⟨_, hx, 1, rfl, rfl⟩)
  · refine V_i2l C dL_state_10 ?_
    refine V_lastore0 C dL_state_11 ?_
    refine V_goto (tgt := 23) C dL_state_12 (by decide) ?_
    refine V_iconst (v := (0 : Int32)) C dL_state_23 (by decide) ?_
    exact V_ireturnX C dL_state_24 (by decide) (by decide) (Or.inl ⟨rfl, rv, X1, hq, rfl⟩)
def q_L_path (v : Int32) (up : Int32) (X : Mem) (h n : Nat) (R : Nat) (PP : Nat → Nat → Nat) (Z : Nat → Nat) (Th : Nat → Prop) : Int32 → Mem → Prop := fun r X' => (r = 0 ∧ ∃ rv X1, (q_X9_path v up X h n R PP Z Th) rv X1 ∧ X' = ma X1 116 (upd (X1 116) 0 rv)) ∨ ∃ E, (r_X9_path v up X h n R PP Z Th) E X' ∧ ECd [eIO] E r
set_option maxHeartbeats 4000000 in
set_option maxRecDepth 100000 in
theorem k_L_path (w : Wt) (l : Launch) (v : Int32) (up : Int32) (X : Mem) (h n : Nat) (R : Nat) (PP : Nat → Nat → Nat) (Z : Nat → Nat) (Th : Nat → Prop) (hO : OInv (oC X) h n) (hG : GInv (gC X) h) (hn : X 6 0 = nI n) (hh : X 1 1 = nI h) (hB : RBc X R PP Z Th) : CtH w l yL_path cL_path 5 [(0, 10, 13, 13)] 9 204 1 [.ref (w.2.1 0), .int v, .int up, .ref (w.2.1 116)] X (q_L_path v up X h n R PP Z Th) := by
  refine CtH_of (by decide +kernel) (Nat.le_of_ble_eq_true rfl) (List.forall_mem_cons.mpr ⟨rfl, (List.forall_mem_cons.mpr ⟨rfl, (List.forall_mem_cons.mpr ⟨rfl, (List.forall_mem_cons.mpr ⟨rfl, (fun _ h => nomatch h)⟩)⟩)⟩)⟩) (ls := [some (.ref (w.2.1 0)), some (.int v), some (.int up), some (.ref (w.2.1 116)), none]) rfl (args := (#[.ref (w.2.1 0), .int v, .int up, .ref (w.2.1 116)] : Array Value)) rfl (own := RL) rfl ?_
  intro p e s m below meth c C ht hD hN
  refine V_aload_n C dL_path_0 rfl ?_
  refine V_iconst (v := (0 : Int32)) C dL_path_1 (by decide) ?_
  refine V_aload_n C dL_path_2 rfl ?_
  refine V_iload_n C dL_path_3 rfl ?_
  refine V_iload_n C dL_path_4 rfl ?_
  refine V_hcallV C hD [.int v, .int up] mi_L_80 (tb_i 855 (by decide +kernel) (by decide +kernel)) (k_X9_path w l v up X h n R PP Z Th hO hG hn hh hB) dL_path_5 sh_0 (by decide) rfl rfl rfl (Nat.le_of_ble_eq_true rfl) (Nat.le_of_ble_eq_true rfl) (Nat.le_of_ble_eq_true rfl) ⟨by decide, by decide⟩ (fun E X1 hx => ?_) (fun rv X1 hq => ?_)
  · have hE : E = eIO := hx.2.1
    rcases hE with rfl
    · refine ⟨13, HC_1 ht rfl ⟨by decide, by decide⟩ (by decide) (C.2.2.2.2.2.2.2 _ cl_13) (C.2.2.2.2.2.2.2 _ cc_IO), fun q => ?_⟩
      refine V_astore (ls1 := [some (.ref (w.2.1 0)), some (.int v), some (.int up), some (.ref (w.2.1 116)), some (.ref q)]) C dL_path_13 (by decide) rfl ?_
      refine V_iconst (v := (1 : Int32)) C dL_path_15 (by decide) ?_
      exact V_ireturnX C dL_path_16 (by decide) (by decide) (Or.inr ⟨_, hx, 0, rfl, rfl⟩)
  · refine V_i2l C dL_path_8 ?_
    refine V_lastore0 C dL_path_9 ?_
    refine V_goto (tgt := 17) C dL_path_10 (by decide) ?_
    refine V_iconst (v := (0 : Int32)) C dL_path_17 (by decide) ?_
    exact V_ireturnX C dL_path_18 (by decide) (by decide) (Or.inl ⟨rfl, rv, X1, hq, rfl⟩)
def q_L_leak (v : Int32) (X : Mem) (R : Nat) (PP : Nat → Nat → Nat) (Z : Nat → Nat) (Th : Nat → Prop) : Int32 → Mem → Prop := fun r X' => (r = 0 ∧ ∃ rv X1, (q_X9_leak v X R PP Z Th) rv X1 ∧ X' = ma X1 116 (upd (X1 116) 0 rv)) ∨ ∃ E, (r_X9_leak v X R PP Z Th) E X' ∧ ECd [eIO] E r
set_option maxHeartbeats 4000000 in
set_option maxRecDepth 100000 in
theorem k_L_leak (w : Wt) (l : Launch) (v : Int32) (X : Mem) (R : Nat) (PP : Nat → Nat → Nat) (Z : Nat → Nat) (Th : Nat → Prop) (hB : RBc X R PP Z Th) : CtH w l yL_leak cL_leak 4 [(0, 9, 12, 13)] 8 126 1 [.ref (w.2.1 0), .int v, .ref (w.2.1 116)] X (q_L_leak v X R PP Z Th) := by
  refine CtH_of (by decide +kernel) (Nat.le_of_ble_eq_true rfl) (List.forall_mem_cons.mpr ⟨rfl, (List.forall_mem_cons.mpr ⟨rfl, (List.forall_mem_cons.mpr ⟨rfl, (fun _ h => nomatch h)⟩)⟩)⟩) (ls := [some (.ref (w.2.1 0)), some (.int v), some (.ref (w.2.1 116)), none]) rfl (args := (#[.ref (w.2.1 0), .int v, .ref (w.2.1 116)] : Array Value)) rfl (own := RL) rfl ?_
  intro p e s m below meth c C ht hD hN
  refine V_aload_n C dL_leak_0 rfl ?_
  refine V_iconst (v := (0 : Int32)) C dL_leak_1 (by decide) ?_
  refine V_aload_n C dL_leak_2 rfl ?_
  refine V_iload_n C dL_leak_3 rfl ?_
  refine V_hcallV C hD [.int v] mi_L_84 (tb_i 869 (by decide +kernel) (by decide +kernel)) (k_X9_leak w l v X R PP Z Th hB) dL_leak_4 sh_0 (by decide) rfl rfl rfl (Nat.le_of_ble_eq_true rfl) (Nat.le_of_ble_eq_true rfl) (Nat.le_of_ble_eq_true rfl) ⟨by decide, by decide⟩ (fun E X1 hx => ?_) (fun rv X1 hq => ?_)
  · have hE : E = eIO := hx.2.1
    rcases hE with rfl
    · refine ⟨12, HC_1 ht rfl ⟨by decide, by decide⟩ (by decide) (C.2.2.2.2.2.2.2 _ cl_13) (C.2.2.2.2.2.2.2 _ cc_IO), fun q => ?_⟩
      refine V_astore_n (ls1 := [some (.ref (w.2.1 0)), some (.int v), some (.ref (w.2.1 116)), some (.ref q)]) C dL_leak_12 (by decide) rfl ?_
      refine V_iconst (v := (1 : Int32)) C dL_leak_13 (by decide) ?_
      exact V_ireturnX C dL_leak_14 (by decide) (by decide) (Or.inr ⟨_, hx, 0, rfl, rfl⟩)
  · refine V_i2l C dL_leak_7 ?_
    refine V_lastore0 C dL_leak_8 ?_
    refine V_goto (tgt := 15) C dL_leak_9 (by decide) ?_
    refine V_iconst (v := (0 : Int32)) C dL_leak_15 (by decide) ?_
    exact V_ireturnX C dL_leak_16 (by decide) (by decide) (Or.inl ⟨rfl, rv, X1, hq, rfl⟩)
def q_L_stopped (v : Int32) (fl : Int32) (X : Mem) (h n : Nat) (R : Nat) (PP : Nat → Nat → Nat) (Z : Nat → Nat) (Th : Nat → Prop) : Int32 → Mem → Prop := fun r X' => (r = 0 ∧ ∃ rv X1, (q_X9_stopped v fl X h n R PP Z Th) rv X1 ∧ X' = ma X1 116 (upd (X1 116) 0 rv)) ∨ ∃ E, (r_X9_stopped v fl X h n R PP Z Th) E X' ∧ ECd [eIO, eIA] E r
set_option maxHeartbeats 4000000 in
set_option maxRecDepth 100000 in
theorem k_L_stopped (w : Wt) (l : Launch) (v : Int32) (fl : Int32) (X : Mem) (h n : Nat) (R : Nat) (PP : Nat → Nat → Nat) (Z : Nat → Nat) (Th : Nat → Prop) (hO : OInv (oC X) h n) (hG : GInv (gC X) h) (hn : X 6 0 = nI n) (hh : X 1 1 = nI h) (hB : RBc X R PP Z Th) : CtH w l yL_stopped cL_stopped 5 [(0, 10, 13, 13), (0, 10, 17, 27)] 9 205 2 [.ref (w.2.1 0), .int v, .int fl, .ref (w.2.1 116)] X (q_L_stopped v fl X h n R PP Z Th) := by
  refine CtH_of (by decide +kernel) (Nat.le_of_ble_eq_true rfl) (List.forall_mem_cons.mpr ⟨rfl, (List.forall_mem_cons.mpr ⟨rfl, (List.forall_mem_cons.mpr ⟨rfl, (List.forall_mem_cons.mpr ⟨rfl, (fun _ h => nomatch h)⟩)⟩)⟩)⟩) (ls := [some (.ref (w.2.1 0)), some (.int v), some (.int fl), some (.ref (w.2.1 116)), none]) rfl (args := (#[.ref (w.2.1 0), .int v, .int fl, .ref (w.2.1 116)] : Array Value)) rfl (own := RL) rfl ?_
  intro p e s m below meth c C ht hD hN
  refine V_aload_n C dL_stopped_0 rfl ?_
  refine V_iconst (v := (0 : Int32)) C dL_stopped_1 (by decide) ?_
  refine V_aload_n C dL_stopped_2 rfl ?_
  refine V_iload_n C dL_stopped_3 rfl ?_
  refine V_iload_n C dL_stopped_4 rfl ?_
  refine V_hcallV C hD [.int v, .int fl] mi_L_87 (tb_i 882 (by decide +kernel) (by decide +kernel)) (k_X9_stopped w l v fl X h n R PP Z Th hO hG hn hh hB) dL_stopped_5 sh_0 (by decide) rfl rfl rfl (Nat.le_of_ble_eq_true rfl) (Nat.le_of_ble_eq_true rfl) (Nat.le_of_ble_eq_true rfl) ⟨by decide, by decide⟩ (fun E X1 hx => ?_) (fun rv X1 hq => ?_)
  · have hE : E = eIO ∨ E = eIA := hx.2.elim (fun g => Or.inl g.1) (fun g => Or.inr g.1)
    rcases hE with rfl | rfl
    · refine ⟨13, HC_1 ht rfl ⟨by decide, by decide⟩ (by decide) (C.2.2.2.2.2.2.2 _ cl_13) (C.2.2.2.2.2.2.2 _ cc_IO), fun q => ?_⟩
      refine V_astore (ls1 := [some (.ref (w.2.1 0)), some (.int v), some (.int fl), some (.ref (w.2.1 116)), some (.ref q)]) C dL_stopped_13 (by decide) rfl ?_
      refine V_iconst (v := (1 : Int32)) C dL_stopped_15 (by decide) ?_
      exact V_ireturnX C dL_stopped_16 (by decide) (by decide) (Or.inr ⟨_, hx, 0, rfl, rfl⟩)
    · refine ⟨17, HC_2 ht rfl (by decide) (C.2.2.2.2.2.2.2 _ cl_13) hN.2.1 ⟨by decide, by decide⟩ (by decide) (C.2.2.2.2.2.2.2 _ cl_27) (C.2.2.2.2.2.2.2 _ cc_IA), fun q => ?_⟩
      refine V_astore (ls1 := [some (.ref (w.2.1 0)), some (.int v), some (.int fl), some (.ref (w.2.1 116)), some (.ref q)]) C dL_stopped_17 (by decide) rfl ?_
      refine V_iconst (v := (2 : Int32)) C dL_stopped_19 (by decide) ?_
      exact V_ireturnX C dL_stopped_20 (by decide) (by decide) (Or.inr ⟨_, hx, 1, rfl, rfl⟩)
  · refine V_i2l C dL_stopped_8 ?_
    refine V_lastore0 C dL_stopped_9 ?_
    refine V_goto (tgt := 21) C dL_stopped_10 (by decide) ?_
    refine V_iconst (v := (0 : Int32)) C dL_stopped_21 (by decide) ?_
    exact V_ireturnX C dL_stopped_22 (by decide) (by decide) (Or.inl ⟨rfl, rv, X1, hq, rfl⟩)
def q_L_allowed (u : Int32) (v : Int32) (X : Mem) : Int32 → Mem → Prop := fun r X' => (r = 0 ∧ ∃ rv X1, (q_X9_allowed u v X) rv X1 ∧ X' = ma X1 116 (upd (X1 116) 0 rv)) ∨ ∃ E, (r_X9_allowed u v X) E X' ∧ ECd [eIO] E r
set_option maxHeartbeats 4000000 in
set_option maxRecDepth 100000 in
theorem k_L_allowed (w : Wt) (l : Launch) (u : Int32) (v : Int32) (X : Mem) : CtH w l yL_allowed cL_allowed 5 [(0, 10, 13, 13)] 20 584 2 [.ref (w.2.1 0), .int u, .int v, .ref (w.2.1 116)] X (q_L_allowed u v X) := by
  refine CtH_of (by decide +kernel) (Nat.le_of_ble_eq_true rfl) (List.forall_mem_cons.mpr ⟨rfl, (List.forall_mem_cons.mpr ⟨rfl, (List.forall_mem_cons.mpr ⟨rfl, (List.forall_mem_cons.mpr ⟨rfl, (fun _ h => nomatch h)⟩)⟩)⟩)⟩) (ls := [some (.ref (w.2.1 0)), some (.int u), some (.int v), some (.ref (w.2.1 116)), none]) rfl (args := (#[.ref (w.2.1 0), .int u, .int v, .ref (w.2.1 116)] : Array Value)) rfl (own := RL) rfl ?_
  intro p e s m below meth c C ht hD hN
  refine V_aload_n C dL_allowed_0 rfl ?_
  refine V_iconst (v := (0 : Int32)) C dL_allowed_1 (by decide) ?_
  refine V_aload_n C dL_allowed_2 rfl ?_
  refine V_iload_n C dL_allowed_3 rfl ?_
  refine V_iload_n C dL_allowed_4 rfl ?_
  refine V_hcallV C hD [.int u, .int v] mi_L_90 (tb_i 891 (by decide +kernel) (by decide +kernel)) (k_X9_allowed w l u v X) dL_allowed_5 sh_0 (by decide) rfl rfl rfl (Nat.le_of_ble_eq_true rfl) (Nat.le_of_ble_eq_true rfl) (Nat.le_of_ble_eq_true rfl) ⟨by decide, by decide⟩ (fun E X1 hx => ?_) (fun rv X1 hq => ?_)
  · have hE : E = eIO := hx.2.1
    rcases hE with rfl
    · refine ⟨13, HC_1 ht rfl ⟨by decide, by decide⟩ (by decide) (C.2.2.2.2.2.2.2 _ cl_13) (C.2.2.2.2.2.2.2 _ cc_IO), fun q => ?_⟩
      refine V_astore (ls1 := [some (.ref (w.2.1 0)), some (.int u), some (.int v), some (.ref (w.2.1 116)), some (.ref q)]) C dL_allowed_13 (by decide) rfl ?_
      refine V_iconst (v := (1 : Int32)) C dL_allowed_15 (by decide) ?_
      exact V_ireturnX C dL_allowed_16 (by decide) (by decide) (Or.inr ⟨_, hx, 0, rfl, rfl⟩)
  · refine V_i2l C dL_allowed_8 ?_
    refine V_lastore0 C dL_allowed_9 ?_
    refine V_goto (tgt := 17) C dL_allowed_10 (by decide) ?_
    refine V_iconst (v := (0 : Int32)) C dL_allowed_17 (by decide) ?_
    exact V_ireturnX C dL_allowed_18 (by decide) (by decide) (Or.inl ⟨rfl, rv, X1, hq, rfl⟩)
def q_L_inferred (u : Int32) (v : Int32) (rn : Int32) (X : Mem) (R : Nat) (PP : Nat → Nat → Nat) (Z : Nat → Nat) (Th : Nat → Prop) : Int32 → Mem → Prop := fun r X' => (r = 0 ∧ ∃ rv X1, (q_X9_inferred u v rn X R PP Z Th) rv X1 ∧ X' = ma X1 116 (upd (X1 116) 0 rv)) ∨ ∃ E, (r_X9_inferred u v rn X R PP Z Th) E X' ∧ ECd [eIO] E r
set_option maxHeartbeats 4000000 in
set_option maxRecDepth 100000 in
theorem k_L_inferred (w : Wt) (l : Launch) (u : Int32) (v : Int32) (rn : Int32) (X : Mem) (R : Nat) (PP : Nat → Nat → Nat) (Z : Nat → Nat) (Th : Nat → Prop) (hB : RBc X R PP Z Th) : CtH w l yL_inferred cL_inferred 6 [(0, 12, 15, 13)] 8 181 3 [.ref (w.2.1 0), .int u, .int v, .int rn, .ref (w.2.1 116)] X (q_L_inferred u v rn X R PP Z Th) := by
  refine CtH_of (by decide +kernel) (Nat.le_of_ble_eq_true rfl) (List.forall_mem_cons.mpr ⟨rfl, (List.forall_mem_cons.mpr ⟨rfl, (List.forall_mem_cons.mpr ⟨rfl, (List.forall_mem_cons.mpr ⟨rfl, (List.forall_mem_cons.mpr ⟨rfl, (fun _ h => nomatch h)⟩)⟩)⟩)⟩)⟩) (ls := [some (.ref (w.2.1 0)), some (.int u), some (.int v), some (.int rn), some (.ref (w.2.1 116)), none]) rfl (args := (#[.ref (w.2.1 0), .int u, .int v, .int rn, .ref (w.2.1 116)] : Array Value)) rfl (own := RL) rfl ?_
  intro p e s m below meth c C ht hD hN
  refine V_aload C dL_inferred_0 rfl ?_
  refine V_iconst (v := (0 : Int32)) C dL_inferred_2 (by decide) ?_
  refine V_aload_n C dL_inferred_3 rfl ?_
  refine V_iload_n C dL_inferred_4 rfl ?_
  refine V_iload_n C dL_inferred_5 rfl ?_
  refine V_iload_n C dL_inferred_6 rfl ?_
  refine V_hcallV C hD [.int u, .int v, .int rn] mi_L_93 (tb_i 902 (by decide +kernel) (by decide +kernel)) (k_X9_inferred w l u v rn X R PP Z Th hB) dL_inferred_7 sh_0 (by decide) rfl rfl rfl (Nat.le_of_ble_eq_true rfl) (Nat.le_of_ble_eq_true rfl) (Nat.le_of_ble_eq_true rfl) ⟨by decide, by decide⟩ (fun E X1 hx => ?_) (fun rv X1 hq => ?_)
  · have hE : E = eIO := hx.2.1
    rcases hE with rfl
    · refine ⟨15, HC_1 ht rfl ⟨by decide, by decide⟩ (by decide) (C.2.2.2.2.2.2.2 _ cl_13) (C.2.2.2.2.2.2.2 _ cc_IO), fun q => ?_⟩
      refine V_astore (ls1 := [some (.ref (w.2.1 0)), some (.int u), some (.int v), some (.int rn), some (.ref (w.2.1 116)), some (.ref q)]) C dL_inferred_15 (by decide) rfl ?_
      refine V_iconst (v := (1 : Int32)) C dL_inferred_17 (by decide) ?_
      exact V_ireturnX C dL_inferred_18 (by decide) (by decide) (Or.inr ⟨_, hx, 0, rfl, rfl⟩)
  · refine V_i2l C dL_inferred_10 ?_
    refine V_lastore0 C dL_inferred_11 ?_
    refine V_goto (tgt := 19) C dL_inferred_12 (by decide) ?_
    refine V_iconst (v := (0 : Int32)) C dL_inferred_19 (by decide) ?_
    exact V_ireturnX C dL_inferred_20 (by decide) (by decide) (Or.inl ⟨rfl, rv, X1, hq, rfl⟩)
def q_L_cone (v : Int32) (X : Mem) (R : Nat) (PP : Nat → Nat → Nat) (Z : Nat → Nat) (Th : Nat → Prop) : Int32 → Mem → Prop := fun r X' => (r = 0 ∧ ∃ rv X1, (q_X9_cone v X R PP Z Th) rv X1 ∧ X' = ma X1 116 (upd (X1 116) 0 rv)) ∨ ∃ E, (r_X9_cone v X R PP Z Th) E X' ∧ ECd [eIO] E r
set_option maxHeartbeats 4000000 in
set_option maxRecDepth 100000 in
theorem k_L_cone (w : Wt) (l : Launch) (v : Int32) (X : Mem) (R : Nat) (PP : Nat → Nat → Nat) (Z : Nat → Nat) (Th : Nat → Prop) (hB : RBc X R PP Z Th) : CtH w l yL_cone cL_cone 4 [(0, 9, 12, 13)] 8 179 1 [.ref (w.2.1 0), .int v, .ref (w.2.1 116)] X (q_L_cone v X R PP Z Th) := by
  refine CtH_of (by decide +kernel) (Nat.le_of_ble_eq_true rfl) (List.forall_mem_cons.mpr ⟨rfl, (List.forall_mem_cons.mpr ⟨rfl, (List.forall_mem_cons.mpr ⟨rfl, (fun _ h => nomatch h)⟩)⟩)⟩) (ls := [some (.ref (w.2.1 0)), some (.int v), some (.ref (w.2.1 116)), none]) rfl (args := (#[.ref (w.2.1 0), .int v, .ref (w.2.1 116)] : Array Value)) rfl (own := RL) rfl ?_
  intro p e s m below meth c C ht hD hN
  refine V_aload_n C dL_cone_0 rfl ?_
  refine V_iconst (v := (0 : Int32)) C dL_cone_1 (by decide) ?_
  refine V_aload_n C dL_cone_2 rfl ?_
  refine V_iload_n C dL_cone_3 rfl ?_
  refine V_hcallV C hD [.int v] mi_L_96 (tb_i 914 (by decide +kernel) (by decide +kernel)) (k_X9_cone w l v X R PP Z Th hB) dL_cone_4 sh_0 (by decide) rfl rfl rfl (Nat.le_of_ble_eq_true rfl) (Nat.le_of_ble_eq_true rfl) (Nat.le_of_ble_eq_true rfl) ⟨by decide, by decide⟩ (fun E X1 hx => ?_) (fun rv X1 hq => ?_)
  · have hE : E = eIO := hx.2.1
    rcases hE with rfl
    · refine ⟨12, HC_1 ht rfl ⟨by decide, by decide⟩ (by decide) (C.2.2.2.2.2.2.2 _ cl_13) (C.2.2.2.2.2.2.2 _ cc_IO), fun q => ?_⟩
      refine V_astore_n (ls1 := [some (.ref (w.2.1 0)), some (.int v), some (.ref (w.2.1 116)), some (.ref q)]) C dL_cone_12 (by decide) rfl ?_
      refine V_iconst (v := (1 : Int32)) C dL_cone_13 (by decide) ?_
      exact V_ireturnX C dL_cone_14 (by decide) (by decide) (Or.inr ⟨_, hx, 0, rfl, rfl⟩)
  · refine V_i2l C dL_cone_7 ?_
    refine V_lastore0 C dL_cone_8 ?_
    refine V_goto (tgt := 15) C dL_cone_9 (by decide) ?_
    refine V_iconst (v := (0 : Int32)) C dL_cone_15 (by decide) ?_
    exact V_ireturnX C dL_cone_16 (by decide) (by decide) (Or.inl ⟨rfl, rv, X1, hq, rfl⟩)
def q_L_coneByPaths (v : Int32) (X : Mem) (R : Nat) (PP : Nat → Nat → Nat) (Z : Nat → Nat) (Th : Nat → Prop) : Int32 → Mem → Prop := fun r X' => (r = 0 ∧ ∃ rv X1, (q_X9_coneByPaths v X R PP Z Th) rv X1 ∧ X' = ma X1 116 (upd (X1 116) 0 rv)) ∨ ∃ E, (r_X9_coneByPaths v X R PP Z Th) E X' ∧ ECd [eIO] E r
set_option maxHeartbeats 4000000 in
set_option maxRecDepth 100000 in
theorem k_L_coneByPaths (w : Wt) (l : Launch) (v : Int32) (X : Mem) (R : Nat) (PP : Nat → Nat → Nat) (Z : Nat → Nat) (Th : Nat → Prop) (hB : RBc X R PP Z Th) : CtH w l yL_coneByPaths cL_coneByPaths 4 [(0, 9, 12, 13)] 8 179 1 [.ref (w.2.1 0), .int v, .ref (w.2.1 116)] X (q_L_coneByPaths v X R PP Z Th) := by
  refine CtH_of (by decide +kernel) (Nat.le_of_ble_eq_true rfl) (List.forall_mem_cons.mpr ⟨rfl, (List.forall_mem_cons.mpr ⟨rfl, (List.forall_mem_cons.mpr ⟨rfl, (fun _ h => nomatch h)⟩)⟩)⟩) (ls := [some (.ref (w.2.1 0)), some (.int v), some (.ref (w.2.1 116)), none]) rfl (args := (#[.ref (w.2.1 0), .int v, .ref (w.2.1 116)] : Array Value)) rfl (own := RL) rfl ?_
  intro p e s m below meth c C ht hD hN
  refine V_aload_n C dL_coneByPaths_0 rfl ?_
  refine V_iconst (v := (0 : Int32)) C dL_coneByPaths_1 (by decide) ?_
  refine V_aload_n C dL_coneByPaths_2 rfl ?_
  refine V_iload_n C dL_coneByPaths_3 rfl ?_
  refine V_hcallV C hD [.int v] mi_L_99 (tb_i 925 (by decide +kernel) (by decide +kernel)) (k_X9_coneByPaths w l v X R PP Z Th hB) dL_coneByPaths_4 sh_0 (by decide) rfl rfl rfl (Nat.le_of_ble_eq_true rfl) (Nat.le_of_ble_eq_true rfl) (Nat.le_of_ble_eq_true rfl) ⟨by decide, by decide⟩ (fun E X1 hx => ?_) (fun rv X1 hq => ?_)
  · have hE : E = eIO := hx.2.1
    rcases hE with rfl
    · refine ⟨12, HC_1 ht rfl ⟨by decide, by decide⟩ (by decide) (C.2.2.2.2.2.2.2 _ cl_13) (C.2.2.2.2.2.2.2 _ cc_IO), fun q => ?_⟩
      refine V_astore_n (ls1 := [some (.ref (w.2.1 0)), some (.int v), some (.ref (w.2.1 116)), some (.ref q)]) C dL_coneByPaths_12 (by decide) rfl ?_
      refine V_iconst (v := (1 : Int32)) C dL_coneByPaths_13 (by decide) ?_
      exact V_ireturnX C dL_coneByPaths_14 (by decide) (by decide) (Or.inr ⟨_, hx, 0, rfl, rfl⟩)
  · refine V_i2l C dL_coneByPaths_7 ?_
    refine V_lastore0 C dL_coneByPaths_8 ?_
    refine V_goto (tgt := 15) C dL_coneByPaths_9 (by decide) ?_
    refine V_iconst (v := (0 : Int32)) C dL_coneByPaths_15 (by decide) ?_
    exact V_ireturnX C dL_coneByPaths_16 (by decide) (by decide) (Or.inl ⟨rfl, rv, X1, hq, rfl⟩)
def q_L_addresses (v : Int32) (X : Mem) (R : Nat) (PP : Nat → Nat → Nat) (Z : Nat → Nat) (Th : Nat → Prop) : Int32 → Mem → Prop := fun r X' => (r = 0 ∧ ∃ rv X1, (q_X9_addresses v X R PP Z Th) rv X1 ∧ X' = ma X1 116 (upd (X1 116) 0 rv)) ∨ ∃ E, (r_X9_addresses v X R PP Z Th) E X' ∧ ECd [eIO] E r
set_option maxHeartbeats 4000000 in
set_option maxRecDepth 100000 in
theorem k_L_addresses (w : Wt) (l : Launch) (v : Int32) (X : Mem) (R : Nat) (PP : Nat → Nat → Nat) (Z : Nat → Nat) (Th : Nat → Prop) (hB : RBc X R PP Z Th) : CtH w l yL_addresses cL_addresses 4 [(0, 9, 12, 13)] 8 179 1 [.ref (w.2.1 0), .int v, .ref (w.2.1 116)] X (q_L_addresses v X R PP Z Th) := by
  refine CtH_of (by decide +kernel) (Nat.le_of_ble_eq_true rfl) (List.forall_mem_cons.mpr ⟨rfl, (List.forall_mem_cons.mpr ⟨rfl, (List.forall_mem_cons.mpr ⟨rfl, (fun _ h => nomatch h)⟩)⟩)⟩) (ls := [some (.ref (w.2.1 0)), some (.int v), some (.ref (w.2.1 116)), none]) rfl (args := (#[.ref (w.2.1 0), .int v, .ref (w.2.1 116)] : Array Value)) rfl (own := RL) rfl ?_
  intro p e s m below meth c C ht hD hN
  refine V_aload_n C dL_addresses_0 rfl ?_
  refine V_iconst (v := (0 : Int32)) C dL_addresses_1 (by decide) ?_
  refine V_aload_n C dL_addresses_2 rfl ?_
  refine V_iload_n C dL_addresses_3 rfl ?_
  refine V_hcallV C hD [.int v] mi_L_102 (tb_i 940 (by decide +kernel) (by decide +kernel)) (k_X9_addresses w l v X R PP Z Th hB) dL_addresses_4 sh_0 (by decide) rfl rfl rfl (Nat.le_of_ble_eq_true rfl) (Nat.le_of_ble_eq_true rfl) (Nat.le_of_ble_eq_true rfl) ⟨by decide, by decide⟩ (fun E X1 hx => ?_) (fun rv X1 hq => ?_)
  · have hE : E = eIO := hx.2.1
    rcases hE with rfl
    · refine ⟨12, HC_1 ht rfl ⟨by decide, by decide⟩ (by decide) (C.2.2.2.2.2.2.2 _ cl_13) (C.2.2.2.2.2.2.2 _ cc_IO), fun q => ?_⟩
      refine V_astore_n (ls1 := [some (.ref (w.2.1 0)), some (.int v), some (.ref (w.2.1 116)), some (.ref q)]) C dL_addresses_12 (by decide) rfl ?_
      refine V_iconst (v := (1 : Int32)) C dL_addresses_13 (by decide) ?_
      exact V_ireturnX C dL_addresses_14 (by decide) (by decide) (Or.inr ⟨_, hx, 0, rfl, rfl⟩)
  · refine V_i2l C dL_addresses_7 ?_
    refine V_lastore0 C dL_addresses_8 ?_
    refine V_goto (tgt := 15) C dL_addresses_9 (by decide) ?_
    refine V_iconst (v := (0 : Int32)) C dL_addresses_15 (by decide) ?_
    exact V_ireturnX C dL_addresses_16 (by decide) (by decide) (Or.inl ⟨rfl, rv, X1, hq, rfl⟩)
