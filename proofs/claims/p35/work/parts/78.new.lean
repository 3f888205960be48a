/-! The objects and the arrays come one after another: place k of the layout lies at the address b0 + k. D holds the fields of references (place, field) that are written already; the others are null. -/
def vop (w : Wt) (X : Mem) (D : List (Nat × Nat)) (k j : Nat) (o : Option Nat) : Value := match o with
  | none => Value.int (X k j)
  | some q => if (k, j) ∈ D then Value.ref (w.2.1 q) else Value.null
def valp (w : Wt) (X : Mem) (D : List (Nat × Nat)) (k : Nat) (fl : List (Option Nat)) : List Value := fl.mapIdx (fun j o => vop w X D k j o)
def celp (w : Wt) (X : Mem) (D : List (Nat × Nat)) (k : Nat) : va_E := match sh k with
  | .inl _ => cel w X k
  | .inr (ci, fl) => .inr (ci, valp w X D k fl)
def wlp (w : Wt) (X : Mem) (D : List (Nat × Nat)) (N : Nat) : va_W := (List.range N).map (fun k => (w.2.1 k, celp w X D k))
theorem celp_a {w : Wt} {X : Mem} {D : List (Nat × Nat)} {k : Nat} {z : Nat × Nat} (h : sh k = .inl z) : celp w X D k = cel w X k := by unfold celp; rw [h]
theorem celp_o {w : Wt} {X : Mem} {D : List (Nat × Nat)} {k ci : Nat} {fl : List (Option Nat)} (h : sh k = .inr (ci, fl)) : celp w X D k = .inr (ci, valp w X D k fl) := by unfold celp; rw [h]
theorem valp_at {w : Wt} {X : Mem} {D : List (Nat × Nat)} {p j : Nat} {fl : List (Option Nat)} {o : Option Nat} (h : fl[j]? = some o) : (valp w X D p fl)[j]? = some (vop w X D p j o) := by
  unfold valp
  simp only [List.getElem?_mapIdx, h, Option.map_some]
theorem valp_len {w : Wt} {X : Mem} {D : List (Nat × Nat)} {p : Nat} {fl : List (Option Nat)} : (valp w X D p fl).length = fl.length := by simp [valp]
theorem valp_set_i {w : Wt} {X : Mem} {D : List (Nat × Nat)} {p j : Nat} {fl : List (Option Nat)} (h : fl[j]? = some none) (x : Int32) : (valp w X D p fl).set j (.int x) = valp w (ma X p (upd (X p) j x)) D p fl := by
  apply List.ext_getElem?
  intro i
  have hj : j < fl.length := (List.getElem?_eq_some_iff.mp h).1
  rw [List.getElem?_set]
  by_cases e : j = i
  · subst e
    rw [if_pos rfl, if_pos (by rw [valp_len]; exact hj), valp_at h]
    simp [upd, vop, ma_eq]
  · rw [if_neg e]
    unfold valp
    simp only [List.getElem?_mapIdx]
    cases fl[i]? with
    | none => rfl
    | some o =>
      cases o with
      | some q => rfl
      | none =>
        have e2 : ¬ i = j := fun q => e q.symm
        simp [upd, e2, vop, ma_eq]
theorem valp_set_r {w : Wt} {X : Mem} {D : List (Nat × Nat)} {p j q : Nat} {fl : List (Option Nat)} (h : fl[j]? = some (some q)) : (valp w X D p fl).set j (.ref (w.2.1 q)) = valp w X ((p, j) :: D) p fl := by
  apply List.ext_getElem?
  intro i
  have hj : j < fl.length := (List.getElem?_eq_some_iff.mp h).1
  rw [List.getElem?_set]
  by_cases e : j = i
  · subst e
    rw [if_pos rfl, if_pos (by rw [valp_len]; exact hj), valp_at h]
    simp [vop]
  · rw [if_neg e]
    unfold valp
    simp only [List.getElem?_mapIdx]
    cases fl[i]? with
    | none => rfl
    | some o =>
      cases o with
      | none => rfl
      | some r =>
        have e2 : ¬ i = j := fun q => e q.symm
        have e3 : ((p, i) ∈ (p, j) :: D) ↔ (p, i) ∈ D := by simp [e2]
        simp only [Option.map_some, vop, e3]
theorem wlp_at {w : Wt} {X : Mem} {D : List (Nat × Nat)} {N k : Nat} (h : k < N) : (wlp w X D N)[k]? = some (w.2.1 k, celp w X D k) := by
  unfold wlp
  rw [List.getElem?_map, List.getElem?_range h]
  rfl
theorem wlp_len (w : Wt) (X : Mem) (D : List (Nat × Nat)) (N : Nat) : (wlp w X D N).length = N := by simp [wlp]
theorem wlp_set {w : Wt} {X X' : Mem} {D D' : List (Nat × Nat)} {N k : Nat} (h : k < N) (hx : ∀ j, j ≠ k → celp w X' D' j = celp w X D j) : (wlp w X D N).set k (w.2.1 k, celp w X' D' k) = wlp w X' D' N := by
  apply List.ext_getElem?
  intro i
  by_cases hi : i < N
  · rw [wlp_at hi, List.getElem?_set]
    by_cases e : k = i
    · subst e
      rw [if_pos rfl, if_pos (by rw [wlp_len]; exact h)]
    · rw [if_neg e, wlp_at hi, hx i (fun q => e q.symm)]
  · rw [List.getElem?_eq_none (by rw [List.length_set, wlp_len]; omega), List.getElem?_eq_none (by rw [wlp_len]; omega)]
theorem wlp_push (w : Wt) (X : Mem) (D : List (Nat × Nat)) (N : Nat) : wlp w X D (N + 1) = wlp w X D N ++ [(w.2.1 N, celp w X D N)] := by
  unfold wlp
  rw [List.range_succ, List.map_append]
  rfl
theorem wlp_D {w : Wt} {X : Mem} {D : List (Nat × Nat)} {sz N : Nat} (hN : N ≤ 92) (hi : ∀ i j, i < 92 → j < 92 → w.2.1 i = w.2.1 j → i = j) : va_D (AA w sz) (wlp w X D N) := by
  have key : ∀ (k : Nat) (q : Nat × va_E), (wlp w X D N)[k]? = some q → k < 92 ∧ q.1 = w.2.1 k := by
    intro k q hq
    have hk : k < N := by
      have := (List.getElem?_eq_some_iff.mp hq).1
      rw [wlp_len] at this
      exact this
    rw [wlp_at hk] at hq
    cases hq
    exact ⟨Nat.lt_of_lt_of_le hk hN, rfl⟩
  refine ⟨fun i j x y hx hy hxy => ?_, fun k q hq => ?_⟩
  · obtain ⟨a1, a2⟩ := key i x hx
    obtain ⟨b1, b2⟩ := key j y hy
    exact hi i j a1 b1 (by rw [← a2, ← b2, hxy])
  · obtain ⟨a1, a2⟩ := key k q hq
    exact Or.inl ⟨k, a1, a2⟩
theorem celp_X {w : Wt} {X X' : Mem} {D : List (Nat × Nat)} {k : Nat} (h : X' k = X k) : celp w X' D k = celp w X D k := by
  have e : ∀ (j : Nat) (o : Option Nat), vop w X' D k j o = vop w X D k j o := fun j o => by
    unfold vop
    rw [h]
  unfold celp valp
  rw [cel_congr h]
  simp only [e]
theorem celp_D {w : Wt} {X : Mem} {D : List (Nat × Nat)} {p j k : Nat} (h : k ≠ p) : celp w X ((p, j) :: D) k = celp w X D k := by
  have e : ∀ (i : Nat) (o : Option Nat), vop w X ((p, j) :: D) k i o = vop w X D k i o := fun i o => by
    have e3 : ((k, i) ∈ (p, j) :: D) ↔ (k, i) ∈ D := by simp [h]
    unfold vop
    simp only [e3]
  unfold celp valp
  simp only [e]
/-- all the fields of references are written -/
def allW (D : List (Nat × Nat)) : Bool := (List.range 92).all (fun k => match sh k with
  | .inl _ => true
  | .inr (_, fl) => (List.range fl.length).all (fun j => match fl.getD j none with
    | none => true
    | some _ => D.contains (k, j)))
theorem wlp_end {w : Wt} {X : Mem} {D : List (Nat × Nat)} (h : allW D = true) : wlp w X D 92 = wl w X := by
  unfold wlp wl
  apply List.map_congr_left
  intro k hk
  have h1 := List.all_eq_true.mp h k hk
  congr 1
  cases e : sh k with
  | inl z => exact celp_a e
  | inr z =>
    obtain ⟨ci, fl⟩ := z
    rw [e] at h1
    rw [celp_o e, cel_o e]
    congr 2
    apply List.ext_getElem?
    intro i
    unfold valp vals
    simp only [List.getElem?_mapIdx]
    cases e2 : fl[i]? with
    | none => rfl
    | some o =>
      cases o with
      | none => rfl
      | some q =>
        have hi : i < fl.length := (List.getElem?_eq_some_iff.mp e2).1
        have h2 := List.all_eq_true.mp h1 i (List.mem_range.mpr hi)
        have e3 : fl.getD i none = some q := by rw [List.getD_eq_getElem?_getD, e2]; rfl
        simp only [e3] at h2
        have h3 : (k, i) ∈ D := List.contains_iff_mem.mp h2
        simp only [Option.map_some, vop, vof, if_pos h3]
theorem va_AOA.moved {ty : FieldType} {u U : State} (hvm : u.vm.Alike U.vm) (h : va_AOA ty u) : va_AOA ty U := by
  have h1 : (Cond.arrayOver (.array ty)).before #[] (u.setVm U.vm) = true := (Cond.arrayOver_setVmC hvm (.array ty)).trans h
  exact h1
/-- the classes of the arrays that are made -/
def Aw (U : State) : Prop := (Cond.arrayClass .int).before #[] U = true ∧ (Cond.arrayClass .boolean).before #[] U = true ∧ (Cond.arrayClass .int).before #[] U = true ∧ va_AOA .int U
theorem ac_vm {ty : FieldType} {u U : State} (h : u.vm = U.vm) (hz : (Cond.arrayClass ty).before #[] u = true) : (Cond.arrayClass ty).before #[] U = true := by
  unfold Cond.before Cond.holds at *
  simp only [Cond.value] at *
  rw [← h]
  exact hz
theorem ac_use {ty : FieldType} {A : Array Value} {U : State} (h : (Cond.arrayClass ty).before #[] U = true) : (Cond.arrayClass ty).before A U = true := h
theorem Aw.same {u U : State} (h : u.vm = U.vm) (hz : Aw u) : Aw U := ⟨ac_vm h hz.1, ac_vm h hz.2.1, ac_vm h hz.2.2.1, va_AOA.moved (by rw [h]; exact Vm.Alike.refl _) hz.2.2.2⟩
theorem Aw.warm {s U : State} (hW : s.WarmedH U.vm) (hz : Aw s) : Aw U := ⟨word_at hW (Or.inr ⟨_, rfl⟩) hz.1, word_at hW (Or.inr ⟨_, rfl⟩) hz.2.1, word_at hW (Or.inr ⟨_, rfl⟩) hz.2.2.1, va_AOA.moved hW.alike hz.2.2.2⟩
/-- from pc on, with these locals, this stack, the first N places there, the machine comes to Q -/
def Vn (p : Program) (l : Launch) (e : Env) (R : Room) (s : State) (m : MethodId) (args : Array Value) (below : List Frame) (meth : Method) (c : Code) (w : Wt) (b0 nL n k : Nat) (Q : State → Prop) (pc : Nat) (ls : List (Option Value)) (st : List Value) (N : Nat) (X : Mem) (D : List (Nat × Nat)) : Prop :=
  ∀ (H : Heap) (locs : List Loc) (L : Array Slot), H.size = b0 + N → va_P w.1 vwCl (wlp w X D N) H → va_S (AA w s.heap.size) s.heap H locs → LH L nL ls → W p l e R s m args below meth c H locs n k Q (F0 m pc L st)
section VNW
variable {p : Program} {l : Launch} {e : Env} {R : Room} {s : State} {m : MethodId} {args : Array Value} {below : List Frame} {meth : Method} {c : Code} {w : Wt} {cc : ByteArray} {b0 nL : Nat} {own : String} {ret : Option FieldType} {n k : Nat} {Q : State → Prop} {pc : Nat} {ls : List (Option Value)} {st : List Value} {N : Nat} {X : Mem} {D : List (Nat × Nat)}
theorem Vn_aload_n (C : CX p s m args meth c w cc nL own ret) {i : Fin 4} {x : Nat} (hd : decode cc pc = .ok (.aload_n i, 1)) (hl : ls[(i : Nat)]? = some (some (.ref x))) (kk : Vn p l e R s m args below meth c w b0 nL n k Q (pc + 1) ls (.ref x :: st) N X D) : Vn p l e R s m args below meth c w b0 nL n k Q pc ls st N X D :=
  fun H locs L hz hP hS hL => lv_aload_n C.1 C.2.1 hd rfl (hL.2.2 _ _ hl).1 (kk H locs L hz hP hS hL)
theorem Vn_astore_n (C : CX p s m args meth c w cc nL own ret) {i : Fin 4} {x : Nat} {ls1 : List (Option Value)} (hd : decode cc pc = .ok (.astore_n i, 1)) (hn : (i : Nat) < nL) (hl : ls.set (i : Nat) (some (.ref x)) = ls1) (kk : Vn p l e R s m args below meth c w b0 nL n k Q (pc + 1) ls1 st N X D) : Vn p l e R s m args below meth c w b0 nL n k Q pc ls (.ref x :: st) N X D :=
  fun H locs L hz hP hS hL => lv_astore_n C.1 C.2.1 hd rfl hL.has hn rfl (fun L1 h1 => kk H locs L1 hz hP hS (hl ▸ hL.put rfl h1))
theorem Vn_astore (C : CX p s m args meth c w cc nL own ret) {i : Nat} {x : Nat} {ls1 : List (Option Value)} (hd : decode cc pc = .ok (.astore i, 2)) (hn : i < nL) (hl : ls.set i (some (.ref x)) = ls1) (kk : Vn p l e R s m args below meth c w b0 nL n k Q (pc + 2) ls1 st N X D) : Vn p l e R s m args below meth c w b0 nL n k Q pc ls (.ref x :: st) N X D :=
  fun H locs L hz hP hS hL => lv_astore C.1 C.2.1 hd hL.has hn rfl (fun L1 h1 => kk H locs L1 hz hP hS (hl ▸ hL.put rfl h1))
theorem Vn_iconst (C : CX p s m args meth c w cc nL own ret) {a : Int} {v : Int32} (hd : decode cc pc = .ok (.iconst a, 1)) (hv : Int32.ofInt a = v) (kk : Vn p l e R s m args below meth c w b0 nL n k Q (pc + 1) ls (.int v :: st) N X D) : Vn p l e R s m args below meth c w b0 nL n k Q pc ls st N X D :=
  fun H locs L hz hP hS hL => lv_iconst C.1 C.2.1 hd hv (kk H locs L hz hP hS hL)
theorem Vn_bipush (C : CX p s m args meth c w cc nL own ret) {a : Int} {v : Int32} (hd : decode cc pc = .ok (.bipush a, 2)) (hv : (Int8.ofInt a).toInt32 = v) (kk : Vn p l e R s m args below meth c w b0 nL n k Q (pc + 2) ls (.int v :: st) N X D) : Vn p l e R s m args below meth c w b0 nL n k Q pc ls st N X D :=
  fun H locs L hz hP hS hL => lv_bipush C.1 C.2.1 hd hv (kk H locs L hz hP hS hL)
theorem Vn_sipush (C : CX p s m args meth c w cc nL own ret) {a : Int} {v : Int32} (hd : decode cc pc = .ok (.sipush a, 3)) (hv : (Int16.ofInt a).toInt32 = v) (kk : Vn p l e R s m args below meth c w b0 nL n k Q (pc + 3) ls (.int v :: st) N X D) : Vn p l e R s m args below meth c w b0 nL n k Q pc ls st N X D :=
  fun H locs L hz hP hS hL => lv_sipush C.1 C.2.1 hd hv (kk H locs L hz hP hS hL)
theorem Vn_dup (C : CX p s m args meth c w cc nL own ret) {a : Value} (hd : decode cc pc = .ok (.dup, 1)) (ha : a.category = 1) (kk : Vn p l e R s m args below meth c w b0 nL n k Q (pc + 1) ls (a :: a :: st) N X D) : Vn p l e R s m args below meth c w b0 nL n k Q pc ls (a :: st) N X D :=
  fun H locs L hz hP hS hL => lv_dup C.1 C.2.1 hd ha (kk H locs L hz hP hS hL)
/-- what a 'new' needs: the class's link, its fields' types as the layout has them -/
def NW (own : String) (idx ci : Nat) (fl : List (Option Nat)) : Prop := ∃ (C0 : String) (T : u_T) (ty0 : Nat → FieldType), vwCl[ci]? = some (C0, T, fl.length) ∧ (∀ x ∈ u_ws C0 T fl.length, x ∈ TB) ∧ Cond.classLink own idx C0 ∈ TB ∧ Cond.instantiable C0 fl.length ∈ TB ∧ Cond.initialized C0 ∈ TB ∧ (∀ k, k < fl.length → parseFieldDescriptor (T k).2.2.1 = some (ty0 k)) ∧
  ∀ j, j < fl.length → defaultValue (ty0 j) = match fl.getD j none with | none => Value.int 0 | some _ => Value.null
theorem Vn_new (C : CX p s m args meth c w cc nL own ret) (hw : ∀ i, w.2.1 i = b0 + i) {idx ci n1 k1 : Nat} {fl : List (Option Nat)} (f : NW own idx ci fl) (hd : decode cc pc = .ok (.new idx, 3)) (hs : sh N = .inr (ci, fl)) (hN : N < 92) (hX : ∀ j, X N j = 0) (hD : ∀ j, j < fl.length → (N, j) ∉ D) (hn : n + 1 = n1) (hk : k + fl.length = k1) (hcells : n1 ≤ R.cells) (hslots : k1 ≤ R.slots)
    (kk : Vn p l e R s m args below meth c w b0 nL n1 k1 Q (pc + 3) ls (.ref (w.2.1 N) :: st) (N + 1) X D) : Vn p l e R s m args below meth c w b0 nL n k Q pc ls st N X D := by
  subst hn
  subst hk
  intro H locs L hz hP hS hL
  obtain ⟨C0, T, ty0, h1, h2, h3, h4, h5, h6, h7⟩ := f
  have hts := C.2.2.2.2.2.2.2
  have hKn := C.2.2.2.2.1.1.1 ci _ h1
  refine W.newcK C.1 C.2.1 C.2.2.2.1 (hts _ h3) (hts _ h4) (hts _ h5) rfl hd hcells hslots hKn.2.1 rfl fun H1 kC hkC e1 z1 o1 => ?_
  have hq : H.size = w.2.1 N := by rw [hw, hz]
  rw [hq]
  rw [hq] at e1
  refine kk H1 locs L (by rw [z1, hz]; omega) ?_ ⟨Nat.le_trans hS.1 (by omega), fun x q1 q2 => (o1 x (Nat.lt_of_lt_of_le q1 hS.1)).trans (hS.2.1 x q1 q2), hS.2.2⟩ hL
  rw [wlp_push]
  refine (hP.kept (fun k x hx => o1 x.1 ((hP k x hx).lt))).app (fun k x hx => ?_)
  have h0 : k < 1 := (List.getElem?_eq_some_iff.mp hx).1
  rw [show k = 0 by omega] at hx
  cases hx
  rw [celp_o hs]
  refine ⟨_, h1, (u_born ty0 hts h2 hKn hkC e1 h6).to (fun j hj => ?_)⟩
  have e2 : fl[j]? = some (fl.getD j none) := by
    rw [List.getD_eq_getElem?_getD, List.getElem?_eq_getElem hj]
    rfl
  have e3 : vp_V (valp w X D N fl) j = vop w X D N j (fl.getD j none) := by
    unfold vp_V
    rw [List.getD_eq_getElem?_getD, valp_at e2]
    rfl
  refine (h7 j hj).trans (Eq.trans ?_ e3.symm)
  cases fl.getD j none with
  | none => show Value.int 0 = Value.int (X N j); rw [hX]
  | some q => show Value.null = (if (N, j) ∈ D then Value.ref (w.2.1 q) else Value.null); rw [if_neg (hD j hj)]
theorem Vn_newaG (C : CX p s m args meth c w cc nL own ret) (hw : ∀ i, w.2.1 i = b0 + i) {atype : ArrayType} {ty : FieldType} {cA : ClassId} {v : Int32} {len n1 k1 : Nat} {a0 : vp_A} (hty : newarray.typeOf atype = ty) (harr : (Cond.arrayClass ty).before #[] s = true) (hd : decode cc pc = .ok (.newarray atype, 2)) (hf : s.vm.findClass ("[" ++ ty.toString) = some cA) (hs : celp w X D N = .inl (cA, a0)) (ha : vp_cell cA a0 = arrV cA len (fun _ => defaultValue ty)) (hv : v = nI len) (hlen : len ≤ 256) (hb : componentBytes ty ≤ 8) (hn : n + 1 = n1) (hk : k + len = k1) (hcells : n1 ≤ R.cells) (hslots : k1 ≤ R.slots)
    (kk : Vn p l e R s m args below meth c w b0 nL n1 k1 Q (pc + 2) ls (.ref (w.2.1 N) :: st) (N + 1) X D) : Vn p l e R s m args below meth c w b0 nL n k Q pc ls (.int v :: st) N X D := by
  subst hn
  subst hk
  subst hv
  subst hty
  intro H locs L hz hP hS hL
  have hts := C.2.2.2.2.2.2.2
  have h31 : len < 2 ^ 31 := Nat.lt_of_le_of_lt hlen (by decide)
  refine va_newaK C.1 C.2.1 (ac_use harr) rfl hd rfl (nI_pos h31) (nI_clamp h31) (Nat.le_trans (Nat.mul_le_mul hlen hb) (by decide)) hcells hslots rfl fun H1 cA1 e1 z1 o1 hAr hNm => ?_
  have ec : some cA1 = some cA := hNm.symm.trans hf
  cases ec
  have hq : H.size = w.2.1 N := by rw [hw, hz]
  rw [hq]
  rw [hq] at e1
  refine kk H1 locs L (by rw [z1, hz]; omega) ?_ ⟨Nat.le_trans hS.1 (by omega), fun x q1 q2 => (o1 x (Nat.lt_of_lt_of_le q1 hS.1)).trans (hS.2.1 x q1 q2), hS.2.2⟩ hL
  rw [wlp_push]
  refine (hP.kept (fun k x hx => o1 x.1 ((hP k x hx).lt))).app (fun k x hx => ?_)
  have h0 : k < 1 := (List.getElem?_eq_some_iff.mp hx).1
  rw [show k = 0 by omega] at hx
  cases hx
  rw [hs]
  show H1[w.2.1 N]? = some (vp_cell cA a0)
  rw [ha]
  exact e1
theorem Vn_newi (C : CX p s m args meth c w cc nL own ret) (hw : ∀ i, w.2.1 i = b0 + i) (hA : Aw s) {v : Int32} {len n1 k1 : Nat} (hd : decode cc pc = .ok (.newarray .int, 2)) (hs : sh N = .inl (0, len)) (hX : ∀ j, X N j = 0) (hv : v = nI len) (hlen : len ≤ 256) (hn : n + 1 = n1) (hk : k + len = k1) (hcells : n1 ≤ R.cells) (hslots : k1 ≤ R.slots)
    (kk : Vn p l e R s m args below meth c w b0 nL n1 k1 Q (pc + 2) ls (.ref (w.2.1 N) :: st) (N + 1) X D) : Vn p l e R s m args below meth c w b0 nL n k Q pc ls (.int v :: st) N X D :=
  Vn_newaG C hw (ty := .int) (cA := w.2.2.1) rfl hA.1 hd (C.2.2.2.2.1.1.2 0 (w.2.2.1, .int) rfl).2 (by rw [celp_a hs, cel_i hs]) (by rw [vp_cell_i]; exact congrArg (arrV _ _) (funext fun j => by rw [hX]; rfl)) hv hlen (by decide) hn hk hcells hslots kk
theorem Vn_newz (C : CX p s m args meth c w cc nL own ret) (hw : ∀ i, w.2.1 i = b0 + i) (hA : Aw s) {v : Int32} {len n1 k1 : Nat} (hd : decode cc pc = .ok (.newarray .boolean, 2)) (hs : sh N = .inl (1, len)) (hX : ∀ j, X N j = 0) (hv : v = nI len) (hlen : len ≤ 256) (hn : n + 1 = n1) (hk : k + len = k1) (hcells : n1 ≤ R.cells) (hslots : k1 ≤ R.slots)
    (kk : Vn p l e R s m args below meth c w b0 nL n1 k1 Q (pc + 2) ls (.ref (w.2.1 N) :: st) (N + 1) X D) : Vn p l e R s m args below meth c w b0 nL n k Q pc ls (.int v :: st) N X D :=
  Vn_newaG C hw (ty := .boolean) (cA := w.2.2.2.1) rfl hA.2.1 hd (C.2.2.2.2.1.1.2 1 (w.2.2.2.1, .boolean) rfl).2 (by rw [celp_a hs, cel_z hs]) (by rw [vp_cell_i]; exact congrArg (arrV _ _) (funext fun j => by rw [hX]; rfl)) hv hlen (by decide) hn hk hcells hslots kk
theorem arrV_ext {cA : ClassId} {n : Nat} {f g : Nat → Value} (h : ∀ j, j < n → f j = g j) : arrV cA n f = arrV cA n g := by
  unfold arrV
  congr 1
  apply Array.ext
  · simp
  · intro i h1 h2
    simp at h1
    simp [h i h1]
theorem Vn_mna (C : CX p s m args meth c w cc nL own ret) (hw : ∀ i, w.2.1 i = b0 + i) {idx n2 m2 N1 n1 k1 : Nat} {u v : Int32} (hcl : Cond.classLink own idx ("[" ++ (FieldType.array .int).toString) ∈ TB) (hA : Aw s) (hd : decode cc pc = .ok (.multianewarray idx 2, 4)) (hu : u = nI n2) (hv : v = nI m2) (hl1 : n2 ≤ 256) (hl2 : m2 ≤ 256) (hs : sh N = .inl (3, n2)) (hs2 : ∀ i, i < n2 → sh (N + 1 + i) = .inl (0, m2)) (hX : ∀ i, i < n2 → ∀ j, X (N + 1 + i) j = 0) (hN : N + 1 + n2 = N1) (hn : n + 1 + n2 = n1) (hk : k + n2 + n2 * m2 = k1) (hcells : n1 ≤ R.cells) (hslots : k1 ≤ R.slots)
    (kk : Vn p l e R s m args below meth c w b0 nL n1 k1 Q (pc + 4) ls (.ref (w.2.1 N) :: st) N1 X D) : Vn p l e R s m args below meth c w b0 nL n k Q pc ls (.int v :: .int u :: st) N X D := by
  subst hn
  subst hk
  subst hN
  subst hu
  subst hv
  intro H locs L hz hP hS hL T hT Xs
  have hts := C.2.2.2.2.2.2.2
  have h31 : n2 < 2 ^ 31 := Nat.lt_of_le_of_lt hl1 (by decide)
  have h32 : m2 < 2 ^ 31 := Nat.lt_of_le_of_lt hl2 (by decide)
  have e1 := nI_clamp h31
  have e2 := nI_clamp h32
  obtain ⟨vm₁, cA, comp, -, fA, fC, -, -, X', step⟩ := Xs.multianewarray2F C.1 C.2.2.2.1 (hts _ hcl) (va_AOA.use hA.2.2.2) (ac_use hA.1) (g := F0 m pc L (.int (nI m2) :: .int (nI n2) :: st)) rfl (by rw [C.2.1]; exact hd) rfl (nI_pos h31) (nI_pos h32) (by rw [e1]; omega) (by rw [e2]; exact Nat.le_trans (Nat.mul_le_mul_right _ hl2) (by decide)) (by rw [e2]; omega) rfl rfl (by rw [e1]; omega) (by rw [e1, e2]; omega)
  rw [e1, e2] at X' step
  have eA : some cA = some w.2.2.2.2.2 := fA.symm.trans (C.2.2.2.2.1.1.2 3 (w.2.2.2.2.2, .array .int) rfl).2
  have eC : some comp = some w.2.2.1 := fC.symm.trans (C.2.2.2.2.1.1.2 0 (w.2.2.1, .int) rfl).2
  cases eA
  cases eC
  generalize hF : Jvm.Free.Multi.fill (T.setVm vm₁) w.2.2.2.2.2 w.2.2.1 n2 m2 (defaultValue .int) n2 = F at X' step
  have hTh : (T.setVm vm₁).heap = H := hT
  obtain ⟨f1, f2, -, -⟩ := Jvm.Free.Multi.fill_facts (T.setVm vm₁) w.2.2.2.2.2 w.2.2.1 n2 m2 (defaultValue .int) n2
  rw [hF, hTh] at f1 f2
  have hold : ∀ x : Nat, x < H.size → F.heap[x]? = H[x]? := fun x hx => by
    have := Jvm.Free.Multi.fill_old (T.setVm vm₁) w.2.2.2.2.2 w.2.2.1 n2 m2 (defaultValue .int) (a := x) (by rw [hTh]; exact hx) n2
    rw [hF, hTh] at this
    exact this
  have hrow : ∀ j : Nat, j < n2 → F.heap[H.size + 1 + j]? = some (vp_cell w.2.2.1 (m2, .inl (fun _ => 0))) := fun j hj => by
    have := Jvm.Free.Multi.fill_inner (T.setVm vm₁) w.2.2.2.2.2 w.2.2.1 n2 m2 (defaultValue .int) n2 j hj
    rw [hF, hTh] at this
    rw [this, vp_cell_i, ← arrV_new]
    rfl
  rw [vr_outer] at f2
  have hq : H.size = w.2.1 N := by rw [hw, hz]
  have hP1 : va_P w.1 vwCl (wlp w X D (N + 1 + n2)) F.heap := by
    intro i q hi
    have hlt : i < N + 1 + n2 := by
      have := (List.getElem?_eq_some_iff.mp hi).1
      rw [wlp_len] at this
      exact this
    rw [wlp_at hlt] at hi
    cases hi
    rcases Nat.lt_trichotomy i N with h | h | h
    · have h9 := hP i _ (wlp_at h)
      exact h9.kept (hold _ h9.lt)
    · subst h
      rw [celp_a hs, cel_r hs]
      show F.heap[w.2.1 i]? = some (vp_cell _ _)
      rw [← hq, f2, vp_cell_q]
      refine congrArg some (arrV_ext fun j hj => ?_)
      rw [if_pos hj, hw, hz]
      congr 2
      omega
    · obtain ⟨j, rfl⟩ : ∃ j, i = N + 1 + j := ⟨i - (N + 1), by omega⟩
      have hj : j < n2 := by omega
      rw [celp_a (hs2 j hj), cel_i (hs2 j hj)]
      show F.heap[w.2.1 (N + 1 + j)]? = some (vp_cell _ _)
      have e9 : w.2.1 (N + 1 + j) = H.size + 1 + j := by rw [hw, hz]; omega
      rw [e9, hrow j hj]
      have e8 : X (N + 1 + j) = fun _ => 0 := funext fun i => hX j hj i
      rw [e8]
  obtain ⟨t, a1, b1⟩ := kk F.heap locs L (by rw [f1, hz]; omega) hP1 ⟨by rw [f1]; have := hS.1; omega, fun x h1 h2 => (hold x (Nat.lt_of_lt_of_le h1 hS.1)).trans (hS.2.1 x h1 h2), hS.2.2⟩ hL F rfl X'
  refine ⟨t, step t ?_, b1⟩
  have e : T.heap.size = w.2.1 N := by rw [hT, hq]
  rw [e]
  exact a1
/-- a field of a reference that its own class's constructor may write -/
def FR (own : String) (idx ci k0 : Nat) : Prop := ∃ (C0 : String) (T : u_T) (N : Nat) (ty0 : Nat → FieldType) (ty : FieldType), vwCl[ci]? = some (C0, T, N) ∧ (∀ x ∈ u_ws C0 T N, x ∈ TB) ∧ k0 < N ∧ Cond.fieldLink own idx (T k0).1 (T k0).2.1 (T k0).2.2.1 ∈ TB ∧
  (∀ k, k < N → parseFieldDescriptor (T k).2.2.1 = some (ty0 k)) ∧ (∀ a, a < N → ∀ b, b < N → a ≠ b → (T a).2.1 ≠ (T b).2.1) ∧ (T k0).2.2.2 = true ∧ (T k0).1 = own ∧ parseFieldDescriptor (T k0).2.2.1 = some ty ∧ (∀ a : Nat, narrow ty (.ref a) = .ref a ∧ fits ty (.ref a) = true)
theorem Vn_putr (C : CX p s m args meth c w cc nL own ret) (hin : meth.name = "<init>") {idx ci k0 p0 q : Nat} {fl : List (Option Nat)} (f : FR own idx ci k0) (hd : decode cc pc = .ok (.putfield idx, 3)) (hs : sh p0 = .inr (ci, fl)) (h0 : p0 < N) (hN : N ≤ 92) (hf : fl[k0]? = some (some q))
    (kk : Vn p l e R s m args below meth c w b0 nL n k Q (pc + 3) ls st N X ((p0, k0) :: D)) : Vn p l e R s m args below meth c w b0 nL n k Q pc ls (.ref (w.2.1 q) :: .ref (w.2.1 p0) :: st) N X D := by
  intro H locs L hz hP hS hL
  obtain ⟨C0, T, N0, ty0, ty, h1, h2, h3, h4, h5, h6, h7, h8, h9, h10⟩ := f
  have hts := C.2.2.2.2.2.2.2
  have he : (wlp w X D N)[p0]? = some (w.2.1 p0, .inr (ci, valp w X D p0 fl)) := by rw [wlp_at h0, celp_o hs]
  have hl : k0 < (valp w X D p0 fl).length := by rw [valp_len]; exact (List.getElem?_eq_some_iff.mp hf).1
  have e9 : (wlp w X D N).set p0 (w.2.1 p0, .inr (ci, (valp w X D p0 fl).set k0 (.ref (w.2.1 q)))) = wlp w X ((p0, k0) :: D) N := by
    rw [valp_set_r hf, ← celp_o hs]
    exact wlp_set h0 (fun j hj => celp_D hj)
  have hD : va_D (AA w s.heap.size) (wlp w X D N) := wlp_D hN C.2.2.2.2.1.2.1
  have hK := C.2.2.2.2.1.1
  have hap := va_apart (own := own) hts h2 ty0 h5 h6 hK h1
  obtain ⟨r, g1, cell, q1, q2, q3, q4⟩ := hP p0 _ he
  have hr : r = (C0, T, N0) := Option.some.inj (g1.symm.trans h1)
  subst hr
  obtain ⟨hSl, hfc, kC, hkC, hkind⟩ := hK.1 ci _ h1
  obtain ⟨cf, kf, fi, f, hi, hsl⟩ := hSl k0 h3
  have hlay := hts _ (h2 _ (u_in_lay h3))
  unfold u_lay at hlay
  rw [if_pos h7] at hlay
  have hst := (u_facts hfc hkC (u_lays hts h2 h3) hi).1
  have hcf : m.cls = cf := by
    obtain ⟨_, _, c', _, _, _, -, -, hf', -, -, -, hown2, -⟩ := Cond.laysFinal_spec hlay
    have e1 : c' = cf := by have := hi.symm.trans hf'; simp at this; exact this.1.symm
    rw [h8] at hown2
    rw [← e1]; exact Option.some.inj (C.2.2.2.1.symm.trans hown2)
  have h66 := u_fits hfc hkC hkind (Or.inr hlay) hi h9 (h10 (w.2.1 q)).1 (h10 (w.2.1 q)).2
  refine W.putFinK C.1 C.2.1 C.2.2.2.1 (hts _ h4) hi hst hcf hin (by rw [q2]; exact h66) q1 q3 (by rw [hsl]; exact k2_hasslot (q4 k0 h3)) rfl rfl hd fun H' e1 e2 e3 => ?_
  rw [hsl] at e1 ⊢
  have hP1 := hP.set (e := .inr (ci, (valp w X D p0 fl).set k0 (.ref (w.2.1 q)))) hD he ⟨_, h1, t_OB.to (V := updV (vp_V (valp w X D p0 fl)) k0 (.ref (w.2.1 q))) ⟨_, e1, q2, q3, t_set q4 hap h3 (.ref (w.2.1 q))⟩ (fun j _ => vp_updV_set hl (.ref (w.2.1 q)) j)⟩ e3
  rw [e9] at hP1
  exact kk H' _ L (by rw [e2, hz]) hP1 (hS.put e2 e3 (hD.2 p0 _ he)) hL
/-- the same of an int -/
def FQ (own : String) (idx ci k0 : Nat) : Prop := ∃ (C0 : String) (T : u_T) (N : Nat) (ty0 : Nat → FieldType), vwCl[ci]? = some (C0, T, N) ∧ (∀ x ∈ u_ws C0 T N, x ∈ TB) ∧ k0 < N ∧ Cond.fieldLink own idx (T k0).1 (T k0).2.1 (T k0).2.2.1 ∈ TB ∧
  (∀ k, k < N → parseFieldDescriptor (T k).2.2.1 = some (ty0 k)) ∧ (∀ a, a < N → ∀ b, b < N → a ≠ b → (T a).2.1 ≠ (T b).2.1) ∧ (T k0).2.2.2 = false ∧ parseFieldDescriptor (T k0).2.2.1 = some .int
theorem Vn_puti (C : CX p s m args meth c w cc nL own ret) {idx ci k0 p0 : Nat} {x : Int32} {fl : List (Option Nat)} {X1 : Mem} (f : FQ own idx ci k0) (hd : decode cc pc = .ok (.putfield idx, 3)) (hs : sh p0 = .inr (ci, fl)) (h0 : p0 < N) (hN : N ≤ 92) (hf : fl[k0]? = some none) (hX : ma X p0 (upd (X p0) k0 x) = X1)
    (kk : Vn p l e R s m args below meth c w b0 nL n k Q (pc + 3) ls st N X1 D) : Vn p l e R s m args below meth c w b0 nL n k Q pc ls (.int x :: .ref (w.2.1 p0) :: st) N X D := by
  subst hX
  intro H locs L hz hP hS hL
  obtain ⟨C0, T, N0, ty0, h1, h2, h3, h4, h5, h6, h7, h8⟩ := f
  have hts := C.2.2.2.2.2.2.2
  have he : (wlp w X D N)[p0]? = some (w.2.1 p0, .inr (ci, valp w X D p0 fl)) := by rw [wlp_at h0, celp_o hs]
  have hl : k0 < (valp w X D p0 fl).length := by rw [valp_len]; exact (List.getElem?_eq_some_iff.mp hf).1
  have e9 : (wlp w X D N).set p0 (w.2.1 p0, .inr (ci, (valp w X D p0 fl).set k0 (.int x))) = wlp w (ma X p0 (upd (X p0) k0 x)) D N := by
    rw [valp_set_i hf, ← celp_o hs]
    exact wlp_set h0 (fun j hj => celp_X (ma_ne hj))
  have hD : va_D (AA w s.heap.size) (wlp w X D N) := wlp_D hN C.2.2.2.2.1.2.1
  have hK := C.2.2.2.2.1.1
  have hap := va_apart (own := own) hts h2 ty0 h5 h6 hK h1
  obtain ⟨r, g1, cell, q1, q2, q3, q4⟩ := hP p0 _ he
  have hr : r = (C0, T, N0) := Option.some.inj (g1.symm.trans h1)
  subst hr
  obtain ⟨hSl, hfc, kC, hkC, hkind⟩ := hK.1 ci _ h1
  obtain ⟨cf, kf, fi, f, hi, hsl⟩ := hSl k0 h3
  have hlay := hts _ (h2 _ (u_in_lay h3))
  unfold u_lay at hlay
  rw [if_neg (by rw [h7]; decide)] at hlay
  have hst := (u_facts hfc hkC (u_lays hts h2 h3) hi).1
  have h66 := u_store hfc hkC hkind hlay hi h8 (v := .int x) rfl rfl
  refine W.putK C.1 C.2.1 (f := f) ⟨C.2.2.2.1, hts _ h4, ⟨_, _, _, hi⟩, hst⟩ (by rw [q2]; exact h66) q1 q3 (by rw [hsl]; exact k2_hasslot (q4 k0 h3)) rfl rfl hd fun H' e1 e2 e3 => ?_
  rw [hsl] at e1 ⊢
  have hP1 := hP.set (e := .inr (ci, (valp w X D p0 fl).set k0 (.int x))) hD he ⟨_, h1, t_OB.to (V := updV (vp_V (valp w X D p0 fl)) k0 (.int x)) ⟨_, e1, q2, q3, t_set q4 hap h3 (.int x)⟩ (fun j _ => vp_updV_set hl (.int x) j)⟩ e3
  rw [e9] at hP1
  exact kk H' _ L (by rw [e2, hz]) hP1 (hS.put e2 e3 (hD.2 p0 _ he)) hL
theorem Vn_getr (C : CX p s m args meth c w cc nL own ret) {idx ci k0 p0 q : Nat} {fl : List (Option Nat)} (f : FL own idx ci k0) (hd : decode cc pc = .ok (.getfield idx, 3)) (hs : sh p0 = .inr (ci, fl)) (h0 : p0 < N) (hf : fl[k0]? = some (some q)) (hD : (p0, k0) ∈ D)
    (kk : Vn p l e R s m args below meth c w b0 nL n k Q (pc + 3) ls (.ref (w.2.1 q) :: st) N X D) : Vn p l e R s m args below meth c w b0 nL n k Q pc ls (.ref (w.2.1 p0) :: st) N X D := by
  intro H locs L hz hP hS hL
  obtain ⟨C0, T, N0, h1, h2, h3, h4⟩ := f
  have he : (wlp w X D N)[p0]? = some (w.2.1 p0, .inr (ci, valp w X D p0 fl)) := by rw [wlp_at h0, celp_o hs]
  have hv : (valp w X D p0 fl)[k0]? = some (.ref (w.2.1 q)) := by
    rw [valp_at hf]
    show some (if (p0, k0) ∈ D then Value.ref (w.2.1 q) else Value.null) = _
    rw [if_pos hD]
  rcases h4 with h4 | ⟨host, h4⟩
  · exact va_get C.1 C.2.1 C.2.2.2.2.2.2.2 h2 C.2.2.2.1 C.2.2.2.2.1.1 hP p0 he h1 k0 h3 (C.2.2.2.2.2.2.2 _ h4) (fun _ h9 => h9) hv hd (kk H locs L hz hP hS hL)
  · exact va_getN C.1 C.2.1 C.2.2.2.2.2.2.2 h2 C.2.2.2.1 C.2.2.2.2.1.1 hP p0 he h1 k0 h3 (C.2.2.2.2.2.2.2 _ h4) (fun _ h9 => h9) hv hd (kk H locs L hz hP hS hL)
theorem Vn_iast (C : CX p s m args meth c w cc nL own ret) {p0 len o : Nat} {x i : Int32} {X1 : Mem} (hd : decode cc pc = .ok (.iastore, 1)) (hs : sh p0 = .inl (0, len)) (h0 : p0 < N) (hN : N ≤ 92) (hi : i = nI o) (ho : o < len) (hlen : len ≤ 256) (hX : ma X p0 (upd (X p0) o x) = X1)
    (kk : Vn p l e R s m args below meth c w b0 nL n k Q (pc + 1) ls st N X1 D) : Vn p l e R s m args below meth c w b0 nL n k Q pc ls (.int x :: .int i :: .ref (w.2.1 p0) :: st) N X D := by
  subst hX
  subst hi
  intro H locs L hz hP hS hL
  have h31 : len < 2 ^ 31 := Nat.lt_of_le_of_lt hlen (by decide)
  have he : (wlp w X D N)[p0]? = some (w.2.1 p0, .inl (w.2.2.1, len, .inl (X p0))) := by rw [wlp_at h0, celp_a hs, cel_i hs]
  have hD : va_D (AA w s.heap.size) (wlp w X D N) := wlp_D hN C.2.2.2.2.1.2.1
  have hin : vp_in (nI o) len := vp_in_nI ho h31
  have e9 : (wlp w X D N).set p0 (w.2.1 p0, celp w (ma X p0 (upd (X p0) o x)) D p0) = wlp w (ma X p0 (upd (X p0) o x)) D N := wlp_set h0 (fun j hj => celp_X (ma_ne hj))
  rw [celp_a hs, cel_i hs, ma_eq] at e9
  refine W.iast C.1 C.2.1 (hP p0 _ he) ((C.2.2.2.2.1.1.2 0 (w.2.2.1, .int) rfl).1 len (fun j => .int (X p0 j))) (fun q => by cases q) (by show ¬ (nI o < 0 ∨ (arrV _ _ _).slots.size ≤ _); rw [arrV_size]; exact hin) rfl rfl hd fun H1 e z oq => ?_
  rw [nI_clamp (Nat.lt_trans ho h31)] at e ⊢
  have hP1 := hP.set (e := .inl (w.2.2.1, len, .inl (upd (X p0) o x))) hD he (by
    show H1[w.2.1 p0]? = some (vp_cell _ _)
    rw [e]
    rw [vp_cell_i, vp_cell_i, arrV_store]
    congr 2
    funext q
    by_cases hq : q = o
    · subst hq
      simp [updV, upd]
    · simp [updV, upd, hq]) oq
  rw [e9] at hP1
  exact kk H1 _ L (by rw [z, hz]) hP1 (hS.put z oq (hD.2 p0 _ he)) hL
theorem Vn_objInit (C : CX p s m args meth c w cc nL own ret) {idx : Nat} {a : Nat} (h1 : Cond.methodLink own idx objectInit ∈ TB) (h2 : Cond.instanceMethod objectInit ∈ TB) (h3 : Cond.code objectInit ⟨#[0xb1]⟩ 1 none ∈ TB) (hd : decode cc pc = .ok (.invokespecial idx, 3)) (hst : st = []) (hfr : 1 ≤ R.frames) (hlo : 12 ≤ R.locals)
    (kk : Vn p l e R s m args below meth c w b0 nL n k Q (pc + 3) ls st N X D) : Vn p l e R s m args below meth c w b0 nL n k Q pc ls (.ref a :: st) N X D := by
  subst hst
  intro H locs L hz hP hS hL
  have hts := C.2.2.2.2.2.2.2
  refine W.objInit C.1 C.2.1 C.2.2.2.1 (hts _ h1) (hts _ h2) (hts _ h3) rfl (by rw [C.2.2.1]; exact hL.1) rfl hd hfr hlo ?_
  exact W.eq (g2 := F0 m (pc + 3) L []) rfl (kk H locs L hz hP hS hL)
/-- A CONTRACT of a constructor: it makes the places N .. N1 - 1 -/
def PNn (w : Wt) (b0 : Nat) (as : List Value) (N : Nat) (X : Mem) (D : List (Nat × Nat)) : Array Value → State → Prop := va_Pc as (fun U => U.heap.size = b0 + N ∧ va_P w.1 vwCl (wlp w X D N) U.heap ∧ Kw w U ∧ Aw U)
def QNn (w : Wt) (b0 : Nat) (N N1 : Nat) (X1 : Mem) (D1 : List (Nat × Nat)) : Array Value → State → Outcome → State → Prop := fun _ st oc t => oc = .returned none ∧ t.heap.size = b0 + N1 ∧ va_P w.1 vwCl (wlp w X1 D1 N1) t.heap ∧ va_F (AA w (b0 + N)) st t
def CtK (w : Wt) (l : Launch) (b0 : Nat) (y : MethodName) (bytes : ByteArray) (maxL : Nat) (fr lo mc ms : Nat) (as : List Value) (N : Nat) (X : Mem) (D : List (Nat × Nat)) (N1 : Nat) (X1 : Mem) (D1 : List (Nat × Nat)) : Prop :=
  Met l y [Cond.code y bytes maxL none] ({ frames := fr, cells := mc, slots := ms, locals := lo } : Room) (PNn w b0 as N X D) (QNn w b0 N N1 X1 D1) mc ms (AA w (b0 + N))
theorem PNn.blind {as : List Value} : FrameBlind (PNn w b0 as N X D) := fun a U g mk q => by
  obtain ⟨q0, q1, q2, q3, q4⟩ := q
  exact ⟨q0, q1, q2, Kw.same (s := U) (U := U.calling g mk a) rfl q3, Aw.same (u := U) (U := U.calling g mk a) rfl q4⟩
/-- the end of a constructor's walk -/
def EN (w : Wt) (b0 : Nat) (below : List Frame) (s : State) (args : Array Value) (mc ms : Nat) (N N1 : Nat) (X1 : Mem) (D1 : List (Nat × Nat)) : State → Prop := MQ below (QNn w b0 N N1 X1 D1) args s mc ms (AA w (b0 + N))
theorem CtK_of {y : MethodName} {bytes : ByteArray} {maxL fr lo mc ms : Nat} {as : List Value} {N1 : Nat} {X1 : Mem} {D1 : List (Nat × Nat)} (hy : plainName y.cls = true) (hyn : y.name = "<init>") (ha : as.length ≤ maxL) (hc : ∀ v ∈ as, v.category = 1) {ls : List (Option Value)} (hls : ls0 as maxL = ls) {args : Array Value} (hargs : as.toArray = args) {own : String} (hown : y.cls = own)
    (body : ∀ (p : Program) (e : Env) (s : State) (m : MethodId) (below : List Frame) (meth : Method) (c : Code), CX p s m args meth c w bytes maxL own none → Aw s → meth.name = "<init>" → s.heap.size = b0 + N → Vn p l e ({ frames := fr, cells := mc, slots := ms, locals := lo } : Room) s m args below meth c w b0 maxL 0 0 (EN w b0 below s args mc ms N N1 X1 D1) 0 ls [] N X D) : CtK w l b0 y bytes maxL fr lo mc ms as N X D N1 X1 D1 := by
  subst hls
  subst hargs
  subst hown
  refine Met.ofW (cc := bytes) (maxL := maxL) (ret := none) hy rfl ?_
  intro p e s m args below meth c s₁ B hml hv
  obtain ⟨rfl, hsz, hP, hK, hA⟩ := hv
  obtain ⟨L, hF, hL⟩ := LH_start (m := m) ha hc
  rw [hF]
  exact body p e s m below meth c ⟨B.exec, B.bytes, hml, findClass_of_methodNamed B.named, hK, B.returns, B.notSynchronized, hK.2.2.use⟩ hA ((name_of_methodNamed B.named B.method).1.trans hyn) hsz s.heap [] L hsz hP va_S.rf hL
theorem Vn_return {N0 : Nat} (C : CX p s m args meth c w cc nL own none) (hz0 : s.heap.size = b0 + N0) (hd : decode cc pc = .ok (.return_, 1)) : Vn p l e R s m args below meth c w b0 nL n k (EN w b0 below s args n k N0 N X D) pc ls [] N X D := by
  intro H locs L hz hP hS hL
  rw [hz0] at hS
  exact W.vret C.1 C.2.1 C.2.2.2.2.2.1 (fun t ht hW => ⟨rfl, by rw [ht]; exact hz, by rw [ht]; exact hP, hS.F ht⟩) hS.2.2 hd C.2.2.2.2.2.2.1
/-- a constructor's link -/
def MN (own : String) (idx : Nat) (y : MethodName) (bytes : ByteArray) (maxL : Nat) (na : Nat) : Prop := ML own idx y bytes maxL none na ∧ y.name = "<init>" ∧ Cond.instanceMethod y ∈ TB
theorem run_goN {a : Array Value} {H : Heap} {locs : List Loc} {L : Array Slot} {st0 rest : List Value} {mc ms N1 : Nat} {X1 : Mem} {D1 : List (Nat × Nat)} (hz : H.size = b0 + N) (hr : va_Run p l e R s m args below meth c H locs n k mc ms (F0 m pc L st0) rest (QNn w b0 N N1 X1 D1 a) (AA w (b0 + N))) (hS : va_S (AA w s.heap.size) s.heap H locs) (hL : LH L nL ls)
    (kk : Vn p l e R s m args below meth c w b0 nL (n + mc) (k + ms) Q (pc + 3) ls rest N1 X1 D1) : W p l e R s m args below meth c H locs n k Q (F0 m pc L st0) := by
  intro T hT Xs
  obtain ⟨v, st₀, t, T', Lc, h0, X', hLc, e1, e2, ⟨hv, hz1, hP1, hf1, hf2⟩, stp⟩ := hr T hT Xs
  cases hv
  rw [h0] at hf1 hf2
  have hA : ∀ q, AA w (b0 + N) q → AA w s.heap.size q := fun q hq => AA_le (by rw [← hz]; exact hS.1) hq
  obtain ⟨t2, a1, b1⟩ := kk T'.heap (locs ++ Lc) L (by rw [e1]; exact hz1) (by rw [e1]; exact hP1)
    ⟨Nat.le_trans hS.1 (by rw [e1]; exact hf1), fun q h1 h2 => by rw [e1, hf2 q (Nat.lt_of_lt_of_le h1 hS.1) (fun z => h2 (hA q z))]; exact hS.2.1 q h1 h2, fun q hq => by
      rcases List.mem_append.mp hq with h | h
      · exact hS.2.2 q h
      · exact hA _ (hLc q h)⟩ hL T' rfl X'
  exact ⟨t2, stp t2 a1, b1⟩
theorem Vn_init {y : MethodName} {bytes : ByteArray} {maxL fr lo na idx mc ms b N1 n1 k1 : Nat} {As rest : List Value} {X1 : Mem} {D1 : List (Nat × Nat)} (C : CX p s m args meth c w cc nL own ret) (f : MN own idx y bytes maxL na) (hA : Aw s) (hM : CtK w l b0 y bytes maxL fr lo mc ms (.ref b :: As) N X D N1 X1 D1) (hd : decode cc pc = .ok (.invokespecial idx, 3)) (hst : st = As.reverse ++ .ref b :: rest) (hn : As.length = na) (hW : (rest.map fun v => v.category).sum ≤ 8) (hR1 : fr + 1 ≤ R.frames) (hR2 : 8 + (maxL + 11) + lo ≤ R.locals) (hn1 : n + mc = n1) (hk1 : k + ms = k1) (hcells : n1 ≤ R.cells) (hslots : k1 ≤ R.slots)
    (kk : Vn p l e R s m args below meth c w b0 nL n1 k1 Q (pc + 3) ls rest N1 X1 D1) : Vn p l e R s m args below meth c w b0 nL n k Q pc ls st N X D := by
  subst hn1
  subst hk1
  intro H locs L hz hP hS hL
  obtain ⟨⟨f1, f2, f3, f4⟩, f5, f6⟩ := f
  have hts := C.2.2.2.2.2.2.2
  have hp : PreS s H (PNn w b0 (.ref b :: As) N X D) (.ref b :: As) := ⟨PNn.blind, fun U hU hW => ⟨rfl, by rw [hU]; exact hz, by rw [hU]; exact hP, C.2.2.2.2.1.warm hW, hA.warm hW⟩⟩
  have hsz : L.size = nL := hL.1
  have hW' : 2 * (F0 m pc L st).monitorRoom + (rest.map fun v => v.category).sum ≤ 8 := by
    have : (F0 m pc L st).monitorRoom = 0 := rfl
    rw [this]
    omega
  rcases f1 with f1 | ⟨host, f1⟩
  · exact run_goN hz (va_runI ⟨C.1, C.2.1, C.2.2.1, C.2.2.2.1, hts⟩ hM ⟨callB_of na hts (code_good f2) rfl rfl rfl (hts _ f3) (hts _ f1) f4 ⟨hR1, hR2⟩, f5, hts _ f6⟩ hp rfl hn hsz hst hW' hd ⟨hcells, hslots⟩) hS hL kk
  · have cw : va_CN R s args own idx y host bytes maxL none [Cond.code y bytes maxL none] ({ frames := fr, cells := mc, slots := ms, locals := lo } : Room) mc ms na := va_cnB na hts (code_good f2) rfl rfl rfl (va_Nw.of rfl (hts _ f1)) (hts _ f3) f4 ⟨hR1, hR2⟩
    exact run_goN hz (va_runIN ⟨C.1, C.2.1, C.2.2.1, C.2.2.2.1, hts⟩ hM ⟨cw, f5, hts _ f6⟩ hp rfl hn hsz hst hW' hd ⟨hcells, hslots⟩) hS hL kk
theorem Vn_to {pc1 N1 : Nat} (h : pc = pc1) (hN : N = N1) (kk : Vn p l e R s m args below meth c w b0 nL n k Q pc1 ls st N1 X D) : Vn p l e R s m args below meth c w b0 nL n k Q pc ls st N X D := by
  subst h
  subst hN
  exact kk
end VNW
theorem ma_z {X : Mem} {p j : Nat} {x : Int32} (h : X p j = x) : ma X p (upd (X p) j x) = X := by
  subst h
  rw [upd_self]
  exact ma_self X p
