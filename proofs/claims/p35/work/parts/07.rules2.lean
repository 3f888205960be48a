section VR2
variable {p : Program} {l : Launch} {e : Env} {R : Room} {s : State} {m : MethodId} {args : Array Value} {below : List Frame} {meth : Method} {c : Code} {w : Wt} {cc : ByteArray} {nL : Nat} {own : String} {ret : Option FieldType} {n k : Nat} {Q : State → Prop} {pc : Nat} {ls : List (Option Value)} {st : List Value} {X : Mem}
theorem V_eqi {x y : Int32} (h : x = y) (kk : V p l e R s m args below meth c w nL n k Q pc ls (.int y :: st) X) : V p l e R s m args below meth c w nL n k Q pc ls (.int x :: st) X := h ▸ kk
theorem V_eqX {X1 : Mem} (h : X = X1) (kk : V p l e R s m args below meth c w nL n k Q pc ls st X1) : V p l e R s m args below meth c w nL n k Q pc ls st X := h ▸ kk
theorem V_ialdN (C : CX p s m args meth c w cc nL own ret) {p0 N o : Nat} {v : Int32} (hd : decode cc pc = .ok (.iaload, 1)) (hs : sh p0 = .inl (0, N)) (h0 : p0 < 92) (ho : o < N) (hN : N ≤ 256) (hv : X p0 o = v) (kk : V p l e R s m args below meth c w nL n k Q (pc + 1) ls (.int v :: st) X) : V p l e R s m args below meth c w nL n k Q pc ls (.int (nI o) :: .ref (w.2.1 p0) :: st) X := by
  have h31 : N < 2 ^ 31 := Nat.lt_of_le_of_lt hN (by decide)
  refine V_iaload C hd h0 hs (vp_in_nI ho h31) ?_
  rw [nI_clamp (Nat.lt_trans ho h31), hv]
  exact kk
theorem V_baldN (C : CX p s m args meth c w cc nL own ret) {p0 N o : Nat} {v : Int32} (hd : decode cc pc = .ok (.baload, 1)) (hs : sh p0 = .inl (1, N)) (h0 : p0 < 92) (ho : o < N) (hN : N ≤ 256) (hv : X p0 o = v) (kk : V p l e R s m args below meth c w nL n k Q (pc + 1) ls (.int v :: st) X) : V p l e R s m args below meth c w nL n k Q pc ls (.int (nI o) :: .ref (w.2.1 p0) :: st) X := by
  have h31 : N < 2 ^ 31 := Nat.lt_of_le_of_lt hN (by decide)
  refine V_baload C hd h0 hs (vp_in_nI ho h31) ?_
  rw [nI_clamp (Nat.lt_trans ho h31), hv]
  exact kk
theorem V_aaldN (C : CX p s m args meth c w cc nL own ret) {p0 N o q : Nat} (hd : decode cc pc = .ok (.aaload, 1)) (hs : sh p0 = .inl (3, N)) (h0 : p0 < 92) (ho : o < N) (hN : N ≤ 256) (hq : p0 + 1 + o = q) (kk : V p l e R s m args below meth c w nL n k Q (pc + 1) ls (.ref (w.2.1 q) :: st) X) : V p l e R s m args below meth c w nL n k Q pc ls (.int (nI o) :: .ref (w.2.1 p0) :: st) X := by
  have h31 : N < 2 ^ 31 := Nat.lt_of_le_of_lt hN (by decide)
  refine V_aaload C hd h0 hs (vp_in_nI ho h31) ?_
  rw [nI_clamp (Nat.lt_trans ho h31), hq]
  exact kk
theorem V_iastN (C : CX p s m args meth c w cc nL own ret) {p0 N o : Nat} {x : Int32} {X1 : Mem} (hd : decode cc pc = .ok (.iastore, 1)) (hs : sh p0 = .inl (0, N)) (h0 : p0 < 92) (ho : o < N) (hN : N ≤ 256) (hX : ma X p0 (upd (X p0) o x) = X1) (kk : V p l e R s m args below meth c w nL n k Q (pc + 1) ls st X1) : V p l e R s m args below meth c w nL n k Q pc ls (.int x :: .int (nI o) :: .ref (w.2.1 p0) :: st) X := by
  have h31 : N < 2 ^ 31 := Nat.lt_of_le_of_lt hN (by decide)
  refine V_iastore C hd h0 hs (vp_in_nI ho h31) ?_
  rw [nI_clamp (Nat.lt_trans ho h31), hX]
  exact kk
theorem V_bastN (C : CX p s m args meth c w cc nL own ret) {p0 N o : Nat} {x : Int32} {X1 : Mem} (hd : decode cc pc = .ok (.bastore, 1)) (hs : sh p0 = .inl (1, N)) (h0 : p0 < 92) (ho : o < N) (hN : N ≤ 256) (hz : x = 0 ∨ x = 1) (hX : ma X p0 (upd (X p0) o x) = X1) (kk : V p l e R s m args below meth c w nL n k Q (pc + 1) ls st X1) : V p l e R s m args below meth c w nL n k Q pc ls (.int x :: .int (nI o) :: .ref (w.2.1 p0) :: st) X := by
  have h31 : N < 2 ^ 31 := Nat.lt_of_le_of_lt hN (by decide)
  refine V_bastore C hd h0 hs (vp_in_nI ho h31) ?_
  have hx : vp_nar .boolean x = x := by rcases hz with rfl | rfl <;> rfl
  rw [nI_clamp (Nat.lt_trans ho h31), hx, hX]
  exact kk
theorem V_iincN (C : CX p s m args meth c w cc nL own ret) {i : Nat} {a : Nat} {ls1 : List (Option Value)} (hd : decode cc pc = .ok (.iinc i 1, 3)) (hx : ls[i]? = some (some (.int (nI a)))) (hn : i < nL) (hl : ls.set i (some (.int (nI (a + 1)))) = ls1) (kk : V p l e R s m args below meth c w nL n k Q (pc + 3) ls1 st X) : V p l e R s m args below meth c w nL n k Q pc ls st X :=
  V_iinc C hd hx (nI_1 a) hn hl kk
theorem V_iincM (C : CX p s m args meth c w cc nL own ret) {i : Nat} {a : Nat} {ls1 : List (Option Value)} (hd : decode cc pc = .ok (.iinc i (-1), 3)) (hx : ls[i]? = some (some (.int (nI (a + 1))))) (hn : i < nL) (hl : ls.set i (some (.int (nI a))) = ls1) (kk : V p l e R s m args below meth c w nL n k Q (pc + 3) ls1 st X) : V p l e R s m args below meth c w nL n k Q pc ls st X :=
  V_iinc C hd hx (pk_m1 a) hn hl kk
theorem V_iaddN (C : CX p s m args meth c w cc nL own ret) {a b : Nat} (hd : decode cc pc = .ok (.iadd, 1)) (kk : V p l e R s m args below meth c w nL n k Q (pc + 1) ls (.int (nI (a + b)) :: st) X) : V p l e R s m args below meth c w nL n k Q pc ls (.int (nI b) :: .int (nI a) :: st) X := V_iadd C hd (nI_add a b ▸ kk)
theorem V_imulN (C : CX p s m args meth c w cc nL own ret) {a b : Nat} (hd : decode cc pc = .ok (.imul, 1)) (kk : V p l e R s m args below meth c w nL n k Q (pc + 1) ls (.int (nI (a * b)) :: st) X) : V p l e R s m args below meth c w nL n k Q pc ls (.int (nI b) :: .int (nI a) :: st) X := V_imul C hd (pk_mul a b ▸ kk)
theorem V_isubN (C : CX p s m args meth c w cc nL own ret) {a b : Nat} (hd : decode cc pc = .ok (.isub, 1)) (hb : b ≤ a) (kk : V p l e R s m args below meth c w nL n k Q (pc + 1) ls (.int (nI (a - b)) :: st) X) : V p l e R s m args below meth c w nL n k Q pc ls (.int (nI b) :: .int (nI a) :: st) X := V_isub C hd (pk_sub hb ▸ kk)
theorem V_icmp_geN (C : CX p s m args meth c w cc nL own ret) {a b : Nat} {off : Int} {tgt : Nat} (hd : decode cc pc = .ok (.if_icmp .ge off, 3)) (ht : (pc : Int) + off = (tgt : Int)) (ha : a < 2 ^ 31) (hb : b < 2 ^ 31) (kt : b ≤ a → V p l e R s m args below meth c w nL n k Q tgt ls st X) (kf : a < b → V p l e R s m args below meth c w nL n k Q (pc + 3) ls st X) : V p l e R s m args below meth c w nL n k Q pc ls (.int (nI b) :: .int (nI a) :: st) X :=
  V_icmp_ge C hd ht (fun q => kt ((nI_leI hb ha).mp q)) (fun q => kf (Nat.not_le.mp (fun z => q ((nI_leI hb ha).mpr z))))
theorem V_icmp_leN (C : CX p s m args meth c w cc nL own ret) {a b : Nat} {off : Int} {tgt : Nat} (hd : decode cc pc = .ok (.if_icmp .le off, 3)) (ht : (pc : Int) + off = (tgt : Int)) (ha : a < 2 ^ 31) (hb : b < 2 ^ 31) (kt : a ≤ b → V p l e R s m args below meth c w nL n k Q tgt ls st X) (kf : b < a → V p l e R s m args below meth c w nL n k Q (pc + 3) ls st X) : V p l e R s m args below meth c w nL n k Q pc ls (.int (nI b) :: .int (nI a) :: st) X :=
  V_icmp_le C hd ht (fun q => kt ((nI_leI ha hb).mp q)) (fun q => kf (Nat.not_le.mp (fun z => q ((nI_leI ha hb).mpr z))))
theorem V_icmp_ltN (C : CX p s m args meth c w cc nL own ret) {a b : Nat} {off : Int} {tgt : Nat} (hd : decode cc pc = .ok (.if_icmp .lt off, 3)) (ht : (pc : Int) + off = (tgt : Int)) (ha : a < 2 ^ 31) (hb : b < 2 ^ 31) (kt : a < b → V p l e R s m args below meth c w nL n k Q tgt ls st X) (kf : b ≤ a → V p l e R s m args below meth c w nL n k Q (pc + 3) ls st X) : V p l e R s m args below meth c w nL n k Q pc ls (.int (nI b) :: .int (nI a) :: st) X :=
  V_icmp_lt C hd ht (fun q => kt ((nI_ltI ha hb).mp q)) (fun q => kf (Nat.not_lt.mp (fun z => q ((nI_ltI ha hb).mpr z))))
theorem V_icmp_gtN (C : CX p s m args meth c w cc nL own ret) {a b : Nat} {off : Int} {tgt : Nat} (hd : decode cc pc = .ok (.if_icmp .gt off, 3)) (ht : (pc : Int) + off = (tgt : Int)) (ha : a < 2 ^ 31) (hb : b < 2 ^ 31) (kt : b < a → V p l e R s m args below meth c w nL n k Q tgt ls st X) (kf : a ≤ b → V p l e R s m args below meth c w nL n k Q (pc + 3) ls st X) : V p l e R s m args below meth c w nL n k Q pc ls (.int (nI b) :: .int (nI a) :: st) X :=
  V_icmp_gt C hd ht (fun q => kt ((nI_ltI hb ha).mp q)) (fun q => kf (Nat.not_lt.mp (fun z => q ((nI_ltI hb ha).mpr z))))
theorem V_icmp_eqN (C : CX p s m args meth c w cc nL own ret) {a b : Nat} {off : Int} {tgt : Nat} (hd : decode cc pc = .ok (.if_icmp .eq off, 3)) (ht : (pc : Int) + off = (tgt : Int)) (ha : a < 2 ^ 31) (hb : b < 2 ^ 31) (kt : a = b → V p l e R s m args below meth c w nL n k Q tgt ls st X) (kf : a ≠ b → V p l e R s m args below meth c w nL n k Q (pc + 3) ls st X) : V p l e R s m args below meth c w nL n k Q pc ls (.int (nI b) :: .int (nI a) :: st) X :=
  V_icmp_eq C hd ht (fun q => kt ((nI_eq ha hb).mp q)) (fun q => kf (fun z => q ((nI_eq ha hb).mpr z)))
theorem V_icmp_neN (C : CX p s m args meth c w cc nL own ret) {a b : Nat} {off : Int} {tgt : Nat} (hd : decode cc pc = .ok (.if_icmp .ne off, 3)) (ht : (pc : Int) + off = (tgt : Int)) (ha : a < 2 ^ 31) (hb : b < 2 ^ 31) (kt : a ≠ b → V p l e R s m args below meth c w nL n k Q tgt ls st X) (kf : a = b → V p l e R s m args below meth c w nL n k Q (pc + 3) ls st X) : V p l e R s m args below meth c w nL n k Q pc ls (.int (nI b) :: .int (nI a) :: st) X :=
  V_icmp_ne C hd ht (fun q => kt (fun z => q ((nI_eq ha hb).mpr z))) (fun q => kf ((nI_eq ha hb).mp q))
theorem nz_eq {a : Nat} (ha : a < 2 ^ 31) : nI a = 0 ↔ a = 0 := nI_eq ha (b := 0) (by decide)
theorem nz_lt {a : Nat} (ha : a < 2 ^ 31) : ¬ nI a < 0 := nI_pos ha
theorem nz_gt {a : Nat} (ha : a < 2 ^ 31) : 0 < nI a ↔ 0 < a := nI_ltI (a := 0) (by decide) ha
theorem nz_le {a : Nat} (ha : a < 2 ^ 31) : nI a ≤ 0 ↔ a = 0 := (nI_leI (b := 0) ha (by decide)).trans (by omega)
theorem V_if_eqN (C : CX p s m args meth c w cc nL own ret) {a : Nat} {off : Int} {tgt : Nat} (hd : decode cc pc = .ok (.ifCond .eq off, 3)) (ht : (pc : Int) + off = (tgt : Int)) (ha : a < 2 ^ 31) (kt : a = 0 → V p l e R s m args below meth c w nL n k Q tgt ls st X) (kf : a ≠ 0 → V p l e R s m args below meth c w nL n k Q (pc + 3) ls st X) : V p l e R s m args below meth c w nL n k Q pc ls (.int (nI a) :: st) X :=
  V_if_eq C hd ht (fun q => kt ((nz_eq ha).mp q)) (fun q => kf (fun z => q ((nz_eq ha).mpr z)))
theorem V_if_neN (C : CX p s m args meth c w cc nL own ret) {a : Nat} {off : Int} {tgt : Nat} (hd : decode cc pc = .ok (.ifCond .ne off, 3)) (ht : (pc : Int) + off = (tgt : Int)) (ha : a < 2 ^ 31) (kt : a ≠ 0 → V p l e R s m args below meth c w nL n k Q tgt ls st X) (kf : a = 0 → V p l e R s m args below meth c w nL n k Q (pc + 3) ls st X) : V p l e R s m args below meth c w nL n k Q pc ls (.int (nI a) :: st) X :=
  V_if_ne C hd ht (fun q => kt (fun z => q ((nz_eq ha).mpr z))) (fun q => kf ((nz_eq ha).mp q))
theorem V_if_gtN (C : CX p s m args meth c w cc nL own ret) {a : Nat} {off : Int} {tgt : Nat} (hd : decode cc pc = .ok (.ifCond .gt off, 3)) (ht : (pc : Int) + off = (tgt : Int)) (ha : a < 2 ^ 31) (kt : 0 < a → V p l e R s m args below meth c w nL n k Q tgt ls st X) (kf : a = 0 → V p l e R s m args below meth c w nL n k Q (pc + 3) ls st X) : V p l e R s m args below meth c w nL n k Q pc ls (.int (nI a) :: st) X :=
  V_if_gt C hd ht (fun q => kt ((nz_gt ha).mp q)) (fun q => kf (Nat.le_zero.mp (Nat.not_lt.mp (fun z => q ((nz_gt ha).mpr z)))))
theorem V_if_leN (C : CX p s m args meth c w cc nL own ret) {a : Nat} {off : Int} {tgt : Nat} (hd : decode cc pc = .ok (.ifCond .le off, 3)) (ht : (pc : Int) + off = (tgt : Int)) (ha : a < 2 ^ 31) (kt : a = 0 → V p l e R s m args below meth c w nL n k Q tgt ls st X) (kf : 0 < a → V p l e R s m args below meth c w nL n k Q (pc + 3) ls st X) : V p l e R s m args below meth c w nL n k Q pc ls (.int (nI a) :: st) X :=
  V_if_le C hd ht (fun q => kt ((nz_le ha).mp q)) (fun q => kf (Nat.pos_of_ne_zero (fun z => q ((nz_le ha).mpr z))))
theorem V_if_ltN (C : CX p s m args meth c w cc nL own ret) {a : Nat} {off : Int} {tgt : Nat} (hd : decode cc pc = .ok (.ifCond .lt off, 3)) (ht : (pc : Int) + off = (tgt : Int)) (ha : a < 2 ^ 31) (kf : V p l e R s m args below meth c w nL n k Q (pc + 3) ls st X) : V p l e R s m args below meth c w nL n k Q pc ls (.int (nI a) :: st) X :=
  V_if_lt C hd ht (fun q => absurd q (nz_lt ha)) (fun _ => kf)
theorem V_if_geN (C : CX p s m args meth c w cc nL own ret) {a : Nat} {off : Int} {tgt : Nat} (hd : decode cc pc = .ok (.ifCond .ge off, 3)) (ht : (pc : Int) + off = (tgt : Int)) (ha : a < 2 ^ 31) (kt : V p l e R s m args below meth c w nL n k Q tgt ls st X) : V p l e R s m args below meth c w nL n k Q pc ls (.int (nI a) :: st) X :=
  V_if_ge C hd ht (fun _ => kt) (fun q => absurd (nI_pos' ha) q)
/-- contracts by what they hand back -/
abbrev CtI (w : Wt) (l : Launch) (y : MethodName) (bytes : ByteArray) (maxL : Nat) (ret : Option FieldType) (fr lo : Nat) (as : List Value) (X : Mem) (q : Int32 → Mem → Prop) : Prop := Ct w l y bytes maxL ret fr lo as X (fun r X' => ∃ v, r = some (.int v) ∧ q v X')
abbrev CtU (w : Wt) (l : Launch) (y : MethodName) (bytes : ByteArray) (maxL : Nat) (ret : Option FieldType) (fr lo : Nat) (as : List Value) (X : Mem) (q : Mem → Prop) : Prop := Ct w l y bytes maxL ret fr lo as X (fun r X' => r = none ∧ q X')
/-- the end that a walk of such a method comes to -/
def EI (w : Wt) (below : List Frame) (s : State) (args : Array Value) (n k : Nat) (q : Int32 → Mem → Prop) : State → Prop := MQ below (QN w s.heap.size (fun r X' => ∃ v, r = some (.int v) ∧ q v X')) args s n k (AA w s.heap.size)
def EU (w : Wt) (below : List Frame) (s : State) (args : Array Value) (n k : Nat) (q : Mem → Prop) : State → Prop := MQ below (QN w s.heap.size (fun r X' => r = none ∧ q X')) args s n k (AA w s.heap.size)
theorem CtI_of {y : MethodName} {bytes : ByteArray} {maxL fr lo : Nat} {as : List Value} {q : Int32 → Mem → Prop} (hy : plainName y.cls = true) (ha : as.length ≤ maxL) (hc : ∀ v ∈ as, v.category = 1) {ls : List (Option Value)} (hls : ls0 as maxL = ls) {args : Array Value} (hargs : as.toArray = args) {own : String} (hown : y.cls = own)
    (body : ∀ (p : Program) (e : Env) (s : State) (m : MethodId) (below : List Frame) (meth : Method) (c : Code), CX p s m args meth c w bytes maxL own ret → V p l e ({ frames := fr, cells := 0, slots := 0, locals := lo } : Room) s m args below meth c w maxL 0 0 (EI w below s args 0 0 q) 0 ls [] X) : CtI w l y bytes maxL ret fr lo as X q := by
  subst hls
  subst hargs
  subst hown
  exact Ct_of hy ha hc body
theorem CtU_of {y : MethodName} {bytes : ByteArray} {maxL fr lo : Nat} {as : List Value} {q : Mem → Prop} (hy : plainName y.cls = true) (ha : as.length ≤ maxL) (hc : ∀ v ∈ as, v.category = 1) {ls : List (Option Value)} (hls : ls0 as maxL = ls) {args : Array Value} (hargs : as.toArray = args) {own : String} (hown : y.cls = own)
    (body : ∀ (p : Program) (e : Env) (s : State) (m : MethodId) (below : List Frame) (meth : Method) (c : Code), CX p s m args meth c w bytes maxL own ret → V p l e ({ frames := fr, cells := 0, slots := 0, locals := lo } : Room) s m args below meth c w maxL 0 0 (EU w below s args 0 0 q) 0 ls [] X) : CtU w l y bytes maxL ret fr lo as X q := by
  subst hls
  subst hargs
  subst hown
  exact Ct_of hy ha hc body
theorem V_ireturnI {q : Int32 → Mem → Prop} {v : Int32} (C : CX p s m args meth c w cc nL own (some .int)) (hd : decode cc pc = .ok (.ireturn, 1)) (hq : q v X) : V p l e R s m args below meth c w nL n k (EI w below s args n k q) pc ls [.int v] X := V_ireturn C hd ⟨v, rfl, hq⟩
theorem V_zreturnI {q : Int32 → Mem → Prop} {v : Int32} (C : CX p s m args meth c w cc nL own (some .boolean)) (hd : decode cc pc = .ok (.ireturn, 1)) (hz : v = 0 ∨ v = 1) (hq : q v X) : V p l e R s m args below meth c w nL n k (EI w below s args n k q) pc ls [.int v] X := V_zreturn C hd hz ⟨v, rfl, hq⟩
theorem V_returnU {q : Mem → Prop} (C : CX p s m args meth c w cc nL own none) (hd : decode cc pc = .ok (.return_, 1)) (hq : q X) : V p l e R s m args below meth c w nL n k (EU w below s args n k q) pc ls [] X := V_return C hd ⟨rfl, hq⟩
theorem V_callVI {y : MethodName} {bytes : ByteArray} {maxL fr lo na idx ci p0 : Nat} {rt : Option FieldType} {fl : List (Option Nat)} {rest : List Value} {q : Int32 → Mem → Prop} (C : CX p s m args meth c w cc nL own ret) (As : List Value) (f : MI own idx y bytes maxL rt na) (hM : CtI w l y bytes maxL rt fr lo (.ref (w.2.1 p0) :: As) X q) (hd : decode cc pc = .ok (.invokevirtual idx, 3)) (hs : sh p0 = .inr (ci, fl)) (h0 : p0 < 92) (hc : (vwCl[ci]?).map (fun q => q.1) = some y.cls) (hst : st = As.reverse ++ .ref (w.2.1 p0) :: rest) (hn : As.length = na) (hW : (rest.map fun v => v.category).sum ≤ 8) (hR1 : fr + 1 ≤ R.frames) (hR2 : 8 + (maxL + 11) + lo ≤ R.locals) (hnk : n ≤ R.cells ∧ k ≤ R.slots)
    (kk : ∀ (v : Int32) (X1 : Mem), q v X1 → V p l e R s m args below meth c w nL n k Q (pc + 3) ls (.int v :: rest) X1) : V p l e R s m args below meth c w nL n k Q pc ls st X := V_callV C f hM hd h0 hs hc hst hn hW ⟨hR1, hR2⟩ hnk (fun r X1 h => by
  obtain ⟨v, rfl, h⟩ := h
  exact kk v X1 h)
theorem V_callSI {y : MethodName} {bytes : ByteArray} {maxL fr lo na idx : Nat} {rt : Option FieldType} {rest : List Value} {q : Int32 → Mem → Prop} (C : CX p s m args meth c w cc nL own ret) (As : List Value) (f : MS own idx y bytes maxL rt na) (hM : CtI w l y bytes maxL rt fr lo As X q) (hd : decode cc pc = .ok (.invokestatic idx, 3)) (hst : st = As.reverse ++ rest) (hn : As.length = na) (hW : (rest.map fun v => v.category).sum ≤ 8) (hR1 : fr + 1 ≤ R.frames) (hR2 : 8 + (maxL + 11) + lo ≤ R.locals) (hnk : n ≤ R.cells ∧ k ≤ R.slots)
    (kk : ∀ (v : Int32) (X1 : Mem), q v X1 → V p l e R s m args below meth c w nL n k Q (pc + 3) ls (.int v :: rest) X1) : V p l e R s m args below meth c w nL n k Q pc ls st X := V_callS C f hM hd hst hn hW ⟨hR1, hR2⟩ hnk (fun r X1 h => by
  obtain ⟨v, rfl, h⟩ := h
  exact kk v X1 h)
theorem V_callVU {y : MethodName} {bytes : ByteArray} {maxL fr lo na idx ci p0 : Nat} {rt : Option FieldType} {fl : List (Option Nat)} {rest : List Value} {q : Mem → Prop} (C : CX p s m args meth c w cc nL own ret) (As : List Value) (f : MI own idx y bytes maxL rt na) (hM : CtU w l y bytes maxL rt fr lo (.ref (w.2.1 p0) :: As) X q) (hd : decode cc pc = .ok (.invokevirtual idx, 3)) (hs : sh p0 = .inr (ci, fl)) (h0 : p0 < 92) (hc : (vwCl[ci]?).map (fun q => q.1) = some y.cls) (hst : st = As.reverse ++ .ref (w.2.1 p0) :: rest) (hn : As.length = na) (hW : (rest.map fun v => v.category).sum ≤ 8) (hR1 : fr + 1 ≤ R.frames) (hR2 : 8 + (maxL + 11) + lo ≤ R.locals) (hnk : n ≤ R.cells ∧ k ≤ R.slots)
    (kk : ∀ (X1 : Mem), q X1 → V p l e R s m args below meth c w nL n k Q (pc + 3) ls rest X1) : V p l e R s m args below meth c w nL n k Q pc ls st X := V_callV C f hM hd h0 hs hc hst hn hW ⟨hR1, hR2⟩ hnk (fun r X1 h => by
  obtain ⟨rfl, h⟩ := h
  exact kk X1 h)
theorem V_callSU {y : MethodName} {bytes : ByteArray} {maxL fr lo na idx : Nat} {rt : Option FieldType} {rest : List Value} {q : Mem → Prop} (C : CX p s m args meth c w cc nL own ret) (As : List Value) (f : MS own idx y bytes maxL rt na) (hM : CtU w l y bytes maxL rt fr lo As X q) (hd : decode cc pc = .ok (.invokestatic idx, 3)) (hst : st = As.reverse ++ rest) (hn : As.length = na) (hW : (rest.map fun v => v.category).sum ≤ 8) (hR1 : fr + 1 ≤ R.frames) (hR2 : 8 + (maxL + 11) + lo ≤ R.locals) (hnk : n ≤ R.cells ∧ k ≤ R.slots)
    (kk : ∀ (X1 : Mem), q X1 → V p l e R s m args below meth c w nL n k Q (pc + 3) ls rest X1) : V p l e R s m args below meth c w nL n k Q pc ls st X := V_callS C f hM hd hst hn hW ⟨hR1, hR2⟩ hnk (fun r X1 h => by
  obtain ⟨rfl, h⟩ := h
  exact kk X1 h)
/-- an answer that is a boolean: 1 where P, 0 else -/
def bI (P : Prop) (r : Int32) : Prop := (r = 1 ∧ P) ∨ (r = 0 ∧ ¬ P)
theorem bI.z {P : Prop} {r : Int32} (h : bI P r) : r = 0 ∨ r = 1 := by rcases h with h | h; exact Or.inr h.1; exact Or.inl h.1
theorem bI.eq0 {P : Prop} {r : Int32} (h : bI P r) : r = 0 ↔ ¬ P := by
  rcases h with ⟨rfl, h⟩ | ⟨rfl, h⟩
  · exact ⟨fun q => absurd q (by decide), fun q => absurd h q⟩
  · exact ⟨fun _ => h, fun _ => rfl⟩
theorem bI.ne0 {P : Prop} {r : Int32} (h : bI P r) : ¬ r = 0 ↔ P := by
  rcases h with ⟨rfl, h⟩ | ⟨rfl, h⟩
  · exact ⟨fun _ => h, fun _ => by decide⟩
  · exact ⟨fun q => absurd rfl q, fun q => absurd q h⟩
theorem bI.congr {P P' : Prop} {r : Int32} (h : bI P r) (e : P ↔ P') : bI P' r := by
  rcases h with ⟨h1, h⟩ | ⟨h1, h⟩
  · exact Or.inl ⟨h1, e.mp h⟩
  · exact Or.inr ⟨h1, fun q => h (e.mpr q)⟩
theorem bI.same {P P' : Prop} {r r' : Int32} (h : bI P r) (h' : bI P' r') (e : P ↔ P') : r = r' := by
  rcases h with ⟨rfl, h⟩ | ⟨rfl, h⟩ <;> rcases h' with ⟨rfl, h'⟩ | ⟨rfl, h'⟩
  · rfl
  · exact absurd (e.mp h) h'
  · exact absurd (e.mpr h') h
  · rfl
theorem bI.t {P : Prop} (h : P) : bI P 1 := Or.inl ⟨rfl, h⟩
theorem bI.f {P : Prop} (h : ¬ P) : bI P 0 := Or.inr ⟨rfl, h⟩
theorem V_kill {i : Nat} {ls1 : List (Option Value)} (hl : ls.set i none = ls1) (kk : V p l e R s m args below meth c w nL n k Q pc ls1 st X) : V p l e R s m args below meth c w nL n k Q pc ls st X := by
  intro H locs L hP hS hL
  refine kk H locs L hP hS ⟨hL.1, hL.2.1, fun j v hj => ?_⟩
  subst hl
  rw [List.getElem?_set] at hj
  split at hj
  · split at hj <;> cases hj
  · exact hL.2.2 j v hj
theorem V_if_eqB (C : CX p s m args meth c w cc nL own ret) {P : Prop} {x : Int32} {off : Int} {tgt : Nat} (hb : bI P x) (hd : decode cc pc = .ok (.ifCond .eq off, 3)) (ht : (pc : Int) + off = (tgt : Int)) (kt : ¬ P → V p l e R s m args below meth c w nL n k Q tgt ls st X) (kf : P → V p l e R s m args below meth c w nL n k Q (pc + 3) ls st X) : V p l e R s m args below meth c w nL n k Q pc ls (.int x :: st) X :=
  V_if_eq C hd ht (fun q => kt (hb.eq0.mp q)) (fun q => kf (hb.ne0.mp q))
theorem V_if_neB (C : CX p s m args meth c w cc nL own ret) {P : Prop} {x : Int32} {off : Int} {tgt : Nat} (hb : bI P x) (hd : decode cc pc = .ok (.ifCond .ne off, 3)) (ht : (pc : Int) + off = (tgt : Int)) (kt : P → V p l e R s m args below meth c w nL n k Q tgt ls st X) (kf : ¬ P → V p l e R s m args below meth c w nL n k Q (pc + 3) ls st X) : V p l e R s m args below meth c w nL n k Q pc ls (.int x :: st) X :=
  V_if_ne C hd ht (fun q => kt (hb.ne0.mp q)) (fun q => kf (hb.eq0.mp q))
end VR2
