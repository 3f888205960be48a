/-! methods with a table: what is thrown is caught; longs; the law's own script -/
def NCX (U : State) : Prop := va_Nc eIS eIO U ∧ va_Nc eIA eIO U ∧ va_Nc eIO eIS U ∧ va_Nc eIA eIS U
theorem NCX.warm {s U : State} (hW : s.WarmedH U.vm) (h : NCX s) : NCX U := ⟨va_Nc.moved hW.alike h.1, va_Nc.moved hW.alike h.2.1, va_Nc.moved hW.alike h.2.2.1, va_Nc.moved hW.alike h.2.2.2⟩
def PNH (l : Launch) (w : Wt) (sz : Nat) (as : List Value) (X : Mem) : Array Value → State → Prop := va_Pc as (fun U => U.heap.size = sz ∧ va_P w.1 vwCl (wl w X) U.heap ∧ Kw w U ∧ DX l w sz U U.heap ∧ NCX U)
theorem PNH.blind {l : Launch} {w : Wt} {sz : Nat} {as : List Value} {X : Mem} : FrameBlind (PNH l w sz as X) := fun a U g mk q => by
  obtain ⟨q0, q1, q2, q3, q4, q5⟩ := q
  exact ⟨q0, q1, q2, Kw.same (s := U) (U := U.calling g mk a) rfl q3, DX.warm (s := U) (U := U.calling g mk a) (State.WarmedH.refl U) q4, NCX.warm (s := U) (U := U.calling g mk a) (State.WarmedH.refl U) q5⟩
/-- A CONTRACT of a method with a table that catches all: it returns -/
def CtH (w : Wt) (l : Launch) (y : MethodName) (bytes : ByteArray) (maxL : Nat) (hh : List (Nat × Nat × Nat × Nat)) (fr lo mc : Nat) (as : List Value) (X : Mem) (q : Int32 → Mem → Prop) : Prop :=
  ∀ sz : Nat, vx_Met l y [Cond.codeWith y bytes maxL (some .int) hh] ({ frames := fr, cells := mc, slots := 6 * mc, locals := lo } : Room) (PNH l w sz as X) (QN w sz (fun r X' => ∃ v, r = some (.int v) ∧ q v X')) (XP w sz (fun _ _ => False)) mc (6 * mc) (AA w sz)
/-- E is caught at pc and goes on at h -/
def HCatch (own : String) (c : Code) (args : Array Value) (s : State) (pc : Nat) (E : String) (h : Nat) : Prop :=
  ∃ (pre : List ExceptionTableEntry) (x : ExceptionTableEntry) (suf : List ExceptionTableEntry) (name : String), c.exceptionTable.toList = pre ++ x :: suf ∧ (∀ z ∈ pre, covers z pc = false ∨ (z.catchType ≠ 0 ∧ ∃ nm : String, (Cond.classLink own z.catchType nm).before args s = true ∧ va_Nc E nm s)) ∧ covers x pc = true ∧ x.catchType ≠ 0 ∧ (Cond.classLink own x.catchType name).before args s = true ∧ (Cond.castable E name).before args s = true ∧ x.handlerPc = h
theorem vin0 : vp_in 0 1 := fun q => q.elim (fun h => absurd h (by decide)) (fun h => absurd h (by decide))
section VH
variable {p : Program} {l : Launch} {e : Env} {R : Room} {s : State} {m : MethodId} {args : Array Value} {below : List Frame} {meth : Method} {c : Code} {w : Wt} {cc : ByteArray} {nL : Nat} {own : String} {ret : Option FieldType} {n k : Nat} {Q : State → Prop} {pc : Nat} {ls : List (Option Value)} {st : List Value} {X : Mem}
theorem CtH_of {y : MethodName} {bytes : ByteArray} {maxL fr lo mc : Nat} {hh : List (Nat × Nat × Nat × Nat)} {as : List Value} {q : Int32 → Mem → Prop} (hy : plainName y.cls = true) (ha : as.length ≤ maxL) (hc : ∀ v ∈ as, v.category = 1) {ls : List (Option Value)} (hls : ls0 as maxL = ls) {args : Array Value} (hargs : as.toArray = args) {own : String} (hown : y.cls = own)
    (body : ∀ (p : Program) (e : Env) (s : State) (m : MethodId) (below : List Frame) (meth : Method) (c : Code), CX p s m args meth c w bytes maxL own (some .int) → c.exceptionTable.toList = tableOf hh → DX l w s.heap.size s s.heap → NCX s → V p l e ({ frames := fr, cells := mc, slots := 6 * mc, locals := lo } : Room) s m args below meth c w maxL 0 0 (XI w below s args mc q (fun _ _ => False)) 0 ls [] X) : CtH w l y bytes maxL hh fr lo mc as X q := by
  subst hls
  subst hargs
  subst hown
  intro sz
  refine vx_ofWH (cc := bytes) (maxL := maxL) (ret := some .int) (hh := hh) hy rfl ?_
  intro p e s m args below meth c s₁ B hml hv
  obtain ⟨rfl, hsz, hP, hK, hD, hN⟩ := hv
  subst hsz
  obtain ⟨L, hF, hL⟩ := LH_start (m := m) ha hc
  rw [hF]
  have ht : c.exceptionTable.toList = tableOf hh := vx_table (x := y) B (atoms_spec (ws := [Cond.codeWith y bytes maxL (some .int) hh]) B.pre _ List.mem_cons_self)
  exact body p e s m below meth c ⟨B.exec, B.bytes, hml, findClass_of_methodNamed B.named, hK, B.returns, B.notSynchronized, hK.2.2.use⟩ ht hD hN s.heap [] L hP va_S.rf hL
theorem HC_1 {hh suf : List (Nat × Nat × Nat × Nat)} {E : String} {a b h t : Nat} (ht : c.exceptionTable.toList = tableOf hh) (hs : hh = (a, b, h, t) :: suf) (hpc : a ≤ pc ∧ pc < b) (h0 : t ≠ 0) (hl : (Cond.classLink own t E).before args s = true) (hc : (Cond.castable E E).before args s = true) : HCatch own c args s pc E h := by
  subst hs
  exact ⟨[], ⟨a, b, h, t⟩, tableOf suf, E, ht, (fun z hz => nomatch hz), by simp [covers, hpc.1, hpc.2], h0, hl, hc, rfl⟩
theorem HC_2 {hh suf : List (Nat × Nat × Nat × Nat)} {E N1 : String} {r1 : Nat × Nat × Nat × Nat} {a b h t : Nat} (ht : c.exceptionTable.toList = tableOf hh) (hs : hh = r1 :: (a, b, h, t) :: suf) (h1 : r1.2.2.2 ≠ 0) (hl1 : (Cond.classLink own r1.2.2.2 N1).before args s = true) (hn1 : va_Nc E N1 s) (hpc : a ≤ pc ∧ pc < b) (h0 : t ≠ 0) (hl : (Cond.classLink own t E).before args s = true) (hc : (Cond.castable E E).before args s = true) : HCatch own c args s pc E h := by
  subst hs
  refine ⟨[⟨r1.1, r1.2.1, r1.2.2.1, r1.2.2.2⟩], ⟨a, b, h, t⟩, tableOf suf, E, ht, (fun z hz => ?_), by simp [covers, hpc.1, hpc.2], h0, hl, hc, rfl⟩
  rw [List.mem_singleton] at hz
  subst hz
  exact Or.inr ⟨h1, N1, hl1, hn1⟩
theorem HC_3 {hh suf : List (Nat × Nat × Nat × Nat)} {E N1 N2 : String} {r1 r2 : Nat × Nat × Nat × Nat} {a b h t : Nat} (ht : c.exceptionTable.toList = tableOf hh) (hs : hh = r1 :: r2 :: (a, b, h, t) :: suf) (h1 : r1.2.2.2 ≠ 0) (hl1 : (Cond.classLink own r1.2.2.2 N1).before args s = true) (hn1 : va_Nc E N1 s) (h2 : r2.2.2.2 ≠ 0) (hl2 : (Cond.classLink own r2.2.2.2 N2).before args s = true) (hn2 : va_Nc E N2 s) (hpc : a ≤ pc ∧ pc < b) (h0 : t ≠ 0) (hl : (Cond.classLink own t E).before args s = true) (hc : (Cond.castable E E).before args s = true) : HCatch own c args s pc E h := by
  subst hs
  refine ⟨[⟨r1.1, r1.2.1, r1.2.2.1, r1.2.2.2⟩, ⟨r2.1, r2.2.1, r2.2.2.1, r2.2.2.2⟩], ⟨a, b, h, t⟩, tableOf suf, E, ht, (fun z hz => ?_), by simp [covers, hpc.1, hpc.2], h0, hl, hc, rfl⟩
  rcases List.mem_cons.mp hz with q | q
  · subst q
    exact Or.inr ⟨h1, N1, hl1, hn1⟩
  · rw [List.mem_singleton] at q
    subst q
    exact Or.inr ⟨h2, N2, hl2, hn2⟩
/-- a call of an instance method that may throw; what it throws is caught -/
theorem V_hcallV {y : MethodName} {bytes : ByteArray} {maxL fr lo na idx ci p0 mc1 : Nat} {rt : Option FieldType} {fl : List (Option Nat)} {rest : List Value} {q : Int32 → Mem → Prop} {rx1 : String → Mem → Prop} (C : CX p s m args meth c w cc nL own ret) (hD : DX l w s.heap.size s s.heap) (As : List Value) (f : MI own idx y bytes maxL rt na) (f1 : Cond.methodLink own idx y ∈ TB) (hM : CtXI w l y bytes maxL rt fr lo mc1 (.ref (w.2.1 p0) :: As) X q rx1) (hd : decode cc pc = .ok (.invokevirtual idx, 3)) (hs : sh p0 = .inr (ci, fl)) (h0 : p0 < 92) (hc : (vwCl[ci]?).map (fun q => q.1) = some y.cls) (hst : st = As.reverse ++ .ref (w.2.1 p0) :: rest) (hn : As.length = na) (hW : (rest.map fun v => v.category).sum ≤ 8) (hR1 : fr + 1 ≤ R.frames) (hR2 : 8 + (maxL + 11) + lo ≤ R.locals) (hnk : n + mc1 ≤ R.cells ∧ k + 6 * mc1 ≤ R.slots)
    (kx : ∀ (E : String) (X1 : Mem), rx1 E X1 → ∃ h : Nat, HCatch own c args s pc E h ∧ ∀ q : Nat, V p l e R s m args below meth c w nL (n + mc1) (k + 6 * mc1) Q h ls [.ref q] X1)
    (kk : ∀ (v : Int32) (X1 : Mem), q v X1 → V p l e R s m args below meth c w nL (n + mc1) (k + 6 * mc1) Q (pc + 3) ls (.int v :: rest) X1) : V p l e R s m args below meth c w nL n k Q pc ls st X := by
  intro H locs L hP hS hL
  obtain ⟨⟨-, f2, f3, f4⟩, f5, f6⟩ := f
  obtain ⟨q, hq1, hq2⟩ : ∃ q, vwCl[ci]? = some q ∧ q.1 = y.cls := by
    cases e : vwCl[ci]? with
    | none => rw [e] at hc; cases hc
    | some q => rw [e] at hc; exact ⟨q, rfl, Option.some.inj hc⟩
  have hrecv := va_recv C.2.2.2.2.1.1 hP hq1 (show (wl w X)[p0]? = some (w.2.1 p0, .inr (ci, vals w X p0 fl)) by rw [wl_at h0, cel_o hs])
  rw [hq2] at hrecv
  have hts := C.2.2.2.2.2.2.2
  have hp : PreV s H y.cls (w.2.1 p0) (PNX l w H.size (.ref (w.2.1 p0) :: As) X) As := ⟨PNX.blind, hrecv, PNX_pre C.2.2.2.2.1 hD hS hP⟩
  have hW' : 2 * (F0 m pc L st).monitorRoom + (rest.map fun v => v.category).sum ≤ 8 := by
    have : (F0 m pc L st).monitorRoom = 0 := rfl
    rw [this]
    omega
  have cw : CallW R s args own y.cls idx y bytes maxL rt [Cond.code y bytes maxL rt] ({ frames := fr, cells := mc1, slots := 6 * mc1, locals := lo } : Room) mc1 (6 * mc1) na := ⟨callB_of na hts (code_good f2) rfl rfl rfl (hts _ f3) (hts _ f1) f4 ⟨hR1, hR2⟩, hts _ f5, hts _ f6⟩
  exact run_goX (vx_runV ⟨C.1, C.2.1, C.2.2.1, C.2.2.2.1, hts⟩ (hM H.size) cw hp rfl hn hL.1 hst hW' hd ⟨hnk.1, hnk.2⟩) hS hL
    (fun E X1 q ce H1 locs1 hq hP1 hS1 hce hcv hcl => by
      obtain ⟨h, ⟨pre, x, suf, name, g1, g2, g3, g4, g5, g6, g7⟩, kv⟩ := kx E X1 hq
      subst g7
      exact vx_catch C.2.2.2.1 pre x suf g1 g2 g3 g4 g5 g6 hce hcv hcl (kv q H1 locs1 L hP1 hS1 hL))
    (fun r X1 h => by
      obtain ⟨v, rfl, h⟩ := h
      exact kk v X1 h)
theorem PNH_pre {as : List Value} {H : Heap} {locs : List Loc} (hK : Kw w s) (hD : DX l w s.heap.size s s.heap) (hN : NCX s) (hS : va_S (AA w s.heap.size) s.heap H locs) (hP : va_P w.1 vwCl (wl w X) H) : ∀ U : State, U.heap = H → s.WarmedH U.vm → PNH l w H.size as X as.toArray U := fun U hU hW => ⟨rfl, by rw [hU], by rw [hU]; exact hP, hK.warm hW, by rw [hU]; exact (hD.later hS).warm hW, hN.warm hW⟩
/-- a call of a static method with a table -/
theorem V_lcallS {y : MethodName} {bytes : ByteArray} {maxL fr lo na idx mc1 : Nat} {hh : List (Nat × Nat × Nat × Nat)} {rest : List Value} {q : Int32 → Mem → Prop} (C : CX p s m args meth c w cc nL own ret) (hD : DX l w s.heap.size s s.heap) (hN : NCX s) (As : List Value) (f1 : Cond.methodLink own idx y ∈ TB) (f2 : Cond.codeWith y bytes maxL (some .int) hh ∈ TB) (f3 : Cond.initialized y.cls ∈ TB) (f4 : y.cls ≠ "java/lang/invoke/MethodHandle" ∧ y.cls ≠ "java/lang/invoke/VarHandle" ∧ (parseMethodDescriptor y.desc).map (fun d => d.parameters.length) = some na) (f5 : Cond.static y ∈ TB) (hM : CtH w l y bytes maxL hh fr lo mc1 As X q) (hd : decode cc pc = .ok (.invokestatic idx, 3)) (hst : st = As.reverse ++ rest) (hn : As.length = na) (hW : (rest.map fun v => v.category).sum ≤ 8) (hR1 : fr + 1 ≤ R.frames) (hR2 : 8 + (maxL + 11) + lo ≤ R.locals) (hnk : n + mc1 ≤ R.cells ∧ k + 6 * mc1 ≤ R.slots)
    (kk : ∀ (v : Int32) (X1 : Mem), q v X1 → V p l e R s m args below meth c w nL (n + mc1) (k + 6 * mc1) Q (pc + 3) ls (.int v :: rest) X1) : V p l e R s m args below meth c w nL n k Q pc ls st X := by
  intro H locs L hP hS hL
  have hts := C.2.2.2.2.2.2.2
  have hp : PreS s H (PNH l w H.size As X) As := ⟨PNH.blind, PNH_pre C.2.2.2.2.1 hD hN hS hP⟩
  have hW' : 2 * (F0 m pc L st).monitorRoom + (rest.map fun v => v.category).sum ≤ 8 := by
    have : (F0 m pc L st).monitorRoom = 0 := rfl
    rw [this]
    omega
  have hG : GoodIn TB (va_wsS own idx y [Cond.codeWith y bytes maxL (some .int) hh]) := by
    intro z hz
    simp only [va_wsS, List.cons_append, List.nil_append, List.mem_cons, List.not_mem_nil, or_false] at hz
    rcases hz with rfl | rfl | rfl | rfl
    · exact ⟨f1, Or.inl rfl⟩
    · exact ⟨f5, Or.inl rfl⟩
    · exact ⟨f3, Or.inl rfl⟩
    · exact ⟨f2, Or.inl rfl⟩
  have cw : vx_CSW R s args own idx y bytes maxL (some .int) hh [Cond.codeWith y bytes maxL (some .int) hh] ({ frames := fr, cells := mc1, slots := 6 * mc1, locals := lo } : Room) mc1 (6 * mc1) na := vx_cwSW na hts hG rfl rfl rfl f4 ⟨hR1, hR2⟩
  exact run_goX (rx := fun _ _ => False) (vx_runSX ⟨C.1, C.2.1, C.2.2.1, C.2.2.2.1, hts⟩ (hM H.size) cw hp rfl hn hL.1 hst hW' hd ⟨hnk.1, hnk.2⟩) hS hL
    (fun E X1 q ce H1 locs1 hq _ _ _ _ _ => hq.elim)
    (fun r X1 h => by
      obtain ⟨v, rfl, h⟩ := h
      exact kk v X1 h)
theorem AA_no {b sz : Nat} (h : ∀ k, k < 92 → sz ≤ w.2.1 k) (hb : b < sz) : ¬ AA w sz b := by
  rintro (⟨k, h1, rfl⟩ | q)
  · exact absurd (h k h1) (by omega)
  · omega
theorem V_sld (C : CX p s m args meth c w cc nL own ret) {b L0 : Nat} {xs : Nat → Int32} (hX : va_X b L0 xs s s.heap) (hbl : b < s.heap.size) (hfar : ∀ k, k < 92 → s.heap.size ≤ w.2.1 k) {i : Int32} (hin : vp_in i L0) (hd : decode cc pc = .ok (.iaload, 1)) (kk : V p l e R s m args below meth c w nL n k Q (pc + 1) ls (.int (xs i.toNatClampNeg) :: st) X) : V p l e R s m args below meth c w nL n k Q pc ls (.int i :: .ref b :: st) X :=
  fun H locs L hP hS hL => va_sld C.1 C.2.1 hX hbl (AA_no hfar hbl) hS hin hd (kk H locs L hP hS hL)
theorem V_slen (C : CX p s m args meth c w cc nL own ret) {b L0 : Nat} {xs : Nat → Int32} (hX : va_X b L0 xs s s.heap) (hbl : b < s.heap.size) (hfar : ∀ k, k < 92 → s.heap.size ≤ w.2.1 k) (hd : decode cc pc = .ok (.arraylength, 1)) (kk : V p l e R s m args below meth c w nL n k Q (pc + 1) ls (.int (nI L0) :: st) X) : V p l e R s m args below meth c w nL n k Q pc ls (.ref b :: st) X :=
  fun H locs L hP hS hL => va_slen C.1 C.2.1 hX hbl (AA_no hfar hbl) hS hd (kk H locs L hP hS hL)
/-- a call of a static method that may throw; what it throws is caught -/
theorem V_hcallS {y : MethodName} {bytes : ByteArray} {maxL fr lo na idx mc1 : Nat} {rt : Option FieldType} {rest : List Value} {q : Int32 → Mem → Prop} {rx1 : String → Mem → Prop} (C : CX p s m args meth c w cc nL own ret) (hD : DX l w s.heap.size s s.heap) (As : List Value) (f : MS own idx y bytes maxL rt na) (f1 : Cond.methodLink own idx y ∈ TB) (hM : CtXI w l y bytes maxL rt fr lo mc1 As X q rx1) (hd : decode cc pc = .ok (.invokestatic idx, 3)) (hst : st = As.reverse ++ rest) (hn : As.length = na) (hW : (rest.map fun v => v.category).sum ≤ 8) (hR1 : fr + 1 ≤ R.frames) (hR2 : 8 + (maxL + 11) + lo ≤ R.locals) (hnk : n + mc1 ≤ R.cells ∧ k + 6 * mc1 ≤ R.slots)
    (kx : ∀ (E : String) (X1 : Mem), rx1 E X1 → ∃ h : Nat, HCatch own c args s pc E h ∧ ∀ q : Nat, V p l e R s m args below meth c w nL (n + mc1) (k + 6 * mc1) Q h ls [.ref q] X1)
    (kk : ∀ (v : Int32) (X1 : Mem), q v X1 → V p l e R s m args below meth c w nL (n + mc1) (k + 6 * mc1) Q (pc + 3) ls (.int v :: rest) X1) : V p l e R s m args below meth c w nL n k Q pc ls st X := by
  intro H locs L hP hS hL
  obtain ⟨⟨-, f2, f3, f4⟩, f5⟩ := f
  have hts := C.2.2.2.2.2.2.2
  have hp : PreS s H (PNX l w H.size As X) As := ⟨PNX.blind, PNX_pre C.2.2.2.2.1 hD hS hP⟩
  have hW' : 2 * (F0 m pc L st).monitorRoom + (rest.map fun v => v.category).sum ≤ 8 := by
    have : (F0 m pc L st).monitorRoom = 0 := rfl
    rw [this]
    omega
  exact run_goX (vx_runS ⟨C.1, C.2.1, C.2.2.1, C.2.2.2.1, hts⟩ (hM H.size) ⟨callB_of na hts (code_good f2) rfl rfl rfl (hts _ f3) (hts _ f1) f4 ⟨hR1, hR2⟩, hts _ f5⟩ hp rfl hn hL.1 hst hW' hd ⟨hnk.1, hnk.2⟩) hS hL
    (fun E X1 q ce H1 locs1 hq hP1 hS1 hce hcv hcl => by
      obtain ⟨h, ⟨pre, x, suf, name, g1, g2, g3, g4, g5, g6, g7⟩, kv⟩ := kx E X1 hq
      subst g7
      exact vx_catch C.2.2.2.1 pre x suf g1 g2 g3 g4 g5 g6 hce hcv hcl (kv q H1 locs1 L hP1 hS1 hL))
    (fun r X1 h => by
      obtain ⟨v, rfl, h⟩ := h
      exact kk v X1 h)
/-- A CONTRACT of a method without a table that returns -/
def CtN (w : Wt) (l : Launch) (y : MethodName) (bytes : ByteArray) (maxL : Nat) (ret : Option FieldType) (fr lo mc : Nat) (as : List Value) (X : Mem) (q : Int32 → Mem → Prop) : Prop :=
  ∀ sz : Nat, vx_Met l y [Cond.code y bytes maxL ret] ({ frames := fr, cells := mc, slots := 6 * mc, locals := lo } : Room) (PNH l w sz as X) (QN w sz (fun r X' => ∃ v, r = some (.int v) ∧ q v X')) (XP w sz (fun _ _ => False)) mc (6 * mc) (AA w sz)
theorem CtN_of {y : MethodName} {bytes : ByteArray} {maxL fr lo mc : Nat} {as : List Value} {q : Int32 → Mem → Prop} (hy : plainName y.cls = true) (ha : as.length ≤ maxL) (hc : ∀ v ∈ as, v.category = 1) {ls : List (Option Value)} (hls : ls0 as maxL = ls) {args : Array Value} (hargs : as.toArray = args) {own : String} (hown : y.cls = own)
    (body : ∀ (p : Program) (e : Env) (s : State) (m : MethodId) (below : List Frame) (meth : Method) (c : Code), CX p s m args meth c w bytes maxL own ret → DX l w s.heap.size s s.heap → NCX s → V p l e ({ frames := fr, cells := mc, slots := 6 * mc, locals := lo } : Room) s m args below meth c w maxL 0 0 (XI w below s args mc q (fun _ _ => False)) 0 ls [] X) : CtN w l y bytes maxL ret fr lo mc as X q := by
  subst hls
  subst hargs
  subst hown
  intro sz
  refine vx_ofW (cc := bytes) (maxL := maxL) (ret := ret) hy rfl ?_
  intro p e s m args below meth c s₁ B hml ht hv
  obtain ⟨rfl, hsz, hP, hK, hD, hN⟩ := hv
  subst hsz
  obtain ⟨L, hF, hL⟩ := LH_start (m := m) ha hc
  rw [hF]
  exact body p e s m below meth c ⟨B.exec, B.bytes, hml, findClass_of_methodNamed B.named, hK, B.returns, B.notSynchronized, hK.2.2.use⟩ hD hN s.heap [] L hP va_S.rf hL
/-- a call of such a static one -/
theorem V_ncallS {y : MethodName} {bytes : ByteArray} {maxL fr lo na idx mc1 : Nat} {rt : Option FieldType} {rest : List Value} {q : Int32 → Mem → Prop} (C : CX p s m args meth c w cc nL own ret) (hD : DX l w s.heap.size s s.heap) (hN : NCX s) (As : List Value) (f : MS own idx y bytes maxL rt na) (f1 : Cond.methodLink own idx y ∈ TB) (hM : CtN w l y bytes maxL rt fr lo mc1 As X q) (hd : decode cc pc = .ok (.invokestatic idx, 3)) (hst : st = As.reverse ++ rest) (hn : As.length = na) (hW : (rest.map fun v => v.category).sum ≤ 8) (hR1 : fr + 1 ≤ R.frames) (hR2 : 8 + (maxL + 11) + lo ≤ R.locals) (hnk : n + mc1 ≤ R.cells ∧ k + 6 * mc1 ≤ R.slots)
    (kk : ∀ (v : Int32) (X1 : Mem), q v X1 → V p l e R s m args below meth c w nL (n + mc1) (k + 6 * mc1) Q (pc + 3) ls (.int v :: rest) X1) : V p l e R s m args below meth c w nL n k Q pc ls st X := by
  intro H locs L hP hS hL
  obtain ⟨⟨-, f2, f3, f4⟩, f5⟩ := f
  have hts := C.2.2.2.2.2.2.2
  have hp : PreS s H (PNH l w H.size As X) As := ⟨PNH.blind, PNH_pre C.2.2.2.2.1 hD hN hS hP⟩
  have hW' : 2 * (F0 m pc L st).monitorRoom + (rest.map fun v => v.category).sum ≤ 8 := by
    have : (F0 m pc L st).monitorRoom = 0 := rfl
    rw [this]
    omega
  exact run_goX (rx := fun _ _ => False) (vx_runS ⟨C.1, C.2.1, C.2.2.1, C.2.2.2.1, hts⟩ (hM H.size) ⟨callB_of na hts (code_good f2) rfl rfl rfl (hts _ f3) (hts _ f1) f4 ⟨hR1, hR2⟩, hts _ f5⟩ hp rfl hn hL.1 hst hW' hd ⟨hnk.1, hnk.2⟩) hS hL
    (fun E X1 q ce H1 locs1 hq _ _ _ _ _ => hq.elim)
    (fun r X1 h => by
      obtain ⟨v, rfl, h⟩ := h
      exact kk v X1 h)
end VH
theorem cc_IO : Cond.castable eIO eIO ∈ TB := tb_i 322 (by decide +kernel) (by decide +kernel)
theorem cc_IS : Cond.castable eIS eIS ∈ TB := tb_i 390 (by decide +kernel) (by decide +kernel)
theorem cc_IA : Cond.castable eIA eIA ∈ TB := tb_i 425 (by decide +kernel) (by decide +kernel)
