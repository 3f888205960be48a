def xStr : List (Nat × String) := [(83, "there are as many holders as there may be"), (102, "the key can be rolled no further"), (117, "so many days are not left"), (142, "a grant has no extra to alter"), (153, "the draft is full"), (159, "the draft is empty, or no more routes can be heard"), (167, "no such route"), (173, "the route is withdrawn"), (180, "a net has no tie to itself"), (257, "no such round"), (270, "no such holder"), (272, "no such net"), (274, "no such object"), (276, "no such route, or it is withdrawn"), (278, "a number is out of range"), (285, "the value has others than its first bits"), (287, "there are as many objects as there may be")]
def KS (U : State) : Prop := ∀ q ∈ xStr, ∃ sa, vk_R "Pathwarden" q.1 q.2 sa U
/-- what a method that may throw knows all along -/
def DX (l : Launch) (w : Wt) (sz : Nat) (U : State) (H : Heap) : Prop := l.stackTraces = false ∧ KS U ∧ vx_Zq Bundle.tN "UNASSIGNED_STACK" Bundle.steD (AA w sz) U H ∧ vx_Zq Bundle.tN "SUPPRESSED_SENTINEL" Bundle.listD (AA w sz) U H
theorem DX.warm {l : Launch} {w : Wt} {sz : Nat} {s U : State} {H : Heap} (hW : s.WarmedH U.vm) (h : DX l w sz s H) : DX l w sz U H := ⟨h.1, fun q hq => (h.2.1 q hq).elim fun sa g => ⟨sa, g.warm hW⟩, vx_Zq.moved hW.alike h.2.2.1, vx_Zq.moved hW.alike h.2.2.2⟩
theorem DX.later {l : Launch} {w : Wt} {s : State} {H : Heap} {locs : List Loc} (h : DX l w s.heap.size s s.heap) (hS : va_S (AA w s.heap.size) s.heap H locs) : DX l w H.size s H := ⟨h.1, h.2.1, (h.2.2.1.kept hS.2.1).narrow (fun _ hq => AA_le hS.1 hq), (h.2.2.2.kept hS.2.1).narrow (fun _ hq => AA_le hS.1 hq)⟩
def PNX (l : Launch) (w : Wt) (sz : Nat) (as : List Value) (X : Mem) : Array Value → State → Prop := va_Pc as (fun U => U.heap.size = sz ∧ va_P w.1 vwCl (wl w X) U.heap ∧ Kw w U ∧ DX l w sz U U.heap)
theorem PNX.blind {l : Launch} {w : Wt} {sz : Nat} {as : List Value} {X : Mem} : FrameBlind (PNX l w sz as X) := fun a U g mk q => by
  obtain ⟨q0, q1, q2, q3, q4⟩ := q
  exact ⟨q0, q1, q2, Kw.same (s := U) (U := U.calling g mk a) rfl q3, DX.warm (s := U) (U := U.calling g mk a) (State.WarmedH.refl U) q4⟩
def XP (w : Wt) (sz : Nat) (rx : String → Mem → Prop) : String → State → State → Prop := fun E st t => ∃ X, rx E X ∧ va_P w.1 vwCl (wl w X) t.heap ∧ va_F (AA w sz) st t
/-- A CONTRACT of a method that returns as rp says, or throws as rx says; mc: exceptions at most -/
def CtX (w : Wt) (l : Launch) (y : MethodName) (bytes : ByteArray) (maxL : Nat) (ret : Option FieldType) (fr lo mc : Nat) (as : List Value) (X : Mem) (rp : Option Value → Mem → Prop) (rx : String → Mem → Prop) : Prop :=
  ∀ sz : Nat, vx_Met l y [Cond.code y bytes maxL ret] ({ frames := fr, cells := mc, slots := 6 * mc, locals := lo } : Room) (PNX l w sz as X) (QN w sz rp) (XP w sz rx) mc (6 * mc) (AA w sz)
section VX
variable {p : Program} {l : Launch} {e : Env} {R : Room} {s : State} {m : MethodId} {args : Array Value} {below : List Frame} {meth : Method} {c : Code} {w : Wt} {cc : ByteArray} {nL : Nat} {own : String} {ret : Option FieldType} {n k : Nat} {Q : State → Prop} {pc : Nat} {ls : List (Option Value)} {st : List Value} {X : Mem}
theorem CtX_of {y : MethodName} {bytes : ByteArray} {maxL fr lo mc : Nat} {as : List Value} {rp : Option Value → Mem → Prop} {rx : String → Mem → Prop} (hy : plainName y.cls = true) (ha : as.length ≤ maxL) (hc : ∀ v ∈ as, v.category = 1)
    (body : ∀ (p : Program) (e : Env) (s : State) (m : MethodId) (below : List Frame) (meth : Method) (c : Code), CX p s m as.toArray meth c w bytes maxL y.cls ret → (∀ x ∈ c.exceptionTable.toList, False) → DX l w s.heap.size s s.heap → V p l e ({ frames := fr, cells := mc, slots := 6 * mc, locals := lo } : Room) s m as.toArray below meth c w maxL 0 0 (vx_MQ below (QN w s.heap.size rp) (XP w s.heap.size rx) as.toArray s mc (6 * mc) (AA w s.heap.size)) 0 (ls0 as maxL) [] X) : CtX w l y bytes maxL ret fr lo mc as X rp rx := by
  intro sz
  refine vx_ofW (cc := bytes) (maxL := maxL) (ret := ret) hy rfl ?_
  intro p e s m args below meth c s₁ B hml ht hv
  obtain ⟨rfl, hsz, hP, hK, hD⟩ := hv
  subst hsz
  obtain ⟨L, hF, hL⟩ := LH_start (m := m) ha hc
  rw [hF]
  exact body p e s m below meth c ⟨B.exec, B.bytes, hml, findClass_of_methodNamed B.named, hK, B.returns, B.notSynchronized, hK.2.2.use⟩ ht hD s.heap [] L hP va_S.rf hL
theorem V_widen {n' k' : Nat} (h1 : n ≤ n') (h2 : k ≤ k') (kk : V p l e R s m args below meth c w nL n' k' Q pc ls st X) : V p l e R s m args below meth c w nL n k Q pc ls st X :=
  fun H locs L hP hS hL T hT Xs => kk H locs L hP hS hL T hT (stand_widen Xs h1 h2)
/-- it returns -/
theorem V_xret {rp : Option Value → Mem → Prop} {XC : String → State → State → Prop} {mc ms : Nat} (h1 : n ≤ mc) (h2 : k ≤ ms) (kk : V p l e R s m args below meth c w nL mc ms (MQ below (QN w s.heap.size rp) args s mc ms (AA w s.heap.size)) pc ls st X) : V p l e R s m args below meth c w nL n k (vx_MQ below (QN w s.heap.size rp) XC args s mc ms (AA w s.heap.size)) pc ls st X :=
  V_widen h1 h2 (fun H locs L hP hS hL => vx_ret (kk H locs L hP hS hL))
theorem va_P_grow {X : Mem} {H H1 : Heap} (h : va_P w.1 vwCl (wl w X) H) (hq : ∀ q : Nat, q < H.size → H1[q]? = H[q]?) : va_P w.1 vwCl (wl w X) H1 := h.kept (fun _ _ hk => hq _ (vx_lt h hk))
/-- 'throw new E("text")' -/
theorem V_throwW (C : CX p s m args meth c w cc nL "Pathwarden" ret) (ht : ∀ x ∈ c.exceptionTable.toList, False) (hD : DX l w s.heap.size s s.heap) {ik is ic mc ms : Nat} {E text : String} {Qc : Array Value → State → Outcome → State → Prop} {rx : String → Mem → Prop}
    (hw : ∀ w ∈ Cond.classLink "Pathwarden" ik E :: Cond.initialized E :: vx_atS "Pathwarden" ic E nmX, w ∈ TB ∧ vx_ot w = true) (hs : (is, text) ∈ xStr) (hfit : Bundle.fit E = true)
    (d0 : decode cc pc = .ok (.new ik, 3)) (d3 : decode cc (pc + 3) = .ok (.dup, 1)) (d4 : decode cc (pc + 4) = .ok (.ldc_w is, 3)) (d7 : decode cc (pc + 7) = .ok (.invokespecial ic, 3)) (d10 : decode cc (pc + 10) = .ok (.athrow, 1))
    (hR : 5 < R.frames ∧ 82 ≤ R.locals) (hRc : n + 1 ≤ R.cells ∧ k + 6 ≤ R.slots) (hc : n + 1 ≤ mc ∧ k + 6 ≤ ms) (hq : rx E X) :
    V p l e R s m args below meth c w nL n k (vx_MQ below Qc (XP w s.heap.size rx) args s mc ms (AA w s.heap.size)) pc ls [] X := by
  intro H locs L hP hS hL
  obtain ⟨sa, hsa⟩ := hD.2.1 _ hs
  have hts := C.2.2.2.2.2.2.2
  exact vx_throwSW (names := nmX) (A := AA w s.heap.size) C.1 C.2.1 hD.1 C.2.2.2.1 hfit (by decide) (hts _ (hw _ List.mem_cons_self).1) (hts _ (hw _ (List.mem_cons_of_mem _ List.mem_cons_self)).1) hsa (fun v hv => hts _ (hw _ (List.mem_cons_of_mem _ (List.mem_cons_of_mem _ hv))).1) (fun v hv => (hw v hv).2)
    hD.2.2.1 hD.2.2.2 hS (hL.1.trans C.2.2.1.symm) d0 d3 d4 d7 d10 (fun x hx => (ht x hx).elim) hR.1 (by exact hR.2) hRc.1 hRc.2 C.2.2.2.2.2.2.1
    (fun t _ h1 h2 => ⟨X, hq, va_P_grow hP h2, ⟨Nat.le_trans hS.1 h1, fun q g1 g2 => (h2 q (Nat.lt_of_lt_of_le g1 hS.1)).trans (hS.2.1 q g1 g2)⟩⟩) hS.2.2 hc.1 hc.2
theorem V_throwS (C : CX p s m args meth c w cc nL "Pathwarden" ret) (ht : ∀ x ∈ c.exceptionTable.toList, False) (hD : DX l w s.heap.size s s.heap) {ik is ic mc ms : Nat} {E text : String} {Qc : Array Value → State → Outcome → State → Prop} {rx : String → Mem → Prop}
    (hw : ∀ w ∈ Cond.classLink "Pathwarden" ik E :: Cond.initialized E :: vx_atS "Pathwarden" ic E nmX, w ∈ TB ∧ vx_ot w = true) (hs : (is, text) ∈ xStr) (hfit : Bundle.fit E = true)
    (d0 : decode cc pc = .ok (.new ik, 3)) (d3 : decode cc (pc + 3) = .ok (.dup, 1)) (d4 : decode cc (pc + 4) = .ok (.ldc is, 2)) (d6 : decode cc (pc + 6) = .ok (.invokespecial ic, 3)) (d9 : decode cc (pc + 9) = .ok (.athrow, 1))
    (hR : 5 < R.frames ∧ 82 ≤ R.locals) (hRc : n + 1 ≤ R.cells ∧ k + 6 ≤ R.slots) (hc : n + 1 ≤ mc ∧ k + 6 ≤ ms) (hq : rx E X) :
    V p l e R s m args below meth c w nL n k (vx_MQ below Qc (XP w s.heap.size rx) args s mc ms (AA w s.heap.size)) pc ls [] X := by
  intro H locs L hP hS hL
  obtain ⟨sa, hsa⟩ := hD.2.1 _ hs
  have hts := C.2.2.2.2.2.2.2
  exact vx_throwS (names := nmX) (A := AA w s.heap.size) C.1 C.2.1 hD.1 C.2.2.2.1 hfit (by decide) (hts _ (hw _ List.mem_cons_self).1) (hts _ (hw _ (List.mem_cons_of_mem _ List.mem_cons_self)).1) hsa (fun v hv => hts _ (hw _ (List.mem_cons_of_mem _ (List.mem_cons_of_mem _ hv))).1) (fun v hv => (hw v hv).2)
    hD.2.2.1 hD.2.2.2 hS (hL.1.trans C.2.2.1.symm) d0 d3 d4 d6 d9 (fun x hx => (ht x hx).elim) hR.1 (by exact hR.2) hRc.1 hRc.2 C.2.2.2.2.2.2.1
    (fun t _ h1 h2 => ⟨X, hq, va_P_grow hP h2, ⟨Nat.le_trans hS.1 h1, fun q g1 g2 => (h2 q (Nat.lt_of_lt_of_le g1 hS.1)).trans (hS.2.1 q g1 g2)⟩⟩) hS.2.2 hc.1 hc.2
theorem run_goX {a : Array Value} {H : Heap} {locs : List Loc} {L : Array Slot} {st0 rest : List Value} {mc ms : Nat} {rp : Option Value → Mem → Prop} {rx : String → Mem → Prop} (hr : vx_Run p l e R s m args below meth c H locs n k mc ms (F0 m pc L st0) rest (QN w H.size rp a) (XP w H.size rx) (AA w H.size)) (hS : va_S (AA w s.heap.size) s.heap H locs) (hL : LH L nL ls)
    (kx : ∀ (E : String) (X1 : Mem) (q : Addr) (ce : Cell) (H1 : Heap) (locs1 : List Loc), rx E X1 → va_P w.1 vwCl (wl w X1) H1 → va_S (AA w s.heap.size) s.heap H1 locs1 → H1[q]? = some ce → ce.vm = .none → s.vm.findClass E = some ce.cls → vx_W p l e R s m args below meth c H1 locs1 (n + mc) (k + ms) Q (F0 m pc L rest) q)
    (kk : ∀ (r : Option Value) (X1 : Mem), rp r X1 → V p l e R s m args below meth c w nL (n + mc) (k + ms) Q (pc + 3) ls (r.toList ++ rest) X1) : W p l e R s m args below meth c H locs n k Q (F0 m pc L st0) := by
  intro T hT Xs
  have hA : ∀ q, AA w H.size q → AA w s.heap.size q := fun q hq => AA_le hS.1 hq
  have hS1 : ∀ (st₀ t T' : State) (Lc : List Loc), st₀.heap = H → T'.heap = t.heap → (∀ q ∈ Lc, AA w H.size q.base) → va_F (AA w H.size) st₀ t → va_S (AA w s.heap.size) s.heap T'.heap (locs ++ Lc) := by
    intro st₀ t T' Lc h0 e1 hLc hF
    obtain ⟨hz, hk⟩ := hF
    rw [h0] at hz hk
    exact ⟨Nat.le_trans hS.1 (by rw [e1]; exact hz), fun q h1 h2 => by rw [e1, hk q (Nat.lt_of_lt_of_le h1 hS.1) (fun z => h2 (hA q z))]; exact hS.2.1 q h1 h2, fun q hq => by
      rcases List.mem_append.mp hq with h | h
      · exact hS.2.2 q h
      · exact hA _ (hLc q h)⟩
  rcases hr T hT Xs with ⟨v, st₀, t, T', Lc, h0, X', hLc, e1, e2, ⟨r, X1, hv, hp, hP1, hF⟩, stp⟩ | ⟨q, st₀, t, T', Lc, E, ce, h0, X', hLc, e1, e2, ⟨X1, hp, hP1, hF⟩, hce, hcv, hcl, stp⟩
  · cases hv
    obtain ⟨t2, a1, b1⟩ := kk v X1 hp T'.heap (locs ++ Lc) L (by rw [e1]; exact hP1) (hS1 st₀ t T' Lc h0 e1 hLc hF) hL T' rfl X'
    exact ⟨t2, stp t2 a1, b1⟩
  · obtain ⟨t2, a1, b1⟩ := kx E X1 q ce T'.heap (locs ++ Lc) hp (by rw [e1]; exact hP1) (hS1 st₀ t T' Lc h0 e1 hLc hF) (by rw [e1]; exact hce) hcv hcl T' rfl X'
    exact ⟨t2, stp.trans a1, b1⟩
theorem PNX_pre {as : List Value} {H : Heap} {locs : List Loc} (hK : Kw w s) (hD : DX l w s.heap.size s s.heap) (hS : va_S (AA w s.heap.size) s.heap H locs) (hP : va_P w.1 vwCl (wl w X) H) : ∀ U : State, U.heap = H → s.WarmedH U.vm → PNX l w H.size as X as.toArray U := fun U hU hW => ⟨rfl, by rw [hU], by rw [hU]; exact hP, hK.warm hW, by rw [hU]; exact (hD.later hS).warm hW⟩
/-- a call of a static method that may throw; what it throws goes on -/
theorem V_xcallS {y : MethodName} {bytes : ByteArray} {maxL fr lo na idx mc1 mc ms : Nat} {rt : Option FieldType} {As rest : List Value} {rp : Option Value → Mem → Prop} {rx1 rx : String → Mem → Prop} {Qc : Array Value → State → Outcome → State → Prop} (C : CX p s m args meth c w cc nL own ret) (ht : ∀ x ∈ c.exceptionTable.toList, False) (hD : DX l w s.heap.size s s.heap) (f : MS own idx y bytes maxL rt na ∧ Cond.methodLink own idx y ∈ TB) (hM : CtX w l y bytes maxL rt fr lo mc1 As X rp rx1) (hd : decode cc pc = .ok (.invokestatic idx, 3)) (hst : st = As.reverse ++ rest) (hn : As.length = na) (hW : (rest.map fun v => v.category).sum ≤ 8) (hR : fr + 1 ≤ R.frames ∧ 8 + (maxL + 11) + lo ≤ R.locals) (hnk : n + mc1 ≤ R.cells ∧ k + 6 * mc1 ≤ R.slots) (hmc : n + mc1 ≤ mc ∧ k + 6 * mc1 ≤ ms) (hx : ∀ E X1, rx1 E X1 → rx E X1)
    (kk : ∀ (r : Option Value) (X1 : Mem), rp r X1 → V p l e R s m args below meth c w nL (n + mc1) (k + 6 * mc1) (vx_MQ below Qc (XP w s.heap.size rx) args s mc ms (AA w s.heap.size)) (pc + 3) ls (r.toList ++ rest) X1) : V p l e R s m args below meth c w nL n k (vx_MQ below Qc (XP w s.heap.size rx) args s mc ms (AA w s.heap.size)) pc ls st X := by
  intro H locs L hP hS hL
  obtain ⟨⟨⟨-, f2, f3, f4⟩, f5⟩, f1⟩ := f
  have hts := C.2.2.2.2.2.2.2
  have hp : PreS s H (PNX l w H.size As X) As := ⟨PNX.blind, PNX_pre C.2.2.2.2.1 hD hS hP⟩
  have hW' : 2 * (F0 m pc L st).monitorRoom + (rest.map fun v => v.category).sum ≤ 8 := by
    have : (F0 m pc L st).monitorRoom = 0 := rfl
    rw [this]
    omega
  exact run_goX (vx_runS ⟨C.1, C.2.1, C.2.2.1, C.2.2.2.1, hts⟩ (hM H.size) ⟨callB_of na hts (code_good f2) rfl rfl rfl (hts _ f3) (hts _ f1) f4 hR, hts _ f5⟩ hp rfl hn hL.1 hst hW' hd ⟨hnk.1, hnk.2⟩) hS hL
    (fun E X1 q ce H1 locs1 hq hP1 hS1 hce hcv hcl => vx_out (fun x hx => (ht x hx).elim) C.2.2.2.2.2.2.1 hce hcv hcl (fun t h1 _ => ⟨X1, hx E X1 hq, by rw [h1]; exact hP1, hS1.F h1⟩) hS1.2.2 hmc.1 hmc.2) kk
end VX
