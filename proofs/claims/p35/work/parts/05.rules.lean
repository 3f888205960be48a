/-- what a walk knows all along -/
def CX (p : Program) (s : State) (m : MethodId) (args : Array Value) (meth : Method) (c : Code) (w : Wt) (cc : ByteArray) (nL : Nat) (own : String) (ret : Option FieldType) : Prop :=
  p.tables.exec = Jvm.exec ∧ c.code = cc ∧ c.maxLocals = nL ∧ s.vm.findClass own = some m.cls ∧ Kw w s ∧ meth.sig.returnType = ret ∧ meth.locks = false ∧ (∀ w ∈ TB, w.before args s = true)
/-- from pc on, with these locals, this stack and this memory, the machine comes to Q -/
def V (p : Program) (l : Launch) (e : Env) (R : Room) (s : State) (m : MethodId) (args : Array Value) (below : List Frame) (meth : Method) (c : Code) (w : Wt) (nL n k : Nat) (Q : State → Prop) (pc : Nat) (ls : List (Option Value)) (st : List Value) (X : Mem) : Prop :=
  ∀ (H : Heap) (locs : List Loc) (L : Array Slot), va_P w.1 vwCl (wl w X) H → va_S (AA w s.heap.size) s.heap H locs → LH L nL ls → W p l e R s m args below meth c H locs n k Q (F0 m pc L st)
section VR
variable {p : Program} {l : Launch} {e : Env} {R : Room} {s : State} {m : MethodId} {args : Array Value} {below : List Frame} {meth : Method} {c : Code} {w : Wt} {cc : ByteArray} {nL : Nat} {own : String} {ret : Option FieldType} {n k : Nat} {Q : State → Prop} {pc : Nat} {ls : List (Option Value)} {st : List Value} {X : Mem}
theorem V_iload (C : CX p s m args meth c w cc nL own ret) {i : Nat} {x : Int32} (hd : decode cc pc = .ok (.iload i, 2)) (hl : ls[i]? = some (some (.int x))) (kk : V p l e R s m args below meth c w nL n k Q (pc + 2) ls (.int x :: st) X) : V p l e R s m args below meth c w nL n k Q pc ls st X :=
  fun H locs L hP hS hL => lv_iload C.1 C.2.1 hd (hL.2.2 i _ hl).1 (kk H locs L hP hS hL)
theorem V_iload_n (C : CX p s m args meth c w cc nL own ret) {i : Fin 4} {x : Int32} (hd : decode cc pc = .ok (.iload_n i, 1)) (hl : ls[(i : Nat)]? = some (some (.int x))) (kk : V p l e R s m args below meth c w nL n k Q (pc + 1) ls (.int x :: st) X) : V p l e R s m args below meth c w nL n k Q pc ls st X :=
  fun H locs L hP hS hL => lv_iload_n C.1 C.2.1 hd rfl (hL.2.2 _ _ hl).1 (kk H locs L hP hS hL)
theorem V_aload (C : CX p s m args meth c w cc nL own ret) {i : Nat} {x : Nat} (hd : decode cc pc = .ok (.aload i, 2)) (hl : ls[i]? = some (some (.ref x))) (kk : V p l e R s m args below meth c w nL n k Q (pc + 2) ls (.ref x :: st) X) : V p l e R s m args below meth c w nL n k Q pc ls st X :=
  fun H locs L hP hS hL => lv_aload C.1 C.2.1 hd (hL.2.2 i _ hl).1 (kk H locs L hP hS hL)
theorem V_aload_n (C : CX p s m args meth c w cc nL own ret) {i : Fin 4} {x : Nat} (hd : decode cc pc = .ok (.aload_n i, 1)) (hl : ls[(i : Nat)]? = some (some (.ref x))) (kk : V p l e R s m args below meth c w nL n k Q (pc + 1) ls (.ref x :: st) X) : V p l e R s m args below meth c w nL n k Q pc ls st X :=
  fun H locs L hP hS hL => lv_aload_n C.1 C.2.1 hd rfl (hL.2.2 _ _ hl).1 (kk H locs L hP hS hL)
theorem V_istore (C : CX p s m args meth c w cc nL own ret) {i : Nat} {x : Int32} {ls1 : List (Option Value)} (hd : decode cc pc = .ok (.istore i, 2)) (hn : i < nL) (hl : ls.set i (some (.int x)) = ls1) (kk : V p l e R s m args below meth c w nL n k Q (pc + 2) ls1 st X) : V p l e R s m args below meth c w nL n k Q pc ls (.int x :: st) X :=
  fun H locs L hP hS hL => lv_istore C.1 C.2.1 hd hL.has hn rfl (fun L1 h1 => kk H locs L1 hP hS (hl ▸ hL.put rfl h1))
theorem V_istore_n (C : CX p s m args meth c w cc nL own ret) {i : Fin 4} {x : Int32} {ls1 : List (Option Value)} (hd : decode cc pc = .ok (.istore_n i, 1)) (hn : (i : Nat) < nL) (hl : ls.set (i : Nat) (some (.int x)) = ls1) (kk : V p l e R s m args below meth c w nL n k Q (pc + 1) ls1 st X) : V p l e R s m args below meth c w nL n k Q pc ls (.int x :: st) X :=
  fun H locs L hP hS hL => lv_istore_n C.1 C.2.1 hd rfl hL.has hn rfl (fun L1 h1 => kk H locs L1 hP hS (hl ▸ hL.put rfl h1))
theorem V_astore (C : CX p s m args meth c w cc nL own ret) {i : Nat} {x : Nat} {ls1 : List (Option Value)} (hd : decode cc pc = .ok (.astore i, 2)) (hn : i < nL) (hl : ls.set i (some (.ref x)) = ls1) (kk : V p l e R s m args below meth c w nL n k Q (pc + 2) ls1 st X) : V p l e R s m args below meth c w nL n k Q pc ls (.ref x :: st) X :=
  fun H locs L hP hS hL => lv_astore C.1 C.2.1 hd hL.has hn rfl (fun L1 h1 => kk H locs L1 hP hS (hl ▸ hL.put rfl h1))
theorem V_astore_n (C : CX p s m args meth c w cc nL own ret) {i : Fin 4} {x : Nat} {ls1 : List (Option Value)} (hd : decode cc pc = .ok (.astore_n i, 1)) (hn : (i : Nat) < nL) (hl : ls.set (i : Nat) (some (.ref x)) = ls1) (kk : V p l e R s m args below meth c w nL n k Q (pc + 1) ls1 st X) : V p l e R s m args below meth c w nL n k Q pc ls (.ref x :: st) X :=
  fun H locs L hP hS hL => lv_astore_n C.1 C.2.1 hd rfl hL.has hn rfl (fun L1 h1 => kk H locs L1 hP hS (hl ▸ hL.put rfl h1))
theorem V_iinc (C : CX p s m args meth c w cc nL own ret) {i : Nat} {d : Int} {x v : Int32} {ls1 : List (Option Value)} (hd : decode cc pc = .ok (.iinc i d, 3)) (hx : ls[i]? = some (some (.int x))) (hv : x + Int32.ofInt d = v) (hn : i < nL) (hl : ls.set i (some (.int v)) = ls1) (kk : V p l e R s m args below meth c w nL n k Q (pc + 3) ls1 st X) : V p l e R s m args below meth c w nL n k Q pc ls st X := by
  intro H locs L hP hS hL
  obtain ⟨j, hj⟩ := List.getElem?_of_mem (lpairs_mem.mpr hx)
  exact lv_iinc C.1 C.2.1 hd hL.has hj hv hn rfl (fun L1 h1 => kk H locs L1 hP hS (hl ▸ hL.put rfl h1))
theorem V_iconst (C : CX p s m args meth c w cc nL own ret) {a : Int} {v : Int32} (hd : decode cc pc = .ok (.iconst a, 1)) (hv : Int32.ofInt a = v) (kk : V p l e R s m args below meth c w nL n k Q (pc + 1) ls (.int v :: st) X) : V p l e R s m args below meth c w nL n k Q pc ls st X :=
  fun H locs L hP hS hL => lv_iconst C.1 C.2.1 hd hv (kk H locs L hP hS hL)
theorem V_bipush (C : CX p s m args meth c w cc nL own ret) {a : Int} {v : Int32} (hd : decode cc pc = .ok (.bipush a, 2)) (hv : (Int8.ofInt a).toInt32 = v) (kk : V p l e R s m args below meth c w nL n k Q (pc + 2) ls (.int v :: st) X) : V p l e R s m args below meth c w nL n k Q pc ls st X :=
  fun H locs L hP hS hL => lv_bipush C.1 C.2.1 hd hv (kk H locs L hP hS hL)
theorem V_sipush (C : CX p s m args meth c w cc nL own ret) {a : Int} {v : Int32} (hd : decode cc pc = .ok (.sipush a, 3)) (hv : (Int16.ofInt a).toInt32 = v) (kk : V p l e R s m args below meth c w nL n k Q (pc + 3) ls (.int v :: st) X) : V p l e R s m args below meth c w nL n k Q pc ls st X :=
  fun H locs L hP hS hL => lv_sipush C.1 C.2.1 hd hv (kk H locs L hP hS hL)
theorem V_ldc (C : CX p s m args meth c w cc nL own ret) {i : Nat} {v : Int32} (hk : Cond.constant own i v ∈ TB) (hd : decode cc pc = .ok (.ldc i, 2)) (kk : V p l e R s m args below meth c w nL n k Q (pc + 2) ls (.int v :: st) X) : V p l e R s m args below meth c w nL n k Q pc ls st X :=
  fun H locs L hP hS hL => lv_ldc C.1 C.2.1 C.2.2.2.1 (C.2.2.2.2.2.2.2 _ hk) hd (kk H locs L hP hS hL)
theorem V_ldcw (C : CX p s m args meth c w cc nL own ret) {i : Nat} {v : Int32} (hk : Cond.constant own i v ∈ TB) (hd : decode cc pc = .ok (.ldc_w i, 3)) (kk : V p l e R s m args below meth c w nL n k Q (pc + 3) ls (.int v :: st) X) : V p l e R s m args below meth c w nL n k Q pc ls st X :=
  fun H locs L hP hS hL => lv_ldcw C.1 C.2.1 C.2.2.2.1 (C.2.2.2.2.2.2.2 _ hk) hd (kk H locs L hP hS hL)
theorem V_iadd (C : CX p s m args meth c w cc nL own ret) {x y : Int32} (hd : decode cc pc = .ok (.iadd, 1)) (kk : V p l e R s m args below meth c w nL n k Q (pc + 1) ls (.int (x + y) :: st) X) : V p l e R s m args below meth c w nL n k Q pc ls (.int y :: .int x :: st) X :=
  fun H locs L hP hS hL => lv_iadd C.1 C.2.1 hd (kk H locs L hP hS hL)
theorem V_isub (C : CX p s m args meth c w cc nL own ret) {x y : Int32} (hd : decode cc pc = .ok (.isub, 1)) (kk : V p l e R s m args below meth c w nL n k Q (pc + 1) ls (.int (x - y) :: st) X) : V p l e R s m args below meth c w nL n k Q pc ls (.int y :: .int x :: st) X :=
  fun H locs L hP hS hL => lv_isub C.1 C.2.1 hd (kk H locs L hP hS hL)
theorem V_imul (C : CX p s m args meth c w cc nL own ret) {x y : Int32} (hd : decode cc pc = .ok (.imul, 1)) (kk : V p l e R s m args below meth c w nL n k Q (pc + 1) ls (.int (x * y) :: st) X) : V p l e R s m args below meth c w nL n k Q pc ls (.int y :: .int x :: st) X :=
  fun H locs L hP hS hL => lv_imul C.1 C.2.1 hd (kk H locs L hP hS hL)
theorem V_iand (C : CX p s m args meth c w cc nL own ret) {x y : Int32} (hd : decode cc pc = .ok (.iand, 1)) (kk : V p l e R s m args below meth c w nL n k Q (pc + 1) ls (.int (x &&& y) :: st) X) : V p l e R s m args below meth c w nL n k Q pc ls (.int y :: .int x :: st) X :=
  fun H locs L hP hS hL => lv_iand C.1 C.2.1 hd (kk H locs L hP hS hL)
theorem V_ior (C : CX p s m args meth c w cc nL own ret) {x y : Int32} (hd : decode cc pc = .ok (.ior, 1)) (kk : V p l e R s m args below meth c w nL n k Q (pc + 1) ls (.int (x ||| y) :: st) X) : V p l e R s m args below meth c w nL n k Q pc ls (.int y :: .int x :: st) X :=
  fun H locs L hP hS hL => lv_ior C.1 C.2.1 hd (kk H locs L hP hS hL)
theorem V_ixor (C : CX p s m args meth c w cc nL own ret) {x y : Int32} (hd : decode cc pc = .ok (.ixor, 1)) (kk : V p l e R s m args below meth c w nL n k Q (pc + 1) ls (.int (x ^^^ y) :: st) X) : V p l e R s m args below meth c w nL n k Q pc ls (.int y :: .int x :: st) X :=
  fun H locs L hP hS hL => lv_ixor C.1 C.2.1 hd (kk H locs L hP hS hL)
theorem V_ishl (C : CX p s m args meth c w cc nL own ret) {x y : Int32} (hd : decode cc pc = .ok (.ishl, 1)) (kk : V p l e R s m args below meth c w nL n k Q (pc + 1) ls (.int (x <<< (y &&& 31)) :: st) X) : V p l e R s m args below meth c w nL n k Q pc ls (.int y :: .int x :: st) X :=
  fun H locs L hP hS hL => lv_ishl C.1 C.2.1 hd (kk H locs L hP hS hL)
theorem V_ishr (C : CX p s m args meth c w cc nL own ret) {x y : Int32} (hd : decode cc pc = .ok (.ishr, 1)) (kk : V p l e R s m args below meth c w nL n k Q (pc + 1) ls (.int (x >>> (y &&& 31)) :: st) X) : V p l e R s m args below meth c w nL n k Q pc ls (.int y :: .int x :: st) X :=
  fun H locs L hP hS hL => lv_ishr C.1 C.2.1 hd (kk H locs L hP hS hL)
theorem V_iushr (C : CX p s m args meth c w cc nL own ret) {x y : Int32} (hd : decode cc pc = .ok (.iushr, 1)) (kk : V p l e R s m args below meth c w nL n k Q (pc + 1) ls (.int (x.toUInt32 >>> (y.toUInt32 &&& Int32.toUInt32 31)).toInt32 :: st) X) : V p l e R s m args below meth c w nL n k Q pc ls (.int y :: .int x :: st) X :=
  fun H locs L hP hS hL => lv_iushr C.1 C.2.1 hd rfl (kk H locs L hP hS hL)
theorem V_irem (C : CX p s m args meth c w cc nL own ret) {x y : Int32} (hd : decode cc pc = .ok (.irem, 1)) (hne : ¬ y = 0) (kk : V p l e R s m args below meth c w nL n k Q (pc + 1) ls (.int (x - x / y * y) :: st) X) : V p l e R s m args below meth c w nL n k Q pc ls (.int y :: .int x :: st) X :=
  fun H locs L hP hS hL => lv_irem C.1 C.2.1 hd hne (kk H locs L hP hS hL)
theorem V_idiv (C : CX p s m args meth c w cc nL own ret) {x y : Int32} (hd : decode cc pc = .ok (.idiv, 1)) (hne : ¬ y = 0) (kk : V p l e R s m args below meth c w nL n k Q (pc + 1) ls (.int (x / y) :: st) X) : V p l e R s m args below meth c w nL n k Q pc ls (.int y :: .int x :: st) X :=
  fun H locs L hP hS hL => lv_idiv C.1 C.2.1 hd hne (kk H locs L hP hS hL)
theorem V_topi {x : Int32} (kk : ∀ y : Int32, y = x → V p l e R s m args below meth c w nL n k Q pc ls (.int y :: st) X) : V p l e R s m args below meth c w nL n k Q pc ls (.int x :: st) X := kk x rfl
theorem V_dup (C : CX p s m args meth c w cc nL own ret) {a : Value} (hd : decode cc pc = .ok (.dup, 1)) (ha : a.category = 1) (kk : V p l e R s m args below meth c w nL n k Q (pc + 1) ls (a :: a :: st) X) : V p l e R s m args below meth c w nL n k Q pc ls (a :: st) X :=
  fun H locs L hP hS hL => lv_dup C.1 C.2.1 hd ha (kk H locs L hP hS hL)
theorem V_pop (C : CX p s m args meth c w cc nL own ret) {a : Value} (hd : decode cc pc = .ok (.pop, 1)) (ha : a.category = 1) (kk : V p l e R s m args below meth c w nL n k Q (pc + 1) ls st X) : V p l e R s m args below meth c w nL n k Q pc ls (a :: st) X :=
  fun H locs L hP hS hL => lv_pop C.1 C.2.1 hd ha (kk H locs L hP hS hL)
theorem V_dup2 (C : CX p s m args meth c w cc nL own ret) {a b : Value} (hd : decode cc pc = .ok (.dup2, 1)) (ha : a.category = 1) (hb : b.category = 1) (kk : V p l e R s m args below meth c w nL n k Q (pc + 1) ls (a :: b :: a :: b :: st) X) : V p l e R s m args below meth c w nL n k Q pc ls (a :: b :: st) X :=
  fun H locs L hP hS hL => lv_dup2_11 C.1 C.2.1 hd ha hb (kk H locs L hP hS hL)
theorem V_goto (C : CX p s m args meth c w cc nL own ret) {off : Int} {tgt : Nat} (hd : decode cc pc = .ok (.goto off, 3)) (ht : (pc : Int) + off = (tgt : Int)) (kk : V p l e R s m args below meth c w nL n k Q tgt ls st X) : V p l e R s m args below meth c w nL n k Q pc ls st X :=
  fun H locs L hP hS hL => lv_goto C.1 C.2.1 hd ht (kk H locs L hP hS hL)
theorem V_icmp_eq (C : CX p s m args meth c w cc nL own ret) {x y : Int32} {off : Int} {tgt : Nat} (hd : decode cc pc = .ok (.if_icmp .eq off, 3)) (ht : (pc : Int) + off = (tgt : Int)) (kt : x = y → V p l e R s m args below meth c w nL n k Q tgt ls st X) (kf : ¬ x = y → V p l e R s m args below meth c w nL n k Q (pc + 3) ls st X) : V p l e R s m args below meth c w nL n k Q pc ls (.int y :: .int x :: st) X :=
  fun H locs L hP hS hL => lv_icmp_eq C.1 C.2.1 hd ht (fun q => kt q H locs L hP hS hL) (fun q => kf q H locs L hP hS hL)
theorem V_if_eq (C : CX p s m args meth c w cc nL own ret) {x : Int32} {off : Int} {tgt : Nat} (hd : decode cc pc = .ok (.ifCond .eq off, 3)) (ht : (pc : Int) + off = (tgt : Int)) (kt : x = 0 → V p l e R s m args below meth c w nL n k Q tgt ls st X) (kf : ¬ x = 0 → V p l e R s m args below meth c w nL n k Q (pc + 3) ls st X) : V p l e R s m args below meth c w nL n k Q pc ls (.int x :: st) X :=
  fun H locs L hP hS hL => lv_if_eq C.1 C.2.1 hd ht (fun q => kt q H locs L hP hS hL) (fun q => kf q H locs L hP hS hL)
theorem V_icmp_ne (C : CX p s m args meth c w cc nL own ret) {x y : Int32} {off : Int} {tgt : Nat} (hd : decode cc pc = .ok (.if_icmp .ne off, 3)) (ht : (pc : Int) + off = (tgt : Int)) (kt : ¬ x = y → V p l e R s m args below meth c w nL n k Q tgt ls st X) (kf : x = y → V p l e R s m args below meth c w nL n k Q (pc + 3) ls st X) : V p l e R s m args below meth c w nL n k Q pc ls (.int y :: .int x :: st) X :=
  fun H locs L hP hS hL => lv_icmp_ne C.1 C.2.1 hd ht (fun q => kt q H locs L hP hS hL) (fun q => kf q H locs L hP hS hL)
theorem V_if_ne (C : CX p s m args meth c w cc nL own ret) {x : Int32} {off : Int} {tgt : Nat} (hd : decode cc pc = .ok (.ifCond .ne off, 3)) (ht : (pc : Int) + off = (tgt : Int)) (kt : ¬ x = 0 → V p l e R s m args below meth c w nL n k Q tgt ls st X) (kf : x = 0 → V p l e R s m args below meth c w nL n k Q (pc + 3) ls st X) : V p l e R s m args below meth c w nL n k Q pc ls (.int x :: st) X :=
  fun H locs L hP hS hL => lv_if_ne C.1 C.2.1 hd ht (fun q => kt q H locs L hP hS hL) (fun q => kf q H locs L hP hS hL)
theorem V_icmp_lt (C : CX p s m args meth c w cc nL own ret) {x y : Int32} {off : Int} {tgt : Nat} (hd : decode cc pc = .ok (.if_icmp .lt off, 3)) (ht : (pc : Int) + off = (tgt : Int)) (kt : x < y → V p l e R s m args below meth c w nL n k Q tgt ls st X) (kf : ¬ x < y → V p l e R s m args below meth c w nL n k Q (pc + 3) ls st X) : V p l e R s m args below meth c w nL n k Q pc ls (.int y :: .int x :: st) X :=
  fun H locs L hP hS hL => lv_icmp_lt C.1 C.2.1 hd ht (fun q => kt q H locs L hP hS hL) (fun q => kf q H locs L hP hS hL)
theorem V_if_lt (C : CX p s m args meth c w cc nL own ret) {x : Int32} {off : Int} {tgt : Nat} (hd : decode cc pc = .ok (.ifCond .lt off, 3)) (ht : (pc : Int) + off = (tgt : Int)) (kt : x < 0 → V p l e R s m args below meth c w nL n k Q tgt ls st X) (kf : ¬ x < 0 → V p l e R s m args below meth c w nL n k Q (pc + 3) ls st X) : V p l e R s m args below meth c w nL n k Q pc ls (.int x :: st) X :=
  fun H locs L hP hS hL => lv_if_lt C.1 C.2.1 hd ht (fun q => kt q H locs L hP hS hL) (fun q => kf q H locs L hP hS hL)
theorem V_icmp_ge (C : CX p s m args meth c w cc nL own ret) {x y : Int32} {off : Int} {tgt : Nat} (hd : decode cc pc = .ok (.if_icmp .ge off, 3)) (ht : (pc : Int) + off = (tgt : Int)) (kt : y ≤ x → V p l e R s m args below meth c w nL n k Q tgt ls st X) (kf : ¬ y ≤ x → V p l e R s m args below meth c w nL n k Q (pc + 3) ls st X) : V p l e R s m args below meth c w nL n k Q pc ls (.int y :: .int x :: st) X :=
  fun H locs L hP hS hL => lv_icmp_ge C.1 C.2.1 hd ht (fun q => kt q H locs L hP hS hL) (fun q => kf q H locs L hP hS hL)
theorem V_if_ge (C : CX p s m args meth c w cc nL own ret) {x : Int32} {off : Int} {tgt : Nat} (hd : decode cc pc = .ok (.ifCond .ge off, 3)) (ht : (pc : Int) + off = (tgt : Int)) (kt : 0 ≤ x → V p l e R s m args below meth c w nL n k Q tgt ls st X) (kf : ¬ 0 ≤ x → V p l e R s m args below meth c w nL n k Q (pc + 3) ls st X) : V p l e R s m args below meth c w nL n k Q pc ls (.int x :: st) X :=
  fun H locs L hP hS hL => lv_if_ge C.1 C.2.1 hd ht (fun q => kt q H locs L hP hS hL) (fun q => kf q H locs L hP hS hL)
theorem V_icmp_gt (C : CX p s m args meth c w cc nL own ret) {x y : Int32} {off : Int} {tgt : Nat} (hd : decode cc pc = .ok (.if_icmp .gt off, 3)) (ht : (pc : Int) + off = (tgt : Int)) (kt : y < x → V p l e R s m args below meth c w nL n k Q tgt ls st X) (kf : ¬ y < x → V p l e R s m args below meth c w nL n k Q (pc + 3) ls st X) : V p l e R s m args below meth c w nL n k Q pc ls (.int y :: .int x :: st) X :=
  fun H locs L hP hS hL => lv_icmp_gt C.1 C.2.1 hd ht (fun q => kt q H locs L hP hS hL) (fun q => kf q H locs L hP hS hL)
theorem V_if_gt (C : CX p s m args meth c w cc nL own ret) {x : Int32} {off : Int} {tgt : Nat} (hd : decode cc pc = .ok (.ifCond .gt off, 3)) (ht : (pc : Int) + off = (tgt : Int)) (kt : 0 < x → V p l e R s m args below meth c w nL n k Q tgt ls st X) (kf : ¬ 0 < x → V p l e R s m args below meth c w nL n k Q (pc + 3) ls st X) : V p l e R s m args below meth c w nL n k Q pc ls (.int x :: st) X :=
  fun H locs L hP hS hL => lv_if_gt C.1 C.2.1 hd ht (fun q => kt q H locs L hP hS hL) (fun q => kf q H locs L hP hS hL)
theorem V_icmp_le (C : CX p s m args meth c w cc nL own ret) {x y : Int32} {off : Int} {tgt : Nat} (hd : decode cc pc = .ok (.if_icmp .le off, 3)) (ht : (pc : Int) + off = (tgt : Int)) (kt : x ≤ y → V p l e R s m args below meth c w nL n k Q tgt ls st X) (kf : ¬ x ≤ y → V p l e R s m args below meth c w nL n k Q (pc + 3) ls st X) : V p l e R s m args below meth c w nL n k Q pc ls (.int y :: .int x :: st) X :=
  fun H locs L hP hS hL => lv_icmp_le C.1 C.2.1 hd ht (fun q => kt q H locs L hP hS hL) (fun q => kf q H locs L hP hS hL)
theorem V_if_le (C : CX p s m args meth c w cc nL own ret) {x : Int32} {off : Int} {tgt : Nat} (hd : decode cc pc = .ok (.ifCond .le off, 3)) (ht : (pc : Int) + off = (tgt : Int)) (kt : x ≤ 0 → V p l e R s m args below meth c w nL n k Q tgt ls st X) (kf : ¬ x ≤ 0 → V p l e R s m args below meth c w nL n k Q (pc + 3) ls st X) : V p l e R s m args below meth c w nL n k Q pc ls (.int x :: st) X :=
  fun H locs L hP hS hL => lv_if_le C.1 C.2.1 hd ht (fun q => kt q H locs L hP hS hL) (fun q => kf q H locs L hP hS hL)
/-- a field's link, its class by its number in vwCl, the field by its place -/
def FL (own : String) (idx ci k0 : Nat) : Prop := ∃ (C0 : String) (T : u_T) (N : Nat), vwCl[ci]? = some (C0, T, N) ∧ (∀ x ∈ u_ws C0 T N, x ∈ TB) ∧ k0 < N ∧ (Cond.fieldLink own idx (T k0).1 (T k0).2.1 (T k0).2.2.1 ∈ TB ∨ ∃ h, Cond.fieldLinkNest own idx (T k0).1 (T k0).2.1 (T k0).2.2.1 h ∈ TB)
/-- the same of an int field that may be written -/
def FP (own : String) (idx ci k0 : Nat) : Prop := ∃ (C0 : String) (T : u_T) (N : Nat) (ty0 : Nat → FieldType), vwCl[ci]? = some (C0, T, N) ∧ (∀ x ∈ u_ws C0 T N, x ∈ TB) ∧ k0 < N ∧ (Cond.fieldLink own idx (T k0).1 (T k0).2.1 (T k0).2.2.1 ∈ TB ∨ ∃ h, Cond.fieldLinkNest own idx (T k0).1 (T k0).2.1 (T k0).2.2.1 h ∈ TB) ∧
  (∀ k, k < N → parseFieldDescriptor (T k).2.2.1 = some (ty0 k)) ∧ (∀ a, a < N → ∀ b, b < N → a ≠ b → (T a).2.1 ≠ (T b).2.1) ∧ (T k0).2.2.2 = false ∧ parseFieldDescriptor (T k0).2.2.1 = some .int
theorem V_geti (C : CX p s m args meth c w cc nL own ret) {idx ci k0 p0 : Nat} {fl : List (Option Nat)} (f : FL own idx ci k0) (hd : decode cc pc = .ok (.getfield idx, 3)) (h0 : p0 < 92) (hs : sh p0 = .inr (ci, fl)) (hf : fl[k0]? = some (none)) (kk : V p l e R s m args below meth c w nL n k Q (pc + 3) ls (.int (X p0 k0) :: st) X) : V p l e R s m args below meth c w nL n k Q pc ls (.ref (w.2.1 p0) :: st) X := by
  intro H locs L hP hS hL
  obtain ⟨C0, T, N, h1, h2, h3, h4⟩ := f
  have he : (wl w X)[p0]? = some (w.2.1 p0, .inr (ci, vals w X p0 fl)) := by rw [wl_at h0, cel_o hs]
  rcases h4 with h4 | ⟨host, h4⟩
  · exact va_get C.1 C.2.1 C.2.2.2.2.2.2.2 h2 C.2.2.2.1 C.2.2.2.2.1.1 hP p0 he h1 k0 h3 (C.2.2.2.2.2.2.2 _ h4) (fun _ h9 => h9) (vals_at hf) hd (kk H locs L hP hS hL)
  · exact va_getN C.1 C.2.1 C.2.2.2.2.2.2.2 h2 C.2.2.2.1 C.2.2.2.2.1.1 hP p0 he h1 k0 h3 (C.2.2.2.2.2.2.2 _ h4) (fun _ h9 => h9) (vals_at hf) hd (kk H locs L hP hS hL)
theorem V_getr (C : CX p s m args meth c w cc nL own ret) {idx ci k0 p0 q : Nat} {fl : List (Option Nat)} (f : FL own idx ci k0) (hd : decode cc pc = .ok (.getfield idx, 3)) (h0 : p0 < 92) (hs : sh p0 = .inr (ci, fl)) (hf : fl[k0]? = some (some q)) (kk : V p l e R s m args below meth c w nL n k Q (pc + 3) ls (.ref (w.2.1 q) :: st) X) : V p l e R s m args below meth c w nL n k Q pc ls (.ref (w.2.1 p0) :: st) X := by
  intro H locs L hP hS hL
  obtain ⟨C0, T, N, h1, h2, h3, h4⟩ := f
  have he : (wl w X)[p0]? = some (w.2.1 p0, .inr (ci, vals w X p0 fl)) := by rw [wl_at h0, cel_o hs]
  rcases h4 with h4 | ⟨host, h4⟩
  · exact va_get C.1 C.2.1 C.2.2.2.2.2.2.2 h2 C.2.2.2.1 C.2.2.2.2.1.1 hP p0 he h1 k0 h3 (C.2.2.2.2.2.2.2 _ h4) (fun _ h9 => h9) (vals_at hf) hd (kk H locs L hP hS hL)
  · exact va_getN C.1 C.2.1 C.2.2.2.2.2.2.2 h2 C.2.2.2.1 C.2.2.2.2.1.1 hP p0 he h1 k0 h3 (C.2.2.2.2.2.2.2 _ h4) (fun _ h9 => h9) (vals_at hf) hd (kk H locs L hP hS hL)
theorem V_put (C : CX p s m args meth c w cc nL own ret) {idx ci k0 p0 : Nat} {x : Int32} {fl : List (Option Nat)} (f : FP own idx ci k0) (hd : decode cc pc = .ok (.putfield idx, 3)) (h0 : p0 < 92) (hs : sh p0 = .inr (ci, fl)) (hf : fl[k0]? = some none) (kk : V p l e R s m args below meth c w nL n k Q (pc + 3) ls st (ma X p0 (upd (X p0) k0 x))) : V p l e R s m args below meth c w nL n k Q pc ls (.int x :: .ref (w.2.1 p0) :: st) X := by
  intro H locs L hP hS hL
  obtain ⟨C0, T, N, ty0, h1, h2, h3, h4, h5, h6, h7, h8⟩ := f
  have he : (wl w X)[p0]? = some (w.2.1 p0, .inr (ci, vals w X p0 fl)) := by rw [wl_at h0, cel_o hs]
  have hl : k0 < (vals w X p0 fl).length := by
    have := (List.getElem?_eq_some_iff.mp hf).1
    simpa [vals] using this
  have e9 : (wl w X).set p0 (w.2.1 p0, .inr (ci, (vals w X p0 fl).set k0 (.int x))) = wl w (ma X p0 (upd (X p0) k0 x)) := by
    rw [vals_set hf, ← cel_o hs]
    exact wl_set h0 (fun j hj => cel_congr (ma_ne hj))
  have hD : va_D (AA w s.heap.size) (wl w X) := wl_D C.2.2.2.2.1.2.1
  rcases h4 with h4 | ⟨host, h4⟩
  · refine va_put C.1 C.2.1 C.2.2.2.2.2.2.2 h2 ty0 h5 h6 C.2.2.2.1 C.2.2.2.2.1.1 hP hD hS p0 he h1 k0 h3 (C.2.2.2.2.2.2.2 _ h4) (fun _ h9 => h9) h7 h8 rfl rfl hl hd (fun H1 locs1 hP1 _ hS1 => ?_)
    rw [e9] at hP1
    exact kk H1 locs1 L hP1 hS1 hL
  · refine va_putN C.1 C.2.1 C.2.2.2.2.2.2.2 h2 ty0 h5 h6 C.2.2.2.1 C.2.2.2.2.1.1 hP hD hS p0 he h1 k0 h3 (C.2.2.2.2.2.2.2 _ h4) (fun _ h9 => h9) h7 h8 rfl rfl hl hd (fun H1 locs1 hP1 _ hS1 => ?_)
    rw [e9] at hP1
    exact kk H1 locs1 L hP1 hS1 hL
theorem V_iaload (C : CX p s m args meth c w cc nL own ret) {p0 N : Nat} {i : Int32} (hd : decode cc pc = .ok (.iaload, 1)) (h0 : p0 < 92) (hs : sh p0 = .inl (0, N)) (hi : vp_in i N) (kk : V p l e R s m args below meth c w nL n k Q (pc + 1) ls (.int (X p0 i.toNatClampNeg) :: st) X) : V p l e R s m args below meth c w nL n k Q pc ls (.int i :: .ref (w.2.1 p0) :: st) X :=
  fun H locs L hP hS hL => va_iald C.1 C.2.1 C.2.2.2.2.1.1 hP p0 0 (by rw [wl_at h0, cel_i hs]) rfl hi hd (kk H locs L hP hS hL)
theorem V_baload (C : CX p s m args meth c w cc nL own ret) {p0 N : Nat} {i : Int32} (hd : decode cc pc = .ok (.baload, 1)) (h0 : p0 < 92) (hs : sh p0 = .inl (1, N)) (hi : vp_in i N) (kk : V p l e R s m args below meth c w nL n k Q (pc + 1) ls (.int (X p0 i.toNatClampNeg) :: st) X) : V p l e R s m args below meth c w nL n k Q pc ls (.int i :: .ref (w.2.1 p0) :: st) X :=
  fun H locs L hP hS hL => va_zald C.1 C.2.1 C.2.2.2.2.1.1 hP p0 1 (by rw [wl_at h0, cel_z hs]) rfl hi hd (kk H locs L hP hS hL)
theorem V_iastore (C : CX p s m args meth c w cc nL own ret) {p0 N : Nat} {i x : Int32} (hd : decode cc pc = .ok (.iastore, 1)) (h0 : p0 < 92) (hs : sh p0 = .inl (0, N)) (hi : vp_in i N) (kk : V p l e R s m args below meth c w nL n k Q (pc + 1) ls st (ma X p0 (upd (X p0) i.toNatClampNeg x))) : V p l e R s m args below meth c w nL n k Q pc ls (.int x :: .int i :: .ref (w.2.1 p0) :: st) X := by
  intro H locs L hP hS hL
  refine va_iast C.1 C.2.1 C.2.2.2.2.1.1 hP (wl_D C.2.2.2.2.1.2.1) hS p0 0 (by rw [wl_at h0, cel_i hs]) rfl hi hd (fun H1 locs1 hP1 _ hS1 => ?_)
  have e9 : (wl w X).set p0 (w.2.1 p0, cel w (ma X p0 (upd (X p0) i.toNatClampNeg x)) p0) = wl w (ma X p0 (upd (X p0) i.toNatClampNeg x)) := wl_set h0 (fun j hj => cel_congr (ma_ne hj))
  rw [cel_i hs, ma_eq] at e9
  rw [e9] at hP1
  exact kk H1 locs1 L hP1 hS1 hL
theorem V_bastore (C : CX p s m args meth c w cc nL own ret) {p0 N : Nat} {i x : Int32} (hd : decode cc pc = .ok (.bastore, 1)) (h0 : p0 < 92) (hs : sh p0 = .inl (1, N)) (hi : vp_in i N) (kk : V p l e R s m args below meth c w nL n k Q (pc + 1) ls st (ma X p0 (upd (X p0) i.toNatClampNeg (vp_nar .boolean x)))) : V p l e R s m args below meth c w nL n k Q pc ls (.int x :: .int i :: .ref (w.2.1 p0) :: st) X := by
  intro H locs L hP hS hL
  refine va_zast C.1 C.2.1 C.2.2.2.2.1.1 hP (wl_D C.2.2.2.2.1.2.1) hS p0 1 (by rw [wl_at h0, cel_z hs]) rfl hi hd (fun H1 locs1 hP1 _ hS1 => ?_)
  have e9 : (wl w X).set p0 (w.2.1 p0, cel w (ma X p0 (upd (X p0) i.toNatClampNeg (vp_nar .boolean x))) p0) = wl w (ma X p0 (upd (X p0) i.toNatClampNeg (vp_nar .boolean x))) := wl_set h0 (fun j hj => cel_congr (ma_ne hj))
  rw [cel_z hs, ma_eq] at e9
  rw [e9] at hP1
  exact kk H1 locs1 L hP1 hS1 hL
theorem V_aaload (C : CX p s m args meth c w cc nL own ret) {p0 N : Nat} {i : Int32} (hd : decode cc pc = .ok (.aaload, 1)) (h0 : p0 < 92) (hs : sh p0 = .inl (3, N)) (hi : vp_in i N) (kk : V p l e R s m args below meth c w nL n k Q (pc + 1) ls (.ref (w.2.1 (p0 + 1 + i.toNatClampNeg)) :: st) X) : V p l e R s m args below meth c w nL n k Q pc ls (.int i :: .ref (w.2.1 p0) :: st) X := by
  intro H locs L hP hS hL
  have hlt : i.toNatClampNeg < N := Nat.not_le.mp fun q => hi (Or.inr q)
  have hq : (wl w X)[p0]? = some (w.2.1 p0, .inl (w.2.2.2.2.2, N, .inr (.inr (.inr (.inr (fun i => some (w.2.1 (p0 + 1 + i)))))))) := by rw [wl_at h0, cel_r hs]
  exact W.aald (v := .ref (w.2.1 (p0 + 1 + i.toNatClampNeg))) (ty := .array .int) C.1 C.2.1 (hP p0 _ hq) ((C.2.2.2.2.1.1.2 3 (w.2.2.2.2.2, .array .int) rfl).1 N (fun j => va_rf (some (w.2.1 (p0 + 1 + j))))) rfl (fun q => by cases q) (by show ¬ (i < 0 ∨ (arrV _ _ _).slots.size ≤ _); rw [arrV_size]; exact hi) (by show (arrV _ _ _).slots[_]? = _; rw [arrV_read _ _ hlt]; rfl) rfl rfl hd (kk H locs L hP hS hL)
/-- a method's end: what it hands back and the memory behind it -/
def QN (w : Wt) (sz : Nat) (rp : Option Value → Mem → Prop) : Array Value → State → Outcome → State → Prop := fun _ st oc t => ∃ (r : Option Value) (X : Mem), oc = .returned r ∧ rp r X ∧ va_P w.1 vwCl (wl w X) t.heap ∧ va_F (AA w sz) st t
def PN (w : Wt) (sz : Nat) (as : List Value) (X : Mem) : Array Value → State → Prop := va_Pc as (fun U => U.heap.size = sz ∧ va_P w.1 vwCl (wl w X) U.heap ∧ Kw w U)
/-- A CONTRACT of a method that returns: with these arguments and this memory it hands back r and leaves the memory X' with rp r X' -/
def Ct (w : Wt) (l : Launch) (y : MethodName) (bytes : ByteArray) (maxL : Nat) (ret : Option FieldType) (fr lo : Nat) (as : List Value) (X : Mem) (rp : Option Value → Mem → Prop) : Prop :=
  ∀ sz : Nat, Met l y [Cond.code y bytes maxL ret] ({ frames := fr, cells := 0, slots := 0, locals := lo } : Room) (PN w sz as X) (QN w sz rp) 0 0 (AA w sz)
theorem PN.blind {w : Wt} {sz : Nat} {as : List Value} {X : Mem} : FrameBlind (PN w sz as X) := fun a U g mk q => by
  obtain ⟨q0, q1, q2, q3⟩ := q
  exact ⟨q0, q1, q2, Kw.same (s := U) (U := U.calling g mk a) rfl q3⟩
def ls0 (as : List Value) (nL : Nat) : List (Option Value) := as.map some ++ List.replicate (nL - as.length) none
theorem LH_start {as : List Value} {nL : Nat} (h : as.length ≤ nL) (hc : ∀ v ∈ as, v.category = 1) : ∃ L, entryFrame m as.toArray nL = F0 m 0 L [] ∧ LH L nL (ls0 as nL) := by
  have hsl : (lg_sl as) = as.map Slot.val := by
    unfold lg_sl
    clear h
    induction as with
    | nil => rfl
    | cons a t ih =>
      rw [List.flatMap_cons, ih (fun v hv => hc v (List.mem_cons_of_mem _ hv)), List.map_cons]
      rw [if_neg (by rw [hc a List.mem_cons_self]; decide)]
      rfl
  refine ⟨_, lg_entry_eq m as nL, ?_⟩
  obtain ⟨h1, h2, -⟩ := lv_entry as (n := nL) (by rw [hsl, List.length_map]; exact h)
  refine ⟨h1, h2, fun i v hv => ?_⟩
  have hi : i < as.length ∧ as[i]? = some v := by
    unfold ls0 at hv
    rw [List.getElem?_append, List.length_map] at hv
    by_cases q : i < as.length
    · rw [if_pos q, List.getElem?_map] at hv
      refine ⟨q, ?_⟩
      cases e : as[i]? with
      | none => rw [e] at hv; cases hv
      | some u => rw [e] at hv; cases hv; rfl
    · rw [if_neg q, List.getElem?_replicate] at hv
      split at hv <;> cases hv
  refine ⟨?_, hc v (List.mem_of_getElem? hi.2)⟩
  rw [hsl, List.getElem?_toArray, List.getElem?_append_left (by rw [List.length_map]; exact hi.1), List.getElem?_map, hi.2]
  rfl
theorem Ct_of {y : MethodName} {bytes : ByteArray} {maxL fr lo : Nat} {as : List Value} {rp : Option Value → Mem → Prop} (hy : plainName y.cls = true) (ha : as.length ≤ maxL) (hc : ∀ v ∈ as, v.category = 1)
    (body : ∀ (p : Program) (e : Env) (s : State) (m : MethodId) (below : List Frame) (meth : Method) (c : Code), CX p s m as.toArray meth c w bytes maxL y.cls ret → V p l e ({ frames := fr, cells := 0, slots := 0, locals := lo } : Room) s m as.toArray below meth c w maxL 0 0 (MQ below (QN w s.heap.size rp) as.toArray s 0 0 (AA w s.heap.size)) 0 (ls0 as maxL) [] X) : Ct w l y bytes maxL ret fr lo as X rp := by
  intro sz
  refine Met.ofW (cc := bytes) (maxL := maxL) (ret := ret) hy rfl ?_
  intro p e s m args below meth c s₁ B hml hv
  obtain ⟨rfl, hsz, hP, hK⟩ := hv
  subst hsz
  obtain ⟨L, hF, hL⟩ := LH_start (m := m) ha hc
  rw [hF]
  exact body p e s m below meth c ⟨B.exec, B.bytes, hml, findClass_of_methodNamed B.named, hK, B.returns, B.notSynchronized, hK.2.2.use⟩ s.heap [] L hP va_S.rf hL
theorem V_ireturn {rp : Option Value → Mem → Prop} {v : Int32} (C : CX p s m args meth c w cc nL own (some .int)) (hd : decode cc pc = .ok (.ireturn, 1)) (hq : rp (some (.int v)) X) : V p l e R s m args below meth c w nL n k (MQ below (QN w s.heap.size rp) args s n k (AA w s.heap.size)) pc ls ([.int v]) X :=
  fun H locs L hP hS hL => W.iret C.1 C.2.1 C.2.2.2.2.2.1 (fun t ht hW => ⟨some (.int v), X, rfl, hq, by rw [ht]; exact hP, hS.F ht⟩) hS.2.2 hd C.2.2.2.2.2.2.1
theorem V_zreturn {rp : Option Value → Mem → Prop} {v : Int32} (C : CX p s m args meth c w cc nL own (some .boolean)) (hd : decode cc pc = .ok (.ireturn, 1)) (hz : v = 0 ∨ v = 1) (hq : rp (some (.int v)) X) : V p l e R s m args below meth c w nL n k (MQ below (QN w s.heap.size rp) args s n k (AA w s.heap.size)) pc ls ([.int v]) X :=
  fun H locs L hP hS hL => W.zret (ty := .boolean) C.1 C.2.1 C.2.2.2.2.2.1 (by rcases hz with rfl | rfl <;> rfl) (fun t ht hW => ⟨some (.int v), X, rfl, hq, by rw [ht]; exact hP, hS.F ht⟩) hS.2.2 hd C.2.2.2.2.2.2.1
theorem V_return {rp : Option Value → Mem → Prop} (C : CX p s m args meth c w cc nL own none) (hd : decode cc pc = .ok (.return_, 1)) (hq : rp none X) : V p l e R s m args below meth c w nL n k (MQ below (QN w s.heap.size rp) args s n k (AA w s.heap.size)) pc ls ([]) X :=
  fun H locs L hP hS hL => W.vret C.1 C.2.1 C.2.2.2.2.2.1 (fun t ht hW => ⟨none, X, rfl, hq, by rw [ht]; exact hP, hS.F ht⟩) hS.2.2 hd C.2.2.2.2.2.2.1
/-- a method's link: by its number in the class's pool, plain or to a nest mate -/
def ML (own : String) (idx : Nat) (y : MethodName) (bytes : ByteArray) (maxL : Nat) (ret : Option FieldType) (na : Nat) : Prop :=
  (Cond.methodLink own idx y ∈ TB ∨ ∃ h, Cond.methodLinkNest own idx y h ∈ TB) ∧ Cond.code y bytes maxL ret ∈ TB ∧ Cond.initialized y.cls ∈ TB ∧ (y.cls ≠ "java/lang/invoke/MethodHandle" ∧ y.cls ≠ "java/lang/invoke/VarHandle" ∧ (parseMethodDescriptor y.desc).map (fun d => d.parameters.length) = some na)
/-- an instance method's -/
def MI (own : String) (idx : Nat) (y : MethodName) (bytes : ByteArray) (maxL : Nat) (ret : Option FieldType) (na : Nat) : Prop :=
  ML own idx y bytes maxL ret na ∧ Cond.instanceMethod y ∈ TB ∧ Cond.selects y.cls y y ∈ TB
/-- a static method's -/
def MS (own : String) (idx : Nat) (y : MethodName) (bytes : ByteArray) (maxL : Nat) (ret : Option FieldType) (na : Nat) : Prop :=
  ML own idx y bytes maxL ret na ∧ Cond.static y ∈ TB
theorem code_good {y : MethodName} {bytes : ByteArray} {maxL : Nat} {rt : Option FieldType} (h : Cond.code y bytes maxL rt ∈ TB) : GoodIn TB [Cond.code y bytes maxL rt] := fun w hw => by
  rw [List.mem_singleton] at hw
  subst hw
  exact ⟨h, Or.inl rfl⟩
theorem run_go {a : Array Value} {H : Heap} {locs : List Loc} {L : Array Slot} {st0 rest : List Value} {rp : Option Value → Mem → Prop} (hr : va_Run p l e R s m args below meth c H locs n k 0 0 (F0 m pc L st0) rest (QN w H.size rp a) (AA w H.size)) (hS : va_S (AA w s.heap.size) s.heap H locs) (hL : LH L nL ls)
    (kk : ∀ (r : Option Value) (X1 : Mem), rp r X1 → V p l e R s m args below meth c w nL n k Q (pc + 3) ls (r.toList ++ rest) X1) : W p l e R s m args below meth c H locs n k Q (F0 m pc L st0) := by
  intro T hT Xs
  obtain ⟨v, st₀, t, T', Lc, h0, X', hLc, e1, e2, ⟨r, X1, hv, hp, hP1, hz, hk⟩, stp⟩ := hr T hT Xs
  cases hv
  rw [h0] at hz hk
  have hA : ∀ q, AA w H.size q → AA w s.heap.size q := fun q hq => AA_le hS.1 hq
  obtain ⟨t2, a1, b1⟩ := kk v X1 hp T'.heap (locs ++ Lc) L (by rw [e1]; exact hP1)
    ⟨Nat.le_trans hS.1 (by rw [e1]; exact hz), fun q h1 h2 => by rw [e1, hk q (Nat.lt_of_lt_of_le h1 hS.1) (fun z => h2 (hA q z))]; exact hS.2.1 q h1 h2, fun q hq => by
      rcases List.mem_append.mp hq with h | h
      · exact hS.2.2 q h
      · exact hA _ (hLc q h)⟩ hL T' rfl X'
  exact ⟨t2, stp t2 a1, b1⟩
theorem PN_pre {as : List Value} {H : Heap} (hK : Kw w s) (hP : va_P w.1 vwCl (wl w X) H) : ∀ U : State, U.heap = H → s.WarmedH U.vm → PN w H.size as X as.toArray U := fun U hU hW => ⟨rfl, by rw [hU], by rw [hU]; exact hP, hK.warm hW⟩
theorem V_callV {y : MethodName} {bytes : ByteArray} {maxL fr lo na idx ci p0 : Nat} {rt : Option FieldType} {fl : List (Option Nat)} {As rest : List Value} {rp : Option Value → Mem → Prop} (C : CX p s m args meth c w cc nL own ret) (f : MI own idx y bytes maxL rt na) (hM : Ct w l y bytes maxL rt fr lo (.ref (w.2.1 p0) :: As) X rp) (hd : decode cc pc = .ok (.invokevirtual idx, 3)) (h0 : p0 < 92) (hs : sh p0 = .inr (ci, fl)) (hc : (vwCl[ci]?).map (fun q => q.1) = some y.cls) (hst : st = As.reverse ++ .ref (w.2.1 p0) :: rest) (hn : As.length = na) (hW : (rest.map fun v => v.category).sum ≤ 8) (hR : fr + 1 ≤ R.frames ∧ 8 + (maxL + 11) + lo ≤ R.locals) (hnk : n ≤ R.cells ∧ k ≤ R.slots)
    (kk : ∀ (r : Option Value) (X1 : Mem), rp r X1 → V p l e R s m args below meth c w nL n k Q (pc + 3) ls (r.toList ++ rest) X1) : V p l e R s m args below meth c w nL n k Q pc ls st X := by
  intro H locs L hP hS hL
  obtain ⟨⟨f1, f2, f3, f4⟩, f5, f6⟩ := f
  obtain ⟨q, hq1, hq2⟩ : ∃ q, vwCl[ci]? = some q ∧ q.1 = y.cls := by
    cases e : vwCl[ci]? with
    | none => rw [e] at hc; cases hc
    | some q => rw [e] at hc; exact ⟨q, rfl, Option.some.inj hc⟩
  have hrecv := va_recv C.2.2.2.2.1.1 hP hq1 (show (wl w X)[p0]? = some (w.2.1 p0, .inr (ci, vals w X p0 fl)) by rw [wl_at h0, cel_o hs])
  rw [hq2] at hrecv
  have hts := C.2.2.2.2.2.2.2
  have hp : PreV s H y.cls (w.2.1 p0) (PN w H.size (.ref (w.2.1 p0) :: As) X) As := ⟨PN.blind, hrecv, PN_pre C.2.2.2.2.1 hP⟩
  have hsz : L.size = nL := hL.1
  have hW' : 2 * (F0 m pc L st).monitorRoom + (rest.map fun v => v.category).sum ≤ 8 := by
    have : (F0 m pc L st).monitorRoom = 0 := rfl
    rw [this]
    omega
  rcases f1 with f1 | ⟨host, f1⟩
  · have cw : CallW R s args own y.cls idx y bytes maxL rt [Cond.code y bytes maxL rt] ({ frames := fr, cells := 0, slots := 0, locals := lo } : Room) 0 0 na := ⟨callB_of na hts (code_good f2) rfl rfl rfl (hts _ f3) (hts _ f1) f4 hR, hts _ f5, hts _ f6⟩
    exact run_go (va_runV ⟨C.1, C.2.1, C.2.2.1, C.2.2.2.1, hts⟩ (hM H.size) cw hp rfl hn hsz hst hW' hd ⟨hnk.1, hnk.2⟩) hS hL kk
  · have cw : va_CN R s args own idx y host bytes maxL rt [Cond.code y bytes maxL rt] ({ frames := fr, cells := 0, slots := 0, locals := lo } : Room) 0 0 na := va_cnB na hts (code_good f2) rfl rfl rfl (va_Nw.of rfl (hts _ f1)) (hts _ f3) f4 hR
    exact run_go (va_runVN ⟨C.1, C.2.1, C.2.2.1, C.2.2.2.1, hts⟩ (hM H.size) ⟨cw, hts _ f5, hts _ f6⟩ hp rfl hn hsz hst hW' hd ⟨hnk.1, hnk.2⟩) hS hL kk
theorem V_callS {y : MethodName} {bytes : ByteArray} {maxL fr lo na idx : Nat} {rt : Option FieldType} {As rest : List Value} {rp : Option Value → Mem → Prop} (C : CX p s m args meth c w cc nL own ret) (f : MS own idx y bytes maxL rt na) (hM : Ct w l y bytes maxL rt fr lo As X rp) (hd : decode cc pc = .ok (.invokestatic idx, 3)) (hst : st = As.reverse ++ rest) (hn : As.length = na) (hW : (rest.map fun v => v.category).sum ≤ 8) (hR : fr + 1 ≤ R.frames ∧ 8 + (maxL + 11) + lo ≤ R.locals) (hnk : n ≤ R.cells ∧ k ≤ R.slots)
    (kk : ∀ (r : Option Value) (X1 : Mem), rp r X1 → V p l e R s m args below meth c w nL n k Q (pc + 3) ls (r.toList ++ rest) X1) : V p l e R s m args below meth c w nL n k Q pc ls st X := by
  intro H locs L hP hS hL
  obtain ⟨⟨f1, f2, f3, f4⟩, f5⟩ := f
  have hts := C.2.2.2.2.2.2.2
  have hp : PreS s H (PN w H.size As X) As := ⟨PN.blind, PN_pre C.2.2.2.2.1 hP⟩
  have hsz : L.size = nL := hL.1
  have hW' : 2 * (F0 m pc L st).monitorRoom + (rest.map fun v => v.category).sum ≤ 8 := by
    have : (F0 m pc L st).monitorRoom = 0 := rfl
    rw [this]
    omega
  rcases f1 with f1 | ⟨host, f1⟩
  · exact run_go (va_runS ⟨C.1, C.2.1, C.2.2.1, C.2.2.2.1, hts⟩ (hM H.size) ⟨callB_of na hts (code_good f2) rfl rfl rfl (hts _ f3) (hts _ f1) f4 hR, hts _ f5⟩ hp rfl hn hsz hst hW' hd ⟨hnk.1, hnk.2⟩) hS hL kk
  · have cw : va_CN R s args own idx y host bytes maxL rt [Cond.code y bytes maxL rt] ({ frames := fr, cells := 0, slots := 0, locals := lo } : Room) 0 0 na := va_cnB na hts (code_good f2) rfl rfl rfl (va_Nw.of rfl (hts _ f1)) (hts _ f3) f4 hR
    exact run_go (va_runSN ⟨C.1, C.2.1, C.2.2.1, C.2.2.2.1, hts⟩ (hM H.size) ⟨cw, hts _ f5, trivial⟩ hp rfl hn hsz hst hW' hd ⟨hnk.1, hnk.2⟩) hS hL kk
end VR
