/-! The memory: X p i is the int in field or element i of the cell at place p. The layout of the world is fixed: sh. -/
abbrev Mem : Type := Nat → Nat → Int32
abbrev Sh : Type := (Nat × Nat) ⊕ (Nat × List (Option Nat))
/-- the setting: numbers of the classes and slots, the address of each place, the array classes of int, boolean, long, int[] -/
abbrev Wt : Type := va_G × (Nat → Nat) × ClassId × ClassId × ClassId × ClassId
def shL : List Sh := [
  .inr (8, [some 1, some 6, some 17, some 20, some 51, some 63, some 66, some 68]),
  .inr (3, [none, none, some 2, some 3, some 4, some 5]),
  .inl (0, 8),
  .inl (0, 8),
  .inl (0, 8),
  .inl (0, 10),
  .inr (6, [none, some 7, some 8, some 9, some 10, some 11, some 12, some 13, some 14, some 15, some 16]),
  .inl (0, 50),
  .inl (0, 50),
  .inl (0, 50),
  .inl (0, 50),
  .inl (0, 50),
  .inl (0, 50),
  .inl (0, 50),
  .inl (0, 50),
  .inl (1, 50),
  .inl (1, 50),
  .inr (1, [some 1, some 6, some 18, some 19]),
  .inl (0, 50),
  .inl (1, 50),
  .inr (5, [none, none, none, some 21, some 22, some 47, some 48, some 49, some 50]),
  .inl (0, 6),
  .inl (3, 24),
  .inl (0, 6),
  .inl (0, 6),
  .inl (0, 6),
  .inl (0, 6),
  .inl (0, 6),
  .inl (0, 6),
  .inl (0, 6),
  .inl (0, 6),
  .inl (0, 6),
  .inl (0, 6),
  .inl (0, 6),
  .inl (0, 6),
  .inl (0, 6),
  .inl (0, 6),
  .inl (0, 6),
  .inl (0, 6),
  .inl (0, 6),
  .inl (0, 6),
  .inl (0, 6),
  .inl (0, 6),
  .inl (0, 6),
  .inl (0, 6),
  .inl (0, 6),
  .inl (0, 6),
  .inl (0, 24),
  .inl (0, 24),
  .inl (0, 24),
  .inl (1, 24),
  .inr (7, [some 52]),
  .inl (3, 10),
  .inl (0, 10),
  .inl (0, 10),
  .inl (0, 10),
  .inl (0, 10),
  .inl (0, 10),
  .inl (0, 10),
  .inl (0, 10),
  .inl (0, 10),
  .inl (0, 10),
  .inl (0, 10),
  .inr (2, [some 51, some 64, some 65]),
  .inl (0, 10),
  .inl (0, 10),
  .inr (0, [some 51, some 63, some 67]),
  .inl (0, 5),
  .inr (4, [some 20, none, some 69, some 70, some 81]),
  .inl (0, 10),
  .inl (3, 10),
  .inl (0, 10),
  .inl (0, 10),
  .inl (0, 10),
  .inl (0, 10),
  .inl (0, 10),
  .inl (0, 10),
  .inl (0, 10),
  .inl (0, 10),
  .inl (0, 10),
  .inl (0, 10),
  .inl (3, 3),
  .inl (0, 10),
  .inl (0, 10),
  .inl (0, 10),
  .inl (0, 16),
  .inl (0, 16),
  .inl (0, 16),
  .inl (0, 16),
  .inl (0, 16),
  .inl (0, 8),
  .inl (0, 56)]
def sh (k : Nat) : Sh := shL.getD k (.inl (9, 0))
def vof (w : Wt) (X : Mem) (k j : Nat) (o : Option Nat) : Value := match o with | none => Value.int (X k j) | some q => Value.ref (w.2.1 q)
def vals (w : Wt) (X : Mem) (k : Nat) (fl : List (Option Nat)) : List Value := fl.mapIdx (fun j o => vof w X k j o)
def cel (w : Wt) (X : Mem) (k : Nat) : va_E := match sh k with
  | .inl (0, n) => .inl (w.2.2.1, n, .inl (X k))
  | .inl (1, n) => .inl (w.2.2.2.1, n, .inl (X k))
  | .inl (2, n) => .inl (w.2.2.2.2.1, n, .inr (.inl (fun i => (X k i).toInt64)))
  | .inl (_, n) => .inl (w.2.2.2.2.2, n, .inr (.inr (.inr (.inr (fun i => some (w.2.1 (k + 1 + i)))))))
  | .inr (ci, fl) => .inr (ci, vals w X k fl)
def wl (w : Wt) (X : Mem) : va_W := (List.range 92).map (fun k => (w.2.1 k, cel w X k))
def tysW (w : Wt) : List (ClassId × FieldType) := [(w.2.2.1, .int), (w.2.2.2.1, .boolean), (w.2.2.2.2.1, .int), (w.2.2.2.2.2, .array .int)]
theorem wl_at {w : Wt} {X : Mem} {k : Nat} (h : k < 92) : (wl w X)[k]? = some (w.2.1 k, cel w X k) := by
  unfold wl
  rw [List.getElem?_map, List.getElem?_range h]
  rfl
theorem wl_len (w : Wt) (X : Mem) : (wl w X).length = 92 := by simp [wl]
theorem wl_set {w : Wt} {X X' : Mem} {k : Nat} (h : k < 92) (hx : ∀ j, j ≠ k → cel w X' j = cel w X j) : (wl w X).set k (w.2.1 k, cel w X' k) = wl w X' := by
  apply List.ext_getElem?
  intro i
  by_cases hi : i < 92
  · rw [wl_at hi, List.getElem?_set]
    by_cases e : k = i
    · subst e
      rw [if_pos rfl, if_pos (by rw [wl_len]; exact h)]
    · rw [if_neg e, wl_at hi, hx i (fun q => e q.symm)]
  · rw [List.getElem?_eq_none (by rw [List.length_set, wl_len]; omega), List.getElem?_eq_none (by rw [wl_len]; omega)]
theorem cel_congr {w : Wt} {X X' : Mem} {k : Nat} (h : X' k = X k) : cel w X' k = cel w X k := by
  have e : ∀ (j : Nat) (o : Option Nat), vof w X' k j o = vof w X k j o := fun j o => by
    unfold vof
    rw [h]
  unfold cel vals
  simp only [h, e]
/-- the row at place p anew -/
def ma (X : Mem) (p : Nat) (f : Nat → Int32) : Mem := fun q => if q = p then f else X q
theorem ma_eq (X : Mem) (p : Nat) (f : Nat → Int32) : ma X p f p = f := if_pos rfl
theorem ma_ne {X : Mem} {p q : Nat} {f : Nat → Int32} (h : q ≠ p) : ma X p f q = X q := if_neg h
theorem ma_ma (X : Mem) (p : Nat) (f g : Nat → Int32) : ma (ma X p f) p g = ma X p g := by
  funext q
  by_cases h : q = p
  · rw [h, ma_eq, ma_eq]
  · rw [ma_ne h, ma_ne h, ma_ne h]
theorem ma_self (X : Mem) (p : Nat) : ma X p (X p) = X := by
  funext q
  by_cases h : q = p
  · rw [h, ma_eq]
  · rw [ma_ne h]
theorem ma_comm {X : Mem} {p q : Nat} (h : p ≠ q) (f g : Nat → Int32) : ma (ma X p f) q g = ma (ma X q g) p f := by
  funext r
  by_cases h1 : r = q
  · subst h1
    rw [ma_eq, ma_ne (fun e => h e.symm), ma_eq]
  · rw [ma_ne h1]
    by_cases h2 : r = p
    · subst h2
      rw [ma_eq, ma_eq]
    · rw [ma_ne h2, ma_ne h2, ma_ne h1]
theorem cel_i {w : Wt} {X : Mem} {p n : Nat} (h : sh p = .inl (0, n)) : cel w X p = .inl (w.2.2.1, n, .inl (X p)) := by unfold cel; rw [h]; rfl
theorem cel_z {w : Wt} {X : Mem} {p n : Nat} (h : sh p = .inl (1, n)) : cel w X p = .inl (w.2.2.2.1, n, .inl (X p)) := by unfold cel; rw [h]; rfl
theorem cel_l {w : Wt} {X : Mem} {p n : Nat} (h : sh p = .inl (2, n)) : cel w X p = .inl (w.2.2.2.2.1, n, .inr (.inl (fun i => (X p i).toInt64))) := by unfold cel; rw [h]; rfl
theorem cel_r {w : Wt} {X : Mem} {p n : Nat} (h : sh p = .inl (3, n)) : cel w X p = .inl (w.2.2.2.2.2, n, .inr (.inr (.inr (.inr (fun i => some (w.2.1 (p + 1 + i))))))) := by unfold cel; rw [h]; rfl
theorem cel_o {w : Wt} {X : Mem} {p ci : Nat} {fl : List (Option Nat)} (h : sh p = .inr (ci, fl)) : cel w X p = .inr (ci, vals w X p fl) := by unfold cel; rw [h]
theorem vals_at {w : Wt} {X : Mem} {p j : Nat} {fl : List (Option Nat)} {o : Option Nat} (h : fl[j]? = some o) : (vals w X p fl)[j]? = some (vof w X p j o) := by
  unfold vals
  simp only [List.getElem?_mapIdx, h, Option.map_some]
theorem vals_set {w : Wt} {X : Mem} {p j : Nat} {fl : List (Option Nat)} (h : fl[j]? = some none) (x : Int32) : (vals w X p fl).set j (.int x) = vals w (ma X p (upd (X p) j x)) p fl := by
  apply List.ext_getElem?
  intro i
  have hj : j < fl.length := (List.getElem?_eq_some_iff.mp h).1
  have hlen : (vals w X p fl).length = fl.length := by simp [vals]
  rw [List.getElem?_set]
  by_cases e : j = i
  · subst e
    rw [if_pos rfl, if_pos (by rw [hlen]; exact hj), vals_at h]
    simp [upd, vof, ma_eq]
  · rw [if_neg e]
    unfold vals
    simp only [List.getElem?_mapIdx]
    cases fl[i]? with
    | none => rfl
    | some o =>
      cases o with
      | some q => rfl
      | none =>
        have e2 : ¬ i = j := fun q => e q.symm
        simp [upd, e2, vof, ma_eq]
/-- the tables' words that a method may use wherever it is -/
def okN (w : Cond) : Bool := match w with
  | .fieldLinkNest _ _ _ _ _ _ => true
  | .methodLinkNest _ _ _ _ => true
  | _ => false
def okT (w : Cond) : Bool := w.onTables && (w.keepsCast || okN w)
def TB : List Cond := lw_tbl.filter okT
def TW (U : State) : Prop := ∀ w ∈ TB, w.before #[] U = true
theorem TW.same {u U : State} (h : u.vm = U.vm) (hT : TW u) : TW U := fun w hw => by
  have h1 := (List.mem_filter.mp hw).2
  unfold okT at h1
  rw [Bool.and_eq_true] at h1
  exact va_tabs h1.1 h (hT w hw)
theorem TW.warm {s U : State} (hW : s.WarmedH U.vm) (hT : TW s) : TW U := fun w hw => by
  have h1 := (List.mem_filter.mp hw).2
  unfold okT at h1
  rw [Bool.and_eq_true, Bool.or_eq_true] at h1
  obtain ⟨h1, h2 | h2⟩ := h1
  · exact va_tabs h1 (rfl : (s.setVm U.vm).vm = U.vm) (Cond.before_shiftedCast (State.Shifted.of_warmed hW) w h2 (hT w hw))
  · have h3 := hT w hw
    cases w with
    | fieldLinkNest a i b n d h => exact va_Nw.warmF hW h3
    | methodLinkNest a i x h => exact va_Nw.warmM hW h3
    | _ => simp [okN] at h2
theorem TW.use {U : State} {args : Array Value} (hT : TW U) : ∀ w ∈ TB, w.before args U = true := fun w hw => by
  have h1 := (List.mem_filter.mp hw).2
  unfold okT at h1
  rw [Bool.and_eq_true] at h1
  exact va_tabs h1.1 rfl (hT w hw)
def Kw (w : Wt) (U : State) : Prop := va_K w.1 vwCl (tysW w) U ∧ (∀ i j, i < 92 → j < 92 → w.2.1 i = w.2.1 j → i = j) ∧ TW U
theorem Kw.warm {w : Wt} {s U : State} (hW : s.WarmedH U.vm) (h : Kw w s) : Kw w U := ⟨va_K.moved hW.alike h.1, h.2.1, h.2.2.warm hW⟩
theorem Kw.same {w : Wt} {s U : State} (hv : s.vm = U.vm) (h : Kw w s) : Kw w U := ⟨va_K.moved (by rw [hv]; exact Vm.Alike.refl _) h.1, h.2.1, h.2.2.same hv⟩
def AA (w : Wt) (sz : Nat) : Nat → Prop := fun q => (∃ k, k < 92 ∧ q = w.2.1 k) ∨ sz ≤ q
theorem wl_D {w : Wt} {X : Mem} {sz : Nat} (hi : ∀ i j, i < 92 → j < 92 → w.2.1 i = w.2.1 j → i = j) : va_D (AA w sz) (wl w X) := by
  have key : ∀ (k : Nat) (q : Nat × va_E), (wl w X)[k]? = some q → k < 92 ∧ q.1 = w.2.1 k := by
    intro k q hq
    have hk : k < 92 := by
      have := (List.getElem?_eq_some_iff.mp hq).1
      rw [wl_len] at this
      exact this
    rw [wl_at hk] at hq
    cases hq
    exact ⟨hk, rfl⟩
  refine ⟨fun i j x y hx hy hxy => ?_, fun k q hq => ?_⟩
  · obtain ⟨a1, a2⟩ := key i x hx
    obtain ⟨b1, b2⟩ := key j y hy
    exact hi i j a1 b1 (by rw [← a2, ← b2, hxy])
  · obtain ⟨a1, a2⟩ := key k q hq
    exact Or.inl ⟨k, a1, a2⟩
theorem AA_le {w : Wt} {a b : Nat} (h : a ≤ b) {q : Nat} (hq : AA w b q) : AA w a q := by
  rcases hq with h1 | h1
  · exact Or.inl h1
  · exact Or.inr (Nat.le_trans h h1)
/-- the locals, by their places: none where nothing is known -/
def LH (L : Array Slot) (nL : Nat) (ls : List (Option Value)) : Prop := L.size = nL ∧ lv_wf L ∧ ∀ (i : Nat) (v : Value), ls[i]? = some (some v) → L[i]? = some (.val v) ∧ v.category = 1
def lpairs (ls : List (Option Value)) : List (Nat × Value) := ls.zipIdx.filterMap (fun q => q.1.map (fun v => (q.2, v)))
theorem lpairs_mem {ls : List (Option Value)} {i : Nat} {v : Value} : (i, v) ∈ lpairs ls ↔ ls[i]? = some (some v) := by
  unfold lpairs
  rw [List.mem_filterMap]
  constructor
  · rintro ⟨⟨o, j⟩, h1, h2⟩
    rw [List.mem_zipIdx_iff_getElem?] at h1
    cases o with
    | none => simp at h2
    | some u =>
      simp at h2
      obtain ⟨rfl, rfl⟩ := h2
      exact h1
  · intro h
    exact ⟨(some v, i), by rw [List.mem_zipIdx_iff_getElem?]; exact h, rfl⟩
theorem LH.has {L : Array Slot} {nL : Nat} {ls : List (Option Value)} (h : LH L nL ls) : lv_has L nL (lpairs ls) := ⟨h.1, h.2.1, fun q hq => (h.2.2 q.1 q.2 (lpairs_mem.mp hq)).1⟩
theorem LH.put {L L' : Array Slot} {nL : Nat} {ls : List (Option Value)} {i : Nat} {v : Value} (h : LH L nL ls) (hc : v.category = 1) (h2 : lv_has L' nL ((i, v) :: (lpairs ls).filter (fun q => !(q.1 == i) && !(q.1 + 1 == i && q.2.category == 2)))) : LH L' nL (ls.set i (some v)) := by
  refine ⟨h2.1, h2.2.1, fun j u hj => ?_⟩
  rw [List.getElem?_set] at hj
  by_cases e : i = j
  · subst e
    rw [if_pos rfl] at hj
    by_cases hl : i < ls.length
    · rw [if_pos hl] at hj
      cases hj
      exact ⟨h2.2.2 (i, v) List.mem_cons_self, hc⟩
    · rw [if_neg hl] at hj
      cases hj
  · rw [if_neg e] at hj
    have h3 := (h.2.2 j u hj).2
    refine ⟨h2.2.2 (j, u) (List.mem_cons_of_mem _ (List.mem_filter.mpr ⟨lpairs_mem.mpr hj, ?_⟩)), h3⟩
    simp [h3]
    exact fun q => e q.symm
