/-! the law's own rows change -/
def LawC (p : Program) (l : Launch) (s : State) (m : MethodId) (args : Array Value) (meth : Method) (c : Code) (w : Wt) (b L0 : Nat) (xs : Nat → Int32) : Prop := CX p s m args meth c w cL_law 29 RL ret ∧ DX l w s.heap.size s s.heap ∧ NCX s ∧ va_X b L0 xs s s.heap ∧ b < s.heap.size ∧ (∀ j, j < 92 → s.heap.size ≤ w.2.1 j) ∧ L0 ≤ 260
section UL
variable {X X1 Y : Mem} {h h' D n Dd R : Nat} {dr : Nat → Nat} {PP : Nat → Nat → Nat} {Z : Nat → Nat} {Th : Nat → Prop} {r : Int32}
def LSt (X : Mem) (h D n R : Nat) : Prop := ∃ (dr : Nat → Nat) (PP : Nat → Nat → Nat) (Z : Nat → Nat) (Th : Nat → Prop), JP X h D n 0 R dr PP Z Th ∧ LA X h n R PP Z Th
theorem LSt.mk (hJ : JP X h D n 0 R dr PP Z Th) (hL : LA X h n R PP Z Th) : LSt X h D n R := ⟨dr, PP, Z, Th, hJ, hL⟩
theorem JP_j (e : ∀ p, p < 85 → Y p = X p) (q : JP X h D n Dd R dr PP Z Th) : JP Y h D n Dd R dr PP Z Th :=
  ⟨jG_k (fun p _ _ => e p (by omega)) q.1, jO_k (fun p _ _ => e p (by omega)) q.2.1, jD_k (by rw [e 20 (by decide)]) (e 21 (by decide)) q.2.2.1, jR_k (fun k _ => by rw [e 20 (by decide)]) (fun p _ _ => e p (by omega)) q.2.2.2.1, jT_k (fun p _ _ => e p (by omega)) q.2.2.2.2⟩
theorem JP_l {p : Nat} {f : Nat → Int32} (hp : 84 < p) (q : JP X h D n Dd R dr PP Z Th) : JP (ma X p f) h D n Dd R dr PP Z Th := JP_j (fun j hj => ma_ne (by omega)) q
theorem LA_par {i w : Nat} (hw : w < h) (q : LA X h n R PP Z Th) : LA (ma X 90 (upd (X 90) i (nI w))) h n R PP Z Th := by
  obtain ⟨q1, q2, q3, q4⟩ := q
  unfold LA
  rw [ma_ne (by decide), ma_ne (by decide), ma_ne (by decide), ma_ne (by decide), ma_ne (by decide), ma_eq, ma_ne (by decide), ma_ne (by decide), ma_ne (by decide), ma_ne (by decide), ma_ne (by decide), ma_ne (by decide), ma_ne (by decide)]
  refine ⟨q1, fun j hj => ?_, q3, q4⟩
  by_cases e : j = i
  · subst e
    exact ⟨w, hw, upd_eq _ _ _⟩
  · rw [upd_ne e]
    exact q2 j hj
end UL
