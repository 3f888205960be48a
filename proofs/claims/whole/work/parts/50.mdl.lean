/-! what the reference answers, and the place of what it throws -/
theorem ma_in5 {M : Mem} {p q r t v z : Nat} {f g k u y x f' : Nat → Int32} (h : p ≠ q) (h2 : p ≠ r) (h3 : p ≠ t) (h4 : p ≠ v) (h5 : p ≠ z) : ma (ma (ma (ma (ma (ma (ma M p f) q g) r k) t u) v y) z x) p f' = ma (ma (ma (ma (ma (ma M p f') q g) r k) t u) v y) z x := by
  rw [ma_comm (fun e => h5 e.symm) x f', ma_in4 h h2 h3 h4]
def Cd1 (A : Prop) (c : Int32) : Prop := c = 1 ∧ ¬ A
def Cd2 (A B : Prop) (c : Int32) : Prop := (c = 1 ∧ ¬ A) ∨ (c = 2 ∧ A ∧ ¬ B)
def Cd3 (A B C : Prop) (c : Int32) : Prop := (c = 1 ∧ ¬ A) ∨ (c = 2 ∧ A ∧ ¬ B) ∨ (c = 3 ∧ A ∧ B ∧ ¬ C)
theorem obj_of {v : Int32} {n : Nat} (n50 : n ≤ 50) (h : Btw v 0 (nI n - 1)) : ∃ o, o < n ∧ v = nI o := by
  rcases pk_ix v (n := n) (by omega) with q | q | q
  · exact absurd q (Int32.not_lt.mpr h.1)
  · exact absurd h (obj_out n50 (Or.inr (Int32.not_lt.mpr q)))
  · exact q
theorem rt_no {v : Int32} {R : Nat} {Th : Nat → Prop} (hR : R ≤ 24) (h : ¬ Btw v 0 (nI R - 1)) : ¬ IsRt R Th v := by
  rintro ⟨a, h1, rfl, -⟩
  exact h (obj_in (n := R) (by omega) (nz_lt (by omega)) ((nI_ltI (by omega) (by omega)).mpr h1)).1
theorem sqp_lst {dr : Nat → Nat} {j m : Nat} (hm : m = sqn dr j) (h : m ≠ 0) : 1 ≤ j ∧ sqp dr j (m - 1) = dr (j - 1) := by
  obtain ⟨i, rfl⟩ : ∃ i, j = i + 1 := by
    rcases Nat.eq_zero_or_pos j with q | q
    · subst q
      exact absurd hm h
    · exact ⟨j - 1, by omega⟩
  refine ⟨by omega, ?_⟩
  rw [hm, sqp_last, Nat.add_sub_cancel]
theorem sqk_0 {dr : Nat → Nat} {j m : Nat} (hm : m = sqn dr j) (h : m = 0) : SqK dr j := Or.inl (Classical.byContradiction fun q => by
  have := sqn_pos (dr := dr) j (by omega)
  omega)
theorem sqk_y {dr : Nat → Nat} {j m x : Nat} (hx : x = dr (j - 1)) (h : x ≠ dr j) : SqK dr j := by
  have _ := m
  subst hx
  exact Or.inr (fun q => h q.symm)
theorem sqk_n {dr : Nat → Nat} {j x : Nat} (hj : 1 ≤ j) (hx : x = dr (j - 1)) (h : x = dr j) : ¬ SqK dr j := by
  rintro (q | q)
  · omega
  · exact q (h.symm.trans hx)
theorem upd_self (f : Nat → Int32) (k : Nat) : upd f k (f k) = f := by
  funext j
  by_cases h : j = k
  · subst h; exact upd_eq _ _ _
  · exact upd_ne h
theorem LsR_at {f8 f15 f16 : Nat → Int32} {v : Int32} {o : Nat} : LsR f8 f15 f16 v o o = f16 o := LsR_n (fun q => absurd q.1 (Nat.lt_irrefl _))
theorem LsM_a {f8 f15 f16 : Nat → Int32} {v : Int32} {o : Nat} (hz : f16 o = 0 ∨ f16 o = 1) (h : ¬ LsR f8 f15 f16 v o o = 0) : upd (LsR f8 f15 f16 v o) o 1 = LsR f8 f15 f16 v (o + 1) := by
  rw [LsR_at] at h
  have h1 : f16 o = 1 := hz.elim (fun q => absurd q h) id
  by_cases q : f8 o = v ∧ ¬ f15 o = 0
  · exact LsR_s1 q.1 q.2
  · rw [LsR_s0 q]
    have e : (1 : Int32) = LsR f8 f15 f16 v o o := by rw [LsR_at, h1]
    rw [e]
    exact upd_self _ _
theorem LsM_0 {f8 f15 f16 : Nat → Int32} {v : Int32} {o : Nat} (h : LsR f8 f15 f16 v o o = 0) (q : ¬ (f8 o = v ∧ ¬ f15 o = 0)) : upd (LsR f8 f15 f16 v o) o 0 = LsR f8 f15 f16 v (o + 1) := by
  rw [LsR_s0 q]
  exact (congrArg (fun z => upd (LsR f8 f15 f16 v o) o z) h.symm).trans (upd_self _ _)
theorem Ls_rv {f8 f15 f16 : Nat → Int32} {v : Int32} {o : Nat} (hz : f16 o = 0 ∨ f16 o = 1) (hr : f16 o = 1 → f15 o = 1) (h : ¬ LsR f8 f15 f16 v o o = 0) : ¬ f15 o = 0 := by
  rw [LsR_at] at h
  rw [hr (hz.elim (fun q => absurd q h) id)]
  decide
