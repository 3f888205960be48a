theorem GInv_add {P K F F' O : Nat → Int32} {h c : Nat} (hG : GInv (P, K, F, O) h) (h8 : h < 8) (hc : c < h) : GInv (upd P h (nI c), K, F', O) (h + 1) := by
  obtain ⟨a1, a2, a3, a4, a5, a6⟩ := hG
  refine ⟨by omega, by omega, ?_, fun b h1 h2 => ?_, a5, fun b hb => ?_⟩
  · show upd P h (nI c) 0 = -1
    rw [upd_ne (by omega)]
    exact a3
  · show ∃ a, a < b ∧ upd P h (nI c) b = nI a
    by_cases q : b = h
    · subst q; exact ⟨c, hc, upd_eq _ _ _⟩
    · rw [upd_ne q]; exact a4 b h1 (by omega)
  · obtain ⟨a, h1, h2⟩ := a6 b hb
    exact ⟨a, by omega, h2⟩
theorem GInv_own {P K F O : Nat → Int32} {h c a : Nat} (hG : GInv (P, K, F, O) h) (hc : c < h) : GInv (P, K, F, upd O a (nI c)) h := by
  obtain ⟨a1, a2, a3, a4, a5, a6⟩ := hG
  refine ⟨a1, a2, a3, a4, a5, fun b hb => ?_⟩
  show ∃ x, x < h ∧ upd O a (nI c) b = nI x
  by_cases q : b = a
  · subst q; exact ⟨c, hc, upd_eq _ _ _⟩
  · rw [upd_ne q]; exact a6 b hb
theorem GInv_key {P K F O : Nat → Int32} {h k a : Nat} (hG : GInv (P, K, F, O) h) (hk : k ≤ 100) : GInv (P, upd K a (nI k), F, O) h := by
  obtain ⟨a1, a2, a3, a4, a5, a6⟩ := hG
  refine ⟨a1, a2, a3, a4, fun b hb => ?_, a6⟩
  show ∃ x, x ≤ 100 ∧ upd K a (nI k) b = nI x
  by_cases q : b = a
  · subst q; exact ⟨k, hk, upd_eq _ _ _⟩
  · rw [upd_ne q]; exact a5 b hb
theorem GInv_frs {P K F F' O : Nat → Int32} {h : Nat} (hG : GInv (P, K, F, O) h) : GInv (P, K, F', O) h := hG
theorem OInv_h {O : Ob} {h h' n : Nat} (hh : h ≤ h') (q : OInv O h n) : OInv O h' n := by
  refine ⟨q.1, fun o ho => ?_⟩
  obtain ⟨⟨a, h1, h2⟩, h3, h4, h5⟩ := q.2 o ho
  exact ⟨⟨a, by omega, h2⟩, h3, fun g => by obtain ⟨x, g1, g2⟩ := h4 g; exact ⟨x, by omega, g2⟩, h5⟩
theorem OInv_add {f7 f8 f9 f10 f11 f12 f13 f14 f15 f16 f14' : Nat → Int32} {h n a kk lb vb : Nat} {k wm vl ln ex dy : Int32} (q : OInv (f7, f8, f9, f10, f11, f12, f13, f14, f15, f16) h n) (hn : n < 50) (ha : a < h) (hk : kk < 3) (ek : k = nI kk) (hw0 : k = 0 → ∃ c, c < h ∧ wm = nI c) (hw1 : k ≠ 0 → ∃ c, c < 10 ∧ wm = nI c) (hl : lb ≤ 8) (el : ln = nI lb) (hv : vb < 256) (ev : vl = nI vb) (h15 : f15 n = 0) (h16 : f16 n = 0) (he1 : k = 1 → ∃ c, c ≤ 8 ∧ ex = nI c) (he2 : k = 2 → ∃ c, c < 1024 ∧ ex = nI c) : OInv (upd f7 n k, upd f8 n (nI a), upd f9 n wm, upd f10 n vl, upd f11 n ln, upd f12 n ex, upd f13 n dy, f14', f15, f16) h (n + 1) := by
  refine ⟨by omega, fun o ho => ?_⟩
  show (∃ x, x < h ∧ upd f8 n (nI a) o = nI x) ∧ (∃ x, x < 3 ∧ upd f7 n k o = nI x) ∧ (upd f7 n k o = 0 → ∃ x, x < h ∧ upd f9 n wm o = nI x) ∧ (upd f7 n k o ≠ 0 → ∃ x, x < 10 ∧ upd f9 n wm o = nI x) ∧ (∃ x, x ≤ 8 ∧ upd f11 n ln o = nI x) ∧ (∃ x, x < 256 ∧ upd f10 n vl o = nI x) ∧ (f15 o = 0 ∨ f15 o = 1) ∧ (f16 o = 0 ∨ f16 o = 1) ∧ (f16 o = 1 → f15 o = 1) ∧ (upd f7 n k o = 1 → ∃ x, x ≤ 8 ∧ upd f12 n ex o = nI x) ∧ (upd f7 n k o = 2 → ∃ x, x < 1024 ∧ upd f12 n ex o = nI x)
  by_cases e : o = n
  · subst e
    simp only [upd_eq]
    exact ⟨⟨a, ha, rfl⟩, ⟨kk, hk, ek⟩, hw0, hw1, ⟨lb, hl, el⟩, ⟨vb, hv, ev⟩, Or.inl h15, Or.inl h16, fun g => absurd (h16.symm.trans g) (by decide), he1, he2⟩
  · simp only [upd_ne e]
    exact q.2 o (by omega)
theorem OInv_lsd {f7 f8 f9 f10 f11 f12 f13 f14 f15 f16 L : Nat → Int32} {h n : Nat} (q : OInv (f7, f8, f9, f10, f11, f12, f13, f14, f15, f16) h n) (hL : ∀ o, o < n → (L o = 0 ∨ L o = 1) ∧ (L o = 1 → f15 o = 1)) : OInv (f7, f8, f9, f10, f11, f12, f13, f14, f15, L) h n := by
  refine ⟨q.1, fun o ho => ?_⟩
  obtain ⟨h1, h2, h3, h4, h5, h6, h7, h8, h9, h10⟩ := q.2 o ho
  exact ⟨h1, h2, h3, h4, h5, h6, h7, (hL o ho).1, (hL o ho).2, h10⟩
theorem OInv_rvk {f7 f8 f9 f10 f11 f12 f13 f14 f15 f16 : Nat → Int32} {h n x : Nat} (q : OInv (f7, f8, f9, f10, f11, f12, f13, f14, f15, f16) h n) : OInv (f7, f8, f9, f10, f11, f12, f13, f14, upd f15 x 1, f16) h n := by
  refine ⟨q.1, fun o ho => ?_⟩
  obtain ⟨h1, h2, h3, h4, h5, h6, h7, h8, h9, h10⟩ := q.2 o ho
  refine ⟨h1, h2, h3, h4, h5, h6, ?_, h8, fun g => ?_, h10⟩
  · show upd f15 x 1 o = 0 ∨ upd f15 x 1 o = 1
    by_cases e : o = x
    · subst e; exact Or.inr (upd_eq _ _ _)
    · rw [upd_ne e]; exact h7
  · show upd f15 x 1 o = 1
    by_cases e : o = x
    · subst e; exact upd_eq _ _ _
    · rw [upd_ne e]; exact h9 g
theorem OInv_ext {f7 f8 f9 f10 f11 f12 f13 f14 f15 f16 : Nat → Int32} {h n x : Nat} {ex : Int32} (q : OInv (f7, f8, f9, f10, f11, f12, f13, f14, f15, f16) h n) (h1 : f7 x = 1 → ∃ c, c ≤ 8 ∧ ex = nI c) (h2 : f7 x = 2 → ∃ c, c < 1024 ∧ ex = nI c) : OInv (f7, f8, f9, f10, f11, upd f12 x ex, f13, f14, f15, f16) h n := by
  refine ⟨q.1, fun o ho => ?_⟩
  obtain ⟨g1, g2, g3, g4, g5, g6, g7, g8, g9, g10, g11⟩ := q.2 o ho
  refine ⟨g1, g2, g3, g4, g5, g6, g7, g8, g9, fun k => ?_, fun k => ?_⟩
  · show ∃ a, a ≤ 8 ∧ upd f12 x ex o = nI a
    by_cases e : o = x
    · subst e; rw [upd_eq]; exact h1 k
    · rw [upd_ne e]; exact g10 k
  · show ∃ a, a < 1024 ∧ upd f12 x ex o = nI a
    by_cases e : o = x
    · subst e; rw [upd_eq]; exact h2 k
    · rw [upd_ne e]; exact g11 k
theorem OInv_sgn {f7 f8 f9 f10 f11 f12 f13 f14 f14' f15 f16 : Nat → Int32} {h n : Nat} (q : OInv (f7, f8, f9, f10, f11, f12, f13, f14, f15, f16) h n) : OInv (f7, f8, f9, f10, f11, f12, f13, f14', f15, f16) h n := q
theorem PA_hop {f : Nat → Int32} {X Y : Mem} {p z a : Nat} {P : Nat → Nat} (h : PA X p P z) (ha : a < 10) (e : Y p = upd (X p) z (nI a)) : PA Y p (ext1 P z a) (z + 1) := by
  have _ := f
  intro k hk
  rw [e]
  exact PAr_ext h ha k hk
theorem sqp_lt {dr : Nat → Nat} {B : Nat} : ∀ (j x : Nat), (∀ k, k < j → dr k < B) → x < sqn dr j → sqp dr j x < B
  | 0, x, _, hx => absurd hx (Nat.not_lt_zero _)
  | j + 1, x, h, hx => by
    by_cases q : SqK dr j
    · rw [sqn_y q] at hx
      by_cases e : x = sqn dr j
      · subst e
        rw [sqp_new q]
        exact h j (by omega)
      · rw [sqp_old (fun z => e z.2)]
        exact sqp_lt j x (fun k hk => h k (by omega)) (by omega)
    · rw [sqn_n q] at hx
      rw [sqp_old (fun z => q z.1)]
      exact sqp_lt j x (fun k hk => h k (by omega)) hx
theorem cntT_c {Th Th' : Nat → Prop} {R : Nat} (e : ∀ r, r < R → (Th r ↔ Th' r)) : cntT Th R = cntT Th' R := sumN_congr (fun r hr => oneIf_c (e r hr))
/-- one route more -/
def exR {α : Type} (f : Nat → α) (R : Nat) (x : α) : Nat → α := fun r => if r = R then x else f r
theorem exR_eq {α : Type} {f : Nat → α} {R : Nat} {x : α} : exR f R x R = x := if_pos rfl
theorem exR_ne {α : Type} {f : Nat → α} {R r : Nat} {x : α} (h : r ≠ R) : exR f R x r = f r := if_neg h
def mkC (X : Mem) (n a : Nat) (k wm vl ln ex dd : Int32) : Mem := (ma (ma (ma (ma (ma (ma (ma (ma X 7 (upd (X 7) n k)) 8 (upd (X 8) n (nI a))) 9 (upd (X 9) n wm)) 10 (upd (X 10) n vl)) 11 (upd (X 11) n ln)) 12 (upd (X 12) n ex)) 13 (upd (X 13) n (X 1 0 + dd))) 6 (upd (X 6) 0 (nI (n + 1))))
theorem mkC_ne {X : Mem} {n a : Nat} {k wm vl ln ex dd : Int32} {p : Nat} (h : p < 6 ∨ 13 < p) : mkC X n a k wm vl ln ex dd p = X p := by
  unfold mkC
  rw [ma_ne (by omega), ma_ne (by omega), ma_ne (by omega), ma_ne (by omega), ma_ne (by omega), ma_ne (by omega), ma_ne (by omega), ma_ne (by omega)]
theorem mkC_o {X : Mem} {n a : Nat} {k wm vl ln ex dd : Int32} : oC (mkC X n a k wm vl ln ex dd) = (upd (X 7) n k, upd (X 8) n (nI a), upd (X 9) n wm, upd (X 10) n vl, upd (X 11) n ln, upd (X 12) n ex, upd (X 13) n (X 1 0 + dd), X 14, X 15, X 16) := rfl
theorem mkC_6 {X : Mem} {n a : Nat} {k wm vl ln ex dd : Int32} : mkC X n a k wm vl ln ex dd 6 = upd (X 6) 0 (nI (n + 1)) := rfl
