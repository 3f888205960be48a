/-- what a call throws: the first of three needs that fails -/
def Flt3 (A B C : Prop) (E : String) : Prop := (E = eIO ∧ ¬ A) ∨ (E = eIA ∧ A ∧ ¬ B) ∨ (E = eIS ∧ A ∧ B ∧ ¬ C)
def Flt2 (e1 e2 : String) (A B : Prop) (E : String) : Prop := (E = e1 ∧ ¬ A) ∨ (E = e2 ∧ A ∧ ¬ B)
theorem Btw_1 {v : Int32} (h : Btw v 1 100) : ∃ d, d < 101 ∧ v = nI d := Btw_of (n := 100) (by decide) ⟨Int32.le_trans (by decide) h.1, h.2⟩
def Flt3a (A B C : Prop) (E : String) : Prop := (E = eIO ∧ ¬ A) ∨ (E = eIS ∧ A ∧ ¬ B) ∨ (E = eIA ∧ A ∧ B ∧ ¬ C)
theorem nI01 : nI 0 = 0 ∧ nI 1 = 1 := ⟨rfl, rfl⟩
theorem alt_b {f : Nat → Int32} {o n k : Nat} (n50 : n ≤ 50) (ho : o < n) (hk : k < 3) (e : f o = nI k) (h : ¬ k = 0) : ∀ x, x < n → nI o = nI x → ¬ f x = 0 := by
  intro x hx ex q
  have := (nI_eq (by omega) (by omega)).mp ex
  subst this
  rw [e] at q
  have q2 : nI k = nI 0 := q
  exact h ((nI_eq (by omega) (by omega)).mp q2)
theorem alt_0 {f : Nat → Int32} {o k : Nat} (e : f o = nI k) (h : k = 0) : f o = 0 := by rw [e, h]; rfl
theorem alt_e1 {f : Nat → Int32} {o k : Nat} (e : f o = nI k) (h : k = 1) : (if f o = 1 then (8 : Int32) else 1023) = 8 := by rw [if_pos (by rw [e, h]; rfl)]
theorem alt_e2 {f : Nat → Int32} {o k : Nat} (hk : k < 3) (e : f o = nI k) (h : ¬ k = 1) : (if f o = 1 then (8 : Int32) else 1023) = 1023 := if_neg (fun q => h ((nI_eq (by omega) (by omega)).mp (e.symm.trans q : nI k = nI 1)))
theorem alt_1 {f : Nat → Int32} {o k : Nat} {x : Int32} (_hk : k < 3) (e : f o = nI k) (h : k = 1) (g : Btw x 0 (if f o = 1 then 8 else 1023)) : Btw x 0 8 := by rw [alt_e1 e h] at g; exact g
theorem alt_2 {f : Nat → Int32} {o k : Nat} {x : Int32} (hk : k < 3) (e : f o = nI k) (h : ¬ k = 1) (g : Btw x 0 (if f o = 1 then 8 else 1023)) : Btw x 0 1023 := by rw [alt_e2 hk e h] at g; exact g
theorem alt_1r {f : Nat → Int32} {o k : Nat} {x : Int32} (_hk : k < 3) (e : f o = nI k) (h : k = 1) (g : Btw x 0 8) : Btw x 0 (if f o = 1 then 8 else 1023) := by rw [alt_e1 e h]; exact g
theorem alt_2r {f : Nat → Int32} {o k : Nat} {x : Int32} (hk : k < 3) (e : f o = nI k) (h : ¬ k = 1) (g : Btw x 0 1023) : Btw x 0 (if f o = 1 then 8 else 1023) := by rw [alt_e2 hk e h]; exact g
/-- what is listed once a holder publishes -/
noncomputable def LsR (f8 f15 f16 : Nat → Int32) (v : Int32) (o : Nat) : Nat → Int32 := fun x => Int32.ofNat (oneIf (x < o ∧ f8 x = v ∧ ¬ f15 x = 0)) + (1 - Int32.ofNat (oneIf (x < o ∧ f8 x = v ∧ ¬ f15 x = 0))) * f16 x
theorem LsR_y {f8 f15 f16 : Nat → Int32} {v : Int32} {o x : Nat} (h : x < o ∧ f8 x = v ∧ ¬ f15 x = 0) : LsR f8 f15 f16 v o x = 1 := by
  show Int32.ofNat (oneIf _) + (1 - Int32.ofNat (oneIf _)) * _ = _
  rw [oneIf_t h]
  show (1 : Int32) + (1 - 1) * f16 x = 1
  rw [Int32.sub_self, Int32.zero_mul, Int32.add_zero]
theorem LsR_n {f8 f15 f16 : Nat → Int32} {v : Int32} {o x : Nat} (h : ¬ (x < o ∧ f8 x = v ∧ ¬ f15 x = 0)) : LsR f8 f15 f16 v o x = f16 x := by
  show Int32.ofNat (oneIf _) + (1 - Int32.ofNat (oneIf _)) * _ = _
  rw [oneIf_f h]
  show (0 : Int32) + (1 - 0) * f16 x = f16 x
  rw [Int32.sub_zero, Int32.one_mul, Int32.zero_add]
theorem LsR_s1 {f8 f15 f16 : Nat → Int32} {v : Int32} {o : Nat} (h1 : f8 o = v) (h2 : ¬ f15 o = 0) : upd (LsR f8 f15 f16 v o) o 1 = LsR f8 f15 f16 v (o + 1) := by
  funext x
  by_cases q : x = o
  · subst q
    rw [upd_eq, LsR_y ⟨by omega, h1, h2⟩]
  · rw [upd_ne q]
    by_cases z : x < o ∧ f8 x = v ∧ ¬ f15 x = 0
    · rw [LsR_y z, LsR_y ⟨by omega, z.2⟩]
    · rw [LsR_n z, LsR_n (fun y => z ⟨by omega, y.2⟩)]
theorem LsR_s0 {f8 f15 f16 : Nat → Int32} {v : Int32} {o : Nat} (h : ¬ (f8 o = v ∧ ¬ f15 o = 0)) : LsR f8 f15 f16 v (o + 1) = LsR f8 f15 f16 v o := by
  funext x
  by_cases z : x < o ∧ f8 x = v ∧ ¬ f15 x = 0
  · rw [LsR_y z, LsR_y ⟨by omega, z.2⟩]
  · rw [LsR_n z, LsR_n (fun y => by
      by_cases q : x = o
      · subst q; exact h y.2
      · exact z ⟨by omega, y.2⟩)]
theorem LsR_0 {f8 f15 f16 : Nat → Int32} {v : Int32} : f16 = LsR f8 f15 f16 v 0 := funext fun x => (LsR_n (fun q => absurd q.1 (Nat.not_lt_zero _))).symm
theorem sum_y {p : Nat → Prop} {o : Nat} (h : p o) : sumN (fun x => oneIf (p x)) (o + 1) = sumN (fun x => oneIf (p x)) o + 1 := by
  show sumN _ o + oneIf (p o) = _
  rw [oneIf_t h]
theorem sum_n {p : Nat → Prop} {o : Nat} (h : ¬ p o) : sumN (fun x => oneIf (p x)) (o + 1) = sumN (fun x => oneIf (p x)) o := by
  show sumN _ o + oneIf (p o) = _
  rw [oneIf_f h, Nat.add_zero]
