theorem tC_ma {X : Mem} {p : Nat} {f : Nat → Int32} (h : p < 53 ∨ 62 < p) : tC (ma X p f) = tC X := by
  funext a b
  unfold tC
  by_cases q : a < 10
  · rw [if_pos q, if_pos q, ma_ne (by omega)]
  · rw [if_neg q, if_neg q]
theorem tM_ma {X : Mem} {p : Nat} {f : Nat → Int32} (h : p ≠ 106) : tM (ma X p f) = tM X := by
  funext a b
  unfold tM
  rw [ma_ne (fun e => h e.symm)]
noncomputable def oneIf (p : Prop) : Nat := @ite Nat p (Classical.propDecidable p) 1 0
theorem oneIf_t {p : Prop} (h : p) : oneIf p = 1 := by unfold oneIf; exact if_pos h
theorem oneIf_f {p : Prop} (h : ¬ p) : oneIf p = 0 := by unfold oneIf; exact if_neg h
theorem oneIf_c {p q : Prop} (h : p ↔ q) : oneIf p = oneIf q := by
  by_cases x : p
  · rw [oneIf_t x, oneIf_t (h.mp x)]
  · rw [oneIf_f x, oneIf_f (fun y => x (h.mpr y))]
def sumN (f : Nat → Nat) : Nat → Nat
  | 0 => 0
  | n + 1 => sumN f n + f n
theorem sumN_congr {f g : Nat → Nat} {n : Nat} (h : ∀ a, a < n → f a = g a) : sumN f n = sumN g n := by
  induction n with
  | zero => rfl
  | succ n ih =>
    unfold sumN
    rw [ih (fun a ha => h a (by omega)), h n (by omega)]
theorem sumN_zero {n : Nat} : sumN (fun _ => 0) n = 0 := by
  induction n with
  | zero => rfl
  | succ n ih => unfold sumN; rw [ih]
theorem sumN_add (f g : Nat → Nat) (n : Nat) : sumN (fun a => f a + g a) n = sumN f n + sumN g n := by
  induction n with
  | zero => rfl
  | succ n ih => unfold sumN; rw [ih]; omega
theorem sumN_swap (f : Nat → Nat → Nat) (n m : Nat) : sumN (fun a => sumN (fun b => f a b) m) n = sumN (fun b => sumN (fun a => f a b) n) m := by
  induction n with
  | zero => exact (sumN_zero).symm
  | succ n ih =>
    show sumN (fun a => sumN (fun b => f a b) m) n + sumN (fun b => f n b) m = _
    rw [ih, ← sumN_add]
    rfl
theorem sumN_app (f : Nat → Nat) (n m : Nat) : sumN f (n + m) = sumN f n + sumN (fun a => f (n + a)) m := by
  induction m with
  | zero => rfl
  | succ m ih =>
    show sumN f (n + m) + f (n + m) = sumN f n + (sumN (fun a => f (n + a)) m + f (n + m))
    rw [ih]; omega
theorem sumN_mul (f : Nat → Nat) (k : Nat) : ∀ n, sumN f (n * k) = sumN (fun c => sumN (fun a => f (k * c + a)) k) n
  | 0 => by rw [Nat.zero_mul]; rfl
  | n + 1 => by
    rw [Nat.succ_mul, sumN_app, sumN_mul f k n]
    show _ = sumN (fun c => sumN (fun a => f (k * c + a)) k) n + sumN (fun a => f (k * n + a)) k
    rw [Nat.mul_comm n k]
theorem sumN_one {n t : Nat} (ht : t < n) (f : Nat → Nat) (h : ∀ a, a < n → a ≠ t → f a = 0) : sumN f n = f t := by
  induction n with
  | zero => omega
  | succ n ih =>
    unfold sumN
    by_cases q : t = n
    · subst q
      rw [sumN_congr (g := fun _ => 0) (fun a ha => h a (by omega) (by omega)), sumN_zero, Nat.zero_add]
    · rw [ih (by omega) (fun a ha => h a (by omega)), h n (by omega) (fun e => q e.symm), Nat.add_zero]
/-- a path and one net more -/
def ext1 (P : Nat → Nat) (z a : Nat) : Nat → Nat := fun k => if k = z then a else P k
theorem ext1_eq {P : Nat → Nat} {z a : Nat} : ext1 P z a z = a := if_pos rfl
theorem ext1_ne {P : Nat → Nat} {z a k : Nat} (h : k ≠ z) : ext1 P z a k = P k := if_neg h
theorem ext1_lt {P : Nat → Nat} {z a k : Nat} (h : k < z) : ext1 P z a k = P k := if_neg (by omega)
/-- one step of an allowed path -/
def Stp1 (ti : Nat → Nat → Int32) (P : Nat → Nat) (k : Nat) : Prop := ¬ ti (P k) (P (k + 1)) = 0 ∧ (k = 0 ∨ ti (P (k - 1)) (P k) = 1 ∨ ti (P (k + 1)) (P k) = 1)
def Al (ti : Nat → Nat → Int32) (P : Nat → Nat) (z : Nat) : Prop := ¬ Rnd P z ∧ ∀ k, k + 1 < z → Stp1 ti P k
theorem Rnd_congr {P P' : Nat → Nat} {z : Nat} (e : ∀ k, k < z → P k = P' k) : Rnd P z ↔ Rnd P' z := by
  constructor
  · rintro ⟨i, j, h1, h2, h3⟩; exact ⟨i, j, h1, h2, by rw [← e i (by omega), ← e j h2]; exact h3⟩
  · rintro ⟨i, j, h1, h2, h3⟩; exact ⟨i, j, h1, h2, by rw [e i (by omega), e j h2]; exact h3⟩
theorem Stp1_congr {ti : Nat → Nat → Int32} {P P' : Nat → Nat} {k : Nat} (e : ∀ j, j < k + 2 → P j = P' j) : Stp1 ti P k ↔ Stp1 ti P' k := by
  unfold Stp1
  rw [e k (by omega), e (k + 1) (by omega), e (k - 1) (by omega)]
theorem Al_congr {ti : Nat → Nat → Int32} {P P' : Nat → Nat} {z : Nat} (e : ∀ k, k < z → P k = P' k) : Al ti P z ↔ Al ti P' z := by
  unfold Al
  rw [Rnd_congr e]
  constructor
  · rintro ⟨h1, h2⟩; exact ⟨h1, fun k hk => (Stp1_congr (fun j hj => e j (by omega))).mp (h2 k hk)⟩
  · rintro ⟨h1, h2⟩; exact ⟨h1, fun k hk => (Stp1_congr (fun j hj => e j (by omega))).mpr (h2 k hk)⟩
theorem Al_ext {ti : Nat → Nat → Int32} {P : Nat → Nat} {z a : Nat} (hz : 1 ≤ z) : Al ti (ext1 P z a) (z + 1) ↔ Al ti P z ∧ (¬ ∃ k, k < z ∧ P k = a) ∧ Stp1 ti (ext1 P z a) (z - 1) := by
  have e : ∀ k, k < z → ext1 P z a k = P k := fun k hk => ext1_lt hk
  have e1 : Rnd (ext1 P z a) (z + 1) ↔ Rnd P z ∨ ∃ k, k < z ∧ P k = a := by
    rw [Rnd_succ, Rnd_congr e, ext1_eq]
    constructor
    · rintro (q | ⟨k, h1, h2⟩)
      · exact Or.inl q
      · exact Or.inr ⟨k, h1, by rw [← e k h1]; exact h2⟩
    · rintro (q | ⟨k, h1, h2⟩)
      · exact Or.inl q
      · exact Or.inr ⟨k, h1, by rw [e k h1]; exact h2⟩
  unfold Al
  rw [e1]
  constructor
  · rintro ⟨h1, h2⟩
    exact ⟨⟨fun q => h1 (Or.inl q), fun k hk => (Stp1_congr (fun j hj => ext1_lt (by omega))).mp (h2 k (by omega))⟩, fun q => h1 (Or.inr q), h2 (z - 1) (by omega)⟩
  · rintro ⟨⟨h1, h2⟩, h3, h4⟩
    refine ⟨fun q => q.elim h1 h3, fun k hk => ?_⟩
    by_cases q : k = z - 1
    · rw [q]; exact h4
    · exact (Stp1_congr (fun j hj => ext1_lt (by omega))).mpr (h2 k (by omega))
theorem Al_pre {ti : Nat → Nat → Int32} {P : Nat → Nat} {z : Nat} (h : Al ti P (z + 1)) : Al ti P z := ⟨fun q => h.1 (Rnd_mono (by omega) q), fun k hk => h.2 k (by omega)⟩
/-- the sum of f over all paths that go on by d nets -/
def cx (f : (Nat → Nat) → Nat → Nat) : Nat → (Nat → Nat) → Nat → Nat
  | 0, P, z => f P z
  | d + 1, P, z => sumN (fun a => cx f d (ext1 P z a) (z + 1)) 10
/-- over all that go on by 1 to M nets -/
def tot (f : (Nat → Nat) → Nat → Nat) : Nat → (Nat → Nat) → Nat → Nat
  | 0, _, _ => 0
  | M + 1, P, z => sumN (fun a => f (ext1 P z a) (z + 1) + tot f M (ext1 P z a) (z + 1)) 10
theorem tot_cx (f : (Nat → Nat) → Nat → Nat) : ∀ (M : Nat) (P : Nat → Nat) (z : Nat), tot f M P z = sumN (fun m => cx f (m + 1) P z) M
  | 0, _, _ => rfl
  | M + 1, P, z => by
    show sumN (fun a => f (ext1 P z a) (z + 1) + tot f M (ext1 P z a) (z + 1)) 10 = _
    rw [sumN_congr (g := fun a => f (ext1 P z a) (z + 1) + sumN (fun m => cx f (m + 1) (ext1 P z a) (z + 1)) M) (fun a _ => by rw [tot_cx f M]), sumN_add, sumN_swap, Nat.add_comm M 1, sumN_app]
    show _ = (0 + cx f 1 P z) + sumN (fun a => cx f (1 + a + 1) P z) M
    rw [Nat.zero_add]
    congr 1
    exact sumN_congr (fun m _ => by rw [Nat.add_comm 1 m]; rfl)
theorem cx_zero {f : (Nat → Nat) → Nat → Nat} {d : Nat} : ∀ {P : Nat → Nat} {z : Nat}, (∀ Q, (∀ k, k < z → Q k = P k) → f Q (z + d) = 0) → cx f d P z = 0 := by
  induction d with
  | zero => intro P z h; exact h P (fun _ _ => rfl)
  | succ d ih =>
    intro P z h
    show sumN (fun a => cx f d (ext1 P z a) (z + 1)) 10 = 0
    rw [sumN_congr (g := fun _ => 0) (fun a _ => ih (fun Q hQ => by
      have e : z + 1 + d = z + (d + 1) := by omega
      rw [e]
      exact h Q (fun k hk => by rw [hQ k (by omega), ext1_lt hk]))), sumN_zero]
theorem tot_zero {f : (Nat → Nat) → Nat → Nat} {M : Nat} {P : Nat → Nat} {z : Nat} (h : ∀ d Q, (∀ k, k < z → Q k = P k) → f Q (z + (d + 1)) = 0) : tot f M P z = 0 := by
  rw [tot_cx, sumN_congr (g := fun _ => 0) (fun m _ => cx_zero (fun Q hQ => h m Q hQ)), sumN_zero]
/-- the figures of a number -/
def dg (c : Nat) : Nat → Nat := fun k => c / 10 ^ k % 10
def glue (P : Nat → Nat) (z c : Nat) : Nat → Nat := fun k => if k < z then P k else dg c (k - z)
theorem glue_cx (f : (Nat → Nat) → Nat → Nat) (hf : ∀ P P' n, (∀ k, k < n → P k = P' k) → f P n = f P' n) : ∀ (d : Nat) (P : Nat → Nat) (z : Nat), sumN (fun c => f (glue P z c) (z + d)) (10 ^ d) = cx f d P z
  | 0, P, z => by
    show 0 + f (glue P z 0) (z + 0) = f P z
    rw [Nat.zero_add]
    exact hf _ _ _ (fun k hk => if_pos hk)
  | d + 1, P, z => by
    rw [Nat.pow_succ, sumN_mul, sumN_swap]
    refine sumN_congr (fun a ha => ?_)
    rw [← glue_cx f hf d]
    refine sumN_congr (fun c _ => ?_)
    have e : z + (d + 1) = z + 1 + d := by omega
    rw [e]
    refine hf _ _ _ (fun k _ => ?_)
    unfold glue
    by_cases h1 : k < z
    · rw [if_pos h1, if_pos (by omega), ext1_lt h1]
    · rw [if_neg h1]
      by_cases h2 : k = z
      · subst h2
        rw [if_pos (by omega), ext1_eq, Nat.sub_self]
        unfold dg
        rw [Nat.pow_zero, Nat.div_one]
        omega
      · rw [if_neg (by omega)]
        unfold dg
        obtain ⟨j, hj⟩ : ∃ j, k - z = j + 1 := ⟨k - z - 1, by omega⟩
        have hj2 : k - (z + 1) = j := by omega
        rw [hj, hj2, Nat.pow_succ, Nat.mul_comm (10 ^ j) 10, ← Nat.div_div_eq_div_mul]
        congr 2
        omega
theorem cx_last (A : (Nat → Nat) → Nat → Prop) {t : Nat} (ht : t < 10) (hA : ∀ P P' n, (∀ k, k < n → P k = P' k) → (A P n ↔ A P' n)) : ∀ (d : Nat) (P : Nat → Nat) (z : Nat), cx (fun Q n => oneIf (A Q n ∧ Q (n - 1) = t)) (d + 1) P z = cx (fun Q n => oneIf (A (ext1 Q n t) (n + 1))) d P z
  | 0, P, z => by
    show sumN (fun a => oneIf (A (ext1 P z a) (z + 1) ∧ ext1 P z a (z + 1 - 1) = t)) 10 = oneIf (A (ext1 P z t) (z + 1))
    rw [sumN_one ht _ (fun a _ hne => oneIf_f (fun q => hne (by have := q.2; rw [Nat.add_sub_cancel, ext1_eq] at this; exact this)))]
    exact oneIf_c ⟨fun q => q.1, fun q => ⟨q, by rw [Nat.add_sub_cancel, ext1_eq]⟩⟩
  | d + 1, P, z => by
    show sumN (fun a => cx (fun Q n => oneIf (A Q n ∧ Q (n - 1) = t)) (d + 1) (ext1 P z a) (z + 1)) 10 = sumN (fun a => cx (fun Q n => oneIf (A (ext1 Q n t) (n + 1))) d (ext1 P z a) (z + 1)) 10
    exact sumN_congr (fun a _ => cx_last A ht hA d _ _)
/-- the weights: allowed paths that end at t; allowed paths that their last net refuses -/
noncomputable def wTo (ti : Nat → Nat → Int32) (t : Nat) : (Nat → Nat) → Nat → Nat := fun Q n => oneIf (Al ti Q n ∧ Q (n - 1) = t)
noncomputable def wRf (ti : Nat → Nat → Int32) (hv pv : Nat → Int32) : (Nat → Nat) → Nat → Nat := fun Q n => oneIf (Al ti Q n ∧ Rf ti hv pv Q (n - 1))
theorem PA_ext {X : Mem} {p : Nat} {P : Nat → Nat} {z a : Nat} (h : ∀ k, k < z → X p k = nI (P k) ∧ P k < 10) (hz : X p z = nI a) (ha : a < 10) : PA X p (ext1 P z a) (z + 1) := by
  intro k hk
  rcases lt_succ_or.mp hk with q | rfl
  · rw [ext1_lt q]; exact h k q
  · rw [ext1_eq]; exact ⟨hz, ha⟩
theorem PAr_ext {T : Nat → Int32} {P : Nat → Nat} {z a : Nat} (h : ∀ k, k < z → T k = nI (P k) ∧ P k < 10) (ha : a < 10) : ∀ k, k < z + 1 → upd T z (nI a) k = nI (ext1 P z a k) ∧ ext1 P z a k < 10 := by
  intro k hk
  rcases lt_succ_or.mp hk with q | rfl
  · rw [ext1_lt q, upd_ne (by omega)]; exact h k q
  · rw [ext1_eq, upd_eq]; exact ⟨rfl, ha⟩
theorem Seen_ext {P : Nat → Nat} {z a S : Nat} (h : Seen P z S) (ha : a < 10) : Seen (ext1 P z a) (z + 1) (S ||| 2 ^ a) := by
  have h2 : Seen (ext1 P z a) z S := ⟨h.1, fun b => by
    rw [h.2 b]
    constructor
    · rintro ⟨k, h1, h2⟩; exact ⟨k, h1, by rw [ext1_lt h1]; exact h2⟩
    · rintro ⟨k, h1, h2⟩; exact ⟨k, h1, by rw [ext1_lt h1] at h2; exact h2⟩⟩
  have := Seen_succ h2 (by rw [ext1_eq]; exact ha)
  rw [ext1_eq] at this
  exact this
theorem Stp1_ext {ti : Nat → Nat → Int32} {P : Nat → Nat} {z a : Nat} (hz : 1 ≤ z) : Stp1 ti (ext1 P z a) (z - 1) ↔ ¬ ti (P (z - 1)) a = 0 ∧ (z = 1 ∨ ti (P (z - 2)) (P (z - 1)) = 1 ∨ ti a (P (z - 1)) = 1) := by
  unfold Stp1
  have e : z - 1 + 1 = z := by omega
  have e2 : z - 1 - 1 = z - 2 := by omega
  rw [e, e2, ext1_eq, ext1_lt (k := z - 1) (by omega)]
  rcases Nat.lt_or_ge 1 z with q | q
  · rw [ext1_lt (k := z - 2) (by omega)]
    constructor
    · rintro ⟨h1, h2 | h2⟩
      · exact ⟨h1, Or.inl (by omega)⟩
      · exact ⟨h1, Or.inr h2⟩
    · rintro ⟨h1, h2 | h2⟩
      · exact ⟨h1, Or.inl (by omega)⟩
      · exact ⟨h1, Or.inr h2⟩
  · constructor
    · rintro ⟨h1, -⟩; exact ⟨h1, Or.inl (by omega)⟩
    · rintro ⟨h1, -⟩; exact ⟨h1, Or.inl (by omega)⟩
theorem cnt_skip {W : (Nat → Nat) → Nat → Nat} {ti : Nat → Nat → Int32} (hW : ∀ Q n, ¬ Al ti Q n → W Q n = 0) {P : Nat → Nat} {z M : Nat} (h : ¬ Al ti P z) : W P z + tot W M P z = 0 := by
  have : ∀ Q d, Al ti Q (z + d) → Al ti Q z := by
    intro Q d
    induction d with
    | zero => exact id
    | succ d ih => exact fun q => ih (Al_pre q)
  rw [hW P z h, tot_zero (fun d Q hQ => hW Q _ (fun q => h ((Al_congr hQ).mp (this Q (d + 1) q))))]
theorem wTo_z {ti : Nat → Nat → Int32} {t : Nat} : ∀ Q n, ¬ Al ti Q n → wTo ti t Q n = 0 := fun _ _ h => oneIf_f (fun q => h q.1)
theorem wRf_z {ti : Nat → Nat → Int32} {hv pv : Nat → Int32} : ∀ Q n, ¬ Al ti Q n → wRf ti hv pv Q n = 0 := fun _ _ h => oneIf_f (fun q => h q.1)
theorem cnt_end {W : (Nat → Nat) → Nat → Nat} {P : Nat → Nat} {z a d fo : Nat} (hz : z + d = 5) (hd : z < 5) (ha : 10 ≤ a) (ha2 : a ≤ 10) (h : fo = sumN (fun b => W (ext1 P z b) (z + 1) + tot W (d - 1) (ext1 P z b) (z + 1)) a) : fo = tot W d P z := by
  obtain ⟨e, rfl⟩ : ∃ e, d = e + 1 := ⟨d - 1, by omega⟩
  have : a = 10 := by omega
  subst this
  exact h
theorem cnt_0 {W : (Nat → Nat) → Nat → Nat} {ti : Nat → Nat → Int32} (hW : ∀ Q n, ¬ Al ti Q n → W Q n = 0) {P : Nat → Nat} {z a d fo : Nat} (h : fo = sumN (fun b => W (ext1 P z b) (z + 1) + tot W (d - 1) (ext1 P z b) (z + 1)) a) (hn : ¬ Al ti (ext1 P z a) (z + 1)) : fo = sumN (fun b => W (ext1 P z b) (z + 1) + tot W (d - 1) (ext1 P z b) (z + 1)) (a + 1) := by
  show fo = sumN _ a + (W (ext1 P z a) (z + 1) + tot W (d - 1) (ext1 P z a) (z + 1))
  rw [cnt_skip hW hn, ← h, Nat.add_zero]
theorem cnt_1 {W : (Nat → Nat) → Nat → Nat} {P : Nat → Nat} {z a d fo x : Nat} (h : fo = sumN (fun b => W (ext1 P z b) (z + 1) + tot W (d - 1) (ext1 P z b) (z + 1)) a) (hx : W (ext1 P z a) (z + 1) = x) : fo + x + tot W (d - 1) (ext1 P z a) (z + 1) = sumN (fun b => W (ext1 P z b) (z + 1) + tot W (d - 1) (ext1 P z b) (z + 1)) (a + 1) := by
  show _ = sumN _ a + (W (ext1 P z a) (z + 1) + tot W (d - 1) (ext1 P z a) (z + 1))
  rw [hx, ← h, Nat.add_assoc]
theorem ne_m1 {a : Nat} (h : a < 10) : ¬ nI a = -1 := (by decide : ∀ a, a < 10 → ¬ nI a = -1) a h
theorem not_Al_seen {ti : Nat → Nat → Int32} {P : Nat → Nat} {z a S : Nat} (hz : 1 ≤ z) (hS : Seen P z S) (h : S.testBit a = true) : ¬ Al ti (ext1 P z a) (z + 1) := fun q => ((Al_ext hz).mp q).2.1 ((hS.2 a).mp h)
theorem not_Al_step {ti : Nat → Nat → Int32} {P : Nat → Nat} {z a : Nat} (hz : 1 ≤ z) (h : ¬ Stp1 ti (ext1 P z a) (z - 1)) : ¬ Al ti (ext1 P z a) (z + 1) := fun q => h ((Al_ext hz).mp q).2.2
theorem Al_yes {ti : Nat → Nat → Int32} {P : Nat → Nat} {z a S : Nat} (hz : 1 ≤ z) (hA : Al ti P z) (hS : Seen P z S) (h : ¬ S.testBit a = true) (h2 : Stp1 ti (ext1 P z a) (z - 1)) : Al ti (ext1 P z a) (z + 1) := (Al_ext hz).mpr ⟨hA, fun q => h ((hS.2 a).mpr q), h2⟩
theorem wTo_y {ti : Nat → Nat → Int32} {P : Nat → Nat} {z a t : Nat} (hA : Al ti (ext1 P z a) (z + 1)) (h : a = t) : wTo ti t (ext1 P z a) (z + 1) = 1 := oneIf_t ⟨hA, by rw [Nat.add_sub_cancel, ext1_eq]; exact h⟩
theorem wTo_n {ti : Nat → Nat → Int32} {P : Nat → Nat} {z a t : Nat} (h : a ≠ t) : wTo ti t (ext1 P z a) (z + 1) = 0 := oneIf_f (fun q => h (by have := q.2; rw [Nat.add_sub_cancel, ext1_eq] at this; exact this))
theorem wRf_y {ti : Nat → Nat → Int32} {hv pv : Nat → Int32} {P : Nat → Nat} {z a : Nat} (hA : Al ti (ext1 P z a) (z + 1)) (h : Rf ti hv pv (ext1 P z a) z) : wRf ti hv pv (ext1 P z a) (z + 1) = 1 := oneIf_t ⟨hA, by rw [Nat.add_sub_cancel]; exact h⟩
theorem wRf_n {ti : Nat → Nat → Int32} {hv pv : Nat → Int32} {P : Nat → Nat} {z a : Nat} (h : ¬ Rf ti hv pv (ext1 P z a) z) : wRf ti hv pv (ext1 P z a) (z + 1) = 0 := oneIf_f (fun q => h (by have := q.2; rw [Nat.add_sub_cancel] at this; exact this))
theorem tot_none {W : (Nat → Nat) → Nat → Nat} {P : Nat → Nat} {z d : Nat} (h : d = 0) : (0 : Int32) = nI (tot W d P z) := by subst h; rfl
theorem dg_lt {c k : Nat} : dg c k < 10 := Nat.mod_lt _ (by decide)
theorem all_succ {P : Nat → Prop} {i : Nat} (h : ∀ j, j < i → P j) (h2 : P i) : ∀ j, j < i + 1 → P j := by
  intro j hj
  rcases lt_succ_or.mp hj with q | rfl
  · exact h j q
  · exact h2
theorem Seen_one {a : Nat} (h : a < 10) : Seen (fun _ => a) 1 (2 ^ a) := by
  have := Seen_succ (P := fun _ => a) (i := 0) Seen_0 h
  rw [Nat.zero_or] at this
  exact this
theorem Al_one (ti : Nat → Nat → Int32) (a : Nat) : Al ti (fun _ => a) 1 := ⟨fun ⟨i, j, h1, h2, _⟩ => absurd h1 (by omega), fun k hk => absurd hk (by omega)⟩
