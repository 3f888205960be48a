/-! words that look at nets below 10 alone -/
theorem NU_G {G G' : Nat → Nat → Prop} {P : Nat → Nat} {z r : Nat} (e : ∀ k, 1 ≤ k → k < z → (G (P (k - 1)) (P k) ↔ G' (P (k - 1)) (P k))) (h : NU G P z r) : NU G' P z r := by
  obtain ⟨a1, a2, a3, a4⟩ := h
  exact ⟨a1, a2, fun k h1 h2 => (e k h1 (by omega)).mp (a3 k h1 h2), fun q g => a4 q ((e r a1 q).mpr g)⟩
theorem Go_c {hv pv hv' pv' : Nat → Int32} {vo : Int32} {a b : Nat} (e : hv a = hv' a ∧ pv a = pv' a) : Go hv pv vo a b ↔ Go hv' pv' vo a b := by
  unfold Go
  rw [e.1, e.2]
theorem NU_c {hv pv hv' pv' : Nat → Int32} {vo : Int32} {P : Nat → Nat} {z r : Nat} (e : ∀ a, a < 10 → hv a = hv' a ∧ pv a = pv' a) (hP : ∀ k, k < z → P k < 10) (h : NU (Go hv pv vo) P z r) : NU (Go hv' pv' vo) P z r := NU_G (fun k h1 h2 => Go_c (e _ (hP (k - 1) (by omega)))) h
theorem rev_l2 {P : Nat → Nat} {z : Nat} (hP : ∀ k, k < z → P k < 10) : ∀ k, k < z → rev P z k < 10 := fun k hk => hP (z - 1 - k) (by omega)
theorem JU_c {hv pv hv' pv' : Nat → Int32} {P : Nat → Nat} {z : Nat} {r : Int32} (e : ∀ a, a < 10 → hv a = hv' a ∧ pv a = pv' a) (hP : ∀ k, k < z → P k < 10) (h : JU hv pv P z r) : JU hv' pv' P z r := by
  rcases h with h | ⟨h1, a, b, h2, h3, h4⟩
  · exact Or.inl h
  · exact Or.inr ⟨h1, a, b, NU_c e hP h2, NU_c e hP h3, h4⟩
theorem JD_c {hv pv hv' pv' : Nat → Int32} {P : Nat → Nat} {z : Nat} {r : Int32} (e : ∀ a, a < 10 → hv a = hv' a ∧ pv a = pv' a) (hP : ∀ k, k < z → P k < 10) (h : JD hv pv P z r) : JD hv' pv' P z r := by
  rcases h with h | ⟨h1, a, b, c, d, h2, h3, h4, h5, h6⟩
  · exact Or.inl h
  · exact Or.inr ⟨h1, a, b, c, d, NU_c e hP h2, NU_c e (rev_l2 hP) h3, NU_c e hP h4, NU_c e (rev_l2 hP) h5, h6⟩
theorem Rf_c1 {ti ti' : Nat → Nat → Int32} {hv pv hv' pv' : Nat → Int32} {P : Nat → Nat} {z : Nat} (et : ∀ a b, a < 10 → b < 10 → ti a b = ti' a b) (e : ∀ a, a < 10 → hv a = hv' a ∧ pv a = pv' a) (hP : ∀ k, k < z + 1 → P k < 10) (h : Rf ti hv pv P z) : Rf ti' hv' pv' P z := by
  unfold Rf at h ⊢
  rw [← et _ _ (hP (z - 1) (by omega)) (hP z (by omega))]
  exact h.elim (fun q => Or.inl ⟨q.1, JD_c e (fun k hk => hP k (by omega)) q.2⟩) (fun q => Or.inr ⟨q.1, JU_c e (fun k hk => hP k (by omega)) q.2⟩)
theorem Rf_c {ti ti' : Nat → Nat → Int32} {hv pv hv' pv' : Nat → Int32} {P : Nat → Nat} {z : Nat} (et : ∀ a b, a < 10 → b < 10 → ti a b = ti' a b) (e : ∀ a, a < 10 → hv a = hv' a ∧ pv a = pv' a) (hP : ∀ k, k < z + 1 → P k < 10) : Rf ti hv pv P z ↔ Rf ti' hv' pv' P z :=
  ⟨Rf_c1 et e hP, Rf_c1 (fun a b ha hb => (et a b ha hb).symm) (fun a ha => ⟨(e a ha).1.symm, (e a ha).2.symm⟩) hP⟩
theorem LkAt_c {ti ti' : Nat → Nat → Int32} {P : Nat → Nat} {k : Nat} (et : ∀ a b, a < 10 → b < 10 → ti a b = ti' a b) (hP : ∀ j, j < k + 2 → P j < 10) : LkAt ti P k ↔ LkAt ti' P k := by
  unfold LkAt
  rw [et _ _ (hP (k - 1) (by omega)) (hP k (by omega)), et _ _ (hP (k + 1) (by omega)) (hP k (by omega))]
theorem Al_c {ti ti' : Nat → Nat → Int32} {P : Nat → Nat} {z : Nat} (et : ∀ a b, a < 10 → b < 10 → ti a b = ti' a b) (hP : ∀ j, j < z → P j < 10) : Al ti P z ↔ Al ti' P z := by
  have e : ∀ k, k + 1 < z → (Stp1 ti P k ↔ Stp1 ti' P k) := by
    intro k hk
    unfold Stp1
    rw [et _ _ (hP k (by omega)) (hP (k + 1) (by omega)), et _ _ (hP (k - 1) (by omega)) (hP k (by omega)), et _ _ (hP (k + 1) (by omega)) (hP k (by omega))]
  unfold Al
  exact ⟨fun q => ⟨q.1, fun k hk => (e k hk).mp (q.2 k hk)⟩, fun q => ⟨q.1, fun k hk => (e k hk).mpr (q.2 k hk)⟩⟩
theorem tot_c {f g : (Nat → Nat) → Nat → Nat} (h : ∀ Q n, 1 ≤ n → (∀ k, k < n → Q k < 10) → f Q n = g Q n) : ∀ (M : Nat) (P : Nat → Nat) (z : Nat), (∀ k, k < z → P k < 10) → tot f M P z = tot g M P z
  | 0, _, _, _ => rfl
  | M + 1, P, z, hP => by
    show sumN (fun a => f (ext1 P z a) (z + 1) + tot f M (ext1 P z a) (z + 1)) 10 = sumN (fun a => g (ext1 P z a) (z + 1) + tot g M (ext1 P z a) (z + 1)) 10
    refine sumN_congr (fun a ha => ?_)
    have hQ : ∀ k, k < z + 1 → ext1 P z a k < 10 := by
      intro k hk
      rcases lt_succ_or.mp hk with q | rfl
      · rw [ext1_lt q]; exact hP k q
      · rw [ext1_eq]; exact ha
    rw [h _ _ (by omega) hQ, tot_c h M _ _ hQ]
theorem cx_c {f : (Nat → Nat) → Nat → Nat} (hf : ∀ P P' n, (∀ k, k < n → P k = P' k) → f P n = f P' n) : ∀ (d : Nat) (P P' : Nat → Nat) (z : Nat), (∀ k, k < z → P k = P' k) → cx f d P z = cx f d P' z
  | 0, P, P', z, h => hf P P' z h
  | d + 1, P, P', z, h => by
    show sumN (fun a => cx f d (ext1 P z a) (z + 1)) 10 = sumN (fun a => cx f d (ext1 P' z a) (z + 1)) 10
    refine sumN_congr (fun a _ => cx_c hf d _ _ _ (fun k hk => ?_))
    rcases lt_succ_or.mp hk with q | rfl
    · rw [ext1_lt q, ext1_lt q]; exact h k q
    · rw [ext1_eq, ext1_eq]
/-! figures -/
theorem dg_0 {a c : Nat} (ha : a < 10) : dg (a + 10 * c) 0 = a := by
  unfold dg
  rw [Nat.pow_zero, Nat.div_one]
  omega
theorem dg_s {a c k : Nat} (ha : a < 10) : dg (a + 10 * c) (k + 1) = dg c k := by
  unfold dg
  rw [Nat.pow_succ, Nat.mul_comm (10 ^ k) 10, ← Nat.div_div_eq_div_mul]
  have : (a + 10 * c) / 10 = c := by omega
  rw [this]
theorem dg_lo {m b i k : Nat} (hk : k < i) : dg (m + 10 ^ i * b) k = dg m k := by
  unfold dg
  obtain ⟨j, rfl⟩ : ∃ j, i = k + (j + 1) := ⟨i - k - 1, by omega⟩
  rw [Nat.pow_add, Nat.mul_assoc, Nat.add_mul_div_left _ _ (Nat.pow_pos (by decide)), Nat.pow_succ, Nat.mul_comm (10 ^ j) 10, Nat.mul_assoc, Nat.add_mul_mod_self_left]
theorem dg_hi {m b i : Nat} (hm : m < 10 ^ i) (hb : b < 10) : dg (m + 10 ^ i * b) i = b := by
  unfold dg
  rw [Nat.add_mul_div_left _ _ (Nat.pow_pos (by decide)), Nat.div_eq_of_lt hm, Nat.zero_add, Nat.mod_eq_of_lt hb]
theorem code_path {a b m i k : Nat} (ha : a < 10) (hb : b < 10) (hm : m < 10 ^ i) (hk : k < 2 + i) : dg (a + 10 * m + 10 ^ (i + 1) * b) k = ext1 (glue (fun _ => a) 1 m) (1 + i) b k := by
  have e : a + 10 * m + 10 ^ (i + 1) * b = a + 10 * (m + 10 ^ i * b) := by
    rw [Nat.pow_succ, Nat.mul_comm (10 ^ i) 10, Nat.mul_assoc, Nat.mul_add, Nat.add_assoc]
  rw [e]
  rcases Nat.eq_zero_or_pos k with q | q
  · subst q
    rw [dg_0 ha, ext1_lt (by omega)]
    rfl
  · obtain ⟨j, rfl⟩ : ∃ j, k = j + 1 := ⟨k - 1, by omega⟩
    rw [dg_s ha]
    rcases Nat.lt_or_ge j i with g | g
    · rw [dg_lo g, ext1_lt (by omega)]
      unfold glue
      rw [if_neg (by omega), Nat.add_sub_cancel]
    · have : j = i := by omega
      subst this
      rw [dg_hi hm hb, Nat.add_comm j 1, ext1_eq]
/-- how many allowed paths go from a to b, by trying all numbers -/
theorem allow_eq (ti : Nat → Nat → Int32) {a b : Nat} (ha : a < 10) (hb : b < 10) : sumN (fun i => sumN (fun md => oneIf (Al ti (dg (a + 10 * md + 10 ^ (2 + i - 1) * b)) (2 + i))) (10 ^ (2 + i - 2))) 4 = tot (wTo ti b) 4 (fun _ => a) 1 := by
  rw [tot_cx]
  refine sumN_congr (fun i _ => ?_)
  have e1 : cx (wTo ti b) (i + 1) (fun _ => a) 1 = cx (fun Q n => oneIf (Al ti (ext1 Q n b) (n + 1))) i (fun _ => a) 1 := cx_last (fun Q n => Al ti Q n) hb (fun P P' n h => Al_congr h) i (fun _ => a) 1
  have hf : ∀ P P' n, (∀ k, k < n → P k = P' k) → oneIf (Al ti (ext1 P n b) (n + 1)) = oneIf (Al ti (ext1 P' n b) (n + 1)) := fun P P' n h => oneIf_c (Al_congr (fun k hk => by
    rcases lt_succ_or.mp hk with q | rfl
    · rw [ext1_lt q, ext1_lt q]; exact h k q
    · rw [ext1_eq, ext1_eq]))
  rw [e1, ← glue_cx (fun Q n => oneIf (Al ti (ext1 Q n b) (n + 1))) hf i (fun _ => a) 1]
  have e2 : 2 + i - 2 = i := by omega
  rw [e2]
  refine sumN_congr (fun m hm => oneIf_c ?_)
  have e3 : 2 + i - 1 = i + 1 := by omega
  have e4 : 2 + i = 1 + i + 1 := by omega
  rw [e3, e4]
  exact Al_congr (fun k hk => code_path ha hb hm (by omega))
theorem allow_0 (ti : Nat → Nat → Int32) {a : Nat} : tot (wTo ti a) 4 (fun _ => a) 1 = 0 := by
  refine tot_zero (fun d Q hQ => oneIf_f (fun q => q.1.1 ⟨0, 1 + (d + 1) - 1, by omega, by omega, ?_⟩))
  rw [q.2]
  exact hQ 0 (by omega)
theorem allow_c {ti ti' : Nat → Nat → Int32} {a b : Nat} (ha : a < 10) (et : ∀ a b, a < 10 → b < 10 → ti a b = ti' a b) : tot (wTo ti b) 4 (fun _ => a) 1 = tot (wTo ti' b) 4 (fun _ => a) 1 :=
  tot_c (fun Q n _ hQ => oneIf_c ⟨fun q => ⟨(Al_c et hQ).mp q.1, q.2⟩, fun q => ⟨(Al_c et hQ).mpr q.1, q.2⟩⟩) 4 _ _ (fun _ _ => ha)
/-- paths that their last net refuses, none of no nets -/
noncomputable def wZ (ti : Nat → Nat → Int32) (hv pv : Nat → Int32) : (Nat → Nat) → Nat → Nat := fun Q n => if n = 0 then 0 else wRf ti hv pv Q n
theorem JU_cP {hv pv : Nat → Int32} {P P' : Nat → Nat} {z : Nat} {r : Int32} (e : ∀ k, k < z → P k = P' k) (h : JU hv pv P z r) : JU hv pv P' z r := by
  rcases h with ⟨h1, h2⟩ | ⟨h1, a, b, h2, h3, h4⟩
  · exact Or.inl ⟨(Rnd_congr e).mp h1, h2⟩
  · exact Or.inr ⟨fun q => h1 ((Rnd_congr e).mpr q), a, b, NU_congr e h2, NU_congr e h3, h4⟩
theorem JD_cP {hv pv : Nat → Int32} {P P' : Nat → Nat} {z : Nat} {r : Int32} (e : ∀ k, k < z → P k = P' k) (h : JD hv pv P z r) : JD hv pv P' z r := by
  have e' : ∀ k, k < z → rev P z k = rev P' z k := fun k hk => e (z - 1 - k) (by omega)
  rcases h with ⟨h1, h2⟩ | ⟨h1, a, b, c, d, h2, h3, h4, h5, h6⟩
  · exact Or.inl ⟨(Rnd_congr e).mp h1, h2⟩
  · exact Or.inr ⟨fun q => h1 ((Rnd_congr e).mpr q), a, b, c, d, NU_congr e h2, NU_congr e' h3, NU_congr e h4, NU_congr e' h5, h6⟩
theorem Rf_cP {ti : Nat → Nat → Int32} {hv pv : Nat → Int32} {P P' : Nat → Nat} {z : Nat} (e : ∀ k, k < z + 1 → P k = P' k) (h : Rf ti hv pv P z) : Rf ti hv pv P' z := by
  unfold Rf at h ⊢
  rw [← e (z - 1) (by omega), ← e z (by omega)]
  exact h.elim (fun q => Or.inl ⟨q.1, JD_cP (fun k hk => e k (by omega)) q.2⟩) (fun q => Or.inr ⟨q.1, JU_cP (fun k hk => e k (by omega)) q.2⟩)
theorem wZ_f {ti : Nat → Nat → Int32} {hv pv : Nat → Int32} : ∀ P P' n, (∀ k, k < n → P k = P' k) → wZ ti hv pv P n = wZ ti hv pv P' n := by
  intro P P' n h
  unfold wZ
  by_cases q : n = 0
  · rw [if_pos q, if_pos q]
  · rw [if_neg q, if_neg q]
    have h2 : ∀ k, k < n - 1 + 1 → P k = P' k := fun k hk => h k (by omega)
    exact oneIf_c ⟨fun g => ⟨(Al_congr h).mp g.1, Rf_cP h2 g.2⟩, fun g => ⟨(Al_congr h).mpr g.1, Rf_cP (fun k hk => (h2 k hk).symm) g.2⟩⟩
theorem alarm_eq (ti : Nat → Nat → Int32) (hv pv : Nat → Int32) : sumN (fun i => sumN (fun cd => oneIf (Al ti (dg cd) (2 + i) ∧ Rf ti hv pv (dg cd) (2 + i - 1))) (10 ^ (2 + i))) 4 = sumN (fun f => tot (wRf ti hv pv) 4 (fun _ => f) 1) 10 := by
  have e0 : ∀ f, f < 10 → tot (wRf ti hv pv) 4 (fun _ => f) 1 = sumN (fun m => cx (wZ ti hv pv) (m + 1) (fun _ => f) 1) 4 := fun f hf => by
    rw [← tot_cx]
    refine tot_c (fun Q n hn _ => ?_) 4 _ _ (fun _ _ => hf)
    unfold wZ
    rw [if_neg (by omega)]
  rw [sumN_congr e0, sumN_swap]
  refine sumN_congr (fun i _ => ?_)
  have e1 : sumN (fun f => cx (wZ ti hv pv) (i + 1) (fun _ => f) 1) 10 = cx (wZ ti hv pv) (i + 1 + 1) (fun _ => 0) 0 := by
    show _ = sumN (fun a => cx (wZ ti hv pv) (i + 1) (ext1 (fun _ => 0) 0 a) (0 + 1)) 10
    exact sumN_congr (fun a _ => cx_c wZ_f _ _ _ _ (fun k hk => by
      have : k = 0 := by omega
      subst this
      rw [ext1_eq]))
  rw [e1, ← glue_cx (wZ ti hv pv) wZ_f (i + 1 + 1) (fun _ => 0) 0]
  have e4 : 2 + i = i + 1 + 1 := by omega
  rw [e4]
  refine sumN_congr (fun c _ => ?_)
  rw [Nat.zero_add]
  have e5 : glue (fun _ => 0) 0 c = dg c := by
    funext k
    unfold glue
    rw [if_neg (Nat.not_lt_zero k), Nat.sub_zero]
  rw [e5]
  unfold wZ
  rw [if_neg (by omega)]
  rfl
theorem alarm_c {ti ti' : Nat → Nat → Int32} {hv pv hv' pv' : Nat → Int32} (et : ∀ a b, a < 10 → b < 10 → ti a b = ti' a b) (e : ∀ a, a < 10 → hv a = hv' a ∧ pv a = pv' a) : sumN (fun f => tot (wRf ti hv pv) 4 (fun _ => f) 1) 10 = sumN (fun f => tot (wRf ti' hv' pv') 4 (fun _ => f) 1) 10 :=
  sumN_congr (fun f hf => tot_c (fun Q n hn hQ => by
    have hQ2 : ∀ k, k < n - 1 + 1 → Q k < 10 := fun k hk => hQ k (by omega)
    exact oneIf_c ⟨fun q => ⟨(Al_c et hQ).mp q.1, (Rf_c et e hQ2).mp q.2⟩, fun q => ⟨(Al_c et hQ).mpr q.1, (Rf_c et e hQ2).mpr q.2⟩⟩) 4 _ _ (fun _ _ => hf))
theorem StR_V {O : Ob} {V V' : Nat → Int32} {n : Nat} {net v b r : Int32} (e : ∀ o, o < n → V o = V' o) (h : StR O V n net v b r) : StR O V' n net v b r := by
  have e1 : (∃ o, o < n ∧ CovO O V o v b) ↔ ∃ o, o < n ∧ CovO O V' o v b := by
    constructor <;> (rintro ⟨o, h1, h2, h3, h4⟩; exact ⟨o, h1, h2, by simpa [e o h1] using h3, h4⟩)
  have e2 : (∃ o, o < n ∧ ValO O V o net v b) ↔ ∃ o, o < n ∧ ValO O V' o net v b := by
    constructor <;> (rintro ⟨o, h1, ⟨h2, h3, h4⟩, h5⟩; exact ⟨o, h1, ⟨h2, by simpa [e o h1] using h3, h4⟩, h5⟩)
  unfold StR at h ⊢
  rwa [e1, e2] at h
