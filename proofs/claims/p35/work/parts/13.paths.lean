theorem ma_in1 {M : Mem} {p q : Nat} {f g f' : Nat → Int32} (h : p ≠ q) : ma (ma (ma M p f) q g) p f' = ma (ma M p f') q g := by
  rw [ma_comm h f g, ma_ma, ma_comm (fun e => h e.symm) g f']
theorem ma_in2 {M : Mem} {p q r : Nat} {f g k f' : Nat → Int32} (h : p ≠ q) (h2 : p ≠ r) : ma (ma (ma (ma M p f) q g) r k) p f' = ma (ma (ma M p f') q g) r k := by
  rw [ma_comm (fun e => h2 e.symm) k f', ma_in1 h]
theorem ma_in3 {M : Mem} {p q r t : Nat} {f g k u f' : Nat → Int32} (h : p ≠ q) (h2 : p ≠ r) (h3 : p ≠ t) : ma (ma (ma (ma (ma M p f) q g) r k) t u) p f' = ma (ma (ma (ma M p f') q g) r k) t u := by
  rw [ma_comm (fun e => h3 e.symm) u f', ma_in2 h h2]
theorem ma_in4 {M : Mem} {p q r t v : Nat} {f g k u y f' : Nat → Int32} (h : p ≠ q) (h2 : p ≠ r) (h3 : p ≠ t) (h4 : p ≠ v) : ma (ma (ma (ma (ma (ma M p f) q g) r k) t u) v y) p f' = ma (ma (ma (ma (ma M p f') q g) r k) t u) v y := by
  rw [ma_comm (fun e => h4 e.symm) y f', ma_in3 h h2 h3]
/-! sets of nets as numbers -/
theorem s_l31 : ∀ n, n < 32 → ((nI n &&& 31).toBitVec.smod 32).toNat = n := by decide +kernel
theorem shl1 {a : Nat} (h : a < 31) : (1 : Int32) <<< (nI a &&& 31) = nI (2 ^ a) := (by decide +kernel : ∀ a, a < 31 → (1 : Int32) <<< (nI a &&& 31) = nI (2 ^ a)) a h
theorem nI_bv (n : Nat) : (nI n).toBitVec = BitVec.ofNat 32 n := rfl
theorem i32_inj {a b : Int32} (h : a.toBitVec = b.toBitVec) : a = b := Int32.toBitVec_inj.mp h
theorem nI_or (a b : Nat) : nI a ||| nI b = nI (a ||| b) := by
  apply i32_inj
  rw [Int32.toBitVec_or, nI_bv, nI_bv, nI_bv]
  apply BitVec.eq_of_toNat_eq
  simp [Nat.or_mod_two_pow]
theorem nI_and (a b : Nat) : nI a &&& nI b = nI (a &&& b) := by
  apply i32_inj
  rw [Int32.toBitVec_and, nI_bv, nI_bv, nI_bv]
  apply BitVec.eq_of_toNat_eq
  simp [Nat.and_mod_two_pow]
theorem bit_val {S a : Nat} (hS : S < 2 ^ 31) (ha : a < 31) : (nI S >>> (nI a &&& 31)) &&& 1 = nI (S / 2 ^ a % 2) := by
  rw [pk_shrN hS _ a (s_l31 a (by omega))]
  have h2 : S / 2 ^ a < 2 ^ 32 := Nat.lt_of_le_of_lt (Nat.div_le_self _ _) (Nat.lt_trans hS (by decide))
  exact pk_andN h2 1 (by decide)
theorem tb_iff {S a : Nat} : S.testBit a = true ↔ S / 2 ^ a % 2 = 1 := by
  rw [Nat.testBit_eq_decide_div_mod_eq, decide_eq_true_iff]
theorem bit_in {S a : Nat} (hS : S < 2 ^ 31) (ha : a < 31) : (nI S >>> (nI a &&& 31)) &&& 1 = 1 ↔ S.testBit a = true := by
  rw [bit_val hS ha, tb_iff]
  exact nI_eq (a := S / 2 ^ a % 2) (b := 1) (Nat.lt_of_lt_of_le (Nat.mod_lt _ (by decide)) (by decide)) (by decide)
theorem or_lt {a b : Nat} (ha : a < 1024) (hb : b < 1024) : a ||| b < 1024 := Nat.or_lt_two_pow (n := 10) ha hb
theorem pw_lt {a : Nat} (h : a < 10) : 2 ^ a < 1024 := Nat.pow_lt_pow_right (by decide) h
theorem tb_add {S a b : Nat} : (S ||| 2 ^ a).testBit b = true ↔ S.testBit b = true ∨ b = a := by
  rw [Nat.testBit_or, Nat.testBit_two_pow, Bool.or_eq_true, decide_eq_true_iff]
  constructor
  · rintro (h | h)
    · exact Or.inl h
    · exact Or.inr h.symm
  · rintro (h | h)
    · exact Or.inl h
    · exact Or.inr h.symm
theorem set_ext {S T : Nat} (hS : S < 1024) (hT : T < 1024) (h : ∀ a, a < 10 → (S.testBit a = true ↔ T.testBit a = true)) : S = T := by
  apply Nat.eq_of_testBit_eq
  intro i
  by_cases hi : i < 10
  · have := h i hi
    cases e : S.testBit i <;> cases e2 : T.testBit i <;> simp_all
  · have hp : 1024 ≤ 2 ^ i := Nat.pow_le_pow_right (n := 2) (by decide) (by omega : 10 ≤ i)
    rw [Nat.testBit_lt_two_pow (by omega), Nat.testBit_lt_two_pow (by omega)]
/-! paths: P k is the net at place k, z how many -/
def Rnd (P : Nat → Nat) (z : Nat) : Prop := ∃ i j, i < j ∧ j < z ∧ P i = P j
theorem Rnd_succ {P : Nat → Nat} {z : Nat} : Rnd P (z + 1) ↔ Rnd P z ∨ ∃ k, k < z ∧ P k = P z := by
  constructor
  · rintro ⟨i, j, h1, h2, h3⟩
    rcases lt_succ_or.mp h2 with h | rfl
    · exact Or.inl ⟨i, j, h1, h, h3⟩
    · exact Or.inr ⟨i, h1, h3⟩
  · rintro (⟨i, j, h1, h2, h3⟩ | ⟨k, h1, h2⟩)
    · exact ⟨i, j, h1, by omega, h3⟩
    · exact ⟨k, z, h1, by omega, h2⟩
theorem Rnd_mono {P : Nat → Nat} {i z : Nat} (h : i ≤ z) (q : Rnd P i) : Rnd P z := by
  obtain ⟨a, b, h1, h2, h3⟩ := q
  exact ⟨a, b, h1, by omega, h3⟩
/-- the nets that were seen -/
def Seen (P : Nat → Nat) (i S : Nat) : Prop := S < 1024 ∧ ∀ a, S.testBit a = true ↔ ∃ k, k < i ∧ P k = a
theorem Seen_0 {P : Nat → Nat} : Seen P 0 0 := ⟨by decide, fun a => ⟨fun h => by simp at h, fun ⟨k, h, _⟩ => absurd h (Nat.not_lt_zero _)⟩⟩
theorem Seen_succ {P : Nat → Nat} {i S : Nat} (h : Seen P i S) (hp : P i < 10) : Seen P (i + 1) (S ||| 2 ^ P i) := by
  refine ⟨or_lt h.1 (pw_lt hp), fun a => ?_⟩
  rw [tb_add, h.2 a, ex_succ]
  constructor
  · rintro (q | q)
    · exact Or.inl q
    · exact Or.inr q.symm
  · rintro (q | q)
    · exact Or.inl q
    · exact Or.inr q.symm
/-- vouched steps: hv, pv are rows by nets -/
def Go (hv pv : Nat → Int32) (vo : Int32) (a b : Nat) : Prop := (ix (pv a)).testBit b = true ∨ (vo = 0 ∧ hv a = 0)
/-- how many nets one goes, the first included -/
def NU (G : Nat → Nat → Prop) (P : Nat → Nat) (z r : Nat) : Prop := 1 ≤ r ∧ r ≤ z ∧ (∀ k, 1 ≤ k → k < r → G (P (k - 1)) (P k)) ∧ (r < z → ¬ G (P (r - 1)) (P r))
theorem NU_one {G : Nat → Nat → Prop} {P : Nat → Nat} {z r r' : Nat} (h : NU G P z r) (h' : NU G P z r') : r = r' := by
  obtain ⟨a1, a2, a3, a4⟩ := h
  obtain ⟨b1, b2, b3, b4⟩ := h'
  rcases Nat.lt_trichotomy r r' with q | q | q
  · exact absurd (b3 r a1 q) (a4 (by omega))
  · exact q
  · exact absurd (a3 r' b1 q) (b4 (by omega))
theorem NU_ex (G : Nat → Nat → Prop) (P : Nat → Nat) {z : Nat} (hz : 1 ≤ z) : ∃ r, NU G P z r := by
  have key : ∀ m r, z - r = m → 1 ≤ r → r ≤ z → (∀ k, 1 ≤ k → k < r → G (P (k - 1)) (P k)) → ∃ r, NU G P z r := by
    intro m
    induction m with
    | zero => intro r h1 h2 h3 h4; exact ⟨r, h2, h3, h4, fun h => absurd h (by omega)⟩
    | succ m ih =>
      intro r h1 h2 h3 h4
      by_cases q : G (P (r - 1)) (P r)
      · refine ih (r + 1) (by omega) (by omega) (by omega) (fun k g1 g2 => ?_)
        rcases lt_succ_or.mp g2 with g | rfl
        · exact h4 k g1 g
        · exact q
      · exact ⟨r, h2, h3, h4, fun _ => q⟩
  exact key (z - 1) 1 rfl (Nat.le_refl _) hz (fun k h1 h2 => absurd h2 (by omega))
theorem NU_congr {G : Nat → Nat → Prop} {P P' : Nat → Nat} {z r : Nat} (e : ∀ k, k < z → P k = P' k) (h : NU G P z r) : NU G P' z r := by
  obtain ⟨a1, a2, a3, a4⟩ := h
  refine ⟨a1, a2, fun k h1 h2 => ?_, fun h => ?_⟩
  · rw [← e k (by omega), ← e (k - 1) (by omega)]; exact a3 k h1 h2
  · rw [← e r h, ← e (r - 1) (by omega)]; exact a4 h
def rev (P : Nat → Nat) (z : Nat) : Nat → Nat := fun k => P (z - 1 - k)
def JU (hv pv : Nat → Int32) (P : Nat → Nat) (z : Nat) (r : Int32) : Prop := (Rnd P z ∧ r = 2) ∨ (¬ Rnd P z ∧ ∃ a b, NU (Go hv pv 0) P z a ∧ NU (Go hv pv 1) P z b ∧ ((a < z ∧ r = 2) ∨ (a = z ∧ b = z ∧ r = 1) ∨ (a = z ∧ b < z ∧ r = 0)))
def JD (hv pv : Nat → Int32) (P : Nat → Nat) (z : Nat) (r : Int32) : Prop := (Rnd P z ∧ r = 2) ∨ (¬ Rnd P z ∧ ∃ a b c d, NU (Go hv pv 0) P z a ∧ NU (Go hv pv 0) (rev P z) z b ∧ NU (Go hv pv 1) P z c ∧ NU (Go hv pv 1) (rev P z) z d ∧ ((a + b < z ∧ r = 2) ∨ (z ≤ a + b ∧ z ≤ c + d ∧ r = 1) ∨ (z ≤ a + b ∧ c + d < z ∧ r = 0)))
theorem JU_one {hv pv : Nat → Int32} {P : Nat → Nat} {z : Nat} {r r' : Int32} (h : JU hv pv P z r) (h' : JU hv pv P z r') : r = r' := by
  rcases h with ⟨h1, h2⟩ | ⟨h1, a, b, h2, h3, h4⟩ <;> rcases h' with ⟨g1, g2⟩ | ⟨g1, a', b', g2, g3, g4⟩
  · rw [h2, g2]
  · exact absurd h1 g1
  · exact absurd g1 h1
  · have e1 := NU_one h2 g2
    have e2 := NU_one h3 g3
    subst e1; subst e2
    rcases h4 with ⟨x1, x⟩ | ⟨x1, x2, x⟩ | ⟨x1, x2, x⟩ <;> rcases g4 with ⟨y1, y⟩ | ⟨y1, y2, y⟩ | ⟨y1, y2, y⟩ <;> first | exact x.trans y.symm | (exfalso; omega)
theorem JD_one {hv pv : Nat → Int32} {P : Nat → Nat} {z : Nat} {r r' : Int32} (h : JD hv pv P z r) (h' : JD hv pv P z r') : r = r' := by
  rcases h with ⟨h1, h2⟩ | ⟨h1, a, b, c, d, h2, h3, h5, h6, h4⟩ <;> rcases h' with ⟨g1, g2⟩ | ⟨g1, a', b', c', d', g2, g3, g5, g6, g4⟩
  · rw [h2, g2]
  · exact absurd h1 g1
  · exact absurd g1 h1
  · have e1 := NU_one h2 g2
    have e2 := NU_one h3 g3
    have e3 := NU_one h5 g5
    have e4 := NU_one h6 g6
    subst e1; subst e2; subst e3; subst e4
    rcases h4 with ⟨x1, x⟩ | ⟨x1, x2, x⟩ | ⟨x1, x2, x⟩ <;> rcases g4 with ⟨y1, y⟩ | ⟨y1, y2, y⟩ | ⟨y1, y2, y⟩ <;> first | exact x.trans y.symm | (exfalso; omega)
/-- the net at place z refuses what is ahead of it; ti are the ties -/
def Rf (ti : Nat → Nat → Int32) (hv pv : Nat → Int32) (P : Nat → Nat) (z : Nat) : Prop := (ti (P (z - 1)) (P z) = 2 ∧ JD hv pv P z 2) ∨ (¬ ti (P (z - 1)) (P z) = 2 ∧ JU hv pv P z 2)
theorem Rf_d {ti : Nat → Nat → Int32} {hv pv : Nat → Int32} {P : Nat → Nat} {z : Nat} {v : Int32} (h : ti (P (z - 1)) (P z) = 2) (hv2 : JD hv pv P z v) : Rf ti hv pv P z ↔ v = 2 := by
  constructor
  · rintro (⟨-, q⟩ | ⟨q, -⟩)
    · exact JD_one hv2 q
    · exact absurd h q
  · intro q; subst q; exact Or.inl ⟨h, hv2⟩
theorem Rf_u {ti : Nat → Nat → Int32} {hv pv : Nat → Int32} {P : Nat → Nat} {z : Nat} {v : Int32} (h : ¬ ti (P (z - 1)) (P z) = 2) (hv2 : JU hv pv P z v) : Rf ti hv pv P z ↔ v = 2 := by
  constructor
  · rintro (⟨q, -⟩ | ⟨-, q⟩)
    · exact absurd q h
    · exact JU_one hv2 q
  · intro q; subst q; exact Or.inr ⟨h, hv2⟩
def tC (X : Mem) : Nat → Nat → Int32 := fun a b => if a < 10 then X (53 + a) b else 0
theorem tC_at {X : Mem} {a b : Nat} (h : a < 10) : tC X a b = X (53 + a) b := if_pos h
def tM (X : Mem) : Nat → Nat → Int32 := fun a b => X 106 (10 * a + b)
/-- what holds of the ties -/
def TInv (ti : Nat → Nat → Int32) : Prop := ∀ a b, a < 10 → b < 10 → ∃ c, c < 4 ∧ ti a b = nI c
/-- a path lies in the row at p from f on -/
def PAt (X : Mem) (p f : Nat) (P : Nat → Nat) (z : Nat) : Prop := ∀ k, k < z → X p (f + k) = nI (P k) ∧ P k < 10
def PVInv (pv : Nat → Int32) : Prop := ∀ a, a < 10 → ∃ s, s < 1024 ∧ pv a = nI s
/-- a path lies in the row at p from its first place on -/
def PA (X : Mem) (p : Nat) (P : Nat → Nat) (z : Nat) : Prop := ∀ k, k < z → X p k = nI (P k) ∧ P k < 10
theorem rev_a {P : Nat → Nat} {z r : Nat} (h1 : 1 ≤ r) (h2 : r ≤ z) : rev P z (r - 1) = P (z - r) := by
  unfold rev
  congr 1
  omega
theorem rev_b {P : Nat → Nat} {z r : Nat} (h2 : r < z) : rev P z r = P (z - r - 1) := by
  unfold rev
  congr 1
  omega
theorem JU_of {hv pv : Nat → Int32} {P : Nat → Nat} {z a : Nat} (hz : 1 ≤ z) (hr : ¬ Rnd P z) (h : NU (Go hv pv 0) P z a) (ha : a < z) : JU hv pv P z 2 := by
  obtain ⟨b, hb⟩ := NU_ex (Go hv pv 1) P hz
  exact Or.inr ⟨hr, a, b, h, hb, Or.inl ⟨ha, rfl⟩⟩
theorem JU_of2 {hv pv : Nat → Int32} {P : Nat → Nat} {z a b : Nat} (hr : ¬ Rnd P z) (h : NU (Go hv pv 0) P z a) (h2 : NU (Go hv pv 1) P z b) (ha : z ≤ a) (hb : z ≤ b) : JU hv pv P z 1 := Or.inr ⟨hr, a, b, h, h2, Or.inr (Or.inl ⟨Nat.le_antisymm h.2.1 ha, Nat.le_antisymm h2.2.1 hb, rfl⟩)⟩
theorem JU_of3 {hv pv : Nat → Int32} {P : Nat → Nat} {z a b : Nat} (hr : ¬ Rnd P z) (h : NU (Go hv pv 0) P z a) (h2 : NU (Go hv pv 1) P z b) (ha : z ≤ a) (hb : ¬ b = z) : JU hv pv P z 0 := Or.inr ⟨hr, a, b, h, h2, Or.inr (Or.inr ⟨Nat.le_antisymm h.2.1 ha, Nat.lt_of_le_of_ne h2.2.1 hb, rfl⟩)⟩
theorem JD_of {hv pv : Nat → Int32} {P : Nat → Nat} {z a b : Nat} (hz : 1 ≤ z) (hr : ¬ Rnd P z) (h : NU (Go hv pv 0) P z a) (h2 : NU (Go hv pv 0) (rev P z) z b) (ha : a + b < z) : JD hv pv P z 2 := by
  obtain ⟨c, hc⟩ := NU_ex (Go hv pv 1) P hz
  obtain ⟨d, hd⟩ := NU_ex (Go hv pv 1) (rev P z) hz
  exact Or.inr ⟨hr, a, b, c, d, h, h2, hc, hd, Or.inl ⟨ha, rfl⟩⟩
theorem JD_of2 {hv pv : Nat → Int32} {P : Nat → Nat} {z a b c d : Nat} (hr : ¬ Rnd P z) (h : NU (Go hv pv 0) P z a) (h2 : NU (Go hv pv 0) (rev P z) z b) (h3 : NU (Go hv pv 1) P z c) (h4 : NU (Go hv pv 1) (rev P z) z d) (ha : z ≤ a + b) (hb : z ≤ c + d) : JD hv pv P z 1 := Or.inr ⟨hr, a, b, c, d, h, h2, h3, h4, Or.inr (Or.inl ⟨ha, hb, rfl⟩)⟩
theorem JD_of3 {hv pv : Nat → Int32} {P : Nat → Nat} {z a b c d : Nat} (hr : ¬ Rnd P z) (h : NU (Go hv pv 0) P z a) (h2 : NU (Go hv pv 0) (rev P z) z b) (h3 : NU (Go hv pv 1) P z c) (h4 : NU (Go hv pv 1) (rev P z) z d) (ha : z ≤ a + b) (hb : c + d < z) : JD hv pv P z 0 := Or.inr ⟨hr, a, b, c, d, h, h2, h3, h4, Or.inr (Or.inr ⟨ha, hb, rfl⟩)⟩
def turnS (v : Int32) : Int32 := if v = 1 then 2 else if v = 2 then 1 else v
theorem upd_uu (f : Nat → Int32) (k : Nat) (v w : Int32) : upd (upd f k v) k w = upd f k w := by
  funext j
  by_cases h : j = k
  · subst h; rw [upd_eq, upd_eq]
  · rw [upd_ne h, upd_ne h, upd_ne h]
theorem ma_uu {X : Mem} {p k : Nat} {f : Nat → Int32} {v v' : Int32} : ma (ma X p (upd f k v)) p (upd (ma X p (upd f k v) p) k v') = ma X p (upd f k v') := by rw [ma_ma, ma_eq, upd_uu]
/-- steps that the rows' sets have -/
def Gs (pv : Nat → Int32) (a b : Nat) : Prop := (ix (pv a)).testBit b = true
theorem Gs_of {pv : Nat → Int32} {a b s : Nat} (e : pv a = nI s) (hs : s < 1024) : Gs pv a b ↔ s.testBit b = true := by
  unfold Gs
  rw [e, ix_nI (by omega)]
/-- what is not denied: all, or what a net's vouchers tell -/
def ND (hv pv nd : Nat → Int32) : Prop := ∀ a, a < 10 → nd a = if hv a = 0 then 1023 else pv a
theorem tb_1023 : ∀ b, b < 10 → (1023 : Nat).testBit b = true := by decide
theorem Gs_go1 {hv pv : Nat → Int32} {a b : Nat} : Gs pv a b ↔ Go hv pv 1 a b := by
  unfold Gs Go
  constructor
  · exact Or.inl
  · rintro (h | ⟨h, -⟩)
    · exact h
    · exact absurd h (by decide)
theorem Gs_go0 {hv pv nd : Nat → Int32} {a b : Nat} (h : ND hv pv nd) (ha : a < 10) (hb : b < 10) : Gs nd a b ↔ Go hv pv 0 a b := by
  have e := h a ha
  by_cases q : hv a = 0
  · rw [if_pos q] at e
    constructor
    · intro _; exact Or.inr ⟨rfl, q⟩
    · intro _; exact (Gs_of (s := 1023) (e.trans (by decide)) (by decide)).mpr (tb_1023 b hb)
  · rw [if_neg q] at e
    unfold Gs Go
    rw [e]
    constructor
    · exact Or.inl
    · rintro (z | ⟨-, z⟩)
      · exact z
      · exact absurd z q
theorem NU_gs1 {hv pv : Nat → Int32} {P : Nat → Nat} {z r : Nat} (h : NU (Gs pv) P z r) : NU (Go hv pv 1) P z r :=
  ⟨h.1, h.2.1, fun k h1 h2 => Gs_go1.mp (h.2.2.1 k h1 h2), fun q g => h.2.2.2 q (Gs_go1.mpr g)⟩
theorem NU_gs0 {hv pv nd : Nat → Int32} {P : Nat → Nat} {z r : Nat} (hN : ND hv pv nd) (hP : ∀ k, k < z → P k < 10) (h : NU (Gs nd) P z r) : NU (Go hv pv 0) P z r := by
  obtain ⟨h1, h2, h3, h4⟩ := h
  exact ⟨h1, h2, fun k g1 g2 => (Gs_go0 hN (hP _ (by omega)) (hP _ (by omega))).mp (h3 k g1 g2), fun q g => h4 q ((Gs_go0 hN (hP _ (by omega)) (hP _ q)).mpr g)⟩
theorem rev_lt {P : Nat → Nat} {z : Nat} (hz : 1 ≤ z) (hP : ∀ k, k < z → P k < 10) : ∀ k, k < z → rev P z k < 10 := fun k hk => hP (z - 1 - k) (by omega)
theorem PV_nd {hv pv nd : Nat → Int32} (hP : PVInv pv) (hN : ND hv pv nd) : PVInv nd := by
  intro a ha
  have e := hN a ha
  by_cases q : hv a = 0
  · rw [if_pos q] at e
    exact ⟨1023, by decide, e.trans (by decide)⟩
  · rw [if_neg q] at e
    rw [e]
    exact hP a ha
theorem ND_0 {pv nd : Nat → Int32} (h : ∀ a, a < 10 → pv a = 0 ∧ nd a = 1023) : ND (fun _ => 0) pv nd := fun a ha => (h a ha).2.trans (if_pos rfl).symm
theorem ND_add {hv pv nd : Nat → Int32} {b : Nat} {x : Int32} (h : ND hv pv nd) : ND (upd hv b 1) (upd pv b x) (upd nd b x) := by
  intro a ha
  by_cases q : a = b
  · subst q
    rw [upd_eq, upd_eq, upd_eq, if_neg (by decide)]
  · rw [upd_ne q, upd_ne q, upd_ne q]
    exact h a ha
theorem V_iincD {p : Program} {l : Launch} {e : Env} {R : Room} {s : State} {m : MethodId} {args : Array Value} {below : List Frame} {meth : Method} {c : Code} {w : Wt} {cc : ByteArray} {nL : Nat} {own : String} {ret : Option FieldType} {n k : Nat} {Q : State → Prop} {pc : Nat} {ls : List (Option Value)} {st : List Value} {X : Mem} (C : CX p s m args meth c w cc nL own ret) {i a : Nat} {ls1 : List (Option Value)} (hd : decode cc pc = .ok (.iinc i (-1), 3)) (hx : ls[i]? = some (some (.int (nI a)))) (h1 : 1 ≤ a) (hn : i < nL) (hl : ls.set i (some (.int (nI (a - 1)))) = ls1) (kk : V p l e R s m args below meth c w nL n k Q (pc + 3) ls1 st X) : V p l e R s m args below meth c w nL n k Q pc ls st X := by
  obtain ⟨b, rfl⟩ : ∃ b, a = b + 1 := ⟨a - 1, by omega⟩
  exact V_iincM C hd hx hn hl kk
