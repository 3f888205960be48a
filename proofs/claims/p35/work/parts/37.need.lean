/-! what a call needs -/
theorem Btw_i {v m n : Int32} (hm : m.toInt = n.toInt + 1) : Btw v 0 n ↔ ¬ v < 0 ∧ v < m := by
  unfold Btw
  rw [Int32.le_iff_toInt_le, Int32.le_iff_toInt_le, Int32.lt_iff_toInt_lt, Int32.lt_iff_toInt_lt, hm]
  omega
theorem Btw_h {v : Int32} {h : Nat} (h1 : 1 ≤ h) (h2 : h < 2 ^ 31) : Btw v 0 (nI (h - 1)) ↔ ¬ v < 0 ∧ v < nI h := Btw_i (by rw [nI_toInt h2, nI_toInt (by omega)]; omega)
theorem Btw_r {v lo hi : Int32} : Btw v lo hi ↔ ¬ v < lo ∧ v ≤ hi := ⟨fun q => ⟨Int32.not_lt.mpr q.1, q.2⟩, fun q => ⟨Int32.not_lt.mp q.1, q.2⟩⟩
theorem gtNle {a b : Nat} (ha : a < 2 ^ 31) (hb : b < 2 ^ 31) (h : b < a) : ¬ nI a ≤ nI b := by
  rw [Int32.le_iff_toInt_le, nI_toInt ha, nI_toInt hb]
  omega
theorem Btw_of {v : Int32} {n : Nat} (hn : n + 1 < 2 ^ 31) (h : Btw v 0 (nI n)) : ∃ a, a < n + 1 ∧ v = nI a := Btw_n hn (gtNle (by omega) (by omega) (by omega)) h
theorem Btw_hd {v : Int32} {h : Nat} (h1 : 1 ≤ h) (h2 : h < 2 ^ 31) (q : Btw v 0 (nI (h - 1))) : ∃ a, a < h ∧ v = nI a := by
  obtain ⟨a, ha, e⟩ := Btw_of (n := h - 1) (by omega) q
  exact ⟨a, by omega, e⟩
/-- a block: a value of 8 bits and a length, the bits behind the first ones being 0 -/
def Blk (v l : Int32) : Prop := Btw v 0 255 ∧ Btw l 0 8 ∧ ∀ a b, a < 256 → b < 9 → v = nI a → l = nI b → a % 2 ^ (8 - b) = 0
theorem blkC : ∀ a, a < 256 → ∀ b, b < 9 → ((nI a >>> ((8 - nI b) &&& 31)) <<< (nI (8 - b) &&& 31) = nI a ↔ a % 2 ^ (8 - b) = 0) := by decide +kernel
theorem blkM : ∀ a, a < 256 → ∀ b, b < 9 → (nI a &&& ((1 <<< (nI (8 - b) &&& 31)) - 1) = 0 ↔ a % 2 ^ (8 - b) = 0) := by decide +kernel
theorem blkD : ∀ a, a < 256 → ∀ b, b < 9 → (nI a &&& ((255 : Int32) >>> (nI b &&& 31)) = 0 ↔ a % 2 ^ (8 - b) = 0) := by decide +kernel
theorem Blk_n {a b : Nat} (ha : a < 256) (hb : b < 9) (h1 : Btw (nI a) 0 255) (h2 : Btw (nI b) 0 8) : Blk (nI a) (nI b) ↔ a % 2 ^ (8 - b) = 0 := by
  constructor
  · rintro ⟨-, -, h⟩
    exact h a b ha hb rfl rfl
  · intro h
    refine ⟨h1, h2, fun x y hx hy ex ey => ?_⟩
    rw [← (nI_eq (by omega) (by omega)).mp ex, ← (nI_eq (by omega) (by omega)).mp ey]
    exact h
theorem obj_in {v : Int32} {n : Nat} (n50 : n ≤ 50) (h1 : ¬ v < 0) (h2 : v < nI n) : Btw v 0 (nI n - 1) ∧ ∃ o, o < n ∧ v = nI o := by
  rcases pk_ix v (n := n) (by omega) with q | q | ⟨o, ho, e⟩
  · exact absurd q h1
  · exact absurd h2 (Int32.not_lt.mpr q)
  · have e2 : nI n - 1 = nI (n - 1) := pk_sub (a := n) (b := 1) (by omega)
    rw [e2]
    exact ⟨(Btw_h (by omega) (by omega)).mpr ⟨h1, h2⟩, o, ho, e⟩
theorem obj_out {v : Int32} {n : Nat} (n50 : n ≤ 50) (h : v < 0 ∨ ¬ v < nI n) : ¬ Btw v 0 (nI n - 1) := by
  intro q
  rcases Nat.eq_zero_or_pos n with z | z
  · subst z
    have h1 := q.1
    have h2 := q.2
    rw [Int32.le_iff_toInt_le] at h1 h2
    have e1 : (0 : Int32).toInt = 0 := by decide
    have e2 : (nI 0 - 1 : Int32).toInt = -1 := by decide
    omega
  · have e2 : nI n - 1 = nI (n - 1) := pk_sub (a := n) (b := 1) (by omega)
    rw [e2] at q
    have := (Btw_h (by omega) (by omega)).mp q
    exact h.elim (fun g => this.1 g) (fun g => g this.2)
