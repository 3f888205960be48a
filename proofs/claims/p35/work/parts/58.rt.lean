/-! what is told of a route -/
theorem nIu {a b m : Nat} (hm : m ≤ 2 ^ 31) (ha : a < m) (hb : b < m) (e : nI a = nI b) : a = b := (nI_eq (by omega) (by omega)).mp e
def PuX (X : Mem) (n : Nat) (P : Nat → Nat) (z : Nat) (r : Int32) : Prop := ∃ V hv pv, IsV (oC X) (gC X) n (X 1 0) V ∧ VoR (oC X) V n hv pv ∧ JU hv pv P z r
def PdX (X : Mem) (n : Nat) (P : Nat → Nat) (z : Nat) (r : Int32) : Prop := ∃ V hv pv, IsV (oC X) (gC X) n (X 1 0) V ∧ VoR (oC X) V n hv pv ∧ JD hv pv P z r
def SpX (X : Mem) (n F : Nat) (P : Nat → Nat) (z a : Nat) (r : Int32) : Prop := ∃ V hv pv, IsV (oC X) (gC X) n (X 1 0) V ∧ VoR (oC X) V n hv pv ∧ FirstR (SpAt F (StR (oC X) V n (nI (P 0)) (X 48 a) (X 49 a) 2) (tC X) hv pv P) P 1 z r
theorem PuX_k {X Y : Mem} {n z : Nat} {P : Nat → Nat} {r : Int32} (k : Kp X Y) : PuX Y n P z r ↔ PuX X n P z r := by
  unfold PuX
  rw [k.o, k.g, k 1 (by omega)]
theorem PdX_k {X Y : Mem} {n z : Nat} {P : Nat → Nat} {r : Int32} (k : Kp X Y) : PdX Y n P z r ↔ PdX X n P z r := by
  unfold PdX
  rw [k.o, k.g, k 1 (by omega)]
theorem SpX_k {X Y : Mem} {n F z a : Nat} {P : Nat → Nat} {r : Int32} (k : Kp X Y) : SpX Y n F P z a r ↔ SpX X n F P z a r := by
  unfold SpX
  rw [k.o, k.g, k.t, k 1 (by omega), k 48 (by omega), k 49 (by omega)]
theorem PuX_n {X : Mem} {n z : Nat} {P : Nat → Nat} {r : Int32} (h : PuX X n P z r) : ∃ c, c < 3 ∧ r = nI c := by
  obtain ⟨V, hv, pv, -, -, ⟨-, h⟩ | ⟨-, a, b, -, -, ⟨-, h⟩ | ⟨-, -, h⟩ | ⟨-, -, h⟩⟩⟩ := h
  · exact ⟨2, by decide, h⟩
  · exact ⟨2, by decide, h⟩
  · exact ⟨1, by decide, h⟩
  · exact ⟨0, by decide, h⟩
theorem PdX_n {X : Mem} {n z : Nat} {P : Nat → Nat} {r : Int32} (h : PdX X n P z r) : ∃ c, c < 3 ∧ r = nI c := by
  obtain ⟨V, hv, pv, -, -, ⟨-, h⟩ | ⟨-, a, b, c, d, -, -, -, -, ⟨-, h⟩ | ⟨-, -, h⟩ | ⟨-, -, h⟩⟩⟩ := h
  · exact ⟨2, by decide, h⟩
  · exact ⟨2, by decide, h⟩
  · exact ⟨1, by decide, h⟩
  · exact ⟨0, by decide, h⟩
theorem n3_2 {c : Nat} (hc : c < 3) (h : nI c = 2) : c = 2 := nIu (m := 3) (by decide) hc (by decide) (h : nI c = nI 2)
theorem n3_1 {c : Nat} (hc : c < 3) (h : nI c = 1) : c = 1 := nIu (m := 3) (by decide) hc (by decide) (h : nI c = nI 1)
theorem n3_0 {c : Nat} (hc : c < 3) (h : nI c = 0) : c = 0 := nIu (m := 3) (by decide) hc (by decide) (h : nI c = nI 0)
/-- upwards and downwards -/
theorem route_ud {X : Mem} {hh n z cu cd : Nat} {P : Nat → Nat} (hG : GInv (gC X) hh) (hO : OInv (oC X) hh n) (hz : 1 ≤ z) (hP : ∀ k, k < z → P k < 10) (hcu : cu < 3) (hcd : cd < 3) (hu : PuX X n P z (nI cu)) (hd : PdX X n P z (nI cd)) :
    (Rnd P z → cu = 2 ∧ cd = 2) ∧ (cu = 1 → cd = 1) ∧ (cd = 2 → cu = 2) ∧ (z = 1 → cu = 1) ∧ (z ≤ 2 → ¬ Rnd P z → cd = 1) := by
  obtain ⟨V, hv, pv, a1, a2, a3⟩ := hu
  obtain ⟨V', hv', pv', b1, b2, b3⟩ := hd
  have b3 := JD_c (VoR_one (IsV_one hG hO b1 a1) b2 a2) hP b3
  have hr1 : z = 1 → ¬ Rnd P z := fun h ⟨i, j, h1, h2, _⟩ => by omega
  rcases a3 with ⟨r1, e1⟩ | ⟨r1, a, b, x1, x2, x3⟩ <;> rcases b3 with ⟨s1, f1⟩ | ⟨s1, a', b', c', d', y1, y2, y3, y4, y5⟩
  · have e1 := n3_2 hcu e1
    have f1 := n3_2 hcd f1
    exact ⟨fun _ => ⟨e1, f1⟩, fun h => by omega, fun _ => e1, fun h => absurd r1 (hr1 h), fun _ h => absurd r1 h⟩
  · exact absurd r1 s1
  · exact absurd s1 r1
  · have g1 := NU_one y1 x1
    have g2 := NU_one y3 x2
    subst g1
    subst g2
    have l1 := x1.1
    have l2 := x1.2.1
    have l3 := x2.1
    have l4 := x2.2.1
    have l5 := y2.1
    have l6 := y4.1
    have xu : (a' < z ∧ cu = 2) ∨ (a' = z ∧ c' = z ∧ cu = 1) ∨ (a' = z ∧ c' < z ∧ cu = 0) := x3.elim (fun q => Or.inl ⟨q.1, n3_2 hcu q.2⟩) (fun q => Or.inr (q.elim (fun q => Or.inl ⟨q.1, q.2.1, n3_1 hcu q.2.2⟩) (fun q => Or.inr ⟨q.1, q.2.1, n3_0 hcu q.2.2⟩)))
    have xd : (a' + b' < z ∧ cd = 2) ∨ (z ≤ a' + b' ∧ z ≤ c' + d' ∧ cd = 1) ∨ (z ≤ a' + b' ∧ c' + d' < z ∧ cd = 0) := y5.elim (fun q => Or.inl ⟨q.1, n3_2 hcd q.2⟩) (fun q => Or.inr (q.elim (fun q => Or.inl ⟨q.1, q.2.1, n3_1 hcd q.2.2⟩) (fun q => Or.inr ⟨q.1, q.2.1, n3_0 hcd q.2.2⟩)))
    exact ⟨fun h => absurd h r1, fun h => by omega, fun h => by omega, fun h => by omega, fun h _ => by omega⟩
/-- filters -/
theorem SpX_in {X : Mem} {n F z a : Nat} {P : Nat → Nat} {r : Int32} (h : SpX X n F P z a r) : r = -1 ∨ ∃ j, 1 ≤ j ∧ j < z ∧ nI (P j) = r ∧ F.testBit (P j) = true := by
  obtain ⟨V, hv, pv, -, -, ⟨k, h1, h2, h3, -, h4⟩ | ⟨-, h4⟩⟩ := h
  · exact Or.inr ⟨k, h1, h2, h4.symm, h3.1⟩
  · exact Or.inl h4
theorem SpX_0 {X : Mem} {n z a : Nat} {P : Nat → Nat} {r : Int32} (h : SpX X n 0 P z a r) : r = -1 := by
  rcases SpX_in h with h | ⟨j, -, -, -, h⟩
  · exact h
  · simp at h
theorem StR_c {O : Ob} {V V' : Nat → Int32} {n : Nat} {net v b r : Int32} (e : ∀ o, o < n → V o = V' o) (h : StR O V n net v b r) : StR O V' n net v b r := by
  have e1 : (∃ o, o < n ∧ CovO O V o v b) ↔ ∃ o, o < n ∧ CovO O V' o v b := by
    constructor <;> (rintro ⟨o, h1, h2, h3, h4⟩; exact ⟨o, h1, h2, by simpa [e o h1] using h3, h4⟩)
  have e2 : (∃ o, o < n ∧ ValO O V o net v b) ↔ ∃ o, o < n ∧ ValO O V' o net v b := by
    constructor <;> (rintro ⟨o, h1, ⟨h2, h3, h4⟩, h5⟩; exact ⟨o, h1, ⟨h2, by simpa [e o h1] using h3, h4⟩, h5⟩)
  unfold StR at h ⊢
  rw [← e1, ← e2]
  exact h
theorem nI_ge9 (a : Nat) (h : a < 10) : ¬ nI a < 0 := nz_lt (by omega)
theorem SpX_all {X : Mem} {hh n F z a : Nat} {P : Nat → Nat} {r r' : Int32} (hG : GInv (gC X) hh) (hO : OInv (oC X) hh n) (hP : ∀ k, k < z → P k < 10) (h : SpX X n F P z a r) (hr : ¬ r = -1) (h' : SpX X n 1023 P z a r') : ¬ r' < 0 := by
  obtain ⟨V, hv, pv, a1, a2, ⟨k, h1, h2, h3, -, -⟩ | ⟨-, h4⟩⟩ := h
  · obtain ⟨V', hv', pv', b1, b2, ⟨j, g1, g2, g3, -, g4⟩ | ⟨g3, g4⟩⟩ := h'
    · rw [g4]
      exact nI_ge9 _ (hP j g2)
    · exfalso
      have eV := IsV_one hG hO a1 b1
      refine g3 k h1 h2 ⟨tb_1023 _ (hP k h2), h3.2.elim (fun q => Or.inl (StR_c eV q)) (fun q => Or.inr ?_)⟩
      exact Rf_c1 (fun _ _ _ _ => rfl) (VoR_one eV a2 b2) (fun j hj => hP j (by omega)) q
  · exact absurd h4 hr
theorem Lk_in {X : Mem} {z : Nat} {P : Nat → Nat} {r : Int32} (h : FirstR (LkAt (tC X) P) P 1 (z - 1) r) : r = -1 ∨ ∃ j, 1 ≤ j ∧ j + 1 < z ∧ nI (P j) = r := by
  rcases h with ⟨k, h1, h2, -, -, h4⟩ | ⟨-, h4⟩
  · exact Or.inr ⟨k, h1, by omega, h4.symm⟩
  · exact Or.inl h4
/-! what 'on' says of a route -/
theorem rt_no {R r : Nat} {Th : Nat → Prop} (hR : R ≤ 24) (hr : r < R) : ¬ IsRt R Th (nI r) → ¬ Th r := fun h q => h ⟨r, hr, rfl, q⟩
section ON
variable {X Xp X1 : Mem} {h n R r : Nat} {PP : Nat → Nat → Nat} {Z : Nat → Nat} {Th : Nat → Prop} {v : Int32}
theorem eOS : ¬ eIO = eIS := by decide
theorem on_up (k : Kp X Xp) (hR : R ≤ 24) (hr : r < R) (q : q_L_on_21 (nI r) Xp h n R PP Z Th v X1) : Kp X X1 ∧ ((¬ Th r ∧ v = -11) ∨ (Th r ∧ PuX X n (PP r) (Z r) v)) := by
  rcases q with ⟨a, ⟨h1, h2, h3⟩, V, hv, pv, nd, e1, ⟨h4, h5⟩, h6⟩ | ⟨E, ⟨e1, e2, e3⟩, h5⟩
  · have e := nIu (m := 24) (by decide) (by omega) (by omega) h2
    subst e
    refine ⟨by rw [e1]; exact ((k.put (Or.inl rfl)).put (by omega)).put (by omega), Or.inr ⟨h3, (PuX_k k).mp ⟨V, hv, pv, h4, h5, ?_⟩⟩⟩
    exact h6.elim (fun q => q.2) (fun q => absurd q.1 (by decide))
  · refine ⟨by rw [e1]; exact k, Or.inl ⟨rt_no hR hr e3, ?_⟩⟩
    exact h5.elim (fun q => q.2) (fun q => absurd (e2.symm.trans q.1) eOS)
theorem on_down (k : Kp X Xp) (hR : R ≤ 24) (hr : r < R) (q : q_L_on_20 (nI r) Xp h n R PP Z Th v X1) : Kp X X1 ∧ ((¬ Th r ∧ v = -11) ∨ (Th r ∧ PdX X n (PP r) (Z r) v)) := by
  rcases q with ⟨a, ⟨h1, h2, h3⟩, V, hv, pv, nd, e1, ⟨h4, h5⟩, h6⟩ | ⟨E, ⟨e1, e2, e3⟩, h5⟩
  · have e := nIu (m := 24) (by decide) (by omega) (by omega) h2
    subst e
    refine ⟨by rw [e1]; exact ((k.put (Or.inl rfl)).put (by omega)).put (by omega), Or.inr ⟨h3, (PdX_k k).mp ⟨V, hv, pv, h4, h5, ?_⟩⟩⟩
    exact h6.elim (fun q => absurd rfl q.1) (fun q => q.2)
  · refine ⟨by rw [e1]; exact k, Or.inl ⟨rt_no hR hr e3, ?_⟩⟩
    exact h5.elim (fun q => q.2) (fun q => absurd (e2.symm.trans q.1) eOS)
theorem on_leak (k : Kp X Xp) (hR : R ≤ 24) (hr : r < R) (q : q_L_on_3 (nI r) Xp R PP Z Th v X1) : Kp X X1 ∧ ((¬ Th r ∧ v = -11) ∨ (Th r ∧ FirstR (LkAt (tC X) (PP r)) (PP r) 1 (Z r - 1) v)) := by
  rcases q with ⟨a, ⟨h1, h2, h3⟩, h4, e1⟩ | ⟨E, ⟨e1, e2, e3⟩, h5⟩
  · have e := nIu (m := 24) (by decide) (by omega) (by omega) h2
    subst e
    exact ⟨by rw [e1]; exact k, Or.inr ⟨h3, by rw [← k.t]; exact h4⟩⟩
  · refine ⟨by rw [e1]; exact k, Or.inl ⟨rt_no hR hr e3, ?_⟩⟩
    exact h5.elim (fun q => q.2) (fun q => absurd (e2.symm.trans q.1) eOS)
theorem on_stop {F : Nat} (k : Kp X Xp) (hR : R ≤ 24) (hr : r < R) (hF : F < 1024) (q : q_L_on_4 (nI r) (nI F) Xp h n R PP Z Th v X1) : Kp X X1 ∧ ((¬ Th r ∧ v = -11) ∨ (Th r ∧ SpX X n F (PP r) (Z r) r v)) := by
  rcases q with ⟨a, ⟨h1, h2, h3⟩, -, F', hF', eF, V, hv, pv, nd, e1, ⟨h4, h5⟩, h6⟩ | ⟨E, ⟨e1, e2⟩, h5⟩
  · have e := nIu (m := 24) (by decide) (by omega) (by omega) h2
    subst e
    have eF := nIu (m := 1024) (by decide) (by omega) (by omega) eF
    subst eF
    exact ⟨by rw [e1]; exact ((k.put (Or.inl rfl)).put (by omega)).put (by omega), Or.inr ⟨h3, (SpX_k k).mp ⟨V, hv, pv, h4, h5, h6⟩⟩⟩
  · refine ⟨by rw [e1]; exact k, ?_⟩
    rcases e2 with ⟨e2, e3⟩ | ⟨e2, e3, e4⟩
    · exact Or.inl ⟨rt_no hR hr e3, h5.elim (fun q => q.2) (fun q => absurd (e2.symm.trans q.1) eOS)⟩
    · exact absurd (btw_n (m := 1023) (by omega) (by decide)) e4
end ON
theorem la_many {X : Mem} {h D n Dd R r : Nat} {dr : Nat → Nat} {PP : Nat → Nat → Nat} {Z : Nat → Nat} {Th : Nat → Prop} (hJ : JP X h D n Dd R dr PP Z Th) (hL : LA X h n R PP Z Th) (hr : r < R) : ∃ m, m < 7 ∧ X 91 (7 * r) = nI m ∧ (Th r → m = Z r) ∧ (¬ Th r → m = 0) ∧ (m = 0 → ¬ Th r) := by
  obtain ⟨h1, h2, -⟩ := hJ.2.2.2.1.1.2.2 r hr
  obtain ⟨g1, g2⟩ := hL.2.2.1 r hr
  by_cases q : Th r
  · exact ⟨Z r, by omega, (g1 q).1, fun _ => rfl, fun h => absurd q h, fun h => by omega⟩
  · exact ⟨0, by decide, g2 q, fun h => absurd h q, fun _ => rfl, fun _ => q⟩
/-! what the law sees on its way along a path -/
def LkT (P : Nat → Nat) (m : Nat) (v : Int32) (i : Nat) : Prop := v = -1 ∨ ∃ j, j < i ∧ 1 ≤ j ∧ j + 1 < m ∧ nI (P j) = v
def SpT (P : Nat → Nat) (F : Nat) (v : Int32) (i : Nat) : Prop := v = -1 ∨ ∃ j, j < i ∧ 1 ≤ j ∧ nI (P j) = v ∧ F.testBit (P j) = true
theorem LkT_s {P : Nat → Nat} {m i : Nat} {v : Int32} : LkT P m v (i + 1) ↔ LkT P m v i ∨ (1 ≤ i ∧ i + 1 < m ∧ nI (P i) = v) := by
  unfold LkT
  rw [ex_succ, or_assoc]
theorem SpT_s {P : Nat → Nat} {F i : Nat} {v : Int32} : SpT P F v (i + 1) ↔ SpT P F v i ∨ (1 ≤ i ∧ nI (P i) = v ∧ F.testBit (P i) = true) := by
  unfold SpT
  rw [ex_succ, or_assoc]
theorem LkT_0 {P : Nat → Nat} {m : Nat} {v : Int32} : LkT P m v 0 ↔ v = -1 := ⟨fun h => h.elim id (fun ⟨_, h, _⟩ => absurd h (Nat.not_lt_zero _)), Or.inl⟩
theorem SpT_0 {P : Nat → Nat} {F : Nat} {v : Int32} : SpT P F v 0 ↔ v = -1 := ⟨fun h => h.elim id (fun ⟨_, h, _⟩ => absurd h (Nat.not_lt_zero _)), Or.inl⟩
