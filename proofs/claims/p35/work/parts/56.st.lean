/-! what an asking leaves: all but verdicts, marks, vouchers, the trail and what is inferred -/
def Kp (X Y : Mem) : Prop := ∀ p, (p < 18 ∨ (19 < p ∧ p < 63) ∨ 84 < p) → Y p = X p
theorem Kp.rf {X : Mem} : Kp X X := fun _ _ => rfl
theorem Kp.tr {X Y Y' : Mem} (h : Kp X Y) (h' : Kp Y Y') : Kp X Y' := fun p hp => (h' p hp).trans (h p hp)
theorem Kp.put {X Y : Mem} {p : Nat} {f : Nat → Int32} (h : Kp X Y) (hp : p = 18 ∨ p = 19 ∨ (62 < p ∧ p < 85)) : Kp X (ma Y p f) := fun q hq => by rw [ma_ne (by omega)]; exact h q hq
theorem Kp.outI {X Y Y' : Mem} (h : Kp X Y) (h' : OutI Y Y') : Kp X Y' := fun q hq => (h' q (by omega)).trans (h q hq)
theorem Kp.o {X Y : Mem} (h : Kp X Y) : oC Y = oC X := by
  unfold oC
  rw [h 7 (by omega), h 8 (by omega), h 9 (by omega), h 10 (by omega), h 11 (by omega), h 12 (by omega), h 13 (by omega), h 14 (by omega), h 15 (by omega), h 16 (by omega)]
theorem Kp.g {X Y : Mem} (h : Kp X Y) : gC Y = gC X := by
  unfold gC
  rw [h 2 (by omega), h 3 (by omega), h 4 (by omega), h 5 (by omega)]
theorem Kp.t {X Y : Mem} (h : Kp X Y) : tC Y = tC X := by
  funext a b
  unfold tC
  by_cases q : a < 10
  · rw [if_pos q, if_pos q, h (53 + a) (by omega)]
  · rw [if_neg q, if_neg q]
noncomputable def cntT (Th : Nat → Prop) (R : Nat) : Nat := sumN (fun r => oneIf (Th r)) R
/-- ties: a tie and its other side -/
def TS (ti : Nat → Nat → Int32) : Prop := ∀ a b, a < 10 → b < 10 → (∃ c, c < 4 ∧ ti a b = nI c) ∧ ti b a = turnS (ti a b)
/-- what holds of the class all along -/
def JP (X : Mem) (h D n Dd R : Nat) (dr : Nat → Nat) (PP : Nat → Nat → Nat) (Z : Nat → Nat) (Th : Nat → Prop) : Prop :=
  (X 1 0 = nI D ∧ D ≤ 10000 ∧ X 1 1 = nI h ∧ GInv (gC X) h) ∧ (X 6 0 = nI n ∧ OInv (oC X) h n ∧ ∀ o, n ≤ o → X 15 o = 0 ∧ X 16 o = 0) ∧ (X 20 2 = nI Dd ∧ Dd ≤ 6 ∧ PA X 21 dr Dd) ∧ (RBc X R PP Z Th ∧ X 20 1 = nI (cntT Th R) ∧ ∀ r, R ≤ r → X 50 r = 0) ∧ TS (tC X)
/-- what the law's own rows hold -/
def LA (X : Mem) (h n R : Nat) (PP : Nat → Nat → Nat) (Z : Nat → Nat) (Th : Nat → Prop) : Prop :=
  (∀ k, k < n → X 85 k = X 7 k ∧ X 86 k = X 9 k ∧ X 87 k = X 10 k ∧ X 88 k = X 11 k ∧ X 89 k = X 12 k ∧ Blk (X 10 k) (X 11 k) ∧ (∃ e, e < 1024 ∧ X 12 k = nI e) ∧ ∃ e, e < 20000 ∧ X 13 k = nI e) ∧ (∀ i, i < 8 → ∃ a, a < h ∧ X 90 i = nI a) ∧ (∀ r, r < R → (Th r → X 91 (7 * r) = nI (Z r) ∧ ∀ k, k < Z r → X 91 (7 * r + (k + 1)) = nI (PP r k)) ∧ (¬ Th r → X 91 (7 * r) = 0)) ∧ ∀ r, R ≤ r → r < 8 → X 91 (7 * r) = 0
theorem PA_k {X Y : Mem} {p : Nat} {P : Nat → Nat} {z : Nat} (e : Y p = X p) (q : PA X p P z) : PA Y p P z := fun k hk => by rw [e]; exact q k hk
theorem RBc_k {X Y : Mem} {R : Nat} {PP : Nat → Nat → Nat} {Z : Nat → Nat} {Th : Nat → Prop} (e0 : Y 20 0 = X 20 0) (e : ∀ p, 22 < p ∧ p < 51 → Y p = X p) (q : RBc X R PP Z Th) : RBc Y R PP Z Th := by
  have h24 := q.1
  refine ⟨q.1, e0.trans q.2.1, fun r hr => ?_⟩
  obtain ⟨h1, h2, h3, h4, h5⟩ := q.2.2 r hr
  exact ⟨h1, h2, by rw [e 47 (by omega)]; exact h3, PA_k (e (23 + r) (by omega)) h4, by rw [e 50 (by omega)]; exact h5⟩
theorem JP_k {X Y : Mem} {h D n Dd R : Nat} {dr : Nat → Nat} {PP : Nat → Nat → Nat} {Z : Nat → Nat} {Th : Nat → Prop} (k : Kp X Y) (q : JP X h D n Dd R dr PP Z Th) : JP Y h D n Dd R dr PP Z Th := by
  obtain ⟨⟨a1, a2, a3, a4⟩, ⟨b1, b2, b3⟩, ⟨c1, c2, c3⟩, ⟨d1, d2, d3⟩, e1⟩ := q
  refine ⟨⟨by rw [k 1 (by omega)]; exact a1, a2, by rw [k 1 (by omega)]; exact a3, by rw [k.g]; exact a4⟩, ⟨by rw [k 6 (by omega)]; exact b1, by rw [k.o]; exact b2, by rw [k 15 (by omega), k 16 (by omega)]; exact b3⟩, ⟨by rw [k 20 (by omega)]; exact c1, c2, PA_k (k 21 (by omega)) c3⟩, ⟨RBc_k (by rw [k 20 (by omega)]) (fun p hp => k p (by omega)) d1, by rw [k 20 (by omega)]; exact d2, by rw [k 50 (by omega)]; exact d3⟩, by rw [k.t]; exact e1⟩
theorem LA_k {X Y : Mem} {h n R : Nat} {PP : Nat → Nat → Nat} {Z : Nat → Nat} {Th : Nat → Prop} (k : Kp X Y) (q : LA X h n R PP Z Th) : LA Y h n R PP Z Th := by
  unfold LA
  rw [k 85 (by omega), k 86 (by omega), k 87 (by omega), k 88 (by omega), k 89 (by omega), k 90 (by omega), k 91 (by omega), k 7 (by omega), k 9 (by omega), k 10 (by omega), k 11 (by omega), k 12 (by omega), k 13 (by omega)]
  exact q
/-! what an asking tells, without the verdicts' row -/
def HasX (X : Mem) (n : Nat) (h v b : Int32) : Prop := ∃ V, IsV (oC X) (gC X) n (X 1 0) V ∧ HasB (oC X) V n h v b
def JgX (X : Mem) (n o : Nat) (r : Int32) : Prop := ∃ V, IsV (oC X) (gC X) n (X 1 0) V ∧ r = V o
def StX (X : Mem) (n : Nat) (net v b r : Int32) : Prop := ∃ V, IsV (oC X) (gC X) n (X 1 0) V ∧ StR (oC X) V n net v b r
theorem HasX_k {X Y : Mem} {n : Nat} {h v b : Int32} (k : Kp X Y) : HasX Y n h v b ↔ HasX X n h v b := by
  unfold HasX
  rw [k.o, k.g, k 1 (by omega)]
theorem JgX_k {X Y : Mem} {n o : Nat} {r : Int32} (k : Kp X Y) : JgX Y n o r ↔ JgX X n o r := by
  unfold JgX
  rw [k.o, k.g, k 1 (by omega)]
theorem StX_k {X Y : Mem} {n : Nat} {net v b r : Int32} (k : Kp X Y) : StX Y n net v b r ↔ StX X n net v b r := by
  unfold StX
  rw [k.o, k.g, k 1 (by omega)]
theorem HasX_of {X : Mem} {hh n : Nat} {h v b r : Int32} {V : Nat → Int32} (hG : GInv (gC X) hh) (hO : OInv (oC X) hh n) (hV : IsV (oC X) (gC X) n (X 1 0) V) (hb : bI (HasB (oC X) V n h v b) r) : bI (HasX X n h v b) r :=
  hb.congr ⟨fun q => ⟨V, hV, q⟩, fun ⟨V', h1, h2⟩ => (HasB_congr (fun o ho _ => IsV_one hG hO hV h1 o ho)).mp h2⟩
theorem JgX_one {X : Mem} {hh n o : Nat} {r r' : Int32} (hG : GInv (gC X) hh) (hO : OInv (oC X) hh n) (ho : o < n) (h : JgX X n o r) (h' : JgX X n o r') : r = r' := by
  obtain ⟨V, h1, rfl⟩ := h
  obtain ⟨V', h2, rfl⟩ := h'
  exact IsV_one hG hO h1 h2 o ho
theorem HasX_Rx {X : Mem} {hh n c : Nat} {v b r r' : Int32} (hG : GInv (gC X) hh) (hO : OInv (oC X) hh n) (hc : c < hh) (h1 : bI (HasX X n (nI c) v b) r) (hV : ∃ V, IsV (oC X) (gC X) n (X 1 0) V) (h2 : bI (Rx (oC X) (gC X) (X 1 0) n (nI c) v b) r') : r = r' := by
  refine h1.same h2 ?_
  constructor
  · rintro ⟨V, a1, a2⟩
    exact (HasB_Rx hG hO a1 c hc v b).mp a2
  · intro q
    obtain ⟨V, hV⟩ := hV
    exact ⟨V, hV, (HasB_Rx hG hO hV c hc v b).mpr q⟩
theorem JgX_V {X : Mem} {n o : Nat} {r : Int32} (h : JgX X n o r) : ∃ V, IsV (oC X) (gC X) n (X 1 0) V := ⟨h.choose, h.choose_spec.1⟩
theorem fault_lt {O : Ob} {G : Gb} {day : Int32} {o : Nat} : faultS O G day o = 0 ∨ faultS O G day o = 1 ∨ faultS O G day o = 2 ∨ faultS O G day o = 3 ∨ faultS O G day o = 4 := by
  unfold faultS
  split
  · exact Or.inr (Or.inl rfl)
  · split
    · exact Or.inr (Or.inr (Or.inl rfl))
    · split
      · exact Or.inr (Or.inr (Or.inr (Or.inl rfl)))
      · split
        · exact Or.inl rfl
        · exact Or.inr (Or.inr (Or.inr (Or.inr rfl)))
/-- a verdict is one of 0 to 5 -/
theorem JgX_lt {X : Mem} {n o : Nat} {r : Int32} (ho : o < n) (h : JgX X n o r) : ∃ c, c < 6 ∧ r = nI c := by
  obtain ⟨V, h1, rfl⟩ := h
  rcases h1 o ho with ⟨-, h2⟩ | ⟨-, -, h2⟩ | ⟨-, -, h2⟩
  · rw [h2]
    rcases @fault_lt (oC X) (gC X) (X 1 0) o with q | q | q | q | q <;> rw [q]
    · exact ⟨0, by decide, rfl⟩
    · exact ⟨1, by decide, rfl⟩
    · exact ⟨2, by decide, rfl⟩
    · exact ⟨3, by decide, rfl⟩
    · exact ⟨4, by decide, rfl⟩
  · exact ⟨5, by decide, h2⟩
  · exact ⟨0, by decide, h2⟩
/-- who is granted a block by a good object has it -/
theorem JgX_has {X : Mem} {n o : Nat} (ho : o < n) (h : JgX X n o 0) (hk : X 7 o = 0) : HasX X n (X 9 o) (X 10 o) (X 11 o) := by
  obtain ⟨V, h1, h2⟩ := h
  exact ⟨V, h1, Or.inr ⟨o, ho, ⟨⟨hk, rfl⟩, h2.symm⟩, ⟨Int32.le_refl _, rfl⟩⟩⟩
/-- an origin that is good and has the block -/
def CvX (X : Mem) (n : Nat) (v b : Int32) (o : Nat) : Prop := X 7 o = 1 ∧ JgX X n o 0 ∧ LiesIn v b (X 10 o) (X 11 o)
theorem CvX_V {X : Mem} {hh n o : Nat} {v b : Int32} {V : Nat → Int32} (hG : GInv (gC X) hh) (hO : OInv (oC X) hh n) (hV : IsV (oC X) (gC X) n (X 1 0) V) (ho : o < n) : CovO (oC X) V o v b ↔ CvX X n v b o := by
  constructor
  · rintro ⟨h1, h2, h3⟩
    exact ⟨h1, ⟨V, hV, h2.symm⟩, h3⟩
  · rintro ⟨h1, ⟨V', hV', h2⟩, h3⟩
    exact ⟨h1, (IsV_one hG hO hV hV' o ho).trans h2.symm, h3⟩
theorem StX_any {X : Mem} {hh n : Nat} {net v b r : Int32} (hG : GInv (gC X) hh) (hO : OInv (oC X) hh n) (h : StX X n net v b r) : r = 0 ↔ ¬ ∃ o, o < n ∧ CvX X n v b o := by
  obtain ⟨V, hV, h⟩ := h
  rcases h with ⟨rfl, o, h1, h2⟩ | ⟨rfl, ⟨o, h1, h2⟩, -⟩ | ⟨rfl, h1⟩
  · exact ⟨fun q => absurd q (by decide), fun q => absurd ⟨o, h1, (CvX_V hG hO hV h1).mp h2.1⟩ q⟩
  · exact ⟨fun q => absurd q (by decide), fun q => absurd ⟨o, h1, (CvX_V hG hO hV h1).mp h2⟩ q⟩
  · exact ⟨fun _ ⟨o, g1, g2⟩ => h1 ⟨o, g1, (CvX_V hG hO hV g1).mpr g2⟩, fun _ => rfl⟩
theorem StX_own {X : Mem} {hh n : Nat} {net v b : Int32} (hG : GInv (gC X) hh) (hO : OInv (oC X) hh n) (h : StX X n net v b 1) : ∃ o, o < n ∧ CvX X n v b o ∧ X 9 o = net := by
  obtain ⟨V, hV, h⟩ := h
  rcases h with ⟨-, o, h1, h2, h3, -⟩ | ⟨h, -⟩ | ⟨h, -⟩
  · exact ⟨o, h1, (CvX_V hG hO hV h1).mp h2, h3⟩
  · exact absurd h (by decide)
  · exact absurd h (by decide)
theorem StX_lt {X : Mem} {n : Nat} {net v b r : Int32} (h : StX X n net v b r) : r = 0 ∨ r = 1 ∨ r = 2 := by
  obtain ⟨V, hV, h⟩ := h
  rcases h with ⟨h, -⟩ | ⟨h, -⟩ | ⟨h, -⟩
  · exact Or.inr (Or.inl h)
  · exact Or.inr (Or.inr h)
  · exact Or.inl h
/-! halves of a block -/
theorem lies_h : ∀ l, l < 8 → ∀ g, g ≤ l → ∀ q, q < 2 ^ l → (nI (q * 2 ^ (8 - l)) >>> ((8 - nI g) &&& 31) = nI (q * 2 ^ (8 - l) + 2 ^ (7 - l)) >>> ((8 - nI g) &&& 31)) := by decide +kernel
theorem lies_1 {v l : Nat} {ov ol : Int32} (hl : l < 8) (h : LiesIn (nI v) (nI l) ov ol) : LiesIn (nI v) (nI (l + 1)) ov ol := ⟨Int32.le_trans h.1 ((nI_leI (by omega) (by omega)).mpr (by omega)), h.2⟩
theorem lies_2 {v l g : Nat} {ov : Int32} (hl : l < 8) (hv : v < 256) (hd : v % 2 ^ (8 - l) = 0) (hg : g ≤ 8) (h : LiesIn (nI v) (nI l) ov (nI g)) : LiesIn (nI (v + 2 ^ (7 - l))) (nI (l + 1)) ov (nI g) := by
  have hgl : g ≤ l := (nI_leI (by omega) (by omega)).mp h.1
  refine ⟨(nI_leI (by omega) (by omega)).mpr (by omega), ?_⟩
  have e : v = v / 2 ^ (8 - l) * 2 ^ (8 - l) := by
    have := Nat.div_add_mod v (2 ^ (8 - l))
    rw [hd, Nat.add_zero, Nat.mul_comm] at this
    exact this.symm
  have hq : v / 2 ^ (8 - l) < 2 ^ l := by
    rw [Nat.div_lt_iff_lt_mul (Nat.two_pow_pos _), ← Nat.pow_add, show l + (8 - l) = 8 by omega]
    exact hv
  have k := lies_h l hl g hgl _ hq
  rw [← e] at k
  exact k.symm.trans h.2
theorem HasX_1 {X : Mem} {n v l : Nat} {h : Int32} (hl : l < 8) (q : HasX X n h (nI v) (nI l)) : HasX X n h (nI v) (nI (l + 1)) := by
  obtain ⟨V, hV, q | ⟨o, h1, h2, h3⟩⟩ := q
  · exact ⟨V, hV, Or.inl q⟩
  · exact ⟨V, hV, Or.inr ⟨o, h1, h2, lies_1 hl h3⟩⟩
theorem HasX_2 {X : Mem} {hh n v l : Nat} {h : Int32} (hO : OInv (oC X) hh n) (hl : l < 8) (hv : v < 256) (hd : v % 2 ^ (8 - l) = 0) (q : HasX X n h (nI v) (nI l)) : HasX X n h (nI (v + 2 ^ (7 - l))) (nI (l + 1)) := by
  obtain ⟨V, hV, q | ⟨o, h1, h2, h3⟩⟩ := q
  · exact ⟨V, hV, Or.inl q⟩
  · obtain ⟨g, hg, eg⟩ := (hO.2 o h1).2.2.2.2.1
    rw [eg] at h3
    refine ⟨V, hV, Or.inr ⟨o, h1, h2, ?_⟩⟩
    rw [eg]
    exact lies_2 hl hv hd hg h3
theorem HasX_0 {X : Mem} {n : Nat} {v b : Int32} (hV : ∃ V, IsV (oC X) (gC X) n (X 1 0) V) : HasX X n 0 v b := hV.elim fun V h => ⟨V, h, Or.inl rfl⟩
/-! numbers -/
theorem btw_n {a m : Nat} (h : a ≤ m) (hm : m < 2 ^ 31) : Btw (nI a) 0 (nI m) := ⟨Int32.not_lt.mp (nz_lt (Nat.lt_of_le_of_lt h hm)), (nI_leI (Nat.lt_of_le_of_lt h hm) hm).mpr h⟩
theorem blk_n {v l : Nat} (hv : v < 256) (hl : l ≤ 8) (hd : v % 2 ^ (8 - l) = 0) : Blk (nI v) (nI l) := (Blk_n hv (by omega) (btw_n (m := 255) (by omega) (by decide)) (btw_n (m := 8) hl (by decide))).mpr hd
theorem obj_b {o n : Nat} (ho : o < n) (hn : n ≤ 50) : Btw (nI o) 0 (nI n - 1) := by
  obtain ⟨m, rfl⟩ : ∃ m, n = m + 1 := ⟨n - 1, by omega⟩
  have e : nI (m + 1) - 1 = nI m := (by decide +kernel : ∀ m, m < 50 → nI (m + 1) - 1 = nI m) m (by omega)
  rw [e]
  exact btw_n (by omega) (by omega)
theorem sh128 : ∀ l, l < 8 → (128 : Int32) >>> (nI l &&& 31) = nI (2 ^ (7 - l)) := by decide +kernel
theorem half_d {v l : Nat} (hl : l < 8) (hv : v < 256) (hd : v % 2 ^ (8 - l) = 0) : v + 2 ^ (7 - l) < 256 ∧ (v + 2 ^ (7 - l)) % 2 ^ (8 - (l + 1)) = 0 ∧ v % 2 ^ (8 - (l + 1)) = 0 := by
  have key : ∀ l, l < 8 → ∀ v, v < 256 → v % 2 ^ (8 - l) = 0 → v + 2 ^ (7 - l) < 256 ∧ (v + 2 ^ (7 - l)) % 2 ^ (8 - (l + 1)) = 0 ∧ v % 2 ^ (8 - (l + 1)) = 0 := by decide +kernel
  exact key l hl v hv hd
theorem StX_n {X : Mem} {n : Nat} {net v b r : Int32} (h : StX X n net v b r) : ∃ c, c < 3 ∧ r = nI c := by
  rcases StX_lt h with rfl | rfl | rfl
  · exact ⟨0, by decide, rfl⟩
  · exact ⟨1, by decide, rfl⟩
  · exact ⟨2, by decide, rfl⟩
def AnyT (X : Mem) (n : Nat) (v b : Int32) (i : Nat) : Prop := ∃ o, o < i ∧ CvX X n v b o
def OwnT (X : Mem) (n : Nat) (v b net : Int32) (i : Nat) : Prop := ∃ o, o < i ∧ CvX X n v b o ∧ X 9 o = net
theorem AnyT_0 {X : Mem} {n : Nat} {v b : Int32} : ¬ AnyT X n v b 0 := fun ⟨_, h, _⟩ => absurd h (Nat.not_lt_zero _)
theorem OwnT_0 {X : Mem} {n : Nat} {v b net : Int32} : ¬ OwnT X n v b net 0 := fun ⟨_, h, _⟩ => absurd h (Nat.not_lt_zero _)
theorem AnyT_s {X : Mem} {n i : Nat} {v b : Int32} : AnyT X n v b (i + 1) ↔ AnyT X n v b i ∨ CvX X n v b i := ex_succ
theorem OwnT_s {X : Mem} {n i : Nat} {v b net : Int32} : OwnT X n v b net (i + 1) ↔ OwnT X n v b net i ∨ (CvX X n v b i ∧ X 9 i = net) := ex_succ
theorem CvX_i {X : Mem} {hh n i c : Nat} {v b : Int32} (hG : GInv (gC X) hh) (hO : OInv (oC X) hh n) (hi : i < n) (hc : c < 6) (hj : JgX X n i (nI c)) : CvX X n v b i ↔ X 7 i = 1 ∧ c = 0 ∧ LiesIn v b (X 10 i) (X 11 i) := by
  constructor
  · rintro ⟨h1, h2, h3⟩
    exact ⟨h1, (nI_eq (by omega) (by omega)).mp (JgX_one hG hO hi hj h2), h3⟩
  · rintro ⟨h1, rfl, h3⟩
    exact ⟨h1, hj, h3⟩
theorem la_k0 {X : Mem} {h n o : Nat} (hO : OInv (oC X) h n) (ho : o < n) (q : ¬ 0 < X 7 o) : X 7 o = 0 := by
  obtain ⟨a, ha, ea⟩ := (hO.2 o ho).2.1
  have ea : X 7 o = nI a := ea
  rw [ea] at q ⊢
  rcases (show a = 0 ∨ a = 1 ∨ a = 2 by omega) with rfl | rfl | rfl
  · rfl
  · exact absurd (by decide) q
  · exact absurd (by decide) q
