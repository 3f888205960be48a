/-! class and reference hold the same -/
def J1 (X : Mem) (h D : Nat) : Prop := X 1 0 = nI D ∧ D ≤ 10000 ∧ X 1 1 = nI h ∧ GInv (gC X) h ∧ X 85 1 = nI D ∧ X 85 5 = nI h ∧ gM X = gC X
def J2 (X : Mem) (h n : Nat) : Prop := X 6 0 = nI n ∧ OInv (oC X) h n ∧ X 85 17 = nI n ∧ oM X = oC X ∧ ∀ o, n ≤ o → X 15 o = 0 ∧ X 16 o = 0
def J3 (X : Mem) (Dd : Nat) (dr : Nat → Nat) : Prop := X 20 2 = nI Dd ∧ Dd ≤ 6 ∧ PA X 21 dr Dd ∧ X 85 19 = nI Dd ∧ PA X 100 dr Dd
noncomputable def cntT (Th : Nat → Prop) (R : Nat) : Nat := sumN (fun r => oneIf (Th r)) R
def J4 (X : Mem) (R : Nat) (PP : Nat → Nat → Nat) (Z : Nat → Nat) (Th : Nat → Prop) : Prop := RBc X R PP Z Th ∧ RBm X R PP Z Th ∧ X 20 1 = nI (cntT Th R) ∧ (∀ r, r < R → X 103 r = X 48 r ∧ X 104 r = X 49 r) ∧ VLI (X 103) (X 104) R ∧ ∀ r, R ≤ r → X 50 r = 0
def J5 (X : Mem) : Prop := ∀ a b, a < 10 → b < 10 → tM X a b = tC X a b
def JA (X : Mem) (h D n Dd R : Nat) (dr : Nat → Nat) (PP : Nat → Nat → Nat) (Z : Nat → Nat) (Th : Nat → Prop) : Prop := J1 X h D ∧ J2 X h n ∧ J3 X Dd dr ∧ J4 X R PP Z Th ∧ J5 X
def JJ (X : Mem) : Prop := ∃ (h D n Dd R : Nat) (dr : Nat → Nat) (PP : Nat → Nat → Nat) (Z : Nat → Nat) (Th : Nat → Prop), JA X h D n Dd R dr PP Z Th
theorem J1_k {X Y : Mem} {h D : Nat} (e : ∀ p, (0 < p ∧ p < 6) ∨ (85 < p ∧ p < 90) → Y p = X p) (f : ∀ k, k = 1 ∨ k = 5 → Y 85 k = X 85 k) (q : J1 X h D) : J1 Y h D := by
  have e1 : gC Y = gC X := by unfold gC; rw [e 2 (by omega), e 3 (by omega), e 4 (by omega), e 5 (by omega)]
  have e2 : gM Y = gM X := by unfold gM; rw [e 86 (by omega), e 87 (by omega), e 88 (by omega), e 89 (by omega)]
  unfold J1
  rw [e 1 (by omega), f 1 (by omega), f 5 (by omega), e1, e2]
  exact q
theorem J2_k {X Y : Mem} {h n : Nat} (e : ∀ p, (5 < p ∧ p < 17) ∨ (89 < p ∧ p < 100) → Y p = X p) (f : Y 85 17 = X 85 17) (q : J2 X h n) : J2 Y h n := by
  have e1 : oC Y = oC X := by unfold oC; rw [e 7 (by omega), e 8 (by omega), e 9 (by omega), e 10 (by omega), e 11 (by omega), e 12 (by omega), e 13 (by omega), e 14 (by omega), e 15 (by omega), e 16 (by omega)]
  have e2 : oM Y = oM X := by unfold oM; rw [e 90 (by omega), e 91 (by omega), e 92 (by omega), e 93 (by omega), e 94 (by omega), e 95 (by omega), e 96 (by omega), e 97 (by omega), e 98 (by omega), e 99 (by omega)]
  unfold J2
  rw [e 6 (by omega), f, e1, e2, e 15 (by omega), e 16 (by omega)]
  exact q
theorem PA_k {X Y : Mem} {p : Nat} {P : Nat → Nat} {z : Nat} (e : Y p = X p) (q : PA X p P z) : PA Y p P z := fun k hk => by rw [e]; exact q k hk
theorem PAt_kk {X Y : Mem} {p f : Nat} {P : Nat → Nat} {z : Nat} (e : Y p = X p) (q : PAt X p f P z) : PAt Y p f P z := fun k hk => by rw [e]; exact q k hk
theorem J3_k {X Y : Mem} {Dd : Nat} {dr : Nat → Nat} (e20 : Y 20 2 = X 20 2) (e : Y 21 = X 21) (e2 : Y 100 = X 100) (f : Y 85 19 = X 85 19) (q : J3 X Dd dr) : J3 Y Dd dr := by
  obtain ⟨q1, q2, q3, q4, q5⟩ := q
  exact ⟨e20.trans q1, q2, PA_k e q3, f.trans q4, PA_k e2 q5⟩
theorem RBc_k {X Y : Mem} {R : Nat} {PP : Nat → Nat → Nat} {Z : Nat → Nat} {Th : Nat → Prop} (e0 : Y 20 0 = X 20 0) (e : ∀ p, 22 < p ∧ p < 51 → Y p = X p) (q : RBc X R PP Z Th) : RBc Y R PP Z Th := by
  have h24 := q.1
  refine ⟨q.1, e0.trans q.2.1, fun r hr => ?_⟩
  obtain ⟨h1, h2, h3, h4, h5⟩ := q.2.2 r hr
  exact ⟨h1, h2, by rw [e 47 (by omega)]; exact h3, PA_k (e (23 + r) (by omega)) h4, by rw [e 50 (by omega)]; exact h5⟩
theorem RBm_k {X Y : Mem} {R : Nat} {PP : Nat → Nat → Nat} {Z : Nat → Nat} {Th : Nat → Prop} (e0 : Y 85 25 = X 85 25) (e : ∀ p, 100 < p ∧ p < 106 → Y p = X p) (q : RBm X R PP Z Th) : RBm Y R PP Z Th := by
  refine ⟨q.1, e0.trans q.2.1, fun r hr => ?_⟩
  obtain ⟨h1, h2, h3, h4, h5⟩ := q.2.2 r hr
  exact ⟨h1, h2, by rw [e 102 (by omega)]; exact h3, PAt_kk (e 101 (by omega)) h4, by rw [e 105 (by omega)]; exact h5⟩
theorem J4_k {X Y : Mem} {R : Nat} {PP : Nat → Nat → Nat} {Z : Nat → Nat} {Th : Nat → Prop} (e20 : ∀ k, k = 0 ∨ k = 1 → Y 20 k = X 20 k) (e : ∀ p, (22 < p ∧ p < 51) ∨ (100 < p ∧ p < 106) → Y p = X p) (f : Y 85 25 = X 85 25) (q : J4 X R PP Z Th) : J4 Y R PP Z Th := by
  obtain ⟨q1, q2, q3, q4, q5, q6⟩ := q
  refine ⟨RBc_k (e20 0 (by omega)) (fun p hp => e p (by omega)) q1, RBm_k f (fun p hp => e p (by omega)) q2, (e20 1 (by omega)).trans q3, ?_⟩
  rw [e 103 (by omega), e 104 (by omega), e 48 (by omega), e 49 (by omega), e 50 (by omega)]
  exact ⟨q4, q5, q6⟩
theorem J5_k {X Y : Mem} (e : ∀ p, (52 < p ∧ p < 63) ∨ p = 106 → Y p = X p) (q : J5 X) : J5 Y := by
  intro a b ha hb
  have g := q a b ha hb
  rw [tC_at ha] at g ⊢
  unfold tM at g ⊢
  rw [e 106 (by omega), e (53 + a) (by omega)]
  exact g
/-- an asking keeps all -/
def KP (X Y : Mem) : Prop := (∀ p, (p < 18 ∨ (19 < p ∧ p < 63) ∨ (85 < p ∧ p < 107)) → Y p = X p) ∧ ∀ k, k ≠ 0 → k ≠ 35 → Y 85 k = X 85 k
theorem KP.tr {X Y Y' : Mem} (h : KP X Y) (h' : KP Y Y') : KP X Y' := ⟨fun p hp => (h'.1 p hp).trans (h.1 p hp), fun k h1 h2 => (h'.2 k h1 h2).trans (h.2 k h1 h2)⟩
theorem KP.rf {X : Mem} : KP X X := ⟨fun _ _ => rfl, fun _ _ _ => rfl⟩
theorem KP.put {X Y : Mem} {p : Nat} {f : Nat → Int32} (h : KP X Y) (hp : p = 18 ∨ p = 19 ∨ (62 < p ∧ p < 85) ∨ 106 < p) : KP X (ma Y p f) := ⟨fun q hq => by rw [ma_ne (by omega)]; exact h.1 q hq, fun k h1 h2 => by rw [ma_ne (by omega)]; exact h.2 k h1 h2⟩
theorem KP.put85 {X Y : Mem} {k : Nat} {v : Int32} (h : KP X Y) (hk : k = 0 ∨ k = 35) : KP X (ma Y 85 (upd (Y 85) k v)) := ⟨fun q hq => by rw [ma_ne (by omega)]; exact h.1 q hq, fun j h1 h2 => by rw [ma_eq, upd_ne (by omega)]; exact h.2 j h1 h2⟩
theorem KP.outI {X Y Y' : Mem} (h : KP X Y) (h' : OutI Y Y') : KP X Y' := ⟨fun q hq => (h' q (by omega)).trans (h.1 q hq), fun k h1 h2 => by rw [h' 85 (by omega)]; exact h.2 k h1 h2⟩
theorem KP.kpM {X Y Y' : Mem} (h : KP X Y) (h' : KpM Y Y') : KP X Y' := ⟨fun q hq => (h'.1 q (by omega)).trans (h.1 q hq), fun k h1 h2 => (h'.2 k h1 h2).trans (h.2 k h1 h2)⟩
theorem JA_k {X Y : Mem} {h D n Dd R : Nat} {dr : Nat → Nat} {PP : Nat → Nat → Nat} {Z : Nat → Nat} {Th : Nat → Prop} (k : KP X Y) (q : JA X h D n Dd R dr PP Z Th) : JA Y h D n Dd R dr PP Z Th := by
  obtain ⟨q1, q2, q3, q4, q5⟩ := q
  obtain ⟨e, f⟩ := k
  exact ⟨J1_k (fun p hp => e p (by omega)) (fun k hk => f k (by omega) (by omega)) q1, J2_k (fun p hp => e p (by omega)) (f 17 (by decide) (by decide)) q2, J3_k (by rw [e 20 (by omega)]) (e 21 (by omega)) (e 100 (by omega)) (f 19 (by decide) (by decide)) q3, J4_k (fun k _ => by rw [e 20 (by omega)]) (fun p hp => e p (by omega)) (f 25 (by decide) (by decide)) q4, J5_k (fun p hp => e p (by omega)) q5⟩
theorem JA.jj {X : Mem} {h D n Dd R : Nat} {dr : Nat → Nat} {PP : Nat → Nat → Nat} {Z : Nat → Nat} {Th : Nat → Prop} (q : JA X h D n Dd R dr PP Z Th) : JJ X := ⟨h, D, n, Dd, R, dr, PP, Z, Th, q⟩
/-- what the reference stands on -/
def JM (X : Mem) (h D n Dd R : Nat) (dr : Nat → Nat) (PP : Nat → Nat → Nat) (Z : Nat → Nat) (Th : Nat → Prop) : Prop := (GInv (gM X) h ∧ X 85 1 = nI D ∧ X 85 5 = nI h) ∧ (OInv (oM X) h n ∧ X 85 17 = nI n) ∧ (X 85 19 = nI Dd ∧ PA X 100 dr Dd) ∧ RBm X R PP Z Th ∧ VLI (X 103) (X 104) R
/-- a call of the class leaves the reference as it is -/
def KM (X Y : Mem) : Prop := ∀ p, 84 < p → p < 116 → Y p = X p
theorem KM.rf {X : Mem} : KM X X := fun _ _ _ => rfl
theorem KM.put {X Y : Mem} {p : Nat} {f : Nat → Int32} (h : KM X Y) (hp : p < 85 ∨ p = 116) : KM X (ma Y p f) := fun q h1 h2 => by rw [ma_ne (by omega)]; exact h q h1 h2
theorem KM.outI {X Y : Mem} (h' : OutI X Y) : KM X Y := fun q h1 _ => h' q (by omega)
theorem JA.jm {X : Mem} {h D n Dd R : Nat} {dr : Nat → Nat} {PP : Nat → Nat → Nat} {Z : Nat → Nat} {Th : Nat → Prop} (q : JA X h D n Dd R dr PP Z Th) : JM X h D n Dd R dr PP Z Th := by
  obtain ⟨⟨-, -, -, a4, a5, a6, a7⟩, ⟨-, b2, b3, b4, -⟩, ⟨-, -, -, c4, c5⟩, ⟨-, d2, -, -, d5, -⟩, -⟩ := q
  exact ⟨⟨by rw [a7]; exact a4, a5, a6⟩, ⟨by rw [b4]; exact b2, b3⟩, ⟨c4, c5⟩, d2, d5⟩
theorem JM_k {X Y : Mem} {h D n Dd R : Nat} {dr : Nat → Nat} {PP : Nat → Nat → Nat} {Z : Nat → Nat} {Th : Nat → Prop} (k : KM X Y) (q : JM X h D n Dd R dr PP Z Th) : JM Y h D n Dd R dr PP Z Th := by
  obtain ⟨⟨a1, a2, a3⟩, ⟨b1, b2⟩, ⟨c1, c2⟩, d1, d2⟩ := q
  have e1 : gM Y = gM X := by unfold gM; rw [k 86 (by omega) (by omega), k 87 (by omega) (by omega), k 88 (by omega) (by omega), k 89 (by omega) (by omega)]
  have e2 : oM Y = oM X := by unfold oM; rw [k 90 (by omega) (by omega), k 91 (by omega) (by omega), k 92 (by omega) (by omega), k 93 (by omega) (by omega), k 94 (by omega) (by omega), k 95 (by omega) (by omega), k 96 (by omega) (by omega), k 97 (by omega) (by omega), k 98 (by omega) (by omega), k 99 (by omega) (by omega)]
  have e3 := k 85 (by omega) (by omega)
  refine ⟨⟨by rw [e1]; exact a1, by rw [e3]; exact a2, by rw [e3]; exact a3⟩, ⟨by rw [e2]; exact b1, by rw [e3]; exact b2⟩, ⟨by rw [e3]; exact c1, PA_k (k 100 (by omega) (by omega)) c2⟩, RBm_k (by rw [e3]) (fun p hp => k p (by omega) (by omega)) d1, by rw [k 103 (by omega) (by omega), k 104 (by omega) (by omega)]; exact d2⟩
/-! codes -/
theorem EC_1 {e1 E : String} {A : Prop} {r : Int32} (h : ECd [e1] E r) (hf : E = e1 ∧ ¬ A) : Cd1 A r := by
  obtain ⟨i, h1, h2⟩ := h
  match i, h1 with
  | 0, _ => exact ⟨h2, hf.2⟩
theorem EC_2 {e1 e2 E : String} {A B : Prop} {r : Int32} (hne : e1 ≠ e2) (h : ECd [e1, e2] E r) (hf : Flt2 e1 e2 A B E) : Cd2 A B r := by
  obtain ⟨i, h1, h2⟩ := h
  match i, h1 with
  | 0, h1 =>
    have e : e1 = E := by simpa using h1
    rcases hf with ⟨g1, g2⟩ | ⟨g1, g2, g3⟩
    · exact Or.inl ⟨h2, g2⟩
    · exact absurd (e.trans g1) hne
  | 1, h1 =>
    have e : e2 = E := by simpa using h1
    rcases hf with ⟨g1, g2⟩ | ⟨g1, g2, g3⟩
    · exact absurd (g1.symm.trans e.symm) hne
    · exact Or.inr ⟨h2, g2, g3⟩
theorem EC_3g {e1 e2 e3 E : String} {A B C : Prop} {r : Int32} (h12 : e1 ≠ e2) (h13 : e1 ≠ e3) (h23 : e2 ≠ e3) (h : ECd [e1, e2, e3] E r) (hf : (E = e1 ∧ ¬ A) ∨ (E = e2 ∧ A ∧ ¬ B) ∨ (E = e3 ∧ A ∧ B ∧ ¬ C)) : Cd3 A B C r := by
  obtain ⟨i, h1, h2⟩ := h
  match i, h1 with
  | 0, h1 =>
    have e : e1 = E := by simpa using h1
    rcases hf with ⟨g1, g2⟩ | ⟨g1, g2⟩ | ⟨g1, g2⟩
    · exact Or.inl ⟨h2, g2⟩
    · exact absurd (e.trans g1) h12
    · exact absurd (e.trans g1) h13
  | 1, h1 =>
    have e : e2 = E := by simpa using h1
    rcases hf with ⟨g1, g2⟩ | ⟨g1, g2⟩ | ⟨g1, g2⟩
    · exact absurd (g1.symm.trans e.symm) h12
    · exact Or.inr (Or.inl ⟨h2, g2⟩)
    · exact absurd (e.trans g1) h23
  | 2, h1 =>
    have e : e3 = E := by simpa using h1
    rcases hf with ⟨g1, g2⟩ | ⟨g1, g2⟩ | ⟨g1, g2⟩
    · exact absurd (g1.symm.trans e.symm) h13
    · exact absurd (g1.symm.trans e.symm) h23
    · exact Or.inr (Or.inr ⟨h2, g2⟩)
theorem ne_OS : eIO ≠ eIS := by decide
theorem ne_OA : eIO ≠ eIA := by decide
theorem ne_AS : eIA ≠ eIS := by decide
theorem ne_SA : eIS ≠ eIA := by decide
theorem Cd1_one {A : Prop} {c c' : Int32} (h : Cd1 A c) (h' : Cd1 A c') : c = c' := h.1.trans h'.1.symm
theorem Cd2_one {A B : Prop} {c c' : Int32} (h : Cd2 A B c) (h' : Cd2 A B c') : c = c' := by
  rcases h with ⟨h1, h2⟩ | ⟨h1, h2, h3⟩ <;> rcases h' with ⟨g1, g2⟩ | ⟨g1, g2, g3⟩ <;> first | exact h1.trans g1.symm | exact absurd ‹A› ‹¬ A›
theorem Cd3_one {A B C : Prop} {c c' : Int32} (h : Cd3 A B C c) (h' : Cd3 A B C c') : c = c' := by
  rcases h with ⟨h1, h2⟩ | ⟨h1, h2, h3⟩ | ⟨h1, h2, h3, h4⟩ <;> rcases h' with ⟨g1, g2⟩ | ⟨g1, g2, g3⟩ | ⟨g1, g2, g3, g4⟩ <;> first | exact h1.trans g1.symm | exact absurd ‹A› ‹¬ A› | exact absurd ‹B› ‹¬ B›
theorem Cd1_no {A : Prop} {c : Int32} (h : Cd1 A c) (g : A) : False := h.2 g
theorem Cd2_no {A B : Prop} {c : Int32} (h : Cd2 A B c) (g : A ∧ B) : False := by
  rcases h with ⟨-, h⟩ | ⟨-, -, h⟩
  · exact h g.1
  · exact h g.2
theorem Cd3_no {A B C : Prop} {c : Int32} (h : Cd3 A B C c) (g : A ∧ B ∧ C) : False := by
  rcases h with ⟨-, h⟩ | ⟨-, -, h⟩ | ⟨-, -, -, h⟩
  · exact h g.1
  · exact h g.2.1
  · exact h g.2.2
theorem Cd1_0 {A : Prop} {c : Int32} (h : Cd1 A c) : ¬ c = 0 := by rw [h.1]; decide
theorem Cd2_0 {A B : Prop} {c : Int32} (h : Cd2 A B c) : ¬ c = 0 := by
  rcases h with ⟨h, -⟩ | ⟨h, -⟩ <;> (rw [h]; decide)
theorem Cd3_0 {A B C : Prop} {c : Int32} (h : Cd3 A B C c) : ¬ c = 0 := by
  rcases h with ⟨h, -⟩ | ⟨h, -⟩ | ⟨h, -⟩ <;> (rw [h]; decide)
theorem Cd2_iff {A B B' : Prop} {c : Int32} (e : B ↔ B') (h : Cd2 A B c) : Cd2 A B' c := h.elim Or.inl (fun g => Or.inr ⟨g.1, g.2.1, fun q => g.2.2 (e.mpr q)⟩)
/-- both throw -/
def Thr (X : Mem) (c : Int32) : Mem := ma X 85 (upd (X 85) 0 c)
theorem both_thr {X X2 : Mem} {h D n Dd R : Nat} {dr : Nat → Nat} {PP : Nat → Nat → Nat} {Z : Nat → Nat} {Th : Nat → Prop} {r c b : Int32} {V : Int32} (hJ : JA X h D n Dd R dr PP Z Th) (hr : ¬ r = 0) (hc : r = c) (e : X2 = ma X 85 (upd (X 85) 0 c)) : X2 85 0 = r ∧ (r = 0 → X2 116 0 = V) ∧ JJ X2 := by
  have _ := b
  subst e
  refine ⟨by rw [ma_eq, upd_eq, hc], fun q => absurd q hr, (JA_k (KP.put85 KP.rf (Or.inl rfl)) hJ).jj⟩
