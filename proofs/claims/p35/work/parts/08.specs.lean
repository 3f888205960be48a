/-! The words of the document, over rows of numbers that class and reference share. -/
/-- objects: kind, issuer, whom, value, length, extra, last day, signature, revoked, listed -/
abbrev Ob : Type := (Nat → Int32) × (Nat → Int32) × (Nat → Int32) × (Nat → Int32) × (Nat → Int32) × (Nat → Int32) × (Nat → Int32) × (Nat → Int32) × (Nat → Int32) × (Nat → Int32)
def kd (O : Ob) : Nat → Int32 := O.1
def isr (O : Ob) : Nat → Int32 := O.2.1
def whm (O : Ob) : Nat → Int32 := O.2.2.1
def vlu (O : Ob) : Nat → Int32 := O.2.2.2.1
def len (O : Ob) : Nat → Int32 := O.2.2.2.2.1
def ext (O : Ob) : Nat → Int32 := O.2.2.2.2.2.1
def lst (O : Ob) : Nat → Int32 := O.2.2.2.2.2.2.1
def sgn (O : Ob) : Nat → Int32 := O.2.2.2.2.2.2.2.1
def rvk (O : Ob) : Nat → Int32 := O.2.2.2.2.2.2.2.2.1
def lsd (O : Ob) : Nat → Int32 := O.2.2.2.2.2.2.2.2.2
/-- holders: parent, key, fresh up to; owner of nets -/
abbrev Gb : Type := (Nat → Int32) × (Nat → Int32) × (Nat → Int32) × (Nat → Int32)
def prt (G : Gb) : Nat → Int32 := G.1
def kyy (G : Gb) : Nat → Int32 := G.2.1
def frs (G : Gb) : Nat → Int32 := G.2.2.1
def own (G : Gb) : Nat → Int32 := G.2.2.2
def oC (X : Mem) : Ob := (X 7, X 8, X 9, X 10, X 11, X 12, X 13, X 14, X 15, X 16)
def gC (X : Mem) : Gb := (X 2, X 3, X 4, X 5)
def oM (X : Mem) : Ob := (X 90, X 91, X 92, X 93, X 94, X 95, X 96, X 97, X 98, X 99)
def gM (X : Mem) : Gb := (X 86, X 87, X 88, X 89)
def ix (v : Int32) : Nat := v.toNatClampNeg
theorem ix_nI {a : Nat} (h : a < 2147483648) : ix (nI a) = a := nI_clamp h
def LiesIn (v l ov ol : Int32) : Prop := ol ≤ l ∧ v >>> ((8 - ol) &&& 31) = ov >>> ((8 - ol) &&& 31)
def Btw (v lo hi : Int32) : Prop := lo ≤ v ∧ v ≤ hi
def remS (x : Int32) : Int32 := x - x / 65521 * 65521
def mixS (d v : Int32) : Int32 := remS (263 * d + v + 1)
def digS (O : Ob) (o : Nat) : Int32 := mixS (mixS (mixS (mixS (mixS (mixS (mixS 0 (kd O o)) (isr O o)) (whm O o)) (vlu O o)) (len O o)) (ext O o)) (lst O o)
def sigS (O : Ob) (o : Nat) (k : Int32) : Int32 := remS (31 * digS O o + 7919 * (101 * isr O o + 17 * k))
/-- the first fault that an object has of its own; 0 without one -/
def faultS (O : Ob) (G : Gb) (day : Int32) (o : Nat) : Int32 := if lst O o < day then 1 else if lsd O o ≠ 0 then 2 else if frs G (ix (isr O o)) < day then 3 else if sgn O o = sigS O o (kyy G (ix (isr O o))) then 0 else 4
def GrantTo (O : Ob) (o : Nat) (h : Int32) : Prop := kd O o = 0 ∧ whm O o = h
def GoodTo (O : Ob) (V : Nat → Int32) (o : Nat) (h : Int32) : Prop := GrantTo O o h ∧ V o = 0
def HasB (O : Ob) (V : Nat → Int32) (n : Nat) (h v b : Int32) : Prop := h = 0 ∨ ∃ o, o < n ∧ GoodTo O V o h ∧ LiesIn v b (vlu O o) (len O o)
def HasAny (O : Ob) (V : Nat → Int32) (n : Nat) (h : Int32) : Prop := h = 0 ∨ ∃ o, o < n ∧ GoodTo O V o h
def OutS (O : Ob) (G : Gb) (V : Nat → Int32) (n o : Nat) : Prop :=
  (kd O o = 2 ∧ (own G (ix (whm O o)) ≠ isr O o ∨ ¬ HasAny O V n (isr O o))) ∨ (kd O o ≠ 2 ∧ ((kd O o = 0 ∧ prt G (ix (whm O o)) ≠ isr O o) ∨ ¬ HasB O V n (isr O o) (vlu O o) (len O o)))
def JR (O : Ob) (G : Gb) (V : Nat → Int32) (n : Nat) (day : Int32) (o : Nat) (r : Int32) : Prop :=
  (faultS O G day o ≠ 0 ∧ r = faultS O G day o) ∨ (faultS O G day o = 0 ∧ OutS O G V n o ∧ r = 5) ∨ (faultS O G day o = 0 ∧ ¬ OutS O G V n o ∧ r = 0)
def IsV (O : Ob) (G : Gb) (n : Nat) (day : Int32) (V : Nat → Int32) : Prop := ∀ o, o < n → JR O G V n day o (V o)
/-- what holds of holders and objects all along: h holders, n objects -/
def GInv (G : Gb) (h : Nat) : Prop := 1 ≤ h ∧ h ≤ 8 ∧ prt G 0 = -1 ∧ (∀ b, 1 ≤ b → b < h → ∃ a, a < b ∧ prt G b = nI a) ∧ (∀ b, b < 8 → ∃ a, a ≤ 100 ∧ kyy G b = nI a) ∧ (∀ b, b < 10 → ∃ a, a < h ∧ own G b = nI a)
def OInv (O : Ob) (h n : Nat) : Prop := n ≤ 50 ∧ ∀ o, o < n → (∃ a, a < h ∧ isr O o = nI a) ∧ (∃ a, a < 3 ∧ kd O o = nI a) ∧ (kd O o = 0 → ∃ a, a < h ∧ whm O o = nI a) ∧ (kd O o ≠ 0 → ∃ a, a < 10 ∧ whm O o = nI a) ∧ (∃ a, a ≤ 8 ∧ len O o = nI a) ∧ (∃ a, a < 256 ∧ vlu O o = nI a) ∧ (rvk O o = 0 ∨ rvk O o = 1) ∧ (lsd O o = 0 ∨ lsd O o = 1) ∧ (lsd O o = 1 → rvk O o = 1) ∧ (kd O o = 1 → ∃ a, a ≤ 8 ∧ ext O o = nI a) ∧ (kd O o = 2 → ∃ a, a < 1024 ∧ ext O o = nI a)
theorem upd_eq (f : Nat → Int32) (k : Nat) (x : Int32) : upd f k x k = x := by simp [upd]
theorem upd_ne {f : Nat → Int32} {k j : Nat} {x : Int32} (h : j ≠ k) : upd f k x j = f j := by simp [upd, h]
theorem lt_succ_or {i o : Nat} : o < i + 1 ↔ o < i ∨ o = i := by omega
theorem ex_succ {P : Nat → Prop} {i : Nat} : (∃ o, o < i + 1 ∧ P o) ↔ (∃ o, o < i ∧ P o) ∨ P i := by
  constructor
  · rintro ⟨o, h1, h2⟩
    rcases lt_succ_or.mp h1 with h | rfl
    · exact Or.inl ⟨o, h, h2⟩
    · exact Or.inr h2
  · rintro (⟨o, h1, h2⟩ | h)
    · exact ⟨o, by omega, h2⟩
    · exact ⟨i, by omega, h⟩
theorem HasAny_succ {O : Ob} {V : Nat → Int32} {i : Nat} {h : Int32} : HasAny O V (i + 1) h ↔ HasAny O V i h ∨ GoodTo O V i h := by
  unfold HasAny
  rw [ex_succ, or_assoc]
theorem HasB_succ {O : Ob} {V : Nat → Int32} {i : Nat} {h v b : Int32} : HasB O V (i + 1) h v b ↔ HasB O V i h v b ∨ (GoodTo O V i h ∧ LiesIn v b (vlu O i) (len O i)) := by
  unfold HasB
  rw [ex_succ, or_assoc]
theorem HasAny.mono {O : Ob} {V : Nat → Int32} {i j : Nat} {h : Int32} (hij : i ≤ j) (q : HasAny O V i h) : HasAny O V j h := by
  rcases q with q | ⟨o, h1, h2⟩
  · exact Or.inl q
  · exact Or.inr ⟨o, by omega, h2⟩
theorem HasB.mono {O : Ob} {V : Nat → Int32} {i j : Nat} {h v b : Int32} (hij : i ≤ j) (q : HasB O V i h v b) : HasB O V j h v b := by
  rcases q with q | ⟨o, h1, h2⟩
  · exact Or.inl q
  · exact Or.inr ⟨o, by omega, h2⟩
