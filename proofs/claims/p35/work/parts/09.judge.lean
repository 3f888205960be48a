theorem ma_id {X : Mem} {p : Nat} {f : Nat → Int32} (h : X p = f) : X = ma X p f := by
  subst h
  exact (ma_self X p).symm
theorem oC_ma {X : Mem} {p : Nat} {f : Nat → Int32} (h : p < 7 ∨ 16 < p) : oC (ma X p f) = oC X := by
  unfold oC
  rw [ma_ne (by omega), ma_ne (by omega), ma_ne (by omega), ma_ne (by omega), ma_ne (by omega), ma_ne (by omega), ma_ne (by omega), ma_ne (by omega), ma_ne (by omega), ma_ne (by omega)]
theorem gC_ma {X : Mem} {p : Nat} {f : Nat → Int32} (h : p < 2 ∨ 5 < p) : gC (ma X p f) = gC X := by
  unfold gC
  rw [ma_ne (by omega), ma_ne (by omega), ma_ne (by omega), ma_ne (by omega)]
theorem oM_ma {X : Mem} {p : Nat} {f : Nat → Int32} (h : p < 90 ∨ 99 < p) : oM (ma X p f) = oM X := by
  unfold oM
  rw [ma_ne (by omega), ma_ne (by omega), ma_ne (by omega), ma_ne (by omega), ma_ne (by omega), ma_ne (by omega), ma_ne (by omega), ma_ne (by omega), ma_ne (by omega), ma_ne (by omega)]
theorem gM_ma {X : Mem} {p : Nat} {f : Nat → Int32} (h : p < 86 ∨ 89 < p) : gM (ma X p f) = gM X := by
  unfold gM
  rw [ma_ne (by omega), ma_ne (by omega), ma_ne (by omega), ma_ne (by omega)]
theorem HasB_congr {O : Ob} {V V' : Nat → Int32} {n : Nat} {h v b : Int32} (e : ∀ o, o < n → GrantTo O o h → V' o = V o) : HasB O V n h v b ↔ HasB O V' n h v b := by
  unfold HasB
  constructor
  · rintro (q | ⟨o, h1, ⟨h2, h3⟩, h4⟩)
    · exact Or.inl q
    · exact Or.inr ⟨o, h1, ⟨h2, by rw [e o h1 h2]; exact h3⟩, h4⟩
  · rintro (q | ⟨o, h1, ⟨h2, h3⟩, h4⟩)
    · exact Or.inl q
    · exact Or.inr ⟨o, h1, ⟨h2, by rw [← e o h1 h2]; exact h3⟩, h4⟩
theorem HasAny_congr {O : Ob} {V V' : Nat → Int32} {n : Nat} {h : Int32} (e : ∀ o, o < n → GrantTo O o h → V' o = V o) : HasAny O V n h ↔ HasAny O V' n h := by
  unfold HasAny
  constructor
  · rintro (q | ⟨o, h1, ⟨h2, h3⟩⟩)
    · exact Or.inl q
    · exact Or.inr ⟨o, h1, ⟨h2, by rw [e o h1 h2]; exact h3⟩⟩
  · rintro (q | ⟨o, h1, ⟨h2, h3⟩⟩)
    · exact Or.inl q
    · exact Or.inr ⟨o, h1, ⟨h2, by rw [← e o h1 h2]; exact h3⟩⟩
theorem OutS_congr {O : Ob} {G : Gb} {V V' : Nat → Int32} {n o : Nat} (e : (kd O o = 0 → prt G (ix (whm O o)) = isr O o) → ∀ o', o' < n → GrantTo O o' (isr O o) → V' o' = V o') : OutS O G V n o ↔ OutS O G V' n o := by
  by_cases q : kd O o = 0 → prt G (ix (whm O o)) = isr O o
  · have e := e q
    unfold OutS
    rw [HasB_congr e, HasAny_congr e]
  · have q0 : kd O o = 0 := Classical.byContradiction fun z => q (fun y => absurd y z)
    have q1 : prt G (ix (whm O o)) ≠ isr O o := fun z => q (fun _ => z)
    unfold OutS
    have q2 : kd O o ≠ 2 := by rw [q0]; decide
    constructor
    · intro _; exact Or.inr ⟨q2, Or.inl ⟨q0, q1⟩⟩
    · intro _; exact Or.inr ⟨q2, Or.inl ⟨q0, q1⟩⟩
theorem JR_congr {O : Ob} {G : Gb} {V V' : Nat → Int32} {n o : Nat} {day r : Int32} (e : (kd O o = 0 → prt G (ix (whm O o)) = isr O o) → ∀ o', o' < n → GrantTo O o' (isr O o) → V' o' = V o') (q : JR O G V n day o r) : JR O G V' n day o r := by
  unfold JR at q ⊢
  rw [← OutS_congr e]
  exact q
/-- a grant to c looks at grants to lesser holders alone -/
theorem JR_keep {O : Ob} {G : Gb} {V V' : Nat → Int32} {h n o c : Nat} {day r : Int32} (hG : GInv G h) (hO : OInv O h n) (ho : o < n) (hc : c < h) (hg : GrantTo O o (nI c)) (e : ∀ o' b, o' < n → b < c → GrantTo O o' (nI b) → V' o' = V o') (q : JR O G V n day o r) : JR O G V' n day o r := by
  refine JR_congr (fun q1 o' h1 h2 => ?_) q
  have q1 := q1 hg.1
  have h8 := hG.2.1
  rw [hg.2, ix_nI (by omega)] at q1
  obtain ⟨a, ha, ea⟩ := (hO.2 o ho).1
  rcases Nat.eq_zero_or_pos c with z | z
  · subst z
    rw [hG.2.2.1, ea] at q1
    have : ¬ (-1 : Int32) = nI a := by
      have h9 : a < 8 := by omega
      have : ∀ a, a < 8 → ¬ (-1 : Int32) = nI a := by decide
      exact this a h9
    exact absurd q1 this
  · obtain ⟨b, hb, eb⟩ := hG.2.2.2.1 c z hc
    rw [eb] at q1
    rw [← q1] at h2
    exact e o' b h1 hb h2
theorem JR_keep2 {O : Ob} {G : Gb} {V V' : Nat → Int32} {n o : Nat} {day r : Int32} (e : ∀ o', o' < n → kd O o' = 0 → V' o' = V o') (q : JR O G V n day o r) : JR O G V' n day o r := JR_congr (fun _ o' h1 h2 => e o' h1 h2.1) q
theorem Grant_ne {O : Ob} {o : Nat} {a b : Nat} (ha : a < 256) (hb : b < 256) (h : GrantTo O o (nI a)) (h2 : GrantTo O o (nI b)) : a = b := (nI_eq (Nat.lt_trans ha (by decide)) (Nat.lt_trans hb (by decide))).mp (h.2.symm.trans h2.2)
/-- what is good is one thing: by rising holders -/
theorem IsV_one {O : Ob} {G : Gb} {h n : Nat} {day : Int32} {V V' : Nat → Int32} (hG : GInv G h) (hO : OInv O h n) (h1 : IsV O G n day V) (h2 : IsV O G n day V') : ∀ o, o < n → V o = V' o := by
  have uniq : ∀ {o : Nat} {r r' : Int32}, JR O G V n day o r → JR O G V n day o r' → r = r' := by
    intro o r r' a b
    rcases a with ⟨a1, a2⟩ | ⟨a1, a2, a3⟩ | ⟨a1, a2, a3⟩ <;> rcases b with ⟨b1, b2⟩ | ⟨b1, b2, b3⟩ | ⟨b1, b2, b3⟩
    · rw [a2, b2]
    · exact absurd b1 a1
    · exact absurd b1 a1
    · exact absurd a1 b1
    · rw [a3, b3]
    · exact absurd a2 b2
    · exact absurd a1 b1
    · exact absurd b2 a2
    · rw [a3, b3]
  have key : ∀ c, ∀ b, b < c → b < h → ∀ o, o < n → GrantTo O o (nI b) → V o = V' o := by
    intro c
    induction c with
    | zero => intro b hb; exact absurd hb (Nat.not_lt_zero _)
    | succ c ih =>
      intro b hb hbh o ho hg
      refine uniq (h1 o ho) ?_
      exact JR_keep hG hO ho hbh hg (fun o' a h3 h4 h5 => ih a (by omega) (by omega) o' h3 h5) (h2 o ho)
  intro o ho
  have hgr : ∀ o', o' < n → kd O o' = 0 → V o' = V' o' := by
    intro o' h3 h4
    obtain ⟨a, ha, ea⟩ := (hO.2 o' h3).2.2.1 h4
    exact key (a + 1) a (by omega) ha o' h3 ⟨h4, ea⟩
  exact uniq (h1 o ho) (JR_keep2 hgr (h2 o ho))
theorem judge_step1 {O : Ob} {G : Gb} {V : Nat → Int32} {h n i c : Nat} {day v : Int32} (hG : GInv G h) (hO : OInv O h n) (hi : i < n) (hc : c < h) (hg : GrantTo O i (nI c)) (hV : ∀ o, o < i → GrantTo O o (nI c) → JR O G V n day o (V o)) (hv : JR O G V n day i v) : ∀ o, o < i + 1 → GrantTo O o (nI c) → JR O G (upd V i v) n day o (upd V i v o) := by
  intro o h1 h2
  have h8 := hG.2.1
  have hag : ∀ o' b, o' < n → b < c → GrantTo O o' (nI b) → upd V i v o' = V o' := by
    intro o' b h3 h4 h5
    refine upd_ne (fun q => ?_)
    subst q
    have := Grant_ne (by omega) (by omega) h5 hg
    omega
  refine JR_keep hG hO (by omega) hc h2 hag ?_
  rcases lt_succ_or.mp h1 with h3 | rfl
  · rw [upd_ne (by omega)]
    exact hV o h3 h2
  · rw [upd_eq]
    exact hv
theorem judge_step2 {O : Ob} {G : Gb} {V V' : Nat → Int32} {h n c : Nat} {day : Int32} (hG : GInv G h) (hO : OInv O h n) (hc : c < h) (hV : ∀ o b, o < n → b < c → GrantTo O o (nI b) → JR O G V n day o (V o)) (h1 : ∀ o, o < n → GrantTo O o (nI c) → JR O G V' n day o (V' o)) (h2 : ∀ o, ¬ (o < n ∧ GrantTo O o (nI c)) → V' o = V o) : ∀ o b, o < n → b < c + 1 → GrantTo O o (nI b) → JR O G V' n day o (V' o) := by
  intro o b ho hb hg
  have h8 := hG.2.1
  rcases lt_succ_or.mp hb with h3 | rfl
  · have hne : ∀ o' b', b' < c → GrantTo O o' (nI b') → V' o' = V o' := fun o' b' h4 h5 => h2 o' (fun q => by
      have := Grant_ne (by omega) (by omega) h5 q.2
      omega)
    rw [hne o b h3 hg]
    exact JR_keep hG hO ho (by omega) hg (fun o' b' h4 h5 h6 => hne o' b' (by omega) h6) (hV o b ho h3 hg)
  · exact h1 o ho hg
theorem judge_step3 {O : Ob} {G : Gb} {V : Nat → Int32} {n i : Nat} {day v : Int32} (hA : ∀ o, o < n → kd O o = 0 → JR O G V n day o (V o)) (hk : ¬ kd O i = 0) : ∀ o, o < n → kd O o = 0 → JR O G (upd V i v) n day o (upd V i v o) := by
  intro o h1 h2
  have hne : ∀ o', kd O o' = 0 → upd V i v o' = V o' := fun o' h3 => upd_ne (fun q => hk (by rw [← q]; exact h3))
  rw [hne o h2]
  exact JR_keep2 (fun o' _ h3 => hne o' h3) (hA o h1 h2)
theorem judge_step4 {O : Ob} {G : Gb} {V : Nat → Int32} {n i : Nat} {day v : Int32} (hB : ∀ o, o < i → kd O o ≠ 0 → JR O G V n day o (V o)) (hk : ¬ kd O i = 0) (hv : JR O G V n day i v) : ∀ o, o < i + 1 → kd O o ≠ 0 → JR O G (upd V i v) n day o (upd V i v o) := by
  intro o h1 h2
  have hne : ∀ o', kd O o' = 0 → upd V i v o' = V o' := fun o' h3 => upd_ne (fun q => hk (by rw [← q]; exact h3))
  refine JR_keep2 (fun o' _ h3 => hne o' h3) ?_
  rcases lt_succ_or.mp h1 with h3 | rfl
  · rw [upd_ne (by omega)]
    exact hB o h3 h2
  · rw [upd_eq]
    exact hv
/-! origins -/
def CovO (O : Ob) (V : Nat → Int32) (o : Nat) (v b : Int32) : Prop := kd O o = 1 ∧ V o = 0 ∧ LiesIn v b (vlu O o) (len O o)
def ValO (O : Ob) (V : Nat → Int32) (o : Nat) (net v b : Int32) : Prop := CovO O V o v b ∧ whm O o = net ∧ b ≤ ext O o
def StR (O : Ob) (V : Nat → Int32) (i : Nat) (net v b r : Int32) : Prop :=
  (r = 1 ∧ ∃ o, o < i ∧ ValO O V o net v b) ∨ (r = 2 ∧ (∃ o, o < i ∧ CovO O V o v b) ∧ ¬ ∃ o, o < i ∧ ValO O V o net v b) ∨ (r = 0 ∧ ¬ ∃ o, o < i ∧ CovO O V o v b)
theorem StR_0 {O : Ob} {V : Nat → Int32} {net v b : Int32} : StR O V 0 net v b 0 := Or.inr (Or.inr ⟨rfl, fun ⟨o, h, _⟩ => absurd h (Nat.not_lt_zero _)⟩)
theorem StR_skip {O : Ob} {V : Nat → Int32} {i : Nat} {net v b r : Int32} (h : StR O V i net v b r) (hc : ¬ CovO O V i v b) : StR O V (i + 1) net v b r := by
  have hv : ¬ ValO O V i net v b := fun q => hc q.1
  unfold StR at h ⊢
  rw [ex_succ, ex_succ]
  simpa [hc, hv] using h
theorem StR_val {O : Ob} {V : Nat → Int32} {i : Nat} {net v b : Int32} (hc : ValO O V i net v b) : StR O V (i + 1) net v b 1 := Or.inl ⟨rfl, i, by omega, hc⟩
theorem StR_inv {O : Ob} {V : Nat → Int32} {i : Nat} {net v b r : Int32} (h : StR O V i net v b r) (hr : ¬ r = 1) (hc : CovO O V i v b) (hv : ¬ ValO O V i net v b) : StR O V (i + 1) net v b 2 := by
  refine Or.inr (Or.inl ⟨rfl, ⟨i, by omega, hc⟩, ?_⟩)
  rw [ex_succ]
  rintro (⟨o, h1, h2⟩ | q)
  · rcases h with ⟨h, -⟩ | ⟨-, -, h⟩ | ⟨-, h⟩
    · exact hr h
    · exact h ⟨o, h1, h2⟩
    · exact h ⟨o, h1, h2.1⟩
  · exact hv q
theorem StR_done {O : Ob} {V : Nat → Int32} {i n : Nat} {net v b r : Int32} (h : StR O V i net v b r) (hi : i ≤ n) (he : n ≤ i ∨ r = 1) : StR O V n net v b r := by
  rcases he with q | rfl
  · have : i = n := by omega
    subst this
    exact h
  · rcases h with ⟨-, o, h1, h2⟩ | ⟨h, -⟩ | ⟨h, -⟩
    · exact Or.inl ⟨rfl, o, by omega, h2⟩
    · exact absurd h (by decide)
    · exact absurd h (by decide)
theorem StR_one {O : Ob} {V V' : Nat → Int32} {n : Nat} {net v b r r' : Int32} (e : ∀ o, o < n → V o = V' o) (h : StR O V n net v b r) (h' : StR O V' n net v b r') : r = r' := by
  have e1 : (∃ o, o < n ∧ CovO O V o v b) ↔ ∃ o, o < n ∧ CovO O V' o v b := by
    constructor <;> (rintro ⟨o, h1, h2, h3, h4⟩; exact ⟨o, h1, h2, by simpa [e o h1] using h3, h4⟩)
  have e2 : (∃ o, o < n ∧ ValO O V o net v b) ↔ ∃ o, o < n ∧ ValO O V' o net v b := by
    constructor <;> (rintro ⟨o, h1, ⟨h2, h3, h4⟩, h5⟩; exact ⟨o, h1, ⟨h2, by simpa [e o h1] using h3, h4⟩, h5⟩)
  have e3 : (∃ o, o < n ∧ ValO O V' o net v b) → ∃ o, o < n ∧ CovO O V' o v b := fun ⟨o, h1, h2⟩ => ⟨o, h1, h2.1⟩
  unfold StR at h h'
  rw [e1, e2] at h
  rcases h with ⟨rfl, h1⟩ | ⟨rfl, h1, h2⟩ | ⟨rfl, h1⟩ <;> rcases h' with ⟨rfl, g1⟩ | ⟨rfl, g1, g2⟩ | ⟨rfl, g1⟩ <;> first | rfl | exact absurd h1 (by assumption) | exact absurd g1 (by assumption) | exact absurd (e3 h1) (by assumption) | exact absurd (e3 g1) (by assumption)
/-! chains -/
def LinkTo (O : Ob) (G : Gb) (day : Int32) (o : Nat) (h : Int32) : Prop := GrantTo O o h ∧ isr O o = prt G (ix h) ∧ faultS O G day o = 0
def Rc (O : Ob) (G : Gb) (day : Int32) (n : Nat) : Nat → Int32 → Int32 → Int32 → Prop
  | 0, h, _, _ => h = 0
  | d + 1, h, v, b => h = 0 ∨ ∃ o, o < n ∧ LinkTo O G day o h ∧ LiesIn v b (vlu O o) (len O o) ∧ Rc O G day n d (isr O o) (vlu O o) (len O o)
def Rx (O : Ob) (G : Gb) (day : Int32) (n : Nat) (h v b : Int32) : Prop := ∃ d, Rc O G day n d h v b
def Up (O : Ob) (G : Gb) (day : Int32) (n o : Nat) : Prop := Rx O G day n (isr O o) (vlu O o) (len O o)
theorem Rx_iff {O : Ob} {G : Gb} {day : Int32} {n : Nat} {h v b : Int32} : Rx O G day n h v b ↔ h = 0 ∨ ∃ o, o < n ∧ LinkTo O G day o h ∧ LiesIn v b (vlu O o) (len O o) ∧ Up O G day n o := by
  constructor
  · rintro ⟨d, q⟩
    cases d with
    | zero => exact Or.inl q
    | succ d =>
      rcases q with q | ⟨o, h1, h2, h3, h4⟩
      · exact Or.inl q
      · exact Or.inr ⟨o, h1, h2, h3, d, h4⟩
  · rintro (q | ⟨o, h1, h2, h3, d, h4⟩)
    · exact ⟨0, q⟩
    · exact ⟨d + 1, Or.inr ⟨o, h1, h2, h3, h4⟩⟩
theorem JR_zero {O : Ob} {G : Gb} {V : Nat → Int32} {n o : Nat} {day r : Int32} (h : JR O G V n day o r) : r = 0 ↔ faultS O G day o = 0 ∧ ¬ OutS O G V n o := by
  rcases h with ⟨h1, h2⟩ | ⟨h1, h2, h3⟩ | ⟨h1, h2, h3⟩
  · rw [h2]
    exact ⟨fun q => absurd q h1, fun q => absurd q.1 h1⟩
  · rw [h3]
    exact ⟨fun q => absurd q (by decide), fun q => absurd h2 q.2⟩
  · exact ⟨fun _ => ⟨h1, h2⟩, fun _ => h3⟩
theorem HasB_Rx {O : Ob} {G : Gb} {V : Nat → Int32} {h n : Nat} {day : Int32} (hG : GInv G h) (hO : OInv O h n) (hV : IsV O G n day V) : ∀ c, c < h → ∀ v b, HasB O V n (nI c) v b ↔ Rx O G day n (nI c) v b := by
  intro c
  have h8 := hG.2.1
  induction c using Nat.strongRecOn with
  | ind c IH =>
    intro hc v b
    rcases Nat.eq_zero_or_pos c with z | z
    · subst z
      exact ⟨fun _ => ⟨0, rfl⟩, fun _ => Or.inl rfl⟩
    rw [Rx_iff]
    have hne : ¬ nI c = 0 := nI_ne0 z (by omega)
    have key : ∀ o, o < n → (GoodTo O V o (nI c) ↔ LinkTo O G day o (nI c) ∧ Up O G day n o) := by
      intro o ho
      have e1 : GrantTo O o (nI c) → (OutS O G V n o ↔ ¬ (isr O o = prt G c ∧ HasB O V n (isr O o) (vlu O o) (len O o))) := by
        intro hg
        have k2 : ¬ kd O o = 2 := by rw [hg.1]; decide
        unfold OutS
        rw [hg.2, ix_nI (by omega)]
        have k3 : ¬ (0 : Int32) = 2 := by decide
        simp only [hg.1, k3, false_and, false_or, ne_eq, not_false_eq_true, true_and]
        constructor
        · rintro (q | q) ⟨a1, a2⟩
          · exact q a1.symm
          · exact q a2
        · intro q
          by_cases w : prt G c = isr O o
          · exact Or.inr (fun y => q ⟨w.symm, y⟩)
          · exact Or.inl w
      have e2 : isr O o = prt G c → (HasB O V n (isr O o) (vlu O o) (len O o) ↔ Up O G day n o) := by
        intro q
        obtain ⟨a, ha, ea⟩ := hG.2.2.2.1 c z hc
        unfold Up
        rw [q, ea]
        exact IH a ha (by omega) _ _
      constructor
      · rintro ⟨hg, h0⟩
        obtain ⟨f1, f2⟩ := (JR_zero (hV o ho)).mp h0
        have f3 := Classical.byContradiction fun q => f2 ((e1 hg).mpr q)
        exact ⟨⟨hg, by rw [ix_nI (by omega)]; exact f3.1, f1⟩, (e2 f3.1).mp f3.2⟩
      · rintro ⟨⟨hg, f1, f2⟩, f3⟩
        rw [ix_nI (by omega)] at f1
        exact ⟨hg, (JR_zero (hV o ho)).mpr ⟨f2, fun q => (e1 hg).mp q ⟨f1, (e2 f1).mpr f3⟩⟩⟩
    unfold HasB
    constructor
    · rintro (q | ⟨o, h1, h2, h3⟩)
      · exact absurd q hne
      · exact Or.inr ⟨o, h1, ((key o h1).mp h2).1, h3, ((key o h1).mp h2).2⟩
    · rintro (q | ⟨o, h1, h2, h3, h4⟩)
      · exact absurd q hne
      · exact Or.inr ⟨o, h1, (key o h1).mpr ⟨h2, h4⟩, h3⟩
/-- what is marked at holders up to c leads nowhere -/
def Dead (O : Ob) (G : Gb) (day : Int32) (n c : Nat) (T : Nat → Int32) : Prop := ∀ o c', o < n → c' ≤ c → GrantTo O o (nI c') → ¬ T o = 0 → ¬ Up O G day n o
def Same (O : Ob) (c : Nat) (T T' : Nat → Int32) : Prop := ∀ o, (∀ c', c' ≤ c → ¬ GrantTo O o (nI c')) → T' o = T o
theorem Link_isr {O : Ob} {G : Gb} {day : Int32} {h c o : Nat} (hG : GInv G h) (z : c ≠ 0) (hc : c < h) (hl : LinkTo O G day o (nI c)) : ∃ a, a < c ∧ isr O o = nI a := by
  have h8 := hG.2.1
  have hz : 1 ≤ c := Nat.pos_of_ne_zero z
  obtain ⟨a, ha, ea⟩ := hG.2.2.2.1 c hz hc
  exact ⟨a, ha, by rw [hl.2.1, ix_nI (by omega)]; exact ea⟩
theorem Dead_mark {O : Ob} {G : Gb} {day : Int32} {n h c a i : Nat} {T : Nat → Int32} (hh : h ≤ 8) (hc : c < h) (ha : a < c) (hg : GrantTo O i (nI c)) (hD : Dead O G day n c T) : Dead O G day n a (upd T i 1) := by
  intro o c' h1 h2 h3 h4
  refine hD o c' h1 (by omega) h3 ?_
  rw [upd_ne (fun q => ?_)] at h4
  · exact h4
  · subst q
    have := Grant_ne (by omega) (by omega) h3 hg
    omega
theorem Dead_back {O : Ob} {G : Gb} {day : Int32} {n h c a i : Nat} {T T' : Nat → Int32} (hh : h ≤ 8) (hc : c < h) (ha : a < c) (hD : Dead O G day n c T) (h1 : Dead O G day n a T') (h2 : Same O a (upd T i 1) T') (hu : ¬ Up O G day n i) : Dead O G day n c T' := by
  intro o c' g1 g2 g3 g4
  rcases Nat.lt_or_ge a c' with q | q
  · have e : T' o = upd T i 1 o := h2 o (fun b hb hg => by
      have := Grant_ne (by omega) (by omega) hg g3
      omega)
    by_cases x : o = i
    · subst x; exact hu
    · rw [e, upd_ne x] at g4
      exact hD o c' g1 g2 g3 g4
  · exact h1 o c' g1 q g3 g4
theorem Same_back {O : Ob} {c a i : Nat} {T0 T T' : Nat → Int32} (ha : a < c) (hg : GrantTo O i (nI c)) (h0 : Same O c T0 T) (h2 : Same O a (upd T i 1) T') : Same O c T0 T' := by
  intro o ho
  rw [h2 o (fun c' hc => ho c' (by omega)), upd_ne (fun q => ho c (Nat.le_refl _) (by rw [q]; exact hg))]
  exact h0 o ho
theorem chain_no {O : Ob} {G : Gb} {day : Int32} {n c i : Nat} {v b : Int32} (z : c ≠ 0) (hc : c < 8) (hi : n ≤ i) (hN : ∀ o, o < i → LinkTo O G day o (nI c) → LiesIn v b (vlu O o) (len O o) → ¬ Up O G day n o) : ¬ Rx O G day n (nI c) v b := by
  rw [Rx_iff]
  rintro (q | ⟨o, h1, h2, h3, h4⟩)
  · exact nI_ne0 (Nat.pos_of_ne_zero z) (by omega) q
  · exact hN o (by omega) h2 h3 h4
theorem chain_yes {O : Ob} {G : Gb} {day : Int32} {n c i : Nat} {v b : Int32} (hi : i < n) (h2 : LinkTo O G day i (nI c)) (h3 : LiesIn v b (vlu O i) (len O i)) (h4 : Up O G day n i) : Rx O G day n (nI c) v b := Rx_iff.mpr (Or.inr ⟨i, hi, h2, h3, h4⟩)
theorem chain_N {O : Ob} {G : Gb} {day : Int32} {n c i : Nat} {v b : Int32} (hN : ∀ o, o < i → LinkTo O G day o (nI c) → LiesIn v b (vlu O o) (len O o) → ¬ Up O G day n o) (h : LinkTo O G day i (nI c) → LiesIn v b (vlu O i) (len O i) → ¬ Up O G day n i) : ∀ o, o < i + 1 → LinkTo O G day o (nI c) → LiesIn v b (vlu O o) (len O o) → ¬ Up O G day n o := by
  intro o ho
  rcases lt_succ_or.mp ho with q | rfl
  · exact hN o q
  · exact h
theorem judge_fin {O : Ob} {G : Gb} {V : Nat → Int32} {n i : Nat} {day r : Int32} (hi : i < n) (hA : ∀ o, o < n → kd O o = 0 → JR O G V n day o (V o)) (hB : ∀ o, o < i → kd O o ≠ 0 → JR O G V n day o (V o)) (hC : ∀ o, i ≤ o → o < n → kd O o ≠ 0 → V o = faultS O G day o)
    (hr : (r = 5 ∧ V i = 0 ∧ kd O i ≠ 0 ∧ OutS O G V n i) ∨ (r = V i ∧ (V i ≠ 0 ∨ kd O i = 0 ∨ ¬ OutS O G V n i))) :
    (∀ o, o < n → kd O o = 0 → JR O G (upd V i r) n day o (upd V i r o)) ∧ (∀ o, o < i + 1 → kd O o ≠ 0 → JR O G (upd V i r) n day o (upd V i r o)) ∧ (∀ o, i + 1 ≤ o → o < n → kd O o ≠ 0 → upd V i r o = faultS O G day o) := by
  have hC' : ∀ o, i + 1 ≤ o → o < n → kd O o ≠ 0 → upd V i r o = faultS O G day o := fun o h1 h2 h3 => by
    rw [upd_ne (by omega)]
    exact hC o (by omega) h2 h3
  by_cases hk : kd O i = 0
  · have e : upd V i r = V := by
      rcases hr with ⟨-, -, h, -⟩ | ⟨h, -⟩
      · exact absurd hk h
      · funext o
        by_cases q : o = i
        · subst q; rw [upd_eq]; exact h
        · rw [upd_ne q]
    rw [e] at hC' ⊢
    refine ⟨hA, fun o h1 h2 => ?_, hC'⟩
    rcases lt_succ_or.mp h1 with h3 | rfl
    · exact hB o h3 h2
    · exact absurd hk h2
  · have hv : JR O G V n day i r := by
      have e := hC i (Nat.le_refl _) hi hk
      rcases hr with ⟨h1, h2, -, h4⟩ | ⟨h1, h2⟩
      · exact Or.inr (Or.inl ⟨e ▸ h2, h4, h1⟩)
      · by_cases z : V i = 0
        · rcases h2 with h2 | h2 | h2
          · exact absurd z h2
          · exact absurd h2 hk
          · exact Or.inr (Or.inr ⟨e ▸ z, h2, h1.trans z⟩)
        · exact Or.inl ⟨fun q => z (e.trans q), h1.trans e⟩
    exact ⟨judge_step3 hA hk, judge_step4 hB hk hv, hC'⟩
theorem Up_iff {O : Ob} {G : Gb} {day : Int32} {n o a : Nat} (e : isr O o = nI a) : Rx O G day n (nI a) (vlu O o) (len O o) ↔ Up O G day n o := by
  unfold Up
  rw [e]
theorem Same_tr {O : Ob} {c : Nat} {T0 T T' : Nat → Int32} (h1 : Same O c T0 T) (h2 : Same O c T T') : Same O c T0 T' := fun o ho => (h2 o ho).trans (h1 o ho)
theorem chf {f : Int32} {R P : Prop} (h : (f = 1 ∧ R) ∨ (f = 0 ∧ P)) (h0 : f = 0) : P := by
  rcases h with ⟨e, -⟩ | ⟨-, p⟩
  · rw [h0] at e
    exact absurd e (by decide)
  · exact p
theorem chain_out {O : Ob} {G : Gb} {day : Int32} {n c i : Nat} {v b f : Int32} {T : Nat → Int32} (hc : c < 8) (hfo : (f = 1 ∧ Rx O G day n (nI c) v b) ∨ (f = 0 ∧ ¬ c = 0 ∧ Dead O G day n c T ∧ ∀ o, o < i → LinkTo O G day o (nI c) → LiesIn v b (vlu O o) (len O o) → ¬ Up O G day n o)) (h : n ≤ i ∨ ¬ f = 0) : bI (Rx O G day n (nI c) v b) f ∧ (f = 0 → Dead O G day n c T) := by
  rcases hfo with ⟨rfl, q⟩ | ⟨rfl, z, hD, hN⟩
  · exact ⟨bI.t q, fun h => absurd h (by decide)⟩
  · rcases h with h | h
    · exact ⟨bI.f (chain_no z hc h hN), fun _ => hD⟩
    · exact absurd rfl h
