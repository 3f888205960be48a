theorem oC_ma {X : Mem} {p : Nat} {f : Nat → Int32} (h : p < 7 ∨ 16 < p) : oC (ma X p f) = oC X := by
  unfold oC
  rw [ma_ne (by omega), ma_ne (by omega), ma_ne (by omega), ma_ne (by omega), ma_ne (by omega), ma_ne (by omega), ma_ne (by omega), ma_ne (by omega), ma_ne (by omega), ma_ne (by omega)]
theorem gC_ma {X : Mem} {p : Nat} {f : Nat → Int32} (h : p < 2 ∨ 5 < p) : gC (ma X p f) = gC X := by
  unfold gC
  rw [ma_ne (by omega), ma_ne (by omega), ma_ne (by omega), ma_ne (by omega)]
theorem oM_ma {X : Mem} {p : Nat} {f : Nat → Int32} (h : p < 90 ∨ 99 < p) : oM (ma X p f) = oM X := by
  unfold oM
  rw [ma_ne (by omega), ma_ne (by omega), ma_ne (by omega), ma_ne (by omega), ma_ne (by omega), ma_ne (by omega), ma_ne (by omega), ma_ne (by omega), ma_ne (by omega), ma_ne (by omega)]
theorem gM_ma {X : Mem} {p : Nat} {f : Nat → Int32} (h : p < 86 ∨ 89 < p) : gM (ma X p f) = gM X := by
  unfold gM
  rw [ma_ne (by omega), ma_ne (by omega), ma_ne (by omega), ma_ne (by omega)]
theorem HasB_congr {O : Ob} {V V' : Nat → Int32} {n : Nat} {h v b : Int32} (e : ∀ o, o < n → GrantTo O o h → V' o = V o) : HasB O V n h v b ↔ HasB O V' n h v b := by
  unfold HasB
  constructor
  · rintro (q | ⟨o, h1, ⟨h2, h3⟩, h4⟩)
    · exact Or.inl q
    · exact Or.inr ⟨o, h1, ⟨h2, by rw [e o h1 h2]; exact h3⟩, h4⟩
  · rintro (q | ⟨o, h1, ⟨h2, h3⟩, h4⟩)
    · exact Or.inl q
    · exact Or.inr ⟨o, h1, ⟨h2, by rw [← e o h1 h2]; exact h3⟩, h4⟩
theorem HasAny_congr {O : Ob} {V V' : Nat → Int32} {n : Nat} {h : Int32} (e : ∀ o, o < n → GrantTo O o h → V' o = V o) : HasAny O V n h ↔ HasAny O V' n h := by
  unfold HasAny
  constructor
  · rintro (q | ⟨o, h1, ⟨h2, h3⟩⟩)
    · exact Or.inl q
    · exact Or.inr ⟨o, h1, ⟨h2, by rw [e o h1 h2]; exact h3⟩⟩
  · rintro (q | ⟨o, h1, ⟨h2, h3⟩⟩)
    · exact Or.inl q
    · exact Or.inr ⟨o, h1, ⟨h2, by rw [← e o h1 h2]; exact h3⟩⟩
theorem OutS_congr {O : Ob} {G : Gb} {V V' : Nat → Int32} {n o : Nat} (e : (kd O o = 0 → prt G (ix (whm O o)) = isr O o) → ∀ o', o' < n → GrantTo O o' (isr O o) → V' o' = V o') : OutS O G V n o ↔ OutS O G V' n o := by
  by_cases q : kd O o = 0 → prt G (ix (whm O o)) = isr O o
  · have e := e q
    unfold OutS
    rw [HasB_congr e, HasAny_congr e]
  · have q0 : kd O o = 0 := Classical.byContradiction fun z => q (fun y => absurd y z)
    have q1 : prt G (ix (whm O o)) ≠ isr O o := fun z => q (fun _ => z)
    unfold OutS
    have q2 : kd O o ≠ 2 := by rw [q0]; decide
    constructor
    · intro _; exact Or.inr ⟨q2, Or.inl ⟨q0, q1⟩⟩
    · intro _; exact Or.inr ⟨q2, Or.inl ⟨q0, q1⟩⟩
theorem JR_congr {O : Ob} {G : Gb} {V V' : Nat → Int32} {n o : Nat} {day r : Int32} (e : (kd O o = 0 → prt G (ix (whm O o)) = isr O o) → ∀ o', o' < n → GrantTo O o' (isr O o) → V' o' = V o') (q : JR O G V n day o r) : JR O G V' n day o r := by
  unfold JR at q ⊢
  rw [← OutS_congr e]
  exact q
/-- a grant to c looks at grants to lesser holders alone -/
theorem JR_keep {O : Ob} {G : Gb} {V V' : Nat → Int32} {h n o c : Nat} {day r : Int32} (hG : GInv G h) (hO : OInv O h n) (ho : o < n) (hc : c < h) (hg : GrantTo O o (nI c)) (e : ∀ o' b, o' < n → b < c → GrantTo O o' (nI b) → V' o' = V o') (q : JR O G V n day o r) : JR O G V' n day o r := by
  refine JR_congr (fun q1 o' h1 h2 => ?_) q
  have q1 := q1 hg.1
  have h8 := hG.2.1
  rw [hg.2, ix_nI (by omega)] at q1
  obtain ⟨a, ha, ea⟩ := (hO.2 o ho).1
  rcases Nat.eq_zero_or_pos c with z | z
  · subst z
    rw [hG.2.2.1, ea] at q1
    have : ¬ (-1 : Int32) = nI a := by
      have h9 : a < 8 := by omega
      have : ∀ a, a < 8 → ¬ (-1 : Int32) = nI a := by decide
      exact this a h9
    exact absurd q1 this
  · obtain ⟨b, hb, eb⟩ := hG.2.2.2.1 c z hc
    rw [eb] at q1
    rw [← q1] at h2
    exact e o' b h1 hb h2
theorem JR_keep2 {O : Ob} {G : Gb} {V V' : Nat → Int32} {n o : Nat} {day r : Int32} (e : ∀ o', o' < n → kd O o' = 0 → V' o' = V o') (q : JR O G V n day o r) : JR O G V' n day o r := JR_congr (fun _ o' h1 h2 => e o' h1 h2.1) q
theorem Grant_ne {O : Ob} {o : Nat} {a b : Nat} (ha : a < 256) (hb : b < 256) (h : GrantTo O o (nI a)) (h2 : GrantTo O o (nI b)) : a = b := (nI_eq (Nat.lt_trans ha (by decide)) (Nat.lt_trans hb (by decide))).mp (h.2.symm.trans h2.2)
/-- what is good is one thing: by rising holders -/
theorem IsV_one {O : Ob} {G : Gb} {h n : Nat} {day : Int32} {V V' : Nat → Int32} (hG : GInv G h) (hO : OInv O h n) (h1 : IsV O G n day V) (h2 : IsV O G n day V') : ∀ o, o < n → V o = V' o := by
  have uniq : ∀ {o : Nat} {r r' : Int32}, JR O G V n day o r → JR O G V n day o r' → r = r' := by
    intro o r r' a b
    rcases a with ⟨a1, a2⟩ | ⟨a1, a2, a3⟩ | ⟨a1, a2, a3⟩ <;> rcases b with ⟨b1, b2⟩ | ⟨b1, b2, b3⟩ | ⟨b1, b2, b3⟩
    · rw [a2, b2]
    · exact absurd b1 a1
    · exact absurd b1 a1
    · exact absurd a1 b1
    · rw [a3, b3]
    · exact absurd a2 b2
    · exact absurd a1 b1
    · exact absurd b2 a2
    · rw [a3, b3]
  have key : ∀ c, ∀ b, b < c → b < h → ∀ o, o < n → GrantTo O o (nI b) → V o = V' o := by
    intro c
    induction c with
    | zero => intro b hb; exact absurd hb (Nat.not_lt_zero _)
    | succ c ih =>
      intro b hb hbh o ho hg
      refine uniq (h1 o ho) ?_
      exact JR_keep hG hO ho hbh hg (fun o' a h3 h4 h5 => ih a (by omega) (by omega) o' h3 h5) (h2 o ho)
  intro o ho
  have hgr : ∀ o', o' < n → kd O o' = 0 → V o' = V' o' := by
    intro o' h3 h4
    obtain ⟨a, ha, ea⟩ := (hO.2 o' h3).2.2.1 h4
    exact key (a + 1) a (by omega) ha o' h3 ⟨h4, ea⟩
  exact uniq (h1 o ho) (JR_keep2 hgr (h2 o ho))
theorem judge_step1 {O : Ob} {G : Gb} {V : Nat → Int32} {h n i c : Nat} {day v : Int32} (hG : GInv G h) (hO : OInv O h n) (hi : i < n) (hc : c < h) (hg : GrantTo O i (nI c)) (hV : ∀ o, o < i → GrantTo O o (nI c) → JR O G V n day o (V o)) (hv : JR O G V n day i v) : ∀ o, o < i + 1 → GrantTo O o (nI c) → JR O G (upd V i v) n day o (upd V i v o) := by
  intro o h1 h2
  have h8 := hG.2.1
  have hag : ∀ o' b, o' < n → b < c → GrantTo O o' (nI b) → upd V i v o' = V o' := by
    intro o' b h3 h4 h5
    refine upd_ne (fun q => ?_)
    subst q
    have := Grant_ne (by omega) (by omega) h5 hg
    omega
  refine JR_keep hG hO (by omega) hc h2 hag ?_
  rcases lt_succ_or.mp h1 with h3 | rfl
  · rw [upd_ne (by omega)]
    exact hV o h3 h2
  · rw [upd_eq]
    exact hv
theorem judge_step2 {O : Ob} {G : Gb} {V V' : Nat → Int32} {h n c : Nat} {day : Int32} (hG : GInv G h) (hO : OInv O h n) (hc : c < h) (hV : ∀ o b, o < n → b < c → GrantTo O o (nI b) → JR O G V n day o (V o)) (h1 : ∀ o, o < n → GrantTo O o (nI c) → JR O G V' n day o (V' o)) (h2 : ∀ o, ¬ (o < n ∧ GrantTo O o (nI c)) → V' o = V o) : ∀ o b, o < n → b < c + 1 → GrantTo O o (nI b) → JR O G V' n day o (V' o) := by
  intro o b ho hb hg
  have h8 := hG.2.1
  rcases lt_succ_or.mp hb with h3 | rfl
  · have hne : ∀ o' b', b' < c → GrantTo O o' (nI b') → V' o' = V o' := fun o' b' h4 h5 => h2 o' (fun q => by
      have := Grant_ne (by omega) (by omega) h5 q.2
      omega)
    rw [hne o b h3 hg]
    exact JR_keep hG hO ho (by omega) hg (fun o' b' h4 h5 h6 => hne o' b' (by omega) h6) (hV o b ho h3 hg)
  · exact h1 o ho hg
theorem judge_step3 {O : Ob} {G : Gb} {V : Nat → Int32} {n i : Nat} {day v : Int32} (hA : ∀ o, o < n → kd O o = 0 → JR O G V n day o (V o)) (hk : ¬ kd O i = 0) : ∀ o, o < n → kd O o = 0 → JR O G (upd V i v) n day o (upd V i v o) := by
  intro o h1 h2
  have hne : ∀ o', kd O o' = 0 → upd V i v o' = V o' := fun o' h3 => upd_ne (fun q => hk (by rw [← q]; exact h3))
  rw [hne o h2]
  exact JR_keep2 (fun o' _ h3 => hne o' h3) (hA o h1 h2)
theorem judge_step4 {O : Ob} {G : Gb} {V : Nat → Int32} {n i : Nat} {day v : Int32} (hB : ∀ o, o < i → kd O o ≠ 0 → JR O G V n day o (V o)) (hk : ¬ kd O i = 0) (hv : JR O G V n day i v) : ∀ o, o < i + 1 → kd O o ≠ 0 → JR O G (upd V i v) n day o (upd V i v o) := by
  intro o h1 h2
  have hne : ∀ o', kd O o' = 0 → upd V i v o' = V o' := fun o' h3 => upd_ne (fun q => hk (by rw [← q]; exact h3))
  refine JR_keep2 (fun o' _ h3 => hne o' h3) ?_
  rcases lt_succ_or.mp h1 with h3 | rfl
  · rw [upd_ne (by omega)]
    exact hB o h3 h2
  · rw [upd_eq]
    exact hv
