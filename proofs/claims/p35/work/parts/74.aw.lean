/-! allowed paths: how many, and back -/
section AW
variable {ti : Nat → Nat → Int32}
def bnd : Nat → Nat
  | 0 => 0
  | M + 1 => 10 * (1 + bnd M)
theorem tot_le {f : (Nat → Nat) → Nat → Nat} (hf : ∀ Q n, f Q n ≤ 1) : ∀ M P z, tot f M P z ≤ bnd M
  | 0, _, _ => Nat.le_refl _
  | M + 1, P, z => by
    show sumN (fun a => f (ext1 P z a) (z + 1) + tot f M (ext1 P z a) (z + 1)) 10 ≤ 10 * (1 + bnd M)
    have := sumN_le (f := fun a => f (ext1 P z a) (z + 1) + tot f M (ext1 P z a) (z + 1)) (c := 1 + bnd M) (fun a => Nat.add_le_add (hf _ _) (tot_le hf M _ _)) 10
    omega
theorem wTo_le {t : Nat} : ∀ Q n, wTo ti t Q n ≤ 1 := fun _ _ => oneIf_le _
theorem wRf_le {hv pv : Nat → Int32} : ∀ Q n, wRf ti hv pv Q n ≤ 1 := fun _ _ => oneIf_le _
theorem alarm_le {hv pv : Nat → Int32} : sumN (fun f => tot (wRf ti hv pv) 4 (fun _ => f) 1) 10 ≤ 111100 := by
  have := sumN_le (f := fun f => tot (wRf ti hv pv) 4 (fun _ => f) 1) (c := 11110) (fun a => tot_le wRf_le 4 _ _) 10
  omega
/-- symmetric in what is none -/
def Sy (ti : Nat → Nat → Int32) : Prop := ∀ a b, a < 10 → b < 10 → (ti a b = 0 ↔ ti b a = 0)
theorem turn_0 : ∀ c, c < 4 → (turnS (nI c) = 0 ↔ nI c = 0) := by decide
theorem TS.sy (h : TS ti) : Sy ti := fun a b ha hb => by
  obtain ⟨⟨c, hc, ec⟩, e⟩ := h a b ha hb
  rw [e, ec]
  exact (turn_0 c hc).symm
theorem Al_rev1 {P : Nat → Nat} {z : Nat} (hs : Sy ti) (hP : ∀ k, k < z → P k < 10) (h : Al ti P z) : Al ti (rev P z) z := by
  obtain ⟨h1, h2⟩ := h
  refine ⟨fun ⟨i, j, g1, g2, g3⟩ => h1 ⟨z - 1 - j, z - 1 - i, by omega, by omega, g3.symm⟩, fun k hk => ?_⟩
  have e0 : rev P z k = P (z - 2 - k + 1) := by
    unfold rev
    congr 1
    omega
  have e1 : rev P z (k + 1) = P (z - 2 - k) := by
    unfold rev
    congr 1
    omega
  have s1 := h2 (z - 2 - k) (by omega)
  refine ⟨?_, ?_⟩
  · rw [e0, e1]
    exact fun q => s1.1 ((hs _ _ (hP _ (by omega)) (hP _ (by omega))).mpr q)
  · by_cases q : k = 0
    · exact Or.inl q
    · have s2 := h2 (z - 2 - k + 1) (by omega)
      have em : rev P z (k - 1) = P (z - 2 - k + 1 + 1) := by
        unfold rev
        congr 1
        omega
      rw [e0, e1, em]
      rcases s2.2 with g | g | g
      · exact absurd g (by omega)
      · rw [Nat.add_sub_cancel] at g
        exact Or.inr (Or.inr g)
      · exact Or.inr (Or.inl g)
/-- paths of named nets -/
def p2 (a b : Nat) : Nat → Nat := ext1 (fun _ => a) 1 b
def p3 (a b c : Nat) : Nat → Nat := ext1 (p2 a b) 2 c
def p4 (a b c d : Nat) : Nat → Nat := ext1 (p3 a b c) 3 d
def p5 (a b c d e : Nat) : Nat → Nat := ext1 (p4 a b c d) 4 e
theorem Al_2 {a b : Nat} (hs : Sy ti) (ha : a < 10) (hb : b < 10) (h : Al ti (p2 a b) 2) : Al ti (p2 b a) 2 := by
  have hP : ∀ k, k < 2 → p2 a b k < 10 := fun k hk => by
    rcases (show k = 0 ∨ k = 1 by omega) with rfl | rfl <;> assumption
  refine (Al_congr (fun k hk => ?_)).mp (Al_rev1 hs hP h)
  rcases (show k = 0 ∨ k = 1 by omega) with rfl | rfl <;> rfl
theorem Al_3 {a b c : Nat} (hs : Sy ti) (ha : a < 10) (hb : b < 10) (hc : c < 10) (h : Al ti (p3 a b c) 3) : Al ti (p3 c b a) 3 := by
  have hP : ∀ k, k < 3 → p3 a b c k < 10 := fun k hk => by
    rcases (show k = 0 ∨ k = 1 ∨ k = 2 by omega) with rfl | rfl | rfl <;> assumption
  refine (Al_congr (fun k hk => ?_)).mp (Al_rev1 hs hP h)
  rcases (show k = 0 ∨ k = 1 ∨ k = 2 by omega) with rfl | rfl | rfl <;> rfl
theorem Al_4 {a b c d : Nat} (hs : Sy ti) (ha : a < 10) (hb : b < 10) (hc : c < 10) (hd : d < 10) (h : Al ti (p4 a b c d) 4) : Al ti (p4 d c b a) 4 := by
  have hP : ∀ k, k < 4 → p4 a b c d k < 10 := fun k hk => by
    rcases (show k = 0 ∨ k = 1 ∨ k = 2 ∨ k = 3 by omega) with rfl | rfl | rfl | rfl <;> assumption
  refine (Al_congr (fun k hk => ?_)).mp (Al_rev1 hs hP h)
  rcases (show k = 0 ∨ k = 1 ∨ k = 2 ∨ k = 3 by omega) with rfl | rfl | rfl | rfl <;> rfl
theorem Al_5 {a b c d e : Nat} (hs : Sy ti) (ha : a < 10) (hb : b < 10) (hc : c < 10) (hd : d < 10) (he : e < 10) (h : Al ti (p5 a b c d e) 5) : Al ti (p5 e d c b a) 5 := by
  have hP : ∀ k, k < 5 → p5 a b c d e k < 10 := fun k hk => by
    rcases (show k = 0 ∨ k = 1 ∨ k = 2 ∨ k = 3 ∨ k = 4 by omega) with rfl | rfl | rfl | rfl | rfl <;> assumption
  refine (Al_congr (fun k hk => ?_)).mp (Al_rev1 hs hP h)
  rcases (show k = 0 ∨ k = 1 ∨ k = 2 ∨ k = 3 ∨ k = 4 by omega) with rfl | rfl | rfl | rfl | rfl <;> rfl
/-- the last one is given -/
theorem last_b {P : Nat → Nat} {z b : Nat} (hb : b < 10) : sumN (fun x => wTo ti b (ext1 P z x) (z + 1)) 10 = oneIf (Al ti (ext1 P z b) (z + 1)) := by
  rw [sumN_one hb (fun x => wTo ti b (ext1 P z x) (z + 1)) (fun x _ hx => wTo_n hx)]
  refine oneIf_c ⟨fun q => q.1, fun q => ⟨q, ?_⟩⟩
  rw [Nat.add_sub_cancel, ext1_eq]
theorem cx_1 {a b : Nat} (hb : b < 10) : cx (wTo ti b) 1 (fun _ => a) 1 = oneIf (Al ti (p2 a b) 2) := last_b (P := fun _ => a) (z := 1) hb
theorem cx_2 {a b : Nat} (hb : b < 10) : cx (wTo ti b) 2 (fun _ => a) 1 = sumN (fun c => oneIf (Al ti (p3 a c b) 3)) 10 := sumN_congr (fun c _ => last_b (P := p2 a c) (z := 2) hb)
theorem cx_3 {a b : Nat} (hb : b < 10) : cx (wTo ti b) 3 (fun _ => a) 1 = sumN (fun c => sumN (fun d => oneIf (Al ti (p4 a c d b) 4)) 10) 10 := sumN_congr (fun c _ => sumN_congr (fun d _ => last_b (P := p3 a c d) (z := 3) hb))
theorem cx_4 {a b : Nat} (hb : b < 10) : cx (wTo ti b) 4 (fun _ => a) 1 = sumN (fun c => sumN (fun d => sumN (fun e => oneIf (Al ti (p5 a c d e b) 5)) 10) 10) 10 := sumN_congr (fun c _ => sumN_congr (fun d _ => sumN_congr (fun e _ => last_b (P := p4 a c d e) (z := 4) hb)))
theorem al_sym {a b : Nat} (hs : Sy ti) (ha : a < 10) (hb : b < 10) : tot (wTo ti b) 4 (fun _ => a) 1 = tot (wTo ti a) 4 (fun _ => b) 1 := by
  rw [tot_cx, tot_cx]
  show 0 + cx (wTo ti b) 1 (fun _ => a) 1 + cx (wTo ti b) 2 (fun _ => a) 1 + cx (wTo ti b) 3 (fun _ => a) 1 + cx (wTo ti b) 4 (fun _ => a) 1 = 0 + cx (wTo ti a) 1 (fun _ => b) 1 + cx (wTo ti a) 2 (fun _ => b) 1 + cx (wTo ti a) 3 (fun _ => b) 1 + cx (wTo ti a) 4 (fun _ => b) 1
  rw [cx_1 hb, cx_2 hb, cx_3 hb, cx_4 hb, cx_1 ha, cx_2 ha, cx_3 ha, cx_4 ha]
  have e1 : oneIf (Al ti (p2 a b) 2) = oneIf (Al ti (p2 b a) 2) := oneIf_c ⟨Al_2 hs ha hb, Al_2 hs hb ha⟩
  have e2 : sumN (fun c => oneIf (Al ti (p3 a c b) 3)) 10 = sumN (fun c => oneIf (Al ti (p3 b c a) 3)) 10 := sumN_congr (fun c hc => oneIf_c ⟨Al_3 hs ha hc hb, Al_3 hs hb hc ha⟩)
  have e3 : sumN (fun c => sumN (fun d => oneIf (Al ti (p4 a c d b) 4)) 10) 10 = sumN (fun c => sumN (fun d => oneIf (Al ti (p4 b c d a) 4)) 10) 10 := by
    rw [sumN_swap (fun c d => oneIf (Al ti (p4 a c d b) 4)) 10 10]
    exact sumN_congr (fun c hc => sumN_congr (fun d hd => oneIf_c ⟨Al_4 hs ha hd hc hb, Al_4 hs hb hc hd ha⟩))
  have e4 : sumN (fun c => sumN (fun d => sumN (fun e => oneIf (Al ti (p5 a c d e b) 5)) 10) 10) 10 = sumN (fun c => sumN (fun d => sumN (fun e => oneIf (Al ti (p5 b c d e a) 5)) 10) 10) 10 := by
    have s1 : sumN (fun c => sumN (fun d => sumN (fun e => oneIf (Al ti (p5 a c d e b) 5)) 10) 10) 10 = sumN (fun c => sumN (fun e => sumN (fun d => oneIf (Al ti (p5 a c d e b) 5)) 10) 10) 10 := sumN_congr (fun c _ => sumN_swap (fun d e => oneIf (Al ti (p5 a c d e b) 5)) 10 10)
    rw [s1, sumN_swap (fun c e => sumN (fun d => oneIf (Al ti (p5 a c d e b) 5)) 10) 10 10]
    refine sumN_congr (fun e he => ?_)
    rw [sumN_swap (fun c d => oneIf (Al ti (p5 a c d e b) 5)) 10 10]
    exact sumN_congr (fun d hd => sumN_congr (fun c hc => oneIf_c ⟨Al_5 hs ha hc hd he hb, Al_5 hs hb he hd hc ha⟩))
  rw [e1, e2, e3, e4]
theorem al_pos {a b : Nat} (hb : b < 10) (hne : a ≠ b) (h : ¬ ti a b = 0) : 0 < tot (wTo ti b) 4 (fun _ => a) 1 := by
  rw [tot_cx]
  show 0 < 0 + cx (wTo ti b) 1 (fun _ => a) 1 + cx (wTo ti b) 2 (fun _ => a) 1 + cx (wTo ti b) 3 (fun _ => a) 1 + cx (wTo ti b) 4 (fun _ => a) 1
  rw [cx_1 hb]
  have : Al ti (p2 a b) 2 := by
    refine ⟨fun ⟨i, j, g1, g2, g3⟩ => hne ?_, fun k hk => ?_⟩
    · rcases (show i = 0 ∧ j = 1 by omega) with ⟨rfl, rfl⟩
      exact g3
    · rcases (show k = 0 by omega) with rfl
      exact ⟨h, Or.inl rfl⟩
  rw [oneIf_t this]
  omega
/-- what 'allowed' tells -/
def AlX (ti : Nat → Nat → Int32) (a b c : Nat) : Prop := (a = b ∧ c = 0) ∨ (a ≠ b ∧ c = tot (wTo ti b) 4 (fun _ => a) 1)
theorem AlX_le {a b c : Nat} (h : AlX ti a b c) : c ≤ 11110 := by
  rcases h with ⟨-, h⟩ | ⟨-, h⟩
  · omega
  · rw [h]
    exact tot_le wTo_le 4 _ _
theorem AlX_sym {a b c c' : Nat} (hs : Sy ti) (ha : a < 10) (hb : b < 10) (h : AlX ti a b c) (h' : AlX ti b a c') : c = c' := by
  rcases h with ⟨h1, h⟩ | ⟨h1, h⟩ <;> rcases h' with ⟨g1, g⟩ | ⟨g1, g⟩
  · rw [h, g]
  · exact absurd h1.symm g1
  · exact absurd g1.symm h1
  · rw [h, g]
    exact al_sym hs ha hb
theorem AlX_pos {a b c : Nat} (hb : b < 10) (hne : a ≠ b) (ht : ¬ ti a b = 0) (h : AlX ti a b c) : 0 < c := by
  rcases h with ⟨h1, -⟩ | ⟨-, h⟩
  · exact absurd h1 hne
  · rw [h]
    exact al_pos hb hne ht
theorem q_allowed {X X1 : Mem} {a b : Nat} {r : Int32} (ha : a < 10) (hb : b < 10) (q : q_X9_allowed (nI a) (nI b) X r X1) : (∃ c, c ≤ 11110 ∧ r = nI c ∧ AlX (tC X) a b c) ∧ ∃ T, X1 = ma X 67 T := by
  obtain ⟨-, a', b', ⟨ha', hb', ea, eb⟩, T, eX, h⟩ := q
  have := nIu (m := 10) (by decide) ha ha' ea
  subst this
  have := nIu (m := 10) (by decide) hb hb' eb
  subst this
  refine ⟨?_, T, eX⟩
  rcases h with ⟨h1, h2⟩ | ⟨h1, h2⟩
  · exact ⟨0, by decide, h2, Or.inl ⟨h1, rfl⟩⟩
  · exact ⟨_, tot_le wTo_le 4 _ _, h2, Or.inr ⟨h1, rfl⟩⟩
end AW
/-- no route, no clique -/
theorem KF_0 {PP : Nat → Nat → Nat} {Z : Nat → Nat} {Th : Nat → Prop} : KF 0 PP Z Th = 0 := by
  have e : nbI 0 PP Z Th = fun _ => 0 := by
    funext a
    have := (setN_is (v := 0) (p := Nb 0 PP Z Th a) ⟨0, ⟨by decide, fun b => ⟨fun h => by simp at h, fun ⟨r, h, _⟩ => absurd h (Nat.not_lt_zero _)⟩⟩, rfl⟩).1
    exact this.symm
  unfold KF
  rw [e]
  decide +kernel
