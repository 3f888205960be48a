/-! a helper's call leaves the reference alone -/
theorem km_holder {X X1 : Mem} {v : Int32} {r : Int32} {h : Nat} (q : q_L_holder v X h r X1) : KM X X1 := by
  rcases q with ⟨-, rv, Y, ⟨-, -, eY⟩, e1⟩ | ⟨E, hx, -⟩
  · rw [e1]
    refine KM.put ?_ (Or.inr rfl)
    rw [eY]
    exact (((KM.rf.put (Or.inl (by omega))).put (Or.inl (by omega))).put (Or.inl (by omega)))
  · rw [hx.1]
    exact KM.rf
theorem km_belong {X X1 : Mem} {nt : Int32} {v : Int32} {r : Int32} {h : Nat} (q : q_L_belong nt v X h r X1) : KM X X1 := by
  rcases q with ⟨-, rv, Y, ⟨-, a, -, -, -, eY⟩, e1⟩ | ⟨E, hx, -⟩
  · rw [e1]
    refine KM.put ?_ (Or.inr rfl)
    rw [eY]
    exact (KM.rf.put (Or.inl (by omega)))
  · rw [hx.1]
    exact KM.rf
theorem km_roll {X X1 : Mem} {v : Int32} {r : Int32} {h : Nat} (q : q_L_roll v X h r X1) : KM X X1 := by
  rcases q with ⟨-, rv, Y, ⟨-, a, k, -, -, -, -, -, eY⟩, e1⟩ | ⟨E, hx, -⟩
  · rw [e1]
    refine KM.put ?_ (Or.inr rfl)
    rw [eY]
    exact (KM.rf.put (Or.inl (by omega)))
  · rw [hx.1]
    exact KM.rf
theorem km_publish {X X1 : Mem} {v : Int32} {dy : Int32} {r : Int32} {h n : Nat} (q : q_L_publish v dy X h n r X1) : KM X X1 := by
  rcases q with ⟨-, rv, Y, ⟨-, -, a, -, -, eY⟩, e1⟩ | ⟨E, hx, -⟩
  · rw [e1]
    refine KM.put ?_ (Or.inr rfl)
    rw [eY]
    exact ((KM.rf.put (Or.inl (by omega))).put (Or.inl (by omega)))
  · rw [hx.1]
    exact KM.rf
theorem km_pass {X X1 : Mem} {v : Int32} {r : Int32} {D : Nat} (q : q_L_pass v X D r X1) : KM X X1 := by
  rcases q with ⟨-, rv, Y, ⟨-, d, -, -, -, -, eY⟩, e1⟩ | ⟨E, hx, -⟩
  · rw [e1]
    refine KM.put ?_ (Or.inr rfl)
    rw [eY]
    exact (KM.rf.put (Or.inl (by omega)))
  · rw [hx.1]
    exact KM.rf
theorem km_grant {X X1 : Mem} {is : Int32} {wm : Int32} {vl : Int32} {ln : Int32} {dd : Int32} {r : Int32} {h n : Nat} (q : q_L_grant is wm vl ln dd X h n r X1) : KM X X1 := by
  rcases q with ⟨-, rv, Y, ⟨-, -, a, -, -, eY⟩, e1⟩ | ⟨E, hx, -⟩
  · rw [e1]
    refine KM.put ?_ (Or.inr rfl)
    rw [eY]
    exact (((((((((KM.rf.put (Or.inl (by omega))).put (Or.inl (by omega))).put (Or.inl (by omega))).put (Or.inl (by omega))).put (Or.inl (by omega))).put (Or.inl (by omega))).put (Or.inl (by omega))).put (Or.inl (by omega))).put (Or.inl (by omega)))
  · rw [hx.1]
    exact KM.rf
theorem km_origin {X X1 : Mem} {is : Int32} {wm : Int32} {vl : Int32} {ln : Int32} {mo : Int32} {dd : Int32} {r : Int32} {h n : Nat} (q : q_L_origin is wm vl ln mo dd X h n r X1) : KM X X1 := by
  rcases q with ⟨-, rv, Y, ⟨-, -, a, -, -, eY⟩, e1⟩ | ⟨E, hx, -⟩
  · rw [e1]
    refine KM.put ?_ (Or.inr rfl)
    rw [eY]
    exact (((((((((KM.rf.put (Or.inl (by omega))).put (Or.inl (by omega))).put (Or.inl (by omega))).put (Or.inl (by omega))).put (Or.inl (by omega))).put (Or.inl (by omega))).put (Or.inl (by omega))).put (Or.inl (by omega))).put (Or.inl (by omega)))
  · rw [hx.1]
    exact KM.rf
theorem km_vouch {X X1 : Mem} {is : Int32} {wm : Int32} {pv : Int32} {dd : Int32} {r : Int32} {h n : Nat} (q : q_L_vouch is wm pv dd X h n r X1) : KM X X1 := by
  rcases q with ⟨-, rv, Y, ⟨-, -, a, -, -, eY⟩, e1⟩ | ⟨E, hx, -⟩
  · rw [e1]
    refine KM.put ?_ (Or.inr rfl)
    rw [eY]
    exact (((((((((KM.rf.put (Or.inl (by omega))).put (Or.inl (by omega))).put (Or.inl (by omega))).put (Or.inl (by omega))).put (Or.inl (by omega))).put (Or.inl (by omega))).put (Or.inl (by omega))).put (Or.inl (by omega))).put (Or.inl (by omega)))
  · rw [hx.1]
    exact KM.rf
theorem km_revoke {X X1 : Mem} {v : Int32} {r : Int32} {n : Nat} (q : q_L_revoke v X n r X1) : KM X X1 := by
  rcases q with ⟨-, rv, Y, ⟨-, o, -, -, -, eY⟩, e1⟩ | ⟨E, hx, -⟩
  · rw [e1]
    refine KM.put ?_ (Or.inr rfl)
    rw [eY]
    exact (KM.rf.put (Or.inl (by omega)))
  · rw [hx.1]
    exact KM.rf
theorem km_alter {X X1 : Mem} {v : Int32} {ex : Int32} {r : Int32} {h n : Nat} (q : q_L_alter v ex X h n r X1) : KM X X1 := by
  rcases q with ⟨-, rv, Y, ⟨-, o, -, -, -, -, eY⟩, e1⟩ | ⟨E, hx, -⟩
  · rw [e1]
    refine KM.put ?_ (Or.inr rfl)
    rw [eY]
    exact (KM.rf.put (Or.inl (by omega)))
  · rw [hx.1]
    exact KM.rf
theorem km_sign {X X1 : Mem} {v : Int32} {r : Int32} {h n : Nat} (q : q_L_sign v X h n r X1) : KM X X1 := by
  rcases q with ⟨-, rv, Y, ⟨-, o, a, -, -, -, -, -, eY⟩, e1⟩ | ⟨E, hx, -⟩
  · rw [e1]
    refine KM.put ?_ (Or.inr rfl)
    rw [eY]
    exact (KM.rf.put (Or.inl (by omega)))
  · rw [hx.1]
    exact KM.rf
theorem km_hop {X X1 : Mem} {v : Int32} {r : Int32} {D : Nat} (q : q_L_hop v X D r X1) : KM X X1 := by
  rcases q with ⟨-, rv, Y, ⟨-, a, -, -, -, eY⟩, e1⟩ | ⟨E, hx, -⟩
  · rw [e1]
    refine KM.put ?_ (Or.inr rfl)
    rw [eY]
    exact ((KM.rf.put (Or.inl (by omega))).put (Or.inl (by omega)))
  · rw [hx.1]
    exact KM.rf
theorem km_hear {X X1 : Mem} {v : Int32} {ln : Int32} {r : Int32} {R N1 D : Nat} {dr : Nat → Nat} (q : q_L_hear v ln X R N1 D dr r X1) : KM X X1 := by
  rcases q with ⟨-, rv, Y, ⟨⟨-, -, hR⟩, -, f, -, eY⟩, e1⟩ | ⟨E, hx, -⟩
  · rw [e1]
    refine KM.put ?_ (Or.inr rfl)
    rw [eY]
    exact (((((KM.rf.put (Or.inl (by omega))).put (Or.inl (by omega))).put (Or.inl (by omega))).put (Or.inl (by omega))).put (Or.inl (by omega)))
  · rw [hx.1]
    exact KM.rf
theorem km_withdraw {X X1 : Mem} {v : Int32} {r : Int32} {R N1 : Nat} (q : q_L_withdraw v X R N1 r X1) : KM X X1 := by
  rcases q with ⟨-, rv, Y, ⟨-, a, -, -, -, -, eY⟩, e1⟩ | ⟨E, hx, -⟩
  · rw [e1]
    refine KM.put ?_ (Or.inr rfl)
    rw [eY]
    exact ((KM.rf.put (Or.inl (by omega))).put (Or.inl (by omega)))
  · rw [hx.1]
    exact KM.rf
theorem km_tie {X X1 : Mem} {v : Int32} {u : Int32} {wt : Int32} {r : Int32} (q : q_L_tie v u wt X r X1) : KM X X1 := by
  rcases q with ⟨-, rv, Y, ⟨a, d, ha, hd, -, -, -, -, -, eY⟩, e1⟩ | ⟨E, hx, -⟩
  · rw [e1]
    refine KM.put ?_ (Or.inr rfl)
    rw [eY]
    exact ((KM.rf.put (Or.inl (by omega))).put (Or.inl (by omega)))
  · rw [hx.1]
    exact KM.rf
theorem km_judged {X X1 : Mem} {v : Int32} {r : Int32} {h n : Nat} (q : q_L_judged v X h n r X1) : KM X X1 := by
  rcases q with ⟨-, rv, Y, ⟨-, o, -, -, V, eY, -⟩, e1⟩ | ⟨E, hx, -⟩
  · rw [e1]
    refine KM.put ?_ (Or.inr rfl)
    rw [eY]
    exact (KM.rf.put (Or.inl (by omega)))
  · rw [hx.1]
    exact KM.rf
theorem km_has {X X1 : Mem} {hd : Int32} {v : Int32} {b : Int32} {r : Int32} {h n : Nat} (q : q_L_has hd v b X h n r X1) : KM X X1 := by
  rcases q with ⟨-, rv, Y, ⟨-, V, eY, -⟩, e1⟩ | ⟨E, hx, -⟩
  · rw [e1]
    refine KM.put ?_ (Or.inr rfl)
    rw [eY]
    exact (KM.rf.put (Or.inl (by omega)))
  · rw [hx.1]
    exact KM.rf
theorem km_hasByChains {X X1 : Mem} {hd : Int32} {v : Int32} {b : Int32} {r : Int32} {h n : Nat} (q : q_L_hasByChains hd v b X h n r X1) : KM X X1 := by
  rcases q with ⟨-, rv, Y, ⟨-, a, -, -, T, eY, -⟩, e1⟩ | ⟨E, hx, -⟩
  · rw [e1]
    refine KM.put ?_ (Or.inr rfl)
    rw [eY]
    exact (KM.rf.put (Or.inl (by omega)))
  · rw [hx.1]
    exact KM.rf
theorem km_state {X X1 : Mem} {nt : Int32} {v : Int32} {b : Int32} {r : Int32} {h n : Nat} (q : q_L_state nt v b X h n r X1) : KM X X1 := by
  rcases q with ⟨-, rv, Y, ⟨-, V, eY, -⟩, e1⟩ | ⟨E, hx, -⟩
  · rw [e1]
    refine KM.put ?_ (Or.inr rfl)
    rw [eY]
    exact (KM.rf.put (Or.inl (by omega)))
  · rw [hx.1]
    exact KM.rf
theorem km_path {X X1 : Mem} {v : Int32} {up : Int32} {r : Int32} {h n : Nat} {R : Nat} {PP : Nat → Nat → Nat} {Z : Nat → Nat} {Th : Nat → Prop} (q : q_L_path v up X h n R PP Z Th r X1) : KM X X1 := by
  rcases q with ⟨-, rv, Y, ⟨a, -, V, hv, pv, nd, eY, -⟩, e1⟩ | ⟨E, hx, -⟩
  · rw [e1]
    refine KM.put ?_ (Or.inr rfl)
    rw [eY]
    exact (((KM.rf.put (Or.inl (by omega))).put (Or.inl (by omega))).put (Or.inl (by omega)))
  · rw [hx.1]
    exact KM.rf
theorem km_leak {X X1 : Mem} {v : Int32} {r : Int32} {R : Nat} {PP : Nat → Nat → Nat} {Z : Nat → Nat} {Th : Nat → Prop} (q : q_L_leak v X R PP Z Th r X1) : KM X X1 := by
  rcases q with ⟨-, rv, Y, ⟨a, -, -, eY⟩, e1⟩ | ⟨E, hx, -⟩
  · rw [e1]
    refine KM.put ?_ (Or.inr rfl)
    rw [eY]
    exact KM.rf
  · rw [hx.1]
    exact KM.rf
theorem km_stopped {X X1 : Mem} {v : Int32} {fl : Int32} {r : Int32} {h n : Nat} {R : Nat} {PP : Nat → Nat → Nat} {Z : Nat → Nat} {Th : Nat → Prop} (q : q_L_stopped v fl X h n R PP Z Th r X1) : KM X X1 := by
  rcases q with ⟨-, rv, Y, ⟨a, -, -, F, -, -, V, hv, pv, nd, eY, -⟩, e1⟩ | ⟨E, hx, -⟩
  · rw [e1]
    refine KM.put ?_ (Or.inr rfl)
    rw [eY]
    exact (((KM.rf.put (Or.inl (by omega))).put (Or.inl (by omega))).put (Or.inl (by omega)))
  · rw [hx.1]
    exact KM.rf
theorem km_allowed {X X1 : Mem} {u : Int32} {v : Int32} {r : Int32} (q : q_L_allowed u v X r X1) : KM X X1 := by
  rcases q with ⟨-, rv, Y, ⟨-, a, b, -, T, eY, -⟩, e1⟩ | ⟨E, hx, -⟩
  · rw [e1]
    refine KM.put ?_ (Or.inr rfl)
    rw [eY]
    exact (KM.rf.put (Or.inl (by omega)))
  · rw [hx.1]
    exact KM.rf
theorem km_inferred {X X1 : Mem} {u : Int32} {v : Int32} {rn : Int32} {r : Int32} {R : Nat} {PP : Nat → Nat → Nat} {Z : Nat → Nat} {Th : Nat → Prop} (q : q_L_inferred u v rn X R PP Z Th r X1) : KM X X1 := by
  rcases q with ⟨-, rv, Y, ⟨-, a, b, c, -, oY, -⟩, e1⟩ | ⟨E, hx, -⟩
  · rw [e1]
    refine KM.put ?_ (Or.inr rfl)
    exact KM.outI oY
  · rw [hx.1]
    exact KM.rf
theorem km_cone {X X1 : Mem} {v : Int32} {r : Int32} {R : Nat} {PP : Nat → Nat → Nat} {Z : Nat → Nat} {Th : Nat → Prop} (q : q_L_cone v X R PP Z Th r X1) : KM X X1 := by
  rcases q with ⟨-, rv, Y, ⟨-, a, -, oY, -⟩, e1⟩ | ⟨E, hx, -⟩
  · rw [e1]
    refine KM.put ?_ (Or.inr rfl)
    exact KM.outI oY
  · rw [hx.1]
    exact KM.rf
theorem km_coneByPaths {X X1 : Mem} {v : Int32} {r : Int32} {R : Nat} {PP : Nat → Nat → Nat} {Z : Nat → Nat} {Th : Nat → Prop} (q : q_L_coneByPaths v X R PP Z Th r X1) : KM X X1 := by
  rcases q with ⟨-, rv, Y, ⟨-, a, -, oY, -⟩, e1⟩ | ⟨E, hx, -⟩
  · rw [e1]
    refine KM.put ?_ (Or.inr rfl)
    exact KM.outI oY
  · rw [hx.1]
    exact KM.rf
theorem km_addresses {X X1 : Mem} {v : Int32} {r : Int32} {R : Nat} {PP : Nat → Nat → Nat} {Z : Nat → Nat} {Th : Nat → Prop} (q : q_L_addresses v X R PP Z Th r X1) : KM X X1 := by
  rcases q with ⟨-, rv, Y, ⟨-, a, S, -, -, oY, -⟩, e1⟩ | ⟨E, hx, -⟩
  · rw [e1]
    refine KM.put ?_ (Or.inr rfl)
    exact KM.outI oY
  · rw [hx.1]
    exact KM.rf
