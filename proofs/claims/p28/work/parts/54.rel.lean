theorem xKeep_new {G : rb_G} {v0 : rb_R} (id : Nat) (hv : v0.1 ≠ 13) : xKeep G (sN G v0 0) id v0 :=
  ⟨fun _ _ => Iff.rfl, fun _ _ h => if_neg h, fun _ _ _ h _ => if_neg h, fun r hr _ => by
    have h : ¬ r = v0 := fun e => hv (by rw [← e]; exact hr)
    exact ⟨⟨fun q => q.resolve_left h, Or.inr⟩, if_neg h, fun _ => if_neg h⟩⟩
theorem xKeep_of {G G1 : rb_G} {W W1 : rb_I} {id n : Nat} {v0 : rb_R} (hv : v0.1 ≠ 13) (R : xRel (sN G v0 0) G1 W W1 id n) : xKeep G G1 id v0 := by
  obtain ⟨r1, r2, r3, -⟩ := R
  have K := xKeep_new (G := G) id hv
  exact ⟨fun r h => (r1 r h).1, fun r h h2 => ((r1 r h).2).trans (K.2.1 r h h2), fun r q h h2 h3 => (r3 r q h h3).trans (K.2.2.1 r q h h2 h3), fun r h h2 => ⟨((r2 r h h2).1).trans (K.2.2.2 r h h2).1, ((r2 r h h2).2.1).trans (K.2.2.2 r h h2).2.1, fun q => ((r2 r h h2).2.2 q).trans ((K.2.2.2 r h h2).2.2 q)⟩⟩
def xq (W1 W2 : rb_I) : Prop := ∀ r q, r.1 ≠ 13 → ¬ (r.1 = 4 ∧ q = 0) → W1 r q = W2 r q
theorem xq_of {G G1 : rb_G} {W W1 : rb_I} {id n : Nat} (R : xRel G G1 W W1 id n) : xq W1 (up2 W (4, id, 0) 2 (nI (n + 1))) := fun r q h1 h2 => R.2.2.2 r q h1 (fun z => h2 ⟨by rw [z.1], z.2⟩)
theorem xel_i {n : Nat} (f : Nat → rb_R) {id : Nat} (h : f = xel id) : (fun k => if k = n then f n else f k) = xel id := by
  rw [← h]
  funext k
  by_cases e : k = n
  · rw [if_pos e, e]
  · rw [if_neg e]
theorem hA_same {G G1 : rb_G} {cn : Nat → Nat} {ag : Nat → Nat → Int32} {id : Nat} (hid : id < 3) (K : xKeep G G1 id (xel id (cn id))) (h : xCS G cn ag) : ∀ k j, k < 36 → j < bump cn id (10 + k) → gP G1 (12, k, j) 2 = agr (ag k j) ∧ (ag k j = -1 ∨ vp_in (ag k j) (bump cn id 0)) := by
  intro k j hk hj
  rw [bump_n (by omega)] at hj
  obtain ⟨h1, h2⟩ := h.2.2.2.2.2.2.2.2.2.2.1 k j hk hj
  refine ⟨(K.2.2.1 _ _ (by simp) (fun e => ?_) (fun z => absurd (congrArg Prod.fst z.1) (show ¬ ((12 : Nat) = 4) by decide))).trans h1, h2.imp (fun z => z) fun q => vp_in_up q bump_ge⟩
  rcases xel_e e with ⟨_, q⟩ | ⟨_, q⟩ | ⟨_, q⟩ | ⟨_, q⟩
  · exact absurd (congrArg Prod.fst q) (show ¬ ((12 : Nat) = 10) by decide)
  · exact absurd (congrArg Prod.fst q) (show ¬ ((12 : Nat) = 9) by decide)
  · exact absurd (congrArg Prod.fst q) (show ¬ ((12 : Nat) = 11) by decide)
  · omega
