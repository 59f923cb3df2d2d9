/-! the shape with one more element -/
def xel (id j : Nat) : rb_R := if id = 0 then (10, j, 0) else if id = 1 then (9, j, 0) else if id = 2 then (11, j, 0) else (12, id - 10, j)
def bump (cn : Nat → Nat) (id : Nat) : Nat → Nat := fun i => if i = id then cn i + 1 else cn i
theorem bump_s {cn : Nat → Nat} {id : Nat} : bump cn id id = cn id + 1 := if_pos rfl
theorem bump_n {cn : Nat → Nat} {id i : Nat} (h : i ≠ id) : bump cn id i = cn i := if_neg h
theorem bump_ge {cn : Nat → Nat} {id i : Nat} : cn i ≤ bump cn id i := by
  unfold bump
  split <;> omega
theorem xel_e {id n : Nat} {r : rb_R} (h : r = xel id n) : (id = 0 ∧ r = (10, n, 0)) ∨ (id = 1 ∧ r = (9, n, 0)) ∨ (id = 2 ∧ r = (11, n, 0)) ∨ (3 ≤ id ∧ r = (12, id - 10, n)) := by
  subst h
  unfold xel
  by_cases h0 : id = 0
  · exact Or.inl ⟨h0, if_pos h0⟩
  · by_cases h1 : id = 1
    · exact Or.inr (Or.inl ⟨h1, by rw [if_neg h0, if_pos h1]⟩)
    · by_cases h2 : id = 2
      · exact Or.inr (Or.inr (Or.inl ⟨h2, by rw [if_neg h0, if_neg h1, if_pos h2]⟩))
      · exact Or.inr (Or.inr (Or.inr ⟨by omega, by rw [if_neg h0, if_neg h1, if_neg h2]⟩))
theorem xel_f {id n : Nat} : 9 ≤ (xel id n).1 ∧ (xel id n).1 ≤ 12 := by
  rcases xel_e (rfl : xel id n = xel id n) with ⟨_, e⟩ | ⟨_, e⟩ | ⟨_, e⟩ | ⟨_, e⟩ <;> rw [e] <;> exact ⟨Nat.le_of_ble_eq_true rfl, Nat.le_of_ble_eq_true rfl⟩
theorem xel_k {k : Nat} : xel (10 + k) = fun j => (12, k, j) := by
  funext j
  unfold xel
  rw [if_neg (by omega), if_neg (by omega), if_neg (by omega), show 10 + k - 10 = k by omega]
/-- all but the list's own row and the new element stay -/
def xKeep (G G1 : rb_G) (id : Nat) (v0 : rb_R) : Prop :=
  (∀ r, r.1 ≠ 13 → (gD G1 r ↔ r = v0 ∨ gD G r)) ∧ (∀ r, r.1 ≠ 13 → r ≠ v0 → gN G1 r = gN G r) ∧ (∀ r q, r.1 ≠ 13 → r ≠ v0 → ¬ (r = (4, id, 0) ∧ q = 1) → gP G1 r q = gP G r q) ∧
  ∀ r, r.1 = 13 → r.2.1 ≠ id → (gD G1 r ↔ gD G r) ∧ gN G1 r = gN G r ∧ ∀ q, gP G1 r q = gP G r q
theorem xLS.keep {G G1 : rb_G} {id id' n : Nat} {v0 : rb_R} {el : Nat → rb_R} (K : xKeep G G1 id v0) (hv : 9 ≤ v0.1) (hid : id' ≠ id) (h : xLS G id' n el) : xLS G1 id' n el := by
  obtain ⟨k1, k2, k3, k4⟩ := K
  have e4 : gP G1 (4, id', 0) 1 = gP G (4, id', 0) 1 := k3 _ _ (by simp) (fun e => by rw [← e] at hv; exact absurd hv (show ¬ (9 ≤ 4) by decide)) (fun q => hid (congrArg (fun r : rb_R => r.2.1) q.1))
  have e13 := fun g => k4 (13, id', g) rfl hid
  rcases h with ⟨h0, hp, hf⟩ | ⟨g, L, h1, h2, h3, h4, h5, h6, h7, h8, h9, h10⟩
  · exact Or.inl ⟨h0, by rw [e4]; exact hp, fun g q => hf g ((e13 g).1.mp q)⟩
  · exact Or.inr ⟨g, L, by rw [e4]; exact h1, by rw [(e13 g).2.1]; exact h2, h3, h4, h5, h6, (e13 g).1.mpr h7, fun g' hg q => h8 g' hg ((e13 g').1.mp q), fun k hk => by rw [(e13 g).2.2]; exact h9 k hk, fun k hk => by rw [(e13 g).2.2]; exact h10 k hk⟩
theorem xMS_keep {G G1 : rb_G} {id : Nat} {v0 : rb_R} (K : xKeep G G1 id v0) (hv : 9 ≤ v0.1 ∧ v0.1 ≤ 12) (h : MS G) : MS G1 := fun f hf => by
  rw [K.2.1 _ (by simp) (fun e => by rw [← e] at hv; exact absurd hv.2 (show ¬ (14 ≤ 12) by decide))]
  exact h f hf
/-- the model's shape and the length of the law's own row stay -/
def MK (G G1 : rb_G) : Prop := MS G1 ∧ gN G1 (17, 0, 0) = gN G (17, 0, 0)
theorem xMK_keep {G G1 : rb_G} {id : Nat} {v0 : rb_R} (K : xKeep G G1 id v0) (hv : 9 ≤ v0.1 ∧ v0.1 ≤ 12) (h : MS G) : MK G G1 :=
  ⟨xMS_keep K hv h, K.2.1 (17, 0, 0) (by simp) (fun e => by rw [← e] at hv; exact absurd hv.2 (show ¬ (17 ≤ 12) by decide))⟩
theorem xCS_keep {G G1 : rb_G} {cn : Nat → Nat} {ag ag' : Nat → Nat → Int32} {id : Nat} (hid : id < 3 ∨ 10 ≤ id ∧ id < 46) (K : xKeep G G1 id (xel id (cn id))) (hL : xLS G1 id (cn id + 1) (xel id)) (hA : ∀ k j, k < 36 → j < bump cn id (10 + k) → gP G1 (12, k, j) 2 = agr (ag' k j) ∧ (ag' k j = -1 ∨ vp_in (ag' k j) (bump cn id 0))) (h : xCS G cn ag) : xCS G1 (bump cn id) ag' := by
  have hf := xel_f (id := id) (n := cn id)
  obtain ⟨a1, a2, a3, a4, a5, a6, a7, a8, a9, a10, a11, a12, a13, a14, a15, a16⟩ := h
  have ne : ∀ r : rb_R, r.1 < 9 → r ≠ xel id (cn id) := fun r hr e => by rw [← e] at hf; omega
  have kP : ∀ (r : rb_R) q, r.1 < 9 → r.1 ≠ 4 → gP G1 r q = gP G r q := fun r q h1 h2 => K.2.2.1 r q (by omega) (ne r h1) (fun z => h2 (congrArg Prod.fst z.1))
  have kN : ∀ (r : rb_R), r.1 < 9 → gN G1 r = gN G r := fun r h1 => K.2.1 r (by omega) (ne r h1)
  have kL : ∀ id' el, xLS G id' (cn id') el → el = xel id' → xLS G1 id' (bump cn id id') el := by
    intro id' el h1 h2
    by_cases e : id' = id
    · subst e
      rw [bump_s, h2]
      exact hL
    · rw [bump_n e]
      exact h1.keep K hf.1 e
  refine ⟨fun k hk => ?_, fun k hk => ?_, fun k hk => ?_, ?_, fun k hk => ?_, fun k hk => ?_, kL 0 _ a7 ?_, kL 1 _ a8 ?_, kL 2 _ a9 ?_, fun k hk => kL (10 + k) _ (a10 k hk) xel_k.symm, hA, ?_, fun j hj q => ?_, fun j hj q => ?_, fun j hj q => ?_, fun k j hk hj q => ?_⟩
  · rw [kP _ _ (by simp) (by simp)]; exact a1 k hk
  · rw [kP _ _ (by simp) (by simp)]; exact a2 k hk
  · rw [kP _ _ (by simp) (by simp)]; exact a3 k hk
  · rw [kN _ (by simp), kN _ (by simp), kN _ (by simp)]; exact a4
  · rw [kP _ _ (by simp) (by simp), kP _ _ (by simp) (by simp), kN _ (by simp)]; exact a5 k hk
  · rw [kP _ _ (by simp) (by simp)]; exact a6 k hk
  · funext j; rfl
  · funext j; rfl
  · funext j; rfl
  · exact ⟨(K.1 _ (by simp)).mpr (Or.inr a12.1), (K.1 _ (by simp)).mpr (Or.inr a12.2)⟩
  · rcases (K.1 _ (by simp)).mp q with q | q
    · rcases xel_e q with ⟨e, q⟩ | ⟨e, q⟩ | ⟨e, q⟩ | ⟨e, q⟩
      · subst e
        rw [bump_s] at hj
        have h9 : j = cn 0 := congrArg (fun r : rb_R => r.2.1) q
        omega
      · exact absurd (congrArg Prod.fst q) (show ¬ ((10 : Nat) = 9) by decide)
      · exact absurd (congrArg Prod.fst q) (show ¬ ((10 : Nat) = 11) by decide)
      · exact absurd (congrArg Prod.fst q) (show ¬ ((10 : Nat) = 12) by decide)
    · exact a13 j (Nat.le_trans bump_ge hj) q
  · rcases (K.1 _ (by simp)).mp q with q | q
    · rcases xel_e q with ⟨e, q⟩ | ⟨e, q⟩ | ⟨e, q⟩ | ⟨e, q⟩
      · exact absurd (congrArg Prod.fst q) (show ¬ ((9 : Nat) = 10) by decide)
      · subst e
        rw [bump_s] at hj
        have h9 : j = cn 1 := congrArg (fun r : rb_R => r.2.1) q
        omega
      · exact absurd (congrArg Prod.fst q) (show ¬ ((9 : Nat) = 11) by decide)
      · exact absurd (congrArg Prod.fst q) (show ¬ ((9 : Nat) = 12) by decide)
    · exact a14 j (Nat.le_trans bump_ge hj) q
  · rcases (K.1 _ (by simp)).mp q with q | q
    · rcases xel_e q with ⟨e, q⟩ | ⟨e, q⟩ | ⟨e, q⟩ | ⟨e, q⟩
      · exact absurd (congrArg Prod.fst q) (show ¬ ((11 : Nat) = 10) by decide)
      · exact absurd (congrArg Prod.fst q) (show ¬ ((11 : Nat) = 9) by decide)
      · subst e
        rw [bump_s] at hj
        have h9 : j = cn 2 := congrArg (fun r : rb_R => r.2.1) q
        omega
      · exact absurd (congrArg Prod.fst q) (show ¬ ((11 : Nat) = 12) by decide)
    · exact a15 j (Nat.le_trans bump_ge hj) q
  · rcases (K.1 _ (by simp)).mp q with q | q
    · rcases xel_e q with ⟨e, q⟩ | ⟨e, q⟩ | ⟨e, q⟩ | ⟨e, q⟩
      · exact absurd (congrArg Prod.fst q) (show ¬ ((12 : Nat) = 10) by decide)
      · exact absurd (congrArg Prod.fst q) (show ¬ ((12 : Nat) = 9) by decide)
      · exact absurd (congrArg Prod.fst q) (show ¬ ((12 : Nat) = 11) by decide)
      · have h8 : k = id - 10 := congrArg (fun r : rb_R => r.2.1) q
        have h9 : j = cn id := congrArg (fun r : rb_R => r.2.2) q
        have e9 : 10 + k = id := by omega
        rw [e9, bump_s] at hj
        omega
    · exact a16 k j hk (Nat.le_trans bump_ge hj) q
