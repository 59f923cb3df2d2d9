theorem xKeep_tr {G G2 G1 : rb_G} {W W1 : rb_I} {id n : Nat} {v0 : rb_R} (K : xKeep G G2 id v0) (R : xRel G2 G1 W W1 id n) : xKeep G G1 id v0 := by
  obtain ⟨r1, r2, r3, -⟩ := R
  exact ⟨fun r h => ((r1 r h).1).trans (K.1 r h), fun r h h2 => ((r1 r h).2).trans (K.2.1 r h h2), fun r q h h2 h3 => (r3 r q h h3).trans (K.2.2.1 r q h h2 h3), fun r h h2 => ⟨((r2 r h h2).1).trans (K.2.2.2 r h h2).1, ((r2 r h h2).2.1).trans (K.2.2.2 r h h2).2.1, fun q => ((r2 r h h2).2.2 q).trans ((K.2.2.2 r h h2).2.2 q)⟩⟩
theorem xKeep_rec {G : rb_G} {v0 : rb_R} (id : Nat) (hv : v0.1 ≠ 13) (o : Option rb_R) : xKeep G (sP (sN G v0 0) v0 2 o) id v0 := by
  have K := xKeep_new (G := G) id hv
  exact ⟨K.1, K.2.1, fun r q h h2 h3 => (up2_n _ _ _ _ (fun z => h2 z.1)).trans (K.2.2.1 r q h h2 h3), fun r h h2 => ⟨(K.2.2.2 r h h2).1, (K.2.2.2 r h h2).2.1, fun q => (up2_n _ _ _ _ (fun z => hv (by rw [← z.1]; exact h))).trans ((K.2.2.2 r h h2).2.2 q)⟩⟩
theorem agNow_in (W : rb_I) (ho vi : Int32) (n : Nat) (hn : n < 2 ^ 31) : x7_agNow W ho vi n = -1 ∨ vp_in (x7_agNow W ho vi n) n := by
  induction n with
  | zero => exact Or.inl rfl
  | succ n ih =>
    unfold x7_agNow
    split
    · exact (ih (by omega)).imp (fun z => z) fun q => vp_in_up q (by omega)
    · exact Or.inr (vp_in_nI (by omega) hn)
theorem abr_ne {W : rb_I} {j : Nat} (h : ¬ x6_isAbroad W j = 0) : ¬ W (9, j, 0) 4 = -1 := fun q => h (by unfold x6_isAbroad; rw [if_pos q])
def x7_sK (W : rb_I) (j : Nat) : Nat := 6 * (W (9, j, 0) 4).toNatClampNeg + (W (9, j, 0) 1).toNatClampNeg
def x7_sW0 (W : rb_I) (j : Nat) (p : Int32) : rb_I := up2 W (9, j, 0) 9 (W (9, j, 0) 9 + p)
def x7_sW1 (W : rb_I) (j : Nat) (p : Int32) : rb_I := up2 (x7_sW0 W j p) (9, j, 0) 10 (W (9, j, 0) 10 + p)
def x7_sx (W : rb_I) (cn : Nat → Nat) (j : Nat) (p : Int32) : Int32 := x7_agNow (x7_sW1 W j p) (W (9, j, 0) 1) (W (9, j, 0) 4) (cn 0)
def x7_sR (W : rb_I) (cn : Nat → Nat) (j : Nat) : rb_R := (12, x7_sK W j, cn (10 + x7_sK W j))
def x7_sW2 (W : rb_I) (cn : Nat → Nat) (j : Nat) (p mi : Int32) : rb_I := x4_init (zW (x7_sW1 W j p) (x7_sR W cn j)) (x7_sK W j) (cn (10 + x7_sK W j)) mi (W (0, 0, 0) 6)
def x7_settle (W : rb_I) (cn : Nat → Nat) (j : Nat) (p mi : Int32) : rb_I := if x6_isAbroad (x7_sW0 W j p) j = 0 then x7_sW0 W j p else up2 (x7_sW2 W cn j p mi) (4, 10 + x7_sK W j, 0) 2 (nI (cn (10 + x7_sK W j) + 1))
def x7_scn (W : rb_I) (cn : Nat → Nat) (j : Nat) (p : Int32) : Nat → Nat := if x6_isAbroad (x7_sW0 W j p) j = 0 then cn else bump cn (10 + x7_sK W j)
def x7_sag (W : rb_I) (cn : Nat → Nat) (ag : Nat → Nat → Int32) (j : Nat) (p : Int32) : Nat → Nat → Int32 := if x6_isAbroad (x7_sW0 W j p) j = 0 then ag else fun k i => if k = x7_sK W j ∧ i = cn (10 + x7_sK W j) then x7_sx W cn j p else ag k i
theorem hA_rec {G G1 : rb_G} {cn : Nat → Nat} {ag : Nat → Nat → Int32} {K : Nat} {x : Int32} (hK : K < 36) (hx : x = -1 ∨ vp_in x (cn 0)) (K9 : xKeep G G1 (10 + K) (12, K, cn (10 + K))) (hv : gP G1 (12, K, cn (10 + K)) 2 = agr x) (h : xCS G cn ag) : ∀ k j, k < 36 → j < bump cn (10 + K) (10 + k) → gP G1 (12, k, j) 2 = agr ((fun k i => if k = K ∧ i = cn (10 + K) then x else ag k i) k j) ∧ ((fun k i => if k = K ∧ i = cn (10 + K) then x else ag k i) k j = -1 ∨ vp_in ((fun k i => if k = K ∧ i = cn (10 + K) then x else ag k i) k j) (bump cn (10 + K) 0)) := by
  intro k j hk hj
  rw [bump_n (show 0 ≠ 10 + K by omega)]
  show gP G1 (12, k, j) 2 = agr (if k = K ∧ j = cn (10 + K) then x else ag k j) ∧ ((if k = K ∧ j = cn (10 + K) then x else ag k j) = -1 ∨ vp_in (if k = K ∧ j = cn (10 + K) then x else ag k j) (cn 0))
  by_cases e : k = K ∧ j = cn (10 + K)
  · rw [if_pos e]
    obtain ⟨rfl, rfl⟩ := e
    exact ⟨hv, hx⟩
  · rw [if_neg e]
    have hj2 : j < cn (10 + k) := by
      by_cases e2 : k = K
      · subst e2
        rw [bump_s] at hj
        have : ¬ j = cn (10 + k) := fun q => e ⟨rfl, q⟩
        omega
      · rwa [bump_n (by omega)] at hj
    obtain ⟨h1, h2⟩ := h.2.2.2.2.2.2.2.2.2.2.1 k j hk hj2
    refine ⟨(K9.2.2.1 _ _ (by simp) (fun q => e ?_) (fun z => absurd (congrArg Prod.fst z.1) (show ¬ ((12 : Nat) = 4) by decide))).trans h1, h2⟩
    exact ⟨congrArg (fun r : rb_R => r.2.1) q, congrArg (fun r : rb_R => r.2.2) q⟩
